section
/-! ===== BEGIN words of one list among another's, by their places ===== -/
theorem goodIn_r {big : List Cond} (ws : List Cond) (ps : List Nat) (hp : ws = ps.filterMap (fun i => big[i]?)) (h : ws.all goodWord = true) : GoodIn big ws := by
  intro w hw
  have h1 := List.all_eq_true.mp h w hw
  rw [hp] at hw
  obtain ⟨i, -, hi⟩ := List.mem_filterMap.mp hw
  have hm : w ∈ big := by first | exact List.mem_of_getElem? hi | exact List.getElem?_mem hi
  exact ⟨hm, good_of_word h1⟩
theorem goodIn_app {big a b : List Cond} (ha : GoodIn big a) (hb : GoodIn big b) : GoodIn big (a ++ b) := fun w h => (List.mem_append.mp h).elim (ha w) (hb w)
theorem goodIn_ca {big a b : List Cond} {c : Cond} (ha : GoodIn big (c :: a)) (hb : GoodIn big b) : GoodIn big (c :: (a ++ b)) := fun w h => (List.mem_cons.mp h).elim (fun e => ha w (List.mem_cons.mpr (Or.inl e))) (fun h => (List.mem_append.mp h).elim (fun h => ha w (List.mem_cons.mpr (Or.inr h))) (hb w))
theorem goodIn_sub {big ws : List Cond} (hm : ∀ w ∈ ws, w ∈ big) (h : ws.all goodWord = true) : GoodIn big ws := fun w hw => ⟨hm w hw, good_of_word (List.all_eq_true.mp h w hw)⟩
/-! ===== END ===== -/

/-! ===== BEGIN printed: names, fields, word lists, decode rows ===== -/
def RX0 : String := "InvoiceBook$Bill"
def TX0 : u_T := fun k => match k with
  | 0 => ("InvoiceBook$Bill", "state", "I", false)
  | 1 => ("InvoiceBook$Bill", "customer", "I", false)
  | 2 => ("InvoiceBook$Bill", "net", "I", false)
  | 3 => ("InvoiceBook$Bill", "rate", "I", false)
  | 4 => ("InvoiceBook$Bill", "tax", "I", false)
  | 5 => ("InvoiceBook$Bill", "sum", "I", false)
  | 6 => ("InvoiceBook$Bill", "day", "I", false)
  | 7 => ("InvoiceBook$Bill", "due", "I", false)
  | 8 => ("InvoiceBook$Bill", "paid", "I", false)
  | 9 => ("InvoiceBook$Bill", "discount", "I", false)
  | 10 => ("InvoiceBook$Bill", "fees", "I", false)
  | 11 => ("InvoiceBook$Bill", "reminders", "I", false)
  | 12 => ("InvoiceBook$Bill", "lastReminder", "I", false)
  | _ => ("InvoiceBook$Bill", "lastPayment", "I", false)
def tyX0 : Nat → FieldType := fun k => match k with
  | 0 => .int
  | 1 => .int
  | 2 => .int
  | 3 => .int
  | 4 => .int
  | 5 => .int
  | 6 => .int
  | 7 => .int
  | 8 => .int
  | 9 => .int
  | 10 => .int
  | 11 => .int
  | 12 => .int
  | _ => .int
abbrev wsX00 : List Cond := u_ws RX0 TX0 14
theorem nmX0 : ∀ a, a < 14 → ∀ b, b < 14 → a ≠ b → (TX0 a).2.1 ≠ (TX0 b).2.1 := by decide +kernel
theorem tyX0_ok : ∀ k, k < 14 → parseFieldDescriptor (TX0 k).2.2.1 = some (tyX0 k) := by decide +kernel
abbrev cX0_init : ByteArray := prog_2_method_1_code
def yX0_init : MethodName := ⟨RX0, "<init>", "()V"⟩
abbrev cX0_copyFrom : ByteArray := prog_2_method_2_code
def yX0_copyFrom : MethodName := ⟨RX0, "copyFrom", "(LInvoiceBook$Bill;)V"⟩
abbrev cX0_write : ByteArray := prog_2_method_3_code
def yX0_write : MethodName := ⟨RX0, "write", "(IIIII)V"⟩
abbrev cX0_is : ByteArray := prog_2_method_4_code
def yX0_is : MethodName := ⟨RX0, "is", "(II)Z"⟩
abbrev cX0_owed : ByteArray := prog_2_method_5_code
def yX0_owed : MethodName := ⟨RX0, "owed", "()I"⟩
abbrev cX0_dueDay : ByteArray := prog_2_method_6_code
def yX0_dueDay : MethodName := ⟨RX0, "dueDay", "()I"⟩
abbrev cX0_isOverdue : ByteArray := prog_2_method_7_code
def yX0_isOverdue : MethodName := ⟨RX0, "isOverdue", "(I)Z"⟩
abbrev cX0_whyNoReminder : ByteArray := prog_2_method_8_code
def yX0_whyNoReminder : MethodName := ⟨RX0, "whyNoReminder", "(II)I"⟩
abbrev cX0_awaitsReminder : ByteArray := prog_2_method_9_code
def yX0_awaitsReminder : MethodName := ⟨RX0, "awaitsReminder", "()Z"⟩
abbrev cX0_reminderDay : ByteArray := prog_2_method_10_code
def yX0_reminderDay : MethodName := ⟨RX0, "reminderDay", "(I)I"⟩
abbrev cX0_addReminder : ByteArray := prog_2_method_11_code
def yX0_addReminder : MethodName := ⟨RX0, "addReminder", "(II)V"⟩
abbrev cX0_canBeWrittenOff : ByteArray := prog_2_method_12_code
def yX0_canBeWrittenOff : MethodName := ⟨RX0, "canBeWrittenOff", "(II)Z"⟩
abbrev cX0_takeMoney : ByteArray := prog_2_method_13_code
def yX0_takeMoney : MethodName := ⟨RX0, "takeMoney", "(III)V"⟩
abbrev cX0_taxIn : ByteArray := prog_2_method_14_code
def yX0_taxIn : MethodName := ⟨RX0, "taxIn", "(I)I"⟩
def RX1 : String := "InvoiceBook$Book"
def TX1 : u_T := fun k => match k with
  | 0 => ("InvoiceBook$Book", "bills", "[LInvoiceBook$Bill;", true)
  | 1 => ("InvoiceBook$Book", "credits", "[I", true)
  | 2 => ("InvoiceBook$Book", "taxPaid", "[I", true)
  | 3 => ("InvoiceBook$Book", "taxClosed", "[I", true)
  | 4 => ("InvoiceBook$Book", "settings", "LInvoiceBook$Settings;", true)
  | 5 => ("InvoiceBook$Book", "day", "I", false)
  | 6 => ("InvoiceBook$Book", "closedYears", "I", false)
  | _ => ("InvoiceBook$Book", "paidBack", "I", false)
def tyX1 : Nat → FieldType := fun k => match k with
  | 0 => .array (.object "InvoiceBook$Bill")
  | 1 => .array .int
  | 2 => .array .int
  | 3 => .array .int
  | 4 => .object "InvoiceBook$Settings"
  | 5 => .int
  | 6 => .int
  | _ => .int
abbrev wsX10 : List Cond := u_ws RX1 TX1 8
theorem nmX1 : ∀ a, a < 8 → ∀ b, b < 8 → a ≠ b → (TX1 a).2.1 ≠ (TX1 b).2.1 := by decide +kernel
theorem tyX1_ok : ∀ k, k < 8 → parseFieldDescriptor (TX1 k).2.2.1 = some (tyX1 k) := by decide +kernel
abbrev cX1_init : ByteArray := prog_3_method_1_code
def yX1_init : MethodName := ⟨RX1, "<init>", "()V"⟩
abbrev cX1_copyFrom : ByteArray := prog_3_method_2_code
def yX1_copyFrom : MethodName := ⟨RX1, "copyFrom", "(LInvoiceBook$Book;)V"⟩
abbrev cX1_billAt : ByteArray := prog_3_method_3_code
def yX1_billAt : MethodName := ⟨RX1, "billAt", "(I)LInvoiceBook$Bill;"⟩
abbrev cX1_creditOf : ByteArray := prog_3_method_4_code
def yX1_creditOf : MethodName := ⟨RX1, "creditOf", "(I)I"⟩
abbrev cX1_setCredit : ByteArray := prog_3_method_5_code
def yX1_setCredit : MethodName := ⟨RX1, "setCredit", "(II)V"⟩
abbrev cX1_writeBill : ByteArray := prog_3_method_6_code
def yX1_writeBill : MethodName := ⟨RX1, "writeBill", "(IIII)I"⟩
abbrev cX1_takePayment : ByteArray := prog_3_method_7_code
def yX1_takePayment : MethodName := ⟨RX1, "takePayment", "(II)I"⟩
abbrev cX1_takePaymentFor : ByteArray := prog_3_method_8_code
def yX1_takePaymentFor : MethodName := ⟨RX1, "takePaymentFor", "(II)I"⟩
abbrev cX1_isOfAnother : ByteArray := prog_3_method_9_code
def yX1_isOfAnother : MethodName := ⟨RX1, "isOfAnother", "(II)Z"⟩
abbrev cX1_payOn : ByteArray := prog_3_method_10_code
def yX1_payOn : MethodName := ⟨RX1, "payOn", "(LInvoiceBook$Bill;I)I"⟩
abbrev cX1_discountOn : ByteArray := prog_3_method_11_code
def yX1_discountOn : MethodName := ⟨RX1, "discountOn", "(LInvoiceBook$Bill;)I"⟩
abbrev cX1_addCredit : ByteArray := prog_3_method_12_code
def yX1_addCredit : MethodName := ⟨RX1, "addCredit", "(II)Z"⟩
abbrev cX1_returnCredit : ByteArray := prog_3_method_13_code
def yX1_returnCredit : MethodName := ⟨RX1, "returnCredit", "(I)I"⟩
abbrev cX1_goOn : ByteArray := prog_3_method_14_code
def yX1_goOn : MethodName := ⟨RX1, "goOn", "(I)I"⟩
abbrev cX1_sendReminders : ByteArray := prog_3_method_15_code
def yX1_sendReminders : MethodName := ⟨RX1, "sendReminders", "()I"⟩
abbrev cX1_giveUp : ByteArray := prog_3_method_16_code
def yX1_giveUp : MethodName := ⟨RX1, "giveUp", "(I)I"⟩
abbrev cX1_endYear : ByteArray := prog_3_method_17_code
def yX1_endYear : MethodName := ⟨RX1, "endYear", "(I)I"⟩
abbrev cX1_taxOf : ByteArray := prog_3_method_18_code
def yX1_taxOf : MethodName := ⟨RX1, "taxOf", "(II)I"⟩
abbrev cX1_taxTold : ByteArray := prog_3_method_19_code
def yX1_taxTold : MethodName := ⟨RX1, "taxTold", "(I)I"⟩
abbrev cX1_countBills : ByteArray := prog_3_method_20_code
def yX1_countBills : MethodName := ⟨RX1, "countBills", "(II)I"⟩
abbrev cX1_countOverdue : ByteArray := prog_3_method_21_code
def yX1_countOverdue : MethodName := ⟨RX1, "countOverdue", "()I"⟩
abbrev cX1_owedOn : ByteArray := prog_3_method_22_code
def yX1_owedOn : MethodName := ⟨RX1, "owedOn", "(II)I"⟩
abbrev cX1_leastToPayAll : ByteArray := prog_3_method_23_code
def yX1_leastToPayAll : MethodName := ⟨RX1, "leastToPayAll", "(I)I"⟩
abbrev cX1_oldestOpenBill : ByteArray := prog_3_method_24_code
def yX1_oldestOpenBill : MethodName := ⟨RX1, "oldestOpenBill", "(I)I"⟩
abbrev cX1_paidOn : ByteArray := prog_3_method_25_code
def yX1_paidOn : MethodName := ⟨RX1, "paidOn", "(I)I"⟩
abbrev cX1_allCredit : ByteArray := prog_3_method_26_code
def yX1_allCredit : MethodName := ⟨RX1, "allCredit", "()I"⟩
abbrev cX1_allDiscounts : ByteArray := prog_3_method_27_code
def yX1_allDiscounts : MethodName := ⟨RX1, "allDiscounts", "()I"⟩
abbrev cX1_allFees : ByteArray := prog_3_method_28_code
def yX1_allFees : MethodName := ⟨RX1, "allFees", "()I"⟩
abbrev cX1_allReminders : ByteArray := prog_3_method_29_code
def yX1_allReminders : MethodName := ⟨RX1, "allReminders", "()I"⟩
def RX2 : String := "InvoiceBook$History"
def TX2 : u_T := fun k => match k with
  | 0 => ("InvoiceBook$History", "states", "[LInvoiceBook$Book;", true)
  | _ => ("InvoiceBook$History", "count", "I", false)
def tyX2 : Nat → FieldType := fun k => match k with
  | 0 => .array (.object "InvoiceBook$Book")
  | _ => .int
abbrev wsX20 : List Cond := u_ws RX2 TX2 2
theorem nmX2 : ∀ a, a < 2 → ∀ b, b < 2 → a ≠ b → (TX2 a).2.1 ≠ (TX2 b).2.1 := by decide +kernel
theorem tyX2_ok : ∀ k, k < 2 → parseFieldDescriptor (TX2 k).2.2.1 = some (tyX2 k) := by decide +kernel
abbrev cX2_init : ByteArray := prog_4_method_1_code
def yX2_init : MethodName := ⟨RX2, "<init>", "()V"⟩
abbrev cX2_add : ByteArray := prog_4_method_2_code
def yX2_add : MethodName := ⟨RX2, "add", "(LInvoiceBook$Book;)LInvoiceBook$Book;"⟩
abbrev cX2_takeLatest : ByteArray := prog_4_method_3_code
def yX2_takeLatest : MethodName := ⟨RX2, "takeLatest", "(LInvoiceBook$Book;)LInvoiceBook$Book;"⟩
def RX3 : String := "InvoiceBook$Settings"
def TX3 : u_T := fun k => match k with
  | _ => ("InvoiceBook$Settings", "values", "[I", true)
def tyX3 : Nat → FieldType := fun k => match k with
  | _ => .array .int
abbrev wsX30 : List Cond := u_ws RX3 TX3 1
theorem nmX3 : ∀ a, a < 1 → ∀ b, b < 1 → a ≠ b → (TX3 a).2.1 ≠ (TX3 b).2.1 := by decide +kernel
theorem tyX3_ok : ∀ k, k < 1 → parseFieldDescriptor (TX3 k).2.2.1 = some (tyX3 k) := by decide +kernel
abbrev cX3_init : ByteArray := prog_5_method_1_code
def yX3_init : MethodName := ⟨RX3, "<init>", "()V"⟩
abbrev cX3_copyFrom : ByteArray := prog_5_method_2_code
def yX3_copyFrom : MethodName := ⟨RX3, "copyFrom", "(LInvoiceBook$Settings;)V"⟩
abbrev cX3_valueOf : ByteArray := prog_5_method_3_code
def yX3_valueOf : MethodName := ⟨RX3, "valueOf", "(I)I"⟩
abbrev cX3_change : ByteArray := prog_5_method_4_code
def yX3_change : MethodName := ⟨RX3, "change", "(II)I"⟩
abbrev cX3_discountDays : ByteArray := prog_5_method_5_code
def yX3_discountDays : MethodName := ⟨RX3, "discountDays", "()I"⟩
abbrev cX3_discountPercent : ByteArray := prog_5_method_6_code
def yX3_discountPercent : MethodName := ⟨RX3, "discountPercent", "()I"⟩
abbrev cX3_reminderDays : ByteArray := prog_5_method_7_code
def yX3_reminderDays : MethodName := ⟨RX3, "reminderDays", "()I"⟩
abbrev cX3_reminderFee : ByteArray := prog_5_method_8_code
def yX3_reminderFee : MethodName := ⟨RX3, "reminderFee", "()I"⟩
abbrev cX3_taxWay : ByteArray := prog_5_method_9_code
def yX3_taxWay : MethodName := ⟨RX3, "taxWay", "()I"⟩
def RX4 : String := "InvoiceBook$Text"
def TX4 : u_T := fun k => match k with
  | 0 => ("InvoiceBook$Text", "signs", "[C", true)
  | 1 => ("InvoiceBook$Text", "length", "I", false)
  | 2 => ("InvoiceBook$Text", "place", "I", false)
  | 3 => ("InvoiceBook$Text", "kind", "I", false)
  | 4 => ("InvoiceBook$Text", "customer", "I", false)
  | 5 => ("InvoiceBook$Text", "amount", "I", false)
  | 6 => ("InvoiceBook$Text", "rate", "I", false)
  | 7 => ("InvoiceBook$Text", "days", "I", false)
  | _ => ("InvoiceBook$Text", "bill", "I", false)
def tyX4 : Nat → FieldType := fun k => match k with
  | 0 => .array .char
  | 1 => .int
  | 2 => .int
  | 3 => .int
  | 4 => .int
  | 5 => .int
  | 6 => .int
  | 7 => .int
  | _ => .int
abbrev wsX40 : List Cond := u_ws RX4 TX4 9
theorem nmX4 : ∀ a, a < 9 → ∀ b, b < 9 → a ≠ b → (TX4 a).2.1 ≠ (TX4 b).2.1 := by decide +kernel
theorem tyX4_ok : ∀ k, k < 9 → parseFieldDescriptor (TX4 k).2.2.1 = some (tyX4 k) := by decide +kernel
abbrev cX4_init : ByteArray := prog_6_method_1_code
def yX4_init : MethodName := ⟨RX4, "<init>", "()V"⟩
abbrev cX4_add : ByteArray := prog_6_method_2_code
def yX4_add : MethodName := ⟨RX4, "add", "(C)Z"⟩
abbrev cX4_goToStart : ByteArray := prog_6_method_3_code
def yX4_goToStart : MethodName := ⟨RX4, "goToStart", "()V"⟩
abbrev cX4_findFault : ByteArray := prog_6_method_4_code
def yX4_findFault : MethodName := ⟨RX4, "findFault", "()I"⟩
abbrev cX4_readThing : ByteArray := prog_6_method_5_code
def yX4_readThing : MethodName := ⟨RX4, "readThing", "()Z"⟩
abbrev cX4_readBill : ByteArray := prog_6_method_6_code
def yX4_readBill : MethodName := ⟨RX4, "readBill", "()Z"⟩
abbrev cX4_readPayment : ByteArray := prog_6_method_7_code
def yX4_readPayment : MethodName := ⟨RX4, "readPayment", "()Z"⟩
abbrev cX4_readCustomerAndAmount : ByteArray := prog_6_method_8_code
def yX4_readCustomerAndAmount : MethodName := ⟨RX4, "readCustomerAndAmount", "(I)Z"⟩
abbrev cX4_skip : ByteArray := prog_6_method_9_code
def yX4_skip : MethodName := ⟨RX4, "skip", "(C)Z"⟩
abbrev cX4_readNumber : ByteArray := prog_6_method_10_code
def yX4_readNumber : MethodName := ⟨RX4, "readNumber", "(II)I"⟩
abbrev cX4_digitAtPlace : ByteArray := prog_6_method_11_code
def yX4_digitAtPlace : MethodName := ⟨RX4, "digitAtPlace", "()I"⟩
def RX5 : String := "InvoiceBook"
def TX5 : u_T := fun k => match k with
  | 0 => ("InvoiceBook", "now", "LInvoiceBook$Book;", false)
  | 1 => ("InvoiceBook", "spare", "LInvoiceBook$Book;", false)
  | 2 => ("InvoiceBook", "snapshot", "LInvoiceBook$Book;", true)
  | 3 => ("InvoiceBook", "hasSnapshot", "Z", false)
  | 4 => ("InvoiceBook", "history", "LInvoiceBook$History;", true)
  | 5 => ("InvoiceBook", "text", "LInvoiceBook$Text;", true)
  | 6 => ("InvoiceBook", "hasStop", "Z", false)
  | 7 => ("InvoiceBook", "stopNumber", "I", false)
  | _ => ("InvoiceBook", "stopError", "I", false)
def tyX5 : Nat → FieldType := fun k => match k with
  | 0 => .object "InvoiceBook$Book"
  | 1 => .object "InvoiceBook$Book"
  | 2 => .object "InvoiceBook$Book"
  | 3 => .boolean
  | 4 => .object "InvoiceBook$History"
  | 5 => .object "InvoiceBook$Text"
  | 6 => .boolean
  | 7 => .int
  | _ => .int
abbrev wsX50 : List Cond := u_ws RX5 TX5 9
theorem nmX5 : ∀ a, a < 9 → ∀ b, b < 9 → a ≠ b → (TX5 a).2.1 ≠ (TX5 b).2.1 := by decide +kernel
theorem tyX5_ok : ∀ k, k < 9 → parseFieldDescriptor (TX5 k).2.2.1 = some (tyX5 k) := by decide +kernel
abbrev cX5_init : ByteArray := prog_1_method_1_code
def yX5_init : MethodName := ⟨RX5, "<init>", "()V"⟩
abbrev cX5_bill : ByteArray := prog_1_method_2_code
def yX5_bill : MethodName := ⟨RX5, "bill", "(IIII)I"⟩
abbrev cX5_pay : ByteArray := prog_1_method_3_code
def yX5_pay : MethodName := ⟨RX5, "pay", "(II)I"⟩
abbrev cX5_payBill : ByteArray := prog_1_method_4_code
def yX5_payBill : MethodName := ⟨RX5, "payBill", "(II)I"⟩
abbrev cX5_payBack : ByteArray := prog_1_method_5_code
def yX5_payBack : MethodName := ⟨RX5, "payBack", "(I)I"⟩
abbrev cX5_pass : ByteArray := prog_1_method_6_code
def yX5_pass : MethodName := ⟨RX5, "pass", "(I)I"⟩
abbrev cX5_remind : ByteArray := prog_1_method_7_code
def yX5_remind : MethodName := ⟨RX5, "remind", "()I"⟩
abbrev cX5_writeOff : ByteArray := prog_1_method_8_code
def yX5_writeOff : MethodName := ⟨RX5, "writeOff", "(I)I"⟩
abbrev cX5_closeYear : ByteArray := prog_1_method_9_code
def yX5_closeYear : MethodName := ⟨RX5, "closeYear", "(I)I"⟩
abbrev cX5_set : ByteArray := prog_1_method_10_code
def yX5_set : MethodName := ⟨RX5, "set", "(II)I"⟩
abbrev cX5_type : ByteArray := prog_1_method_11_code
def yX5_type : MethodName := ⟨RX5, "type", "(C)I"⟩
abbrev cX5_clearText : ByteArray := prog_1_method_12_code
def yX5_clearText : MethodName := ⟨RX5, "clearText", "()I"⟩
abbrev cX5_perform : ByteArray := prog_1_method_13_code
def yX5_perform : MethodName := ⟨RX5, "perform", "()I"⟩
abbrev cX5_stopped : ByteArray := prog_1_method_14_code
def yX5_stopped : MethodName := ⟨RX5, "stopped", "(I)I"⟩
abbrev cX5_undo : ByteArray := prog_1_method_15_code
def yX5_undo : MethodName := ⟨RX5, "undo", "()I"⟩
abbrev cX5_keep : ByteArray := prog_1_method_16_code
def yX5_keep : MethodName := ⟨RX5, "keep", "()I"⟩
abbrev cX5_restore : ByteArray := prog_1_method_17_code
def yX5_restore : MethodName := ⟨RX5, "restore", "()I"⟩
abbrev cX5_billOf : ByteArray := prog_1_method_18_code
def yX5_billOf : MethodName := ⟨RX5, "billOf", "(II)I"⟩
abbrev cX5_customer : ByteArray := prog_1_method_19_code
def yX5_customer : MethodName := ⟨RX5, "customer", "(II)I"⟩
abbrev cX5_tax : ByteArray := prog_1_method_20_code
def yX5_tax : MethodName := ⟨RX5, "tax", "(II)I"⟩
abbrev cX5_reason : ByteArray := prog_1_method_21_code
def yX5_reason : MethodName := ⟨RX5, "reason", "(I)I"⟩
abbrev cX5_ifPaid : ByteArray := prog_1_method_22_code
def yX5_ifPaid : MethodName := ⟨RX5, "ifPaid", "(III)I"⟩
abbrev cX5_settles : ByteArray := prog_1_method_23_code
def yX5_settles : MethodName := ⟨RX5, "settles", "(I)I"⟩
abbrev cX5_nextReminder : ByteArray := prog_1_method_24_code
def yX5_nextReminder : MethodName := ⟨RX5, "nextReminder", "(I)I"⟩
abbrev cX5_worst : ByteArray := prog_1_method_25_code
def yX5_worst : MethodName := ⟨RX5, "worst", "()I"⟩
abbrev cX5_count : ByteArray := prog_1_method_26_code
def yX5_count : MethodName := ⟨RX5, "count", "(I)I"⟩
abbrev cX5_startAct : ByteArray := prog_1_method_27_code
def yX5_startAct : MethodName := ⟨RX5, "startAct", "()V"⟩
abbrev cX5_endAct : ByteArray := prog_1_method_28_code
def yX5_endAct : MethodName := ⟨RX5, "endAct", "(I)I"⟩
abbrev cX5_doAllThings : ByteArray := prog_1_method_29_code
def yX5_doAllThings : MethodName := ⟨RX5, "doAllThings", "()I"⟩
abbrev cX5_doThing : ByteArray := prog_1_method_30_code
def yX5_doThing : MethodName := ⟨RX5, "doThing", "()I"⟩
abbrev cX5_isCustomer : ByteArray := prog_1_method_31_code
def yX5_isCustomer : MethodName := ⟨RX5, "isCustomer", "(I)Z"⟩
abbrev cX5_isYear : ByteArray := prog_1_method_32_code
def yX5_isYear : MethodName := ⟨RX5, "isYear", "(I)Z"⟩
abbrev cX5_isAmount : ByteArray := prog_1_method_33_code
def yX5_isAmount : MethodName := ⟨RX5, "isAmount", "(I)Z"⟩
def RX6 : String := "InvoiceBookModel"
def TX6 : u_T := fun k => match k with
  | 0 => ("InvoiceBookModel", "s", "[I", true)
  | 1 => ("InvoiceBookModel", "aside", "[I", true)
  | 2 => ("InvoiceBookModel", "ahead", "[I", true)
  | 3 => ("InvoiceBookModel", "snapshot", "[I", true)
  | 4 => ("InvoiceBookModel", "isKept", "Z", false)
  | 5 => ("InvoiceBookModel", "before", "[I", true)
  | 6 => ("InvoiceBookModel", "known", "I", false)
  | 7 => ("InvoiceBookModel", "text", "[I", true)
  | 8 => ("InvoiceBookModel", "length", "I", false)
  | 9 => ("InvoiceBookModel", "stopAt", "I", false)
  | 10 => ("InvoiceBookModel", "stopBy", "I", false)
  | 11 => ("InvoiceBookModel", "position", "I", false)
  | 12 => ("InvoiceBookModel", "isWrong", "Z", false)
  | 13 => ("InvoiceBookModel", "thing", "[I", true)
  | _ => ("InvoiceBookModel", "stop", "I", false)
def tyX6 : Nat → FieldType := fun k => match k with
  | 0 => .array .int
  | 1 => .array .int
  | 2 => .array .int
  | 3 => .array .int
  | 4 => .boolean
  | 5 => .array .int
  | 6 => .int
  | 7 => .array .int
  | 8 => .int
  | 9 => .int
  | 10 => .int
  | 11 => .int
  | 12 => .boolean
  | 13 => .array .int
  | _ => .int
abbrev wsX60 : List Cond := u_ws RX6 TX6 15
theorem nmX6 : ∀ a, a < 15 → ∀ b, b < 15 → a ≠ b → (TX6 a).2.1 ≠ (TX6 b).2.1 := by decide +kernel
theorem tyX6_ok : ∀ k, k < 15 → parseFieldDescriptor (TX6 k).2.2.1 = some (tyX6 k) := by decide +kernel
abbrev cX6_init : ByteArray := prog_8_method_1_code
def yX6_init : MethodName := ⟨RX6, "<init>", "()V"⟩
abbrev cX6_in : ByteArray := prog_8_method_3_code
def yX6_in : MethodName := ⟨RX6, "in", "(III)Z"⟩
abbrev cX6_isCustomer : ByteArray := prog_8_method_4_code
def yX6_isCustomer : MethodName := ⟨RX6, "isCustomer", "(I)Z"⟩
abbrev cX6_isBill : ByteArray := prog_8_method_5_code
def yX6_isBill : MethodName := ⟨RX6, "isBill", "(I)Z"⟩
abbrev cX6_of : ByteArray := prog_8_method_6_code
def yX6_of : MethodName := ⟨RX6, "of", "(II)I"⟩
abbrev cX6_looks : ByteArray := prog_8_method_7_code
def yX6_looks : MethodName := ⟨RX6, "looks", "()V"⟩
abbrev cX6_records : ByteArray := prog_8_method_8_code
def yX6_records : MethodName := ⟨RX6, "records", "()V"⟩
abbrev cX6_know : ByteArray := prog_8_method_9_code
def yX6_know : MethodName := ⟨RX6, "know", "()V"⟩
abbrev cX6_putAside : ByteArray := prog_8_method_10_code
def yX6_putAside : MethodName := ⟨RX6, "putAside", "()V"⟩
abbrev cX6_putBack : ByteArray := prog_8_method_11_code
def yX6_putBack : MethodName := ⟨RX6, "putBack", "()V"⟩
abbrev cX6_taxOf : ByteArray := prog_8_method_12_code
def yX6_taxOf : MethodName := ⟨RX6, "taxOf", "(I)I"⟩
abbrev cX6_sumOf : ByteArray := prog_8_method_13_code
def yX6_sumOf : MethodName := ⟨RX6, "sumOf", "(I)I"⟩
abbrev cX6_owedOn : ByteArray := prog_8_method_14_code
def yX6_owedOn : MethodName := ⟨RX6, "owedOn", "(I)I"⟩
abbrev cX6_is : ByteArray := prog_8_method_15_code
def yX6_is : MethodName := ⟨RX6, "is", "(II)Z"⟩
abbrev cX6_isOpenOf : ByteArray := prog_8_method_16_code
def yX6_isOpenOf : MethodName := ⟨RX6, "isOpenOf", "(II)Z"⟩
abbrev cX6_daysSince : ByteArray := prog_8_method_17_code
def yX6_daysSince : MethodName := ⟨RX6, "daysSince", "(I)I"⟩
abbrev cX6_discountOf : ByteArray := prog_8_method_18_code
def yX6_discountOf : MethodName := ⟨RX6, "discountOf", "(I)I"⟩
abbrev cX6_owedBy : ByteArray := prog_8_method_19_code
def yX6_owedBy : MethodName := ⟨RX6, "owedBy", "(II)I"⟩
abbrev cX6_takesOf : ByteArray := prog_8_method_20_code
def yX6_takesOf : MethodName := ⟨RX6, "takesOf", "(II)I"⟩
abbrev cX6_paysAll : ByteArray := prog_8_method_21_code
def yX6_paysAll : MethodName := ⟨RX6, "paysAll", "(II)I"⟩
abbrev cX6_isTooMuch : ByteArray := prog_8_method_22_code
def yX6_isTooMuch : MethodName := ⟨RX6, "isTooMuch", "()Z"⟩
abbrev cX6_billed : ByteArray := prog_8_method_23_code
def yX6_billed : MethodName := ⟨RX6, "billed", "(IIII)I"⟩
abbrev cX6_paidOn : ByteArray := prog_8_method_24_code
def yX6_paidOn : MethodName := ⟨RX6, "paidOn", "(II)I"⟩
abbrev cX6_isOverdue : ByteArray := prog_8_method_25_code
def yX6_isOverdue : MethodName := ⟨RX6, "isOverdue", "(I)Z"⟩
abbrev cX6_dueDay : ByteArray := prog_8_method_26_code
def yX6_dueDay : MethodName := ⟨RX6, "dueDay", "(I)I"⟩
abbrev cX6_countedFrom : ByteArray := prog_8_method_27_code
def yX6_countedFrom : MethodName := ⟨RX6, "countedFrom", "(I)I"⟩
abbrev cX6_why : ByteArray := prog_8_method_28_code
def yX6_why : MethodName := ⟨RX6, "why", "(I)I"⟩
abbrev cX6_reminds : ByteArray := prog_8_method_29_code
def yX6_reminds : MethodName := ⟨RX6, "reminds", "()I"⟩
abbrev cX6_isNet : ByteArray := prog_8_method_30_code
def yX6_isNet : MethodName := ⟨RX6, "isNet", "(III)Z"⟩
abbrev cX6_isAmount : ByteArray := prog_8_method_31_code
def yX6_isAmount : MethodName := ⟨RX6, "isAmount", "(I)Z"⟩
abbrev cX6_bill : ByteArray := prog_8_method_32_code
def yX6_bill : MethodName := ⟨RX6, "bill", "(IIII)I"⟩
abbrev cX6_wouldBeTooMuch : ByteArray := prog_8_method_33_code
def yX6_wouldBeTooMuch : MethodName := ⟨RX6, "wouldBeTooMuch", "(II)Z"⟩
abbrev cX6_pay : ByteArray := prog_8_method_34_code
def yX6_pay : MethodName := ⟨RX6, "pay", "(II)I"⟩
abbrev cX6_refusalOn : ByteArray := prog_8_method_35_code
def yX6_refusalOn : MethodName := ⟨RX6, "refusalOn", "(II)I"⟩
abbrev cX6_payBill : ByteArray := prog_8_method_36_code
def yX6_payBill : MethodName := ⟨RX6, "payBill", "(II)I"⟩
abbrev cX6_payBack : ByteArray := prog_8_method_37_code
def yX6_payBack : MethodName := ⟨RX6, "payBack", "(I)I"⟩
abbrev cX6_overdue : ByteArray := prog_8_method_38_code
def yX6_overdue : MethodName := ⟨RX6, "overdue", "()I"⟩
abbrev cX6_pass : ByteArray := prog_8_method_39_code
def yX6_pass : MethodName := ⟨RX6, "pass", "(I)I"⟩
abbrev cX6_remind : ByteArray := prog_8_method_40_code
def yX6_remind : MethodName := ⟨RX6, "remind", "()I"⟩
abbrev cX6_canBeOff : ByteArray := prog_8_method_41_code
def yX6_canBeOff : MethodName := ⟨RX6, "canBeOff", "(I)Z"⟩
abbrev cX6_writeOff : ByteArray := prog_8_method_42_code
def yX6_writeOff : MethodName := ⟨RX6, "writeOff", "(I)I"⟩
abbrev cX6_dueFor : ByteArray := prog_8_method_43_code
def yX6_dueFor : MethodName := ⟨RX6, "dueFor", "(II)I"⟩
abbrev cX6_isYear : ByteArray := prog_8_method_44_code
def yX6_isYear : MethodName := ⟨RX6, "isYear", "(I)Z"⟩
abbrev cX6_closeYear : ByteArray := prog_8_method_45_code
def yX6_closeYear : MethodName := ⟨RX6, "closeYear", "(I)I"⟩
abbrev cX6_most : ByteArray := prog_8_method_46_code
def yX6_most : MethodName := ⟨RX6, "most", "(I)I"⟩
abbrev cX6_set : ByteArray := prog_8_method_47_code
def yX6_set : MethodName := ⟨RX6, "set", "(II)I"⟩
abbrev cX6_type : ByteArray := prog_8_method_48_code
def yX6_type : MethodName := ⟨RX6, "type", "(C)I"⟩
abbrev cX6_clearText : ByteArray := prog_8_method_49_code
def yX6_clearText : MethodName := ⟨RX6, "clearText", "()I"⟩
abbrev cX6_isNext : ByteArray := prog_8_method_50_code
def yX6_isNext : MethodName := ⟨RX6, "isNext", "(II)Z"⟩
abbrev cX6_takes : ByteArray := prog_8_method_51_code
def yX6_takes : MethodName := ⟨RX6, "takes", "(II)I"⟩
abbrev cX6_takesNumber : ByteArray := prog_8_method_52_code
def yX6_takesNumber : MethodName := ⟨RX6, "takesNumber", "(II)I"⟩
abbrev cX6_takesBehind : ByteArray := prog_8_method_53_code
def yX6_takesBehind : MethodName := ⟨RX6, "takesBehind", "(III)I"⟩
abbrev cX6_readThing : ByteArray := prog_8_method_54_code
def yX6_readThing : MethodName := ⟨RX6, "readThing", "()V"⟩
abbrev cX6_paidByText : ByteArray := prog_8_method_55_code
def yX6_paidByText : MethodName := ⟨RX6, "paidByText", "(III)I"⟩
abbrev cX6_does : ByteArray := prog_8_method_56_code
def yX6_does : MethodName := ⟨RX6, "does", "()I"⟩
abbrev cX6_goes : ByteArray := prog_8_method_57_code
def yX6_goes : MethodName := ⟨RX6, "goes", "(Z)I"⟩
abbrev cX6_perform : ByteArray := prog_8_method_58_code
def yX6_perform : MethodName := ⟨RX6, "perform", "()I"⟩
abbrev cX6_stopped : ByteArray := prog_8_method_59_code
def yX6_stopped : MethodName := ⟨RX6, "stopped", "(I)I"⟩
abbrev cX6_undo : ByteArray := prog_8_method_60_code
def yX6_undo : MethodName := ⟨RX6, "undo", "()I"⟩
abbrev cX6_keep : ByteArray := prog_8_method_61_code
def yX6_keep : MethodName := ⟨RX6, "keep", "()I"⟩
abbrev cX6_restore : ByteArray := prog_8_method_62_code
def yX6_restore : MethodName := ⟨RX6, "restore", "()I"⟩
abbrev cX6_billOf : ByteArray := prog_8_method_63_code
def yX6_billOf : MethodName := ⟨RX6, "billOf", "(II)I"⟩
abbrev cX6_billsOf : ByteArray := prog_8_method_64_code
def yX6_billsOf : MethodName := ⟨RX6, "billsOf", "(II)I"⟩
abbrev cX6_oldestOpen : ByteArray := prog_8_method_65_code
def yX6_oldestOpen : MethodName := ⟨RX6, "oldestOpen", "(I)I"⟩
abbrev cX6_customer : ByteArray := prog_8_method_66_code
def yX6_customer : MethodName := ⟨RX6, "customer", "(II)I"⟩
abbrev cX6_tax : ByteArray := prog_8_method_67_code
def yX6_tax : MethodName := ⟨RX6, "tax", "(II)I"⟩
abbrev cX6_reason : ByteArray := prog_8_method_68_code
def yX6_reason : MethodName := ⟨RX6, "reason", "(I)I"⟩
abbrev cX6_sum : ByteArray := prog_8_method_69_code
def yX6_sum : MethodName := ⟨RX6, "sum", "(I)I"⟩
abbrev cX6_ifPaid : ByteArray := prog_8_method_70_code
def yX6_ifPaid : MethodName := ⟨RX6, "ifPaid", "(III)I"⟩
abbrev cX6_settles : ByteArray := prog_8_method_71_code
def yX6_settles : MethodName := ⟨RX6, "settles", "(I)I"⟩
abbrev cX6_nextReminder : ByteArray := prog_8_method_72_code
def yX6_nextReminder : MethodName := ⟨RX6, "nextReminder", "(I)I"⟩
abbrev cX6_worst : ByteArray := prog_8_method_73_code
def yX6_worst : MethodName := ⟨RX6, "worst", "()I"⟩
abbrev cX6_sumOfCustomers : ByteArray := prog_8_method_74_code
def yX6_sumOfCustomers : MethodName := ⟨RX6, "sumOfCustomers", "(I)I"⟩
abbrev cX6_count : ByteArray := prog_8_method_75_code
def yX6_count : MethodName := ⟨RX6, "count", "(I)I"⟩
def RJ9 : String := "java/lang/Math"
def TJ9 : u_T := fun k => match k with
  | _ => ("", "", "", false)
def tyJ9 : Nat → FieldType := fun k => match k with
  | _ => .int
abbrev wsJ90 : List Cond := u_ws RJ9 TJ9 0
theorem nmJ9 : ∀ a, a < 0 → ∀ b, b < 0 → a ≠ b → (TJ9 a).2.1 ≠ (TJ9 b).2.1 := by decide +kernel
theorem tyJ9_ok : ∀ k, k < 0 → parseFieldDescriptor (TJ9 k).2.2.1 = some (tyJ9 k) := by decide +kernel
abbrev cJ9_max_7cf53 : ByteArray := prog_9_method_65_code
def yJ9_max_7cf53 : MethodName := ⟨RJ9, "max", "(II)I"⟩
abbrev cJ9_min_7cf53 : ByteArray := prog_9_method_69_code
def yJ9_min_7cf53 : MethodName := ⟨RJ9, "min", "(II)I"⟩
def RJ10 : String := "java/lang/System"
def TJ10 : u_T := fun k => match k with
  | _ => ("", "", "", false)
def tyJ10 : Nat → FieldType := fun k => match k with
  | _ => .int
abbrev wsJ100 : List Cond := u_ws RJ10 TJ10 0
theorem nmJ10 : ∀ a, a < 0 → ∀ b, b < 0 → a ≠ b → (TJ10 a).2.1 ≠ (TJ10 b).2.1 := by decide +kernel
theorem tyJ10_ok : ∀ k, k < 0 → parseFieldDescriptor (TJ10 k).2.2.1 = some (tyJ10 k) := by decide +kernel
def RL : String := "InvoiceBookLaw"
abbrev cL_law : ByteArray := code
def yL_law : MethodName := ⟨RL, "law", "([I)Z"⟩
def wsJ9_max_7cf53 : List Cond := .code yJ9_max_7cf53 cJ9_max_7cf53 2 (some .int) :: ([])
def wsJ9_min_7cf53 : List Cond := .code yJ9_min_7cf53 cJ9_min_7cf53 2 (some .int) :: ([])
def wsL_law_r1 : List Cond := [Cond.classLink RL 7 RX5, Cond.instantiable RX5 9, Cond.initialized RX5, Cond.classLink RL 10 RX6, Cond.instantiable RX6 15, Cond.initialized RX6, Cond.methodLink RL 9 yX5_init, Cond.instanceMethod yX5_init, Cond.code yX5_init cX5_init 1 none, Cond.methodLink RX5 1 objectInit, Cond.instanceMethod objectInit, Cond.code objectInit ⟨#[0xb1]⟩ 1 none, Cond.classLink RX5 7 RX1, Cond.instantiable RX1 8, Cond.initialized RX1, Cond.fieldLink RX5 10 "InvoiceBook" "now" "LInvoiceBook$Book;", Cond.fieldLink RX5 16 "InvoiceBook" "spare" "LInvoiceBook$Book;", Cond.fieldLink RX5 19 "InvoiceBook" "snapshot" "LInvoiceBook$Book;", Cond.classLink RX5 22 RX2, Cond.instantiable RX2 2, Cond.initialized RX2, Cond.fieldLink RX5 25 "InvoiceBook" "history" "LInvoiceBook$History;", Cond.classLink RX5 29 RX4, Cond.instantiable RX4 9]
def wsL_law_r2 : List Cond := [Cond.initialized RX4, Cond.fieldLink RX5 32 "InvoiceBook" "text" "LInvoiceBook$Text;", Cond.methodLink RX5 9 yX1_init, Cond.instanceMethod yX1_init, Cond.code yX1_init cX1_init 2 none, Cond.methodLink RX1 3 objectInit, Cond.classLink RX1 9 RX0, Cond.fieldLink RX1 11 "InvoiceBook$Book" "bills" "[LInvoiceBook$Bill;", Cond.arrayClass .int, Cond.fieldLink RX1 17 "InvoiceBook$Book" "credits" "[I", Cond.fieldLink RX1 21 "InvoiceBook$Book" "taxPaid" "[I", Cond.fieldLink RX1 24 "InvoiceBook$Book" "taxClosed" "[I", Cond.classLink RX1 27 RX3, Cond.instantiable RX3 1, Cond.initialized RX3, Cond.fieldLink RX1 30 "InvoiceBook$Book" "settings" "LInvoiceBook$Settings;", Cond.instantiable RX0 14, Cond.initialized RX0, Cond.instanceMethod yX3_init, Cond.code yX3_init cX3_init 1 none, Cond.methodLink RX3 3 objectInit, Cond.fieldLink RX3 9 "InvoiceBook$Settings" "values" "[I", Cond.instanceMethod yX0_init, Cond.code yX0_init cX0_init 1 none]
def wsL_law_r3 : List Cond := [Cond.methodLink RX0 3 objectInit, Cond.fieldLink RX0 11 "InvoiceBook$Bill" "state" "I", Cond.fieldLink RX0 15 "InvoiceBook$Bill" "lastPayment" "I", Cond.methodLink RX5 24 yX2_init, Cond.instanceMethod yX2_init, Cond.code yX2_init cX2_init 2 none, Cond.methodLink RX2 3 objectInit, Cond.classLink RX2 9 RX1, Cond.fieldLink RX2 11 "InvoiceBook$History" "states" "[LInvoiceBook$Book;", Cond.methodLink RX2 17 yX1_init, Cond.instanceMethod yX4_init, Cond.code yX4_init cX4_init 1 none, Cond.methodLink RX4 3 objectInit, Cond.arrayClass .char, Cond.fieldLink RX4 9 "InvoiceBook$Text" "signs" "[C", Cond.methodLink RL 12 yX6_init, Cond.instanceMethod yX6_init, Cond.code yX6_init cX6_init 1 none, Cond.methodLink RX6 1 objectInit, Cond.fieldLink RX6 7 "InvoiceBookModel" "s" "[I", Cond.fieldLink RX6 13 "InvoiceBookModel" "aside" "[I", Cond.fieldLink RX6 16 "InvoiceBookModel" "ahead" "[I", Cond.fieldLink RX6 19 "InvoiceBookModel" "snapshot" "[I", Cond.fieldLink RX6 22 "InvoiceBookModel" "before" "[I"]
def wsL_law_r4 : List Cond := [Cond.fieldLink RX6 25 "InvoiceBookModel" "text" "[I", Cond.fieldLink RX6 28 "InvoiceBookModel" "stopAt" "I", Cond.fieldLink RX6 32 "InvoiceBookModel" "stopBy" "I", Cond.fieldLink RX6 35 "InvoiceBookModel" "thing" "[I", Cond.methodLink RL 13 yX5_bill, Cond.instanceMethod yX5_bill, Cond.selects RX5 yX5_bill yX5_bill, Cond.code yX5_bill cX5_bill 5 (some .int), Cond.methodLink RX5 36 yX5_startAct, Cond.instanceMethod yX5_startAct, Cond.selects RX5 yX5_startAct yX5_startAct, Cond.code yX5_startAct cX5_startAct 1 none, Cond.methodLink RX5 110 yX1_copyFrom, Cond.instanceMethod yX1_copyFrom, Cond.selects RX1 yX1_copyFrom yX1_copyFrom, Cond.code yX1_copyFrom cX1_copyFrom 3 none, Cond.methodLink RX1 39 arraycopyName, Cond.native arraycopyName, Cond.static arraycopyName, Cond.initialized "java/lang/System", Cond.fieldLink RX1 48 "InvoiceBook$Book" "day" "I", Cond.fieldLink RX1 52 "InvoiceBook$Book" "closedYears" "I", Cond.fieldLink RX1 55 "InvoiceBook$Book" "paidBack" "I", Cond.methodLink RX1 35 yX0_copyFrom]
def wsL_law_r5 : List Cond := [Cond.instanceMethod yX0_copyFrom, Cond.selects RX0 yX0_copyFrom yX0_copyFrom, Cond.code yX0_copyFrom cX0_copyFrom 2 none, Cond.fieldLink RX0 18 "InvoiceBook$Bill" "customer" "I", Cond.fieldLink RX0 21 "InvoiceBook$Bill" "net" "I", Cond.fieldLink RX0 24 "InvoiceBook$Bill" "rate" "I", Cond.fieldLink RX0 27 "InvoiceBook$Bill" "tax" "I", Cond.fieldLink RX0 30 "InvoiceBook$Bill" "sum" "I", Cond.fieldLink RX0 33 "InvoiceBook$Bill" "day" "I", Cond.fieldLink RX0 36 "InvoiceBook$Bill" "due" "I", Cond.fieldLink RX0 39 "InvoiceBook$Bill" "paid" "I", Cond.fieldLink RX0 42 "InvoiceBook$Bill" "discount" "I", Cond.fieldLink RX0 45 "InvoiceBook$Bill" "fees" "I", Cond.fieldLink RX0 48 "InvoiceBook$Bill" "reminders" "I", Cond.fieldLink RX0 51 "InvoiceBook$Bill" "lastReminder" "I", Cond.methodLink RX1 45 yX3_copyFrom, Cond.instanceMethod yX3_copyFrom, Cond.selects RX3 yX3_copyFrom yX3_copyFrom, Cond.code yX3_copyFrom cX3_copyFrom 2 none, Cond.methodLink RX3 15 arraycopyName, Cond.methodLink RX5 39 yX1_writeBill, Cond.instanceMethod yX1_writeBill, Cond.selects RX1 yX1_writeBill yX1_writeBill, Cond.code yX1_writeBill cX1_writeBill 8 (some .int)]
def wsL_law_r6 : List Cond := [Cond.static yX5_isCustomer, Cond.code yX5_isCustomer cX5_isCustomer 1 (some .boolean), Cond.methodLink RX1 65 yX1_countBills, Cond.instanceMethod yX1_countBills, Cond.selects RX1 yX1_countBills yX1_countBills, Cond.code yX1_countBills cX1_countBills 8 (some .int), Cond.methodLink RX1 88 yX0_is, Cond.instanceMethod yX0_is, Cond.selects RX0 yX0_is yX0_is, Cond.code yX0_is cX0_is 3 (some .boolean), Cond.methodLink RX1 69 yX0_write, Cond.instanceMethod yX0_write, Cond.selects RX0 yX0_write yX0_write, Cond.code yX0_write cX0_write 6 none, Cond.methodLink RX1 73 yX1_creditOf, Cond.instanceMethod yX1_creditOf, Cond.selects RX1 yX1_creditOf yX1_creditOf, Cond.code yX1_creditOf cX1_creditOf 2 (some .int), Cond.methodLink RX1 77 yX1_payOn, Cond.instanceMethod yX1_payOn, Cond.selects RX1 yX1_payOn yX1_payOn, Cond.code yX1_payOn cX1_payOn 8 (some .int), Cond.methodLink RX1 106 yX1_discountOn, Cond.instanceMethod yX1_discountOn]
def wsL_law_r7 : List Cond := [Cond.selects RX1 yX1_discountOn yX1_discountOn, Cond.code yX1_discountOn cX1_discountOn 2 (some .int), Cond.fieldLink RX1 120 "InvoiceBook$Bill" "reminders" "I", Cond.fieldLink RX1 123 "InvoiceBook$Bill" "day" "I", Cond.fieldLink RX1 127 "InvoiceBook$Bill" "sum" "I", Cond.methodLink RX1 133 Lib.Math.min.name, Cond.static Lib.Math.min.name, Cond.initialized "java/lang/Math", Cond.code Lib.Math.min.name Lib.Math.min.code 2 (some .int), Cond.methodLink RX1 124 yX3_discountDays, Cond.instanceMethod yX3_discountDays, Cond.selects RX3 yX3_discountDays yX3_discountDays, Cond.code yX3_discountDays cX3_discountDays 1 (some .int), Cond.methodLink RX1 130 yX3_discountPercent, Cond.instanceMethod yX3_discountPercent, Cond.selects RX3 yX3_discountPercent yX3_discountPercent, Cond.code yX3_discountPercent cX3_discountPercent 1 (some .int), Cond.methodLink RX1 102 yX0_owed, Cond.instanceMethod yX0_owed, Cond.selects RX0 yX0_owed yX0_owed, Cond.code yX0_owed cX0_owed 1 (some .int), Cond.methodLink RX1 110 yX0_takeMoney, Cond.instanceMethod yX0_takeMoney, Cond.selects RX0 yX0_takeMoney yX0_takeMoney]
def wsL_law_r8 : List Cond := [Cond.code yX0_takeMoney cX0_takeMoney 4 none, Cond.methodLink RX0 66 yX0_owed, Cond.static yX5_isYear, Cond.code yX5_isYear cX5_isYear 1 (some .boolean), Cond.methodLink RX1 117 yX0_taxIn, Cond.instanceMethod yX0_taxIn, Cond.selects RX0 yX0_taxIn yX0_taxIn, Cond.code yX0_taxIn cX0_taxIn 3 (some .int), Cond.methodLink RX1 81 yX1_setCredit, Cond.instanceMethod yX1_setCredit, Cond.selects RX1 yX1_setCredit yX1_setCredit, Cond.code yX1_setCredit cX1_setCredit 3 none, Cond.methodLink RX5 43 yX5_endAct, Cond.instanceMethod yX5_endAct, Cond.selects RX5 yX5_endAct yX5_endAct, Cond.code yX5_endAct cX5_endAct 3 (some .int), Cond.methodLink RX5 251 yX2_add, Cond.instanceMethod yX2_add, Cond.selects RX2 yX2_add yX2_add, Cond.code yX2_add cX2_add 4 (some (.object "InvoiceBook$Book")), Cond.fieldLink RX2 18 "InvoiceBook$History" "count" "I", Cond.methodLink RL 17 yX6_bill, Cond.instanceMethod yX6_bill, Cond.selects RX6 yX6_bill yX6_bill]
def wsL_law_r9 : List Cond := [Cond.code yX6_bill cX6_bill 5 (some .int), Cond.methodLink RX6 96 yX6_isCustomer, Cond.static yX6_isCustomer, Cond.code yX6_isCustomer cX6_isCustomer 1 (some .boolean), Cond.methodLink RX6 38 yX6_in, Cond.static yX6_in, Cond.code yX6_in cX6_in 3 (some .boolean), Cond.methodLink RX6 99 yX6_isNet, Cond.static yX6_isNet, Cond.code yX6_isNet cX6_isNet 3 (some .boolean), Cond.methodLink RX6 102 yX6_know, Cond.instanceMethod yX6_know, Cond.selects RX6 yX6_know yX6_know, Cond.code yX6_know cX6_know 1 none, Cond.methodLink RX6 45 yX6_looks, Cond.instanceMethod yX6_looks, Cond.selects RX6 yX6_looks yX6_looks, Cond.code yX6_looks cX6_looks 2 none, Cond.methodLink RX6 48 yX6_records, Cond.instanceMethod yX6_records, Cond.selects RX6 yX6_records yX6_records, Cond.code yX6_records cX6_records 2 none, Cond.fieldLink RX6 42 "InvoiceBookModel" "known" "I", Cond.methodLink RX6 105 yX6_billed]
def wsL_law_r10 : List Cond := [Cond.instanceMethod yX6_billed, Cond.selects RX6 yX6_billed yX6_billed, Cond.code yX6_billed cX6_billed 7 (some .int), Cond.methodLink RX6 51 yX6_of, Cond.static yX6_of, Cond.code yX6_of cX6_of 2 (some .int), Cond.methodLink RX6 78 yX6_takesOf, Cond.instanceMethod yX6_takesOf, Cond.selects RX6 yX6_takesOf yX6_takesOf, Cond.code yX6_takesOf cX6_takesOf 6 (some .int), Cond.methodLink RX6 72 yX6_discountOf, Cond.instanceMethod yX6_discountOf, Cond.selects RX6 yX6_discountOf yX6_discountOf, Cond.code yX6_discountOf cX6_discountOf 4 (some .int), Cond.methodLink RX6 66 yX6_daysSince, Cond.instanceMethod yX6_daysSince, Cond.selects RX6 yX6_daysSince yX6_daysSince, Cond.code yX6_daysSince cX6_daysSince 2 (some .int), Cond.methodLink RX6 59 yX6_sumOf, Cond.instanceMethod yX6_sumOf, Cond.selects RX6 yX6_sumOf yX6_sumOf, Cond.code yX6_sumOf cX6_sumOf 2 (some .int), Cond.methodLink RX6 55 yX6_taxOf, Cond.instanceMethod yX6_taxOf]
def wsL_law_r11 : List Cond := [Cond.selects RX6 yX6_taxOf yX6_taxOf, Cond.code yX6_taxOf cX6_taxOf 2 (some .int), Cond.methodLink RX6 69 yX6_owedOn, Cond.instanceMethod yX6_owedOn, Cond.selects RX6 yX6_owedOn yX6_owedOn, Cond.code yX6_owedOn cX6_owedOn 2 (some .int), Cond.methodLink RL 18 yX5_pay, Cond.instanceMethod yX5_pay, Cond.selects RX5 yX5_pay yX5_pay, Cond.code yX5_pay cX5_pay 3 (some .int), Cond.methodLink RX5 47 yX1_takePayment, Cond.instanceMethod yX1_takePayment, Cond.selects RX1 yX1_takePayment yX1_takePayment, Cond.code yX1_takePayment cX1_takePayment 9 (some .int), Cond.fieldLink RX1 58 "InvoiceBook$Bill" "state" "I", Cond.static yX5_isAmount, Cond.code yX5_isAmount cX5_isAmount 1 (some .boolean), Cond.constant RX5 285 (99999), Cond.methodLink RX1 92 yX1_addCredit, Cond.instanceMethod yX1_addCredit, Cond.selects RX1 yX1_addCredit yX1_addCredit, Cond.code yX1_addCredit cX1_addCredit 4 (some .boolean), Cond.constant RX1 138 (999999), Cond.methodLink RL 22 yX6_pay]
def wsL_law_r12 : List Cond := [Cond.instanceMethod yX6_pay, Cond.selects RX6 yX6_pay yX6_pay, Cond.code yX6_pay cX6_pay 3 (some .int), Cond.methodLink RX6 122 yX6_isAmount, Cond.static yX6_isAmount, Cond.code yX6_isAmount cX6_isAmount 1 (some .boolean), Cond.constant RX6 95 (99999), Cond.methodLink RX6 125 yX6_wouldBeTooMuch, Cond.instanceMethod yX6_wouldBeTooMuch, Cond.selects RX6 yX6_wouldBeTooMuch yX6_wouldBeTooMuch, Cond.code yX6_wouldBeTooMuch cX6_wouldBeTooMuch 5 (some .boolean), Cond.methodLink RX6 109 yX6_putAside, Cond.instanceMethod yX6_putAside, Cond.selects RX6 yX6_putAside yX6_putAside, Cond.code yX6_putAside cX6_putAside 2 none, Cond.methodLink RX6 112 yX6_paysAll, Cond.instanceMethod yX6_paysAll, Cond.selects RX6 yX6_paysAll yX6_paysAll, Cond.code yX6_paysAll cX6_paysAll 6 (some .int), Cond.methodLink RX6 75 yX6_isOpenOf, Cond.instanceMethod yX6_isOpenOf, Cond.selects RX6 yX6_isOpenOf yX6_isOpenOf, Cond.code yX6_isOpenOf cX6_isOpenOf 3 (some .boolean), Cond.methodLink RX6 62 yX6_is]
def wsL_law_r13 : List Cond := [Cond.instanceMethod yX6_is, Cond.selects RX6 yX6_is yX6_is, Cond.code yX6_is cX6_is 3 (some .boolean), Cond.methodLink RX6 115 yX6_isTooMuch, Cond.instanceMethod yX6_isTooMuch, Cond.selects RX6 yX6_isTooMuch yX6_isTooMuch, Cond.code yX6_isTooMuch cX6_isTooMuch 3 (some .boolean), Cond.constant RX6 81 (999999), Cond.methodLink RX6 119 yX6_putBack, Cond.instanceMethod yX6_putBack, Cond.selects RX6 yX6_putBack yX6_putBack, Cond.code yX6_putBack cX6_putBack 2 none, Cond.methodLink RL 23 yX5_payBill, Cond.instanceMethod yX5_payBill, Cond.selects RX5 yX5_payBill yX5_payBill, Cond.code yX5_payBill cX5_payBill 3 (some .int), Cond.methodLink RX5 51 yX1_takePaymentFor, Cond.instanceMethod yX1_takePaymentFor, Cond.selects RX1 yX1_takePaymentFor yX1_takePaymentFor, Cond.code yX1_takePaymentFor cX1_takePaymentFor 5 (some .int), Cond.fieldLink RX1 99 "InvoiceBook$Bill" "customer" "I", Cond.methodLink RX1 95 yX1_billAt, Cond.instanceMethod yX1_billAt, Cond.selects RX1 yX1_billAt yX1_billAt]
def wsL_law_r14 : List Cond := [Cond.code yX1_billAt cX1_billAt 2 (some (.object "InvoiceBook$Bill")), Cond.methodLink RL 26 yX6_payBill, Cond.instanceMethod yX6_payBill, Cond.selects RX6 yX6_payBill yX6_payBill, Cond.code yX6_payBill cX6_payBill 4 (some .int), Cond.methodLink RX6 131 yX6_isBill, Cond.instanceMethod yX6_isBill, Cond.selects RX6 yX6_isBill yX6_isBill, Cond.code yX6_isBill cX6_isBill 2 (some .boolean), Cond.methodLink RX6 134 yX6_refusalOn, Cond.instanceMethod yX6_refusalOn, Cond.selects RX6 yX6_refusalOn yX6_refusalOn, Cond.code yX6_refusalOn cX6_refusalOn 5 (some .int), Cond.methodLink RX6 128 yX6_paidOn, Cond.instanceMethod yX6_paidOn, Cond.selects RX6 yX6_paidOn yX6_paidOn, Cond.code yX6_paidOn cX6_paidOn 4 (some .int), Cond.methodLink RL 27 yX5_payBack, Cond.instanceMethod yX5_payBack, Cond.selects RX5 yX5_payBack yX5_payBack, Cond.code yX5_payBack cX5_payBack 2 (some .int), Cond.methodLink RX5 54 yX1_returnCredit, Cond.instanceMethod yX1_returnCredit, Cond.selects RX1 yX1_returnCredit yX1_returnCredit]
def wsL_law_r15 : List Cond := [Cond.code yX1_returnCredit cX1_returnCredit 3 (some .int), Cond.methodLink RL 31 yX6_payBack, Cond.instanceMethod yX6_payBack, Cond.selects RX6 yX6_payBack yX6_payBack, Cond.code yX6_payBack cX6_payBack 3 (some .int), Cond.methodLink RL 32 yX5_pass, Cond.instanceMethod yX5_pass, Cond.selects RX5 yX5_pass yX5_pass, Cond.code yX5_pass cX5_pass 2 (some .int), Cond.methodLink RX5 57 yX1_goOn, Cond.instanceMethod yX1_goOn, Cond.selects RX1 yX1_goOn yX1_goOn, Cond.code yX1_goOn cX1_goOn 2 (some .int), Cond.methodLink RX1 139 yX1_countOverdue, Cond.instanceMethod yX1_countOverdue, Cond.selects RX1 yX1_countOverdue yX1_countOverdue, Cond.code yX1_countOverdue cX1_countOverdue 6 (some .int), Cond.methodLink RX1 166 yX0_isOverdue, Cond.instanceMethod yX0_isOverdue, Cond.selects RX0 yX0_isOverdue yX0_isOverdue, Cond.code yX0_isOverdue cX0_isOverdue 2 (some .boolean), Cond.methodLink RL 35 yX6_pass, Cond.instanceMethod yX6_pass, Cond.selects RX6 yX6_pass yX6_pass]
def wsL_law_r16 : List Cond := [Cond.code yX6_pass cX6_pass 2 (some .int), Cond.methodLink RX6 137 yX6_overdue, Cond.instanceMethod yX6_overdue, Cond.selects RX6 yX6_overdue yX6_overdue, Cond.code yX6_overdue cX6_overdue 3 (some .int), Cond.methodLink RX6 85 yX6_isOverdue, Cond.instanceMethod yX6_isOverdue, Cond.selects RX6 yX6_isOverdue yX6_isOverdue, Cond.code yX6_isOverdue cX6_isOverdue 2 (some .boolean), Cond.methodLink RL 36 yX5_remind, Cond.instanceMethod yX5_remind, Cond.selects RX5 yX5_remind yX5_remind, Cond.code yX5_remind cX5_remind 1 (some .int), Cond.methodLink RX5 60 yX1_sendReminders, Cond.instanceMethod yX1_sendReminders, Cond.selects RX1 yX1_sendReminders yX1_sendReminders, Cond.code yX1_sendReminders cX1_sendReminders 6 (some .int), Cond.methodLink RX1 142 yX3_reminderDays, Cond.instanceMethod yX3_reminderDays, Cond.selects RX3 yX3_reminderDays yX3_reminderDays, Cond.code yX3_reminderDays cX3_reminderDays 1 (some .int), Cond.methodLink RX1 145 yX0_whyNoReminder, Cond.instanceMethod yX0_whyNoReminder, Cond.selects RX0 yX0_whyNoReminder yX0_whyNoReminder]
def wsL_law_r17 : List Cond := [Cond.code yX0_whyNoReminder cX0_whyNoReminder 3 (some .int), Cond.methodLink RX0 54 yX0_isOverdue, Cond.methodLink RX0 58 yX0_reminderDay, Cond.instanceMethod yX0_reminderDay, Cond.selects RX0 yX0_reminderDay yX0_reminderDay, Cond.code yX0_reminderDay cX0_reminderDay 2 (some .int), Cond.methodLink RX0 62 yX0_dueDay, Cond.instanceMethod yX0_dueDay, Cond.selects RX0 yX0_dueDay yX0_dueDay, Cond.code yX0_dueDay cX0_dueDay 1 (some .int), Cond.methodLink RX1 148 yX3_reminderFee, Cond.instanceMethod yX3_reminderFee, Cond.selects RX3 yX3_reminderFee yX3_reminderFee, Cond.code yX3_reminderFee cX3_reminderFee 1 (some .int), Cond.methodLink RX1 151 yX0_addReminder, Cond.instanceMethod yX0_addReminder, Cond.selects RX0 yX0_addReminder yX0_addReminder, Cond.code yX0_addReminder cX0_addReminder 3 none, Cond.methodLink RL 40 yX6_remind, Cond.instanceMethod yX6_remind, Cond.selects RX6 yX6_remind yX6_remind, Cond.code yX6_remind cX6_remind 2 (some .int), Cond.methodLink RX6 141 yX6_reminds, Cond.instanceMethod yX6_reminds]
def wsL_law_r18 : List Cond := [Cond.selects RX6 yX6_reminds yX6_reminds, Cond.code yX6_reminds cX6_reminds 3 (some .int), Cond.methodLink RX6 92 yX6_why, Cond.instanceMethod yX6_why, Cond.selects RX6 yX6_why yX6_why, Cond.code yX6_why cX6_why 2 (some .int), Cond.methodLink RX6 89 yX6_countedFrom, Cond.instanceMethod yX6_countedFrom, Cond.selects RX6 yX6_countedFrom yX6_countedFrom, Cond.code yX6_countedFrom cX6_countedFrom 2 (some .int), Cond.methodLink RX6 82 yX6_dueDay, Cond.instanceMethod yX6_dueDay, Cond.selects RX6 yX6_dueDay yX6_dueDay, Cond.code yX6_dueDay cX6_dueDay 2 (some .int), Cond.methodLink RL 41 yX5_writeOff, Cond.instanceMethod yX5_writeOff, Cond.selects RX5 yX5_writeOff yX5_writeOff, Cond.code yX5_writeOff cX5_writeOff 2 (some .int), Cond.methodLink RX5 64 yX1_giveUp, Cond.instanceMethod yX1_giveUp, Cond.selects RX1 yX1_giveUp yX1_giveUp, Cond.code yX1_giveUp cX1_giveUp 3 (some .int), Cond.methodLink RX1 154 yX0_canBeWrittenOff, Cond.instanceMethod yX0_canBeWrittenOff]
def wsL_law_r19 : List Cond := [Cond.selects RX0 yX0_canBeWrittenOff yX0_canBeWrittenOff, Cond.code yX0_canBeWrittenOff cX0_canBeWrittenOff 3 (some .boolean), Cond.methodLink RL 44 yX6_writeOff, Cond.instanceMethod yX6_writeOff, Cond.selects RX6 yX6_writeOff yX6_writeOff, Cond.code yX6_writeOff cX6_writeOff 2 (some .int), Cond.methodLink RX6 144 yX6_canBeOff, Cond.instanceMethod yX6_canBeOff, Cond.selects RX6 yX6_canBeOff yX6_canBeOff, Cond.code yX6_canBeOff cX6_canBeOff 2 (some .boolean), Cond.methodLink RL 45 yX5_closeYear, Cond.instanceMethod yX5_closeYear, Cond.selects RX5 yX5_closeYear yX5_closeYear, Cond.code yX5_closeYear cX5_closeYear 2 (some .int), Cond.methodLink RX5 67 yX1_endYear, Cond.instanceMethod yX1_endYear, Cond.selects RX1 yX1_endYear yX1_endYear, Cond.code yX1_endYear cX1_endYear 2 (some .int), Cond.methodLink RX1 157 yX3_taxWay, Cond.instanceMethod yX3_taxWay, Cond.selects RX3 yX3_taxWay yX3_taxWay, Cond.code yX3_taxWay cX3_taxWay 1 (some .int), Cond.methodLink RX1 160 yX1_taxOf, Cond.instanceMethod yX1_taxOf]
def wsL_law_r20 : List Cond := [Cond.selects RX1 yX1_taxOf yX1_taxOf, Cond.code yX1_taxOf cX1_taxOf 8 (some .int), Cond.fieldLink RX1 163 "InvoiceBook$Bill" "tax" "I", Cond.methodLink RL 48 yX6_closeYear, Cond.instanceMethod yX6_closeYear, Cond.selects RX6 yX6_closeYear yX6_closeYear, Cond.code yX6_closeYear cX6_closeYear 2 (some .int), Cond.methodLink RX6 147 yX6_isYear, Cond.static yX6_isYear, Cond.code yX6_isYear cX6_isYear 1 (some .boolean), Cond.methodLink RX6 150 yX6_dueFor, Cond.instanceMethod yX6_dueFor, Cond.selects RX6 yX6_dueFor yX6_dueFor, Cond.code yX6_dueFor cX6_dueFor 5 (some .int), Cond.methodLink RL 49 yX5_set, Cond.instanceMethod yX5_set, Cond.selects RX5 yX5_set yX5_set, Cond.code yX5_set cX5_set 3 (some .int), Cond.fieldLink RX5 70 "InvoiceBook$Book" "settings" "LInvoiceBook$Settings;", Cond.methodLink RX5 74 yX3_change, Cond.instanceMethod yX3_change, Cond.selects RX3 yX3_change yX3_change, Cond.code yX3_change cX3_change 4 (some .int), Cond.fieldLink RX3 25 "InvoiceBook$Settings" "LEAST" "[I"]
def wsL_law_r21 : List Cond := [Cond.fieldLink RX3 28 "InvoiceBook$Settings" "MOST" "[I", Cond.methodLink RX3 21 yX3_valueOf, Cond.instanceMethod yX3_valueOf, Cond.selects RX3 yX3_valueOf yX3_valueOf, Cond.code yX3_valueOf cX3_valueOf 2 (some .int), Cond.methodLink RL 52 yX6_set, Cond.instanceMethod yX6_set, Cond.selects RX6 yX6_set yX6_set, Cond.code yX6_set cX6_set 4 (some .int), Cond.methodLink RX6 153 yX6_most, Cond.static yX6_most, Cond.code yX6_most cX6_most 1 (some .int), Cond.methodLink RL 53 yX5_type, Cond.instanceMethod yX5_type, Cond.selects RX5 yX5_type yX5_type, Cond.code yX5_type cX5_type 2 (some .int), Cond.fieldLink RX5 83 "InvoiceBook$Text" "length" "I", Cond.methodLink RX5 79 yX4_add, Cond.instanceMethod yX4_add, Cond.selects RX4 yX4_add yX4_add, Cond.code yX4_add cX4_add 2 (some .boolean), Cond.fieldLink RX4 15 "InvoiceBook$Text" "length" "I", Cond.methodLink RL 57 yX6_type, Cond.instanceMethod yX6_type]
def wsL_law_r22 : List Cond := [Cond.selects RX6 yX6_type yX6_type, Cond.code yX6_type cX6_type 2 (some .int), Cond.fieldLink RX6 156 "InvoiceBookModel" "length" "I", Cond.methodLink RL 58 yX5_clearText, Cond.instanceMethod yX5_clearText, Cond.selects RX5 yX5_clearText yX5_clearText, Cond.code yX5_clearText cX5_clearText 2 (some .int), Cond.methodLink RL 61 yX6_clearText, Cond.instanceMethod yX6_clearText, Cond.selects RX6 yX6_clearText yX6_clearText, Cond.code yX6_clearText cX6_clearText 2 (some .int), Cond.methodLink RL 62 yX5_perform, Cond.instanceMethod yX5_perform, Cond.selects RX5 yX5_perform yX5_perform, Cond.code yX5_perform cX5_perform 2 (some .int), Cond.methodLink RX5 87 yX4_findFault, Cond.instanceMethod yX4_findFault, Cond.selects RX4 yX4_findFault yX4_findFault, Cond.code yX4_findFault cX4_findFault 2 (some .int), Cond.fieldLink RX4 19 "InvoiceBook$Text" "place" "I", Cond.methodLink RX4 22 yX4_goToStart, Cond.instanceMethod yX4_goToStart, Cond.selects RX4 yX4_goToStart yX4_goToStart, Cond.code yX4_goToStart cX4_goToStart 1 none]
def wsL_law_r23 : List Cond := [Cond.methodLink RX4 25 yX4_readThing, Cond.instanceMethod yX4_readThing, Cond.selects RX4 yX4_readThing yX4_readThing, Cond.code yX4_readThing cX4_readThing 1 (some .boolean), Cond.fieldLink RX4 33 "InvoiceBook$Text" "kind" "I", Cond.fieldLink RX4 46 "InvoiceBook$Text" "days" "I", Cond.methodLink RX4 29 yX4_skip, Cond.instanceMethod yX4_skip, Cond.selects RX4 yX4_skip yX4_skip, Cond.code yX4_skip cX4_skip 2 (some .boolean), Cond.methodLink RX4 36 yX4_readBill, Cond.instanceMethod yX4_readBill, Cond.selects RX4 yX4_readBill yX4_readBill, Cond.code yX4_readBill cX4_readBill 1 (some .boolean), Cond.fieldLink RX4 53 "InvoiceBook$Text" "rate" "I", Cond.methodLink RX4 49 yX4_readCustomerAndAmount, Cond.instanceMethod yX4_readCustomerAndAmount, Cond.selects RX4 yX4_readCustomerAndAmount yX4_readCustomerAndAmount, Cond.code yX4_readCustomerAndAmount cX4_readCustomerAndAmount 2 (some .boolean), Cond.fieldLink RX4 60 "InvoiceBook$Text" "customer" "I", Cond.fieldLink RX4 63 "InvoiceBook$Text" "amount" "I", Cond.methodLink RX4 42 yX4_readNumber, Cond.instanceMethod yX4_readNumber, Cond.selects RX4 yX4_readNumber yX4_readNumber]
def wsL_law_r24 : List Cond := [Cond.code yX4_readNumber cX4_readNumber 5 (some .int), Cond.methodLink RX4 66 yX4_digitAtPlace, Cond.instanceMethod yX4_digitAtPlace, Cond.selects RX4 yX4_digitAtPlace yX4_digitAtPlace, Cond.code yX4_digitAtPlace cX4_digitAtPlace 2 (some .int), Cond.methodLink RX4 39 yX4_readPayment, Cond.instanceMethod yX4_readPayment, Cond.selects RX4 yX4_readPayment yX4_readPayment, Cond.code yX4_readPayment cX4_readPayment 1 (some .boolean), Cond.constant RX4 56 (99999), Cond.fieldLink RX4 57 "InvoiceBook$Text" "bill" "I", Cond.methodLink RX5 90 yX5_doAllThings, Cond.instanceMethod yX5_doAllThings, Cond.selects RX5 yX5_doAllThings yX5_doAllThings, Cond.code yX5_doAllThings cX5_doAllThings 3 (some .int), Cond.fieldLink RX5 93 "InvoiceBook" "hasStop" "Z", Cond.fieldLink RX5 97 "InvoiceBook" "stopNumber" "I", Cond.fieldLink RX5 100 "InvoiceBook" "stopError" "I", Cond.methodLink RX5 253 yX4_goToStart, Cond.methodLink RX5 256 yX4_readThing, Cond.methodLink RX5 259 yX5_doThing, Cond.instanceMethod yX5_doThing, Cond.selects RX5 yX5_doThing yX5_doThing, Cond.code yX5_doThing cX5_doThing 1 (some .int)]
def wsL_law_r25 : List Cond := [Cond.fieldLink RX5 265 "InvoiceBook$Text" "kind" "I", Cond.fieldLink RX5 268 "InvoiceBook$Text" "customer" "I", Cond.fieldLink RX5 269 "InvoiceBook$Text" "amount" "I", Cond.fieldLink RX5 272 "InvoiceBook$Text" "rate" "I", Cond.fieldLink RX5 275 "InvoiceBook$Text" "days" "I", Cond.fieldLink RX5 278 "InvoiceBook$Text" "bill" "I", Cond.methodLink RX5 281 yX1_isOfAnother, Cond.instanceMethod yX1_isOfAnother, Cond.selects RX1 yX1_isOfAnother yX1_isOfAnother, Cond.code yX1_isOfAnother cX1_isOfAnother 4 (some .boolean), Cond.methodLink RX5 262 yX4_skip, Cond.methodLink RL 65 yX6_perform, Cond.instanceMethod yX6_perform, Cond.selects RX6 yX6_perform yX6_perform, Cond.code yX6_perform cX6_perform 4 (some .int), Cond.fieldLink RX6 159 "InvoiceBookModel" "isWrong" "Z", Cond.fieldLink RX6 163 "InvoiceBookModel" "position" "I", Cond.fieldLink RX6 182 "InvoiceBookModel" "stop" "I", Cond.methodLink RX6 191 yX6_goes, Cond.instanceMethod yX6_goes, Cond.selects RX6 yX6_goes yX6_goes, Cond.code yX6_goes cX6_goes 6 (some .int), Cond.methodLink RX6 185 yX6_readThing, Cond.instanceMethod yX6_readThing]
def wsL_law_r26 : List Cond := [Cond.selects RX6 yX6_readThing yX6_readThing, Cond.code yX6_readThing cX6_readThing 3 none, Cond.methodLink RX6 172 yX6_takesNumber, Cond.instanceMethod yX6_takesNumber, Cond.selects RX6 yX6_takesNumber yX6_takesNumber, Cond.code yX6_takesNumber cX6_takesNumber 5 (some .int), Cond.methodLink RX6 166 yX6_takes, Cond.instanceMethod yX6_takes, Cond.selects RX6 yX6_takes yX6_takes, Cond.code yX6_takes cX6_takes 4 (some .int), Cond.methodLink RX6 169 yX6_isNext, Cond.instanceMethod yX6_isNext, Cond.selects RX6 yX6_isNext yX6_isNext, Cond.code yX6_isNext cX6_isNext 3 (some .boolean), Cond.methodLink RX6 175 yX6_takesBehind, Cond.instanceMethod yX6_takesBehind, Cond.selects RX6 yX6_takesBehind yX6_takesBehind, Cond.code yX6_takesBehind cX6_takesBehind 5 (some .int), Cond.methodLink RX6 188 yX6_does, Cond.instanceMethod yX6_does, Cond.selects RX6 yX6_does yX6_does, Cond.code yX6_does cX6_does 2 (some .int), Cond.methodLink RX6 179 yX6_paidByText, Cond.instanceMethod yX6_paidByText]
def wsL_law_r27 : List Cond := [Cond.selects RX6 yX6_paidByText yX6_paidByText, Cond.code yX6_paidByText cX6_paidByText 5 (some .int), Cond.methodLink RL 66 yX5_stopped, Cond.instanceMethod yX5_stopped, Cond.selects RX5 yX5_stopped yX5_stopped, Cond.code yX5_stopped cX5_stopped 2 (some .int), Cond.methodLink RL 69 yX6_stopped, Cond.instanceMethod yX6_stopped, Cond.selects RX6 yX6_stopped yX6_stopped, Cond.code yX6_stopped cX6_stopped 2 (some .int), Cond.methodLink RL 70 yX5_undo, Cond.instanceMethod yX5_undo, Cond.selects RX5 yX5_undo yX5_undo, Cond.code yX5_undo cX5_undo 1 (some .int), Cond.fieldLink RX5 103 "InvoiceBook$History" "count" "I", Cond.methodLink RX5 106 yX2_takeLatest, Cond.instanceMethod yX2_takeLatest, Cond.selects RX2 yX2_takeLatest yX2_takeLatest, Cond.code yX2_takeLatest cX2_takeLatest 3 (some (.object "InvoiceBook$Book")), Cond.methodLink RL 73 yX6_undo, Cond.instanceMethod yX6_undo, Cond.selects RX6 yX6_undo yX6_undo, Cond.code yX6_undo cX6_undo 2 (some .int), Cond.methodLink RL 74 yX5_keep]
def wsL_law_r28 : List Cond := [Cond.instanceMethod yX5_keep, Cond.selects RX5 yX5_keep yX5_keep, Cond.code yX5_keep cX5_keep 1 (some .int), Cond.fieldLink RX5 114 "InvoiceBook" "hasSnapshot" "Z", Cond.fieldLink RX5 117 "InvoiceBook$Book" "day" "I", Cond.methodLink RL 77 yX6_keep, Cond.instanceMethod yX6_keep, Cond.selects RX6 yX6_keep yX6_keep, Cond.code yX6_keep cX6_keep 2 (some .int), Cond.fieldLink RX6 195 "InvoiceBookModel" "isKept" "Z", Cond.methodLink RL 78 yX5_restore, Cond.instanceMethod yX5_restore, Cond.selects RX5 yX5_restore yX5_restore, Cond.code yX5_restore cX5_restore 1 (some .int), Cond.methodLink RL 81 yX6_restore, Cond.instanceMethod yX6_restore, Cond.selects RX6 yX6_restore yX6_restore, Cond.code yX6_restore cX6_restore 2 (some .int), Cond.methodLink RL 82 yX5_billOf, Cond.instanceMethod yX5_billOf, Cond.selects RX5 yX5_billOf yX5_billOf, Cond.code yX5_billOf cX5_billOf 4 (some .int), Cond.fieldLink RX5 124 "InvoiceBook$Bill" "customer" "I", Cond.fieldLink RX5 129 "InvoiceBook$Bill" "net" "I"]
def wsL_law_r29 : List Cond := [Cond.fieldLink RX5 132 "InvoiceBook$Bill" "tax" "I", Cond.fieldLink RX5 135 "InvoiceBook$Bill" "sum" "I", Cond.fieldLink RX5 138 "InvoiceBook$Bill" "day" "I", Cond.fieldLink RX5 142 "InvoiceBook$Bill" "state" "I", Cond.fieldLink RX5 145 "InvoiceBook$Bill" "paid" "I", Cond.fieldLink RX5 148 "InvoiceBook$Bill" "discount" "I", Cond.fieldLink RX5 151 "InvoiceBook$Bill" "fees" "I", Cond.fieldLink RX5 157 "InvoiceBook$Bill" "reminders" "I", Cond.fieldLink RX5 160 "InvoiceBook$Bill" "lastPayment" "I", Cond.methodLink RX5 120 yX1_billAt, Cond.methodLink RX5 139 yX0_dueDay, Cond.methodLink RX5 154 yX0_owed, Cond.methodLink RX5 163 yX0_isOverdue, Cond.methodLink RL 85 yX6_billOf, Cond.instanceMethod yX6_billOf, Cond.selects RX6 yX6_billOf yX6_billOf, Cond.code yX6_billOf cX6_billOf 3 (some .int), Cond.methodLink RL 86 yX5_customer, Cond.instanceMethod yX5_customer, Cond.selects RX5 yX5_customer yX5_customer, Cond.code yX5_customer cX5_customer 3 (some .int), Cond.methodLink RX5 167 yX5_isCustomer, Cond.methodLink RX5 170 yX1_countBills, Cond.methodLink RX5 173 yX1_owedOn]
def wsL_law_r30 : List Cond := [Cond.instanceMethod yX1_owedOn, Cond.selects RX1 yX1_owedOn yX1_owedOn, Cond.code yX1_owedOn cX1_owedOn 8 (some .int), Cond.methodLink RX5 176 yX1_creditOf, Cond.methodLink RX5 179 yX1_paidOn, Cond.instanceMethod yX1_paidOn, Cond.selects RX1 yX1_paidOn yX1_paidOn, Cond.code yX1_paidOn cX1_paidOn 7 (some .int), Cond.fieldLink RX1 169 "InvoiceBook$Bill" "paid" "I", Cond.methodLink RX5 182 yX1_oldestOpenBill, Cond.instanceMethod yX1_oldestOpenBill, Cond.selects RX1 yX1_oldestOpenBill yX1_oldestOpenBill, Cond.code yX1_oldestOpenBill cX1_oldestOpenBill 3 (some .int), Cond.methodLink RL 89 yX6_customer, Cond.instanceMethod yX6_customer, Cond.selects RX6 yX6_customer yX6_customer, Cond.code yX6_customer cX6_customer 3 (some .int), Cond.methodLink RX6 198 yX6_billsOf, Cond.instanceMethod yX6_billsOf, Cond.selects RX6 yX6_billsOf yX6_billsOf, Cond.code yX6_billsOf cX6_billsOf 5 (some .int), Cond.methodLink RX6 201 yX6_owedBy, Cond.instanceMethod yX6_owedBy, Cond.selects RX6 yX6_owedBy yX6_owedBy]
def wsL_law_r31 : List Cond := [Cond.code yX6_owedBy cX6_owedBy 5 (some .int), Cond.methodLink RX6 204 yX6_oldestOpen, Cond.instanceMethod yX6_oldestOpen, Cond.selects RX6 yX6_oldestOpen yX6_oldestOpen, Cond.code yX6_oldestOpen cX6_oldestOpen 4 (some .int), Cond.methodLink RL 90 yX5_tax, Cond.instanceMethod yX5_tax, Cond.selects RX5 yX5_tax yX5_tax, Cond.code yX5_tax cX5_tax 3 (some .int), Cond.methodLink RX5 185 yX5_isYear, Cond.methodLink RX5 188 yX1_taxTold, Cond.instanceMethod yX1_taxTold, Cond.selects RX1 yX1_taxTold yX1_taxTold, Cond.code yX1_taxTold cX1_taxTold 2 (some .int), Cond.methodLink RX5 191 yX1_taxOf, Cond.methodLink RL 93 yX6_tax, Cond.instanceMethod yX6_tax, Cond.selects RX6 yX6_tax yX6_tax, Cond.code yX6_tax cX6_tax 3 (some .int), Cond.methodLink RL 94 yX5_reason, Cond.instanceMethod yX5_reason, Cond.selects RX5 yX5_reason yX5_reason, Cond.code yX5_reason cX5_reason 3 (some .int), Cond.methodLink RX5 194 yX3_reminderDays]
def wsL_law_r32 : List Cond := [Cond.methodLink RX5 197 yX0_whyNoReminder, Cond.methodLink RL 97 yX6_reason, Cond.instanceMethod yX6_reason, Cond.selects RX6 yX6_reason yX6_reason, Cond.code yX6_reason cX6_reason 2 (some .int), Cond.methodLink RL 98 yX5_ifPaid, Cond.instanceMethod yX5_ifPaid, Cond.selects RX5 yX5_ifPaid yX5_ifPaid, Cond.code yX5_ifPaid cX5_ifPaid 5 (some .int), Cond.methodLink RX5 200 yX5_isAmount, Cond.methodLink RX5 203 yX1_allDiscounts, Cond.instanceMethod yX1_allDiscounts, Cond.selects RX1 yX1_allDiscounts yX1_allDiscounts, Cond.code yX1_allDiscounts cX1_allDiscounts 6 (some .int), Cond.fieldLink RX1 172 "InvoiceBook$Bill" "discount" "I", Cond.methodLink RL 102 yX6_ifPaid, Cond.instanceMethod yX6_ifPaid, Cond.selects RX6 yX6_ifPaid yX6_ifPaid, Cond.code yX6_ifPaid cX6_ifPaid 7 (some .int), Cond.methodLink RX6 207 yX6_sum, Cond.instanceMethod yX6_sum, Cond.selects RX6 yX6_sum yX6_sum, Cond.code yX6_sum cX6_sum 4 (some .int), Cond.methodLink RL 103 yX5_settles]
def wsL_law_r33 : List Cond := [Cond.instanceMethod yX5_settles, Cond.selects RX5 yX5_settles yX5_settles, Cond.code yX5_settles cX5_settles 2 (some .int), Cond.methodLink RX5 206 yX1_leastToPayAll, Cond.instanceMethod yX1_leastToPayAll, Cond.selects RX1 yX1_leastToPayAll yX1_leastToPayAll, Cond.code yX1_leastToPayAll cX1_leastToPayAll 7 (some .int), Cond.methodLink RL 106 yX6_settles, Cond.instanceMethod yX6_settles, Cond.selects RX6 yX6_settles yX6_settles, Cond.code yX6_settles cX6_settles 4 (some .int), Cond.methodLink RL 107 yX5_nextReminder, Cond.instanceMethod yX5_nextReminder, Cond.selects RX5 yX5_nextReminder yX5_nextReminder, Cond.code yX5_nextReminder cX5_nextReminder 4 (some .int), Cond.methodLink RX5 216 Lib.Math.max.name, Cond.static Lib.Math.max.name, Cond.code Lib.Math.max.name Lib.Math.max.code 2 (some .int), Cond.methodLink RX5 209 yX0_awaitsReminder, Cond.instanceMethod yX0_awaitsReminder, Cond.selects RX0 yX0_awaitsReminder yX0_awaitsReminder, Cond.code yX0_awaitsReminder cX0_awaitsReminder 1 (some .boolean), Cond.methodLink RX5 213 yX0_reminderDay, Cond.methodLink RL 110 yX6_nextReminder]
def wsL_law_r34 : List Cond := [Cond.instanceMethod yX6_nextReminder, Cond.selects RX6 yX6_nextReminder yX6_nextReminder, Cond.code yX6_nextReminder cX6_nextReminder 3 (some .int), Cond.methodLink RL 111 yX5_worst, Cond.instanceMethod yX5_worst, Cond.selects RX5 yX5_worst yX5_worst, Cond.code yX5_worst cX5_worst 5 (some .int), Cond.methodLink RL 114 yX6_worst, Cond.instanceMethod yX6_worst, Cond.selects RX6 yX6_worst yX6_worst, Cond.code yX6_worst cX6_worst 5 (some .int), Cond.methodLink RL 115 yX5_count, Cond.instanceMethod yX5_count, Cond.selects RX5 yX5_count yX5_count, Cond.code yX5_count cX5_count 2 (some .int), Cond.fieldLink RX5 227 "InvoiceBook$Book" "paidBack" "I", Cond.fieldLink RX5 236 "InvoiceBook$Book" "closedYears" "I", Cond.methodLink RX5 221 yX1_countOverdue, Cond.methodLink RX5 224 yX1_allCredit, Cond.instanceMethod yX1_allCredit, Cond.selects RX1 yX1_allCredit yX1_allCredit, Cond.code yX1_allCredit cX1_allCredit 6 (some .int), Cond.methodLink RX5 230 yX1_allFees, Cond.instanceMethod yX1_allFees]
def wsL_law_r35 : List Cond := [Cond.selects RX1 yX1_allFees yX1_allFees, Cond.code yX1_allFees cX1_allFees 6 (some .int), Cond.fieldLink RX1 175 "InvoiceBook$Bill" "fees" "I", Cond.methodLink RX5 233 yX1_allReminders, Cond.instanceMethod yX1_allReminders, Cond.selects RX1 yX1_allReminders yX1_allReminders, Cond.code yX1_allReminders cX1_allReminders 6 (some .int), Cond.methodLink RX5 239 yX3_discountDays, Cond.methodLink RX5 242 yX3_discountPercent, Cond.methodLink RX5 245 yX3_reminderFee, Cond.methodLink RX5 248 yX3_taxWay, Cond.methodLink RL 118 yX6_count, Cond.instanceMethod yX6_count, Cond.selects RX6 yX6_count yX6_count, Cond.code yX6_count cX6_count 2 (some .int), Cond.methodLink RX6 210 yX6_sumOfCustomers, Cond.instanceMethod yX6_sumOfCustomers, Cond.selects RX6 yX6_sumOfCustomers yX6_sumOfCustomers, Cond.code yX6_sumOfCustomers cX6_sumOfCustomers 4 (some .int)]
def wsL_law : List Cond := (wsL_law_r1 ++ (wsL_law_r2 ++ (wsL_law_r3 ++ (wsL_law_r4 ++ (wsL_law_r5 ++ (wsL_law_r6 ++ (wsL_law_r7 ++ (wsL_law_r8 ++ (wsL_law_r9 ++ (wsL_law_r10 ++ (wsL_law_r11 ++ (wsL_law_r12 ++ (wsL_law_r13 ++ (wsL_law_r14 ++ (wsL_law_r15 ++ (wsL_law_r16 ++ (wsL_law_r17 ++ (wsL_law_r18 ++ (wsL_law_r19 ++ (wsL_law_r20 ++ (wsL_law_r21 ++ (wsL_law_r22 ++ (wsL_law_r23 ++ (wsL_law_r24 ++ (wsL_law_r25 ++ (wsL_law_r26 ++ (wsL_law_r27 ++ (wsL_law_r28 ++ (wsL_law_r29 ++ (wsL_law_r30 ++ (wsL_law_r31 ++ (wsL_law_r32 ++ (wsL_law_r33 ++ (wsL_law_r34 ++ wsL_law_r35)))))))))))))))))))))))))))))))))) ++ wsX50 ++ wsX60 ++ wsX10 ++ wsX20 ++ wsX40 ++ wsX30 ++ wsX00 ++ ([] : List Cond)
set_option maxRecDepth 20000 in
theorem inlX0 : ∀ w ∈ wsX00, w ∈ wsL_law := fun _ h => List.mem_append_left _ (List.mem_append_right _ h)
theorem inlX1 : ∀ w ∈ wsX10, w ∈ wsL_law := fun _ h => List.mem_append_left _ (List.mem_append_left _ (List.mem_append_left _ (List.mem_append_left _ (List.mem_append_left _ (List.mem_append_right _ h)))))
theorem inlX2 : ∀ w ∈ wsX20, w ∈ wsL_law := fun _ h => List.mem_append_left _ (List.mem_append_left _ (List.mem_append_left _ (List.mem_append_left _ (List.mem_append_right _ h))))
theorem inlX3 : ∀ w ∈ wsX30, w ∈ wsL_law := fun _ h => List.mem_append_left _ (List.mem_append_left _ (List.mem_append_right _ h))
theorem inlX4 : ∀ w ∈ wsX40, w ∈ wsL_law := fun _ h => List.mem_append_left _ (List.mem_append_left _ (List.mem_append_left _ (List.mem_append_right _ h)))
theorem inlX5 : ∀ w ∈ wsX50, w ∈ wsL_law := fun _ h => List.mem_append_left _ (List.mem_append_left _ (List.mem_append_left _ (List.mem_append_left _ (List.mem_append_left _ (List.mem_append_left _ (List.mem_append_left _ (List.mem_append_right _ h)))))))
theorem inlX6 : ∀ w ∈ wsX60, w ∈ wsL_law := fun _ h => List.mem_append_left _ (List.mem_append_left _ (List.mem_append_left _ (List.mem_append_left _ (List.mem_append_left _ (List.mem_append_left _ (List.mem_append_right _ h))))))
end
section
/-! worlds as families of cells over a list of names -/
def fW {ι : Type} (L : List ι) (a : ι → Nat) (E : ι → va_E) : va_W := L.map (fun i => (a i, E i))
def fI {ι : Type} (L : List ι) (a : ι → Nat) : Prop := L.Nodup ∧ ∀ i, i ∈ L → ∀ j, j ∈ L → a i = a j → i = j
def fA {ι : Type} (L : List ι) (a : ι → Nat) : Nat → Prop := fun q => ∃ i, i ∈ L ∧ a i = q
theorem fW_get {ι : Type} {L : List ι} {a : ι → Nat} {E : ι → va_E} {i : ι} (h : i ∈ L) : ∃ q0 : Nat, L[q0]? = some i ∧ (fW L a E)[q0]? = some (a i, E i) := by
  obtain ⟨q0, hq⟩ := List.getElem?_of_mem h
  exact ⟨q0, hq, by simp [fW, hq]⟩
theorem fW_of {ι : Type} {L : List ι} {a : ι → Nat} {E : ι → va_E} {k : Nat} {q : Nat × va_E} (h : (fW L a E)[k]? = some q) : ∃ i, L[k]? = some i ∧ q = (a i, E i) := by
  unfold fW at h
  rw [List.getElem?_map] at h
  cases hk : L[k]? with
  | none => rw [hk] at h; cases h
  | some i => rw [hk] at h; exact ⟨i, rfl, (Option.some.inj h).symm⟩
theorem nodup_at {ι : Type} {L : List ι} (hn : L.Nodup) {i j : Nat} {x : ι} (h1 : L[i]? = some x) (h2 : L[j]? = some x) : i = j :=
  (List.getElem?_inj (List.getElem?_eq_some_iff.mp h1).1 hn).mp (h1.trans h2.symm)
theorem fW_set {ι : Type} {L : List ι} (hn : L.Nodup) {a : ι → Nat} {E E' : ι → va_E} {i : ι} {q0 : Nat} (hq : L[q0]? = some i) {e : va_E} (he : E' i = e) (ho : ∀ j, j ≠ i → E' j = E j) : (fW L a E).set q0 (a i, e) = fW L a E' := by
  apply List.ext_getElem?
  intro k
  have hl := (List.getElem?_eq_some_iff.mp hq).1
  by_cases hk : k = q0
  · subst hk
    rw [List.getElem?_set_self (by simpa [fW] using hl)]
    simp [fW, hq, he]
  · rw [List.getElem?_set_ne (Ne.symm hk)]
    cases hk2 : L[k]? with
    | none => simp [fW, hk2]
    | some j =>
      have hj : j ≠ i := fun z => hk (nodup_at hn (z ▸ hk2) hq)
      simp [fW, hk2, ho j hj]
theorem fD {ι : Type} {L : List ι} {a : ι → Nat} {E : ι → va_E} (h : fI L a) : va_D (fA L a) (fW L a E) := by
  refine ⟨fun i j p q hi hj hpq => ?_, fun k q hk => ?_⟩
  · obtain ⟨x, h1, rfl⟩ := fW_of hi
    obtain ⟨y, h2, rfl⟩ := fW_of hj
    have hxy := h.2 x (List.mem_of_getElem? h1) y (List.mem_of_getElem? h2) hpq
    subst hxy
    exact nodup_at h.1 h1 h2
  · obtain ⟨x, h1, rfl⟩ := fW_of hk
    exact ⟨x, List.mem_of_getElem? h1, rfl⟩
theorem fP_at {ι : Type} {D : va_G} {cl : List vw_C} {L : List ι} {a : ι → Nat} {E : ι → va_E} {H : Heap} (h : va_P D cl (fW L a E) H) {i : ι} (hi : i ∈ L) : va_at D cl (a i, E i) H := by
  obtain ⟨q0, -, h2⟩ := fW_get (a := a) (E := E) hi
  exact h q0 _ h2
theorem fP_of {ι : Type} {D : va_G} {cl : List vw_C} {L : List ι} {a : ι → Nat} {E : ι → va_E} {H : Heap} (h : ∀ i, i ∈ L → va_at D cl (a i, E i) H) : va_P D cl (fW L a E) H := by
  intro k q hk
  obtain ⟨i, h1, rfl⟩ := fW_of hk
  exact h i (List.mem_of_getElem? h1)
/-! the words of all methods -/
abbrev vwCl : List vw_C := [(RX0, TX0, 14), (RX1, TX1, 8), (RX2, TX2, 2), (RX3, TX3, 1), (RX4, TX4, 9), (RX5, TX5, 9), (RX6, TX6, 15)]
abbrev BIG : List Cond := wsL_law
abbrev kT (cI cC cB cK : ClassId) : List (ClassId × FieldType) := [(cI, .int), (cC, .char), (cB, .object RX0), (cK, .object RX1)]
abbrev kG : Type := va_G × ClassId × ClassId × ClassId × ClassId
/-- private methods of one class that another of its nest calls: what the tables say of them -/
def nw (U : State) : Prop := va_Nw (.methodLinkNest RX1 29 yX3_init "InvoiceBook") U ∧ va_Nw (.methodLinkNest RX1 34 yX0_init "InvoiceBook") U ∧ va_Nw (.methodLinkNest RX5 31 yX4_init "InvoiceBook") U ∧ va_Nw (.methodLinkNest RX1 61 yX5_isCustomer "InvoiceBook") U ∧ va_Nw (.methodLinkNest RX1 114 yX5_isYear "InvoiceBook") U ∧ va_Nw (.methodLinkNest RX1 85 yX5_isAmount "InvoiceBook") U
theorem nw.warm {s U : State} (hW : s.WarmedH U.vm) (h : nw s) : nw U := ⟨h.1.warmM hW, h.2.1.warmM hW, h.2.2.1.warmM hW, h.2.2.2.1.warmM hW, h.2.2.2.2.1.warmM hW, h.2.2.2.2.2.warmM hW⟩
theorem nw.same {s U : State} (hW : s.vm = U.vm) (h : nw s) : nw U := ⟨h.1.same rfl hW, h.2.1.same rfl hW, h.2.2.1.same rfl hW, h.2.2.2.1.same rfl hW, h.2.2.2.2.1.same rfl hW, h.2.2.2.2.2.same rfl hW⟩
/-- the tables -/
def Kp (G : kG) (U : State) : Prop := va_K G.1 vwCl (kT G.2.1 G.2.2.1 G.2.2.2.1 G.2.2.2.2) U ∧ nw U
theorem Kp.warm {G : kG} {s U : State} (hW : s.WarmedH U.vm) (hK : Kp G s) : Kp G U := ⟨va_K.moved hW.alike hK.1, hK.2.warm hW⟩
theorem Kp.same {G : kG} {s U : State} (hW : s.vm = U.vm) (hK : Kp G s) : Kp G U := ⟨va_K.moved (hW ▸ Vm.Alike.refl _) hK.1, hK.2.same hW⟩
def rmK (d : Nat) : Room := { frames := d, cells := 0, slots := 0, locals := 28 * d }
/-- start and end of a contract -/
def pcG (G : kG) (P : Heap → Prop) (av : List Value) : Array Value → State → Prop := va_Pc av (fun U => P U.heap ∧ Kp G U)
def qcI (G : kG) (A : Nat → Prop) (P : Heap → Prop) (v : Int32) : Array Value → State → Outcome → State → Prop := va_Qi (fun r (_ : Unit) => r = v) (fun _ t => P t.heap ∧ Kp G t) A
def qcV (G : kG) (A : Nat → Prop) (P : Heap → Prop) : Array Value → State → Outcome → State → Prop := va_Qv (fun (_ : Unit) => True) (fun _ t => P t.heap ∧ Kp G t) A
def qcQ (G : kG) (A : Nat → Prop) (P : Heap → Prop) (v : Option Nat) : Array Value → State → Outcome → State → Prop := va_Qq (fun r (_ : Unit) => r = v) (fun _ t => P t.heap ∧ Kp G t) A
theorem pcG_blind {G : kG} {P : Heap → Prop} {av : List Value} : FrameBlind (pcG G P av) := fun a U g mk h => ⟨h.1, h.2.1, h.2.2.same (s := U) (U := U.calling g mk a) rfl⟩
theorem big_self : GoodIn BIG BIG := goodIn_sub (fun _ h => h) (by decide +kernel)
theorem big_cons {y : MethodName} {cc : ByteArray} {n : Nat} {ret : Option FieldType} (h : Cond.code y cc n ret ∈ BIG) : GoodIn BIG (Cond.code y cc n ret :: BIG) := fun w hw => by
  rcases List.mem_cons.mp hw with rfl | hw
  · exact big_self _ h
  · exact big_self _ hw
section MS
variable {l : Launch} {G : kG} {A : Nat → Prop} {P : Heap → Prop} {Qc : Array Value → State → Outcome → State → Prop} {av : List Value}
/-- a contract's start -/
theorem m_start {y : MethodName} {cc : ByteArray} {n : Nat} {ret : Option FieldType} {rm : Room} {mc ms : Nat} {free : Addr → Prop} (hy : plainName y.cls = true) (hn : (lg_sl av).length ≤ n)
    (body : ∀ (p : Program) (e : Env) (s : State) (m : MethodId) (args : Array Value) (below : List Frame) (meth : Method) (c : Code), CallFix p m c cc n s args BIG y.cls → meth.sig.returnType = ret → meth.locks = false → meth.name = y.name → P s.heap → Kp G s → ∀ ls : Array Slot, lv_has ls n (lv_args 0 av) →
      W p l e rm s m args below meth c s.heap [] 0 0 (MQ below Qc args s mc ms free) (F0 m 0 ls [])) : Met l y (Cond.code y cc n ret :: BIG) rm (pcG G P av) Qc mc ms free := by
  refine Met.ofW (cc := cc) (maxL := n) (ret := ret) hy rfl ?_
  intro p e s m args below meth c s₁ B hml hv
  obtain ⟨rfl, hP, hK⟩ := hv
  have hts := atoms_spec (ws := Cond.code y cc n ret :: BIG) B.pre
  rw [lg_entry_eq]
  exact body p e s m _ below meth c ⟨B.exec, B.bytes, hml, findClass_of_methodNamed B.named, fun w h => hts w (List.mem_cons_of_mem _ h)⟩ B.returns B.notSynchronized (name_of_methodNamed B.named B.method).1 hP hK _ (lv_entry av hn)
end MS
section RW
variable {p : Program} {l : Launch} {e : Env} {R : Room} {s : State} {m : MethodId} {args : Array Value} {below : List Frame} {meth : Method} {c : Code} {H : Heap} {locs : List Loc} {cells slots : Nat} {Q : State → Prop}
variable {cc : ByteArray} {pc nL : Nat} {own : String} {ls : Array Slot} {rest : List Value} {G : kG} {A : Nat → Prop} {H0 : Heap}
variable {ι : Type} {L : List ι} {a : ι → Nat} {E : ι → va_E} {i : ι}
/-- getfield out of a family -/
theorem r_get (S : CallFix p m c cc nL s args BIG own) (hK : Kp G s) (hP : va_P G.1 vwCl (fW L a E) H) (hi : i ∈ L) {ci N : Nat} {C : String} {T : u_T} {fs : List Value} (he : E i = .inr (ci, fs)) (hc : vwCl[ci]? = some (C, T, N)) (hin : ∀ w ∈ u_ws C T N, w ∈ BIG) (k : Nat) (hk : k < N) {index : Nat} (hlink : Cond.fieldLink own index (T k).1 (T k).2.1 (T k).2.2.1 ∈ BIG) {v : Value} (hv : fs[k]? = some v) (hdg : decode cc pc = .ok (.getfield index, 3))
    (kk : W p l e R s m args below meth c H locs cells slots Q (F0 m (pc + 3) ls (v :: rest))) : W p l e R s m args below meth c H locs cells slots Q (F0 m pc ls (.ref (a i) :: rest)) := by
  obtain ⟨hx, hb, hml, hown, hts⟩ := S
  obtain ⟨q0, -, h2⟩ := fW_get (a := a) (E := E) hi
  rw [he] at h2
  exact va_get hx hb hts hin hown hK.1 hP q0 h2 hc k hk (hts _ hlink) (fun _ h => h) hv hdg kk
/-- putfield into a family -/
theorem r_put (S : CallFix p m c cc nL s args BIG own) (hK : Kp G s) (hP : va_P G.1 vwCl (fW L a E) H) (hI : fI L a) (hS : va_S (fA L a) H0 H locs) (hi : i ∈ L) {ci N : Nat} {C : String} {T : u_T} {fs : List Value} (he : E i = .inr (ci, fs)) (hc : vwCl[ci]? = some (C, T, N)) (hin : ∀ w ∈ u_ws C T N, w ∈ BIG) (ty0 : Nat → FieldType) (hty : ∀ k, k < N → parseFieldDescriptor (T k).2.2.1 = some (ty0 k)) (hnm : ∀ a, a < N → ∀ b, b < N → a ≠ b → (T a).2.1 ≠ (T b).2.1) (k : Nat) (hk : k < N) {index : Nat} (hlink : Cond.fieldLink own index (T k).1 (T k).2.1 (T k).2.2.1 ∈ BIG) (hfin : (T k).2.2.2 = false) {ty : FieldType} {v : Value} (hd : parseFieldDescriptor (T k).2.2.1 = some ty) (hn : narrow ty v = v) (hfit : fits ty v = true) (hl : k < fs.length) (hdg : decode cc pc = .ok (.putfield index, 3))
    {E' : ι → va_E} (he' : E' i = .inr (ci, fs.set k v)) (ho : ∀ j, j ≠ i → E' j = E j)
    (kk : ∀ (H1 : Heap) (locs1 : List Loc), va_P G.1 vwCl (fW L a E') H1 → va_S (fA L a) H0 H1 locs1 → W p l e R s m args below meth c H1 locs1 cells slots Q (F0 m (pc + 3) ls rest)) : W p l e R s m args below meth c H locs cells slots Q (F0 m pc ls (v :: .ref (a i) :: rest)) := by
  obtain ⟨hx, hb, hml, hown, hts⟩ := S
  obtain ⟨q0, h1, h2⟩ := fW_get (a := a) (E := E) hi
  rw [he] at h2
  refine va_put hx hb hts hin ty0 hty hnm hown hK.1 hP (fD hI) hS q0 h2 hc k hk (hts _ hlink) (fun _ h => h) hfin hd hn hfit hl hdg (fun H1 locs1 hP1 hD1 hS1 => ?_)
  rw [fW_set hI.1 h1 he' ho] at hP1
  exact kk H1 locs1 hP1 hS1
/-- iaload, caload, aaload, arraylength, iastore, castore -/
theorem r_iald (S : CallFix p m c cc nL s args BIG own) (hK : Kp G s) (hP : va_P G.1 vwCl (fW L a E) H) (hi : i ∈ L) {n : Nat} {f : Nat → Int32} (he : E i = .inl (G.2.1, n, .inl f)) {x : Int32} (hin : vp_in x n) (hdg : decode cc pc = .ok (.iaload, 1))
    (kk : W p l e R s m args below meth c H locs cells slots Q (F0 m (pc + 1) ls (.int (f x.toNatClampNeg) :: rest))) : W p l e R s m args below meth c H locs cells slots Q (F0 m pc ls (.int x :: .ref (a i) :: rest)) := by
  obtain ⟨hx, hb, hml, hown, hts⟩ := S
  obtain ⟨q0, -, h2⟩ := fW_get (a := a) (E := E) hi
  rw [he] at h2
  exact va_iald hx hb hK.1 hP q0 0 h2 rfl hin hdg kk
theorem r_cald (S : CallFix p m c cc nL s args BIG own) (hK : Kp G s) (hP : va_P G.1 vwCl (fW L a E) H) (hi : i ∈ L) {n : Nat} {f : Nat → Int32} (he : E i = .inl (G.2.2.1, n, .inl f)) {x : Int32} (hin : vp_in x n) (hdg : decode cc pc = .ok (.caload, 1))
    (kk : W p l e R s m args below meth c H locs cells slots Q (F0 m (pc + 1) ls (.int (f x.toNatClampNeg) :: rest))) : W p l e R s m args below meth c H locs cells slots Q (F0 m pc ls (.int x :: .ref (a i) :: rest)) := by
  obtain ⟨hx, hb, hml, hown, hts⟩ := S
  obtain ⟨q0, -, h2⟩ := fW_get (a := a) (E := E) hi
  rw [he] at h2
  exact va_cald hx hb hK.1 hP q0 1 h2 rfl hin hdg kk
theorem r_bald (S : CallFix p m c cc nL s args BIG own) (hK : Kp G s) (hP : va_P G.1 vwCl (fW L a E) H) (hi : i ∈ L) {n : Nat} {f : Nat → Option Nat} (he : E i = .inl (G.2.2.2.1, n, .inr (.inr (.inr (.inr f))))) {x : Int32} (hin : vp_in x n) (hdg : decode cc pc = .ok (.aaload, 1))
    (kk : W p l e R s m args below meth c H locs cells slots Q (F0 m (pc + 1) ls (va_rf (f x.toNatClampNeg) :: rest))) : W p l e R s m args below meth c H locs cells slots Q (F0 m pc ls (.int x :: .ref (a i) :: rest)) := by
  obtain ⟨hx, hb, hml, hown, hts⟩ := S
  obtain ⟨q0, -, h2⟩ := fW_get (a := a) (E := E) hi
  rw [he] at h2
  exact va_aldq hx hb hK.1 hP q0 2 h2 rfl hin hdg kk
theorem r_kald (S : CallFix p m c cc nL s args BIG own) (hK : Kp G s) (hP : va_P G.1 vwCl (fW L a E) H) (hi : i ∈ L) {n : Nat} {f : Nat → Option Nat} (he : E i = .inl (G.2.2.2.2, n, .inr (.inr (.inr (.inr f))))) {x : Int32} (hin : vp_in x n) (hdg : decode cc pc = .ok (.aaload, 1))
    (kk : W p l e R s m args below meth c H locs cells slots Q (F0 m (pc + 1) ls (va_rf (f x.toNatClampNeg) :: rest))) : W p l e R s m args below meth c H locs cells slots Q (F0 m pc ls (.int x :: .ref (a i) :: rest)) := by
  obtain ⟨hx, hb, hml, hown, hts⟩ := S
  obtain ⟨q0, -, h2⟩ := fW_get (a := a) (E := E) hi
  rw [he] at h2
  exact va_aldq hx hb hK.1 hP q0 3 h2 rfl hin hdg kk
theorem r_alen (S : CallFix p m c cc nL s args BIG own) (hK : Kp G s) (hP : va_P G.1 vwCl (fW L a E) H) (hi : i ∈ L) {cA : ClassId} {x : vp_A} (he : E i = .inl (cA, x)) (t0 : Nat) {ty : FieldType} (ht : (kT G.2.1 G.2.2.1 G.2.2.2.1 G.2.2.2.2)[t0]? = some (cA, ty)) {v : Int32} (hv : Int32.ofNat x.1 = v) (hdg : decode cc pc = .ok (.arraylength, 1))
    (kk : W p l e R s m args below meth c H locs cells slots Q (F0 m (pc + 1) ls (.int v :: rest))) : W p l e R s m args below meth c H locs cells slots Q (F0 m pc ls (.ref (a i) :: rest)) := by
  obtain ⟨hx, hb, hml, hown, hts⟩ := S
  obtain ⟨q0, -, h2⟩ := fW_get (a := a) (E := E) hi
  rw [he] at h2
  exact va_alen hx hb hK.1 hP q0 t0 h2 ht hv hdg kk
theorem r_iast (S : CallFix p m c cc nL s args BIG own) (hK : Kp G s) (hP : va_P G.1 vwCl (fW L a E) H) (hI : fI L a) (hS : va_S (fA L a) H0 H locs) (hi : i ∈ L) {n : Nat} {f : Nat → Int32} (he : E i = .inl (G.2.1, n, .inl f)) {x v : Int32} (hin : vp_in x n) (hdg : decode cc pc = .ok (.iastore, 1))
    {E' : ι → va_E} (he' : E' i = .inl (G.2.1, n, .inl (upd f x.toNatClampNeg v))) (ho : ∀ j, j ≠ i → E' j = E j)
    (kk : ∀ (H1 : Heap) (locs1 : List Loc), va_P G.1 vwCl (fW L a E') H1 → va_S (fA L a) H0 H1 locs1 → W p l e R s m args below meth c H1 locs1 cells slots Q (F0 m (pc + 1) ls rest)) : W p l e R s m args below meth c H locs cells slots Q (F0 m pc ls (.int v :: .int x :: .ref (a i) :: rest)) := by
  obtain ⟨hx, hb, hml, hown, hts⟩ := S
  obtain ⟨q0, h1, h2⟩ := fW_get (a := a) (E := E) hi
  rw [he] at h2
  refine va_iast hx hb hK.1 hP (fD hI) hS q0 0 h2 rfl hin hdg (fun H1 locs1 hP1 hD1 hS1 => ?_)
  rw [fW_set hI.1 h1 he' ho] at hP1
  exact kk H1 locs1 hP1 hS1
theorem r_cast (S : CallFix p m c cc nL s args BIG own) (hK : Kp G s) (hP : va_P G.1 vwCl (fW L a E) H) (hI : fI L a) (hS : va_S (fA L a) H0 H locs) (hi : i ∈ L) {n : Nat} {f : Nat → Int32} (he : E i = .inl (G.2.2.1, n, .inl f)) {x v : Int32} (hin : vp_in x n) (hdg : decode cc pc = .ok (.castore, 1))
    {E' : ι → va_E} (he' : E' i = .inl (G.2.2.1, n, .inl (upd f x.toNatClampNeg (vp_nar .char v)))) (ho : ∀ j, j ≠ i → E' j = E j)
    (kk : ∀ (H1 : Heap) (locs1 : List Loc), va_P G.1 vwCl (fW L a E') H1 → va_S (fA L a) H0 H1 locs1 → W p l e R s m args below meth c H1 locs1 cells slots Q (F0 m (pc + 1) ls rest)) : W p l e R s m args below meth c H locs cells slots Q (F0 m pc ls (.int v :: .int x :: .ref (a i) :: rest)) := by
  obtain ⟨hx, hb, hml, hown, hts⟩ := S
  obtain ⟨q0, h1, h2⟩ := fW_get (a := a) (E := E) hi
  rw [he] at h2
  refine va_cast hx hb hK.1 hP (fD hI) hS q0 1 h2 rfl hin hdg (fun H1 locs1 hP1 hD1 hS1 => ?_)
  rw [fW_set hI.1 h1 he' ho] at hP1
  exact kk H1 locs1 hP1 hS1
/-- calls: an instance method with an int answer, none, or a reference -/
theorem r_cw {y : MethodName} {bytes : ByteArray} {n maxL : Nat} {ret : Option FieldType} {rm : Room} {idx : Nat} (S : CallFix p m c cc nL s args BIG own) (hcode : Cond.code y bytes maxL ret ∈ BIG) (hl : Cond.methodLink own idx y ∈ BIG) (hi : Cond.instanceMethod y ∈ BIG) (hs : Cond.selects y.cls y y ∈ BIG) (hini : Cond.initialized y.cls ∈ BIG)
    (hd : y.cls ≠ "java/lang/invoke/MethodHandle" ∧ y.cls ≠ "java/lang/invoke/VarHandle" ∧ (parseMethodDescriptor y.desc).map (fun d => d.parameters.length) = some n) (hR : rm.frames + 1 ≤ R.frames ∧ 8 + (maxL + 11) + rm.locals ≤ R.locals) (hrc : rm.cells = 0) (hrs : rm.slots = 0) :
    CallW R s args own y.cls idx y bytes maxL ret (Cond.code y bytes maxL ret :: BIG) rm 0 0 n :=
  ⟨callB_of n S.2.2.2.2 (big_cons hcode) rfl hrc hrs (S.2.2.2.2 _ hini) (S.2.2.2.2 _ hl) hd hR, S.2.2.2.2 _ hi, S.2.2.2.2 _ hs⟩
theorem r_cs {y : MethodName} {bytes : ByteArray} {n maxL : Nat} {ret : Option FieldType} {rm : Room} {idx : Nat} (S : CallFix p m c cc nL s args BIG own) (hcode : Cond.code y bytes maxL ret ∈ BIG) (hl : Cond.methodLink own idx y ∈ BIG) (hi : Cond.static y ∈ BIG) (hini : Cond.initialized y.cls ∈ BIG)
    (hd : y.cls ≠ "java/lang/invoke/MethodHandle" ∧ y.cls ≠ "java/lang/invoke/VarHandle" ∧ (parseMethodDescriptor y.desc).map (fun d => d.parameters.length) = some n) (hR : rm.frames + 1 ≤ R.frames ∧ 8 + (maxL + 11) + rm.locals ≤ R.locals) (hrc : rm.cells = 0) (hrs : rm.slots = 0) :
    CallB R s args own idx y bytes maxL ret (Cond.code y bytes maxL ret :: BIG) rm 0 0 n ∧ (Cond.static y).before args s = true :=
  ⟨callB_of n S.2.2.2.2 (big_cons hcode) rfl hrc hrs (S.2.2.2.2 _ hini) (S.2.2.2.2 _ hl) hd hR, S.2.2.2.2 _ hi⟩
theorem fP_recv (hK : Kp G s) (hP : va_P G.1 vwCl (fW L a E) H) (hi : i ∈ L) {ci N : Nat} {C : String} {T : u_T} {fs : List Value} (he : E i = .inr (ci, fs)) (hc : vwCl[ci]? = some (C, T, N)) : ∃ cell : Cell, H[a i]? = some cell ∧ cell.vm.isStatics = false ∧ s.vm.findClass C = some cell.cls := by
  obtain ⟨q0, -, h2⟩ := fW_get (a := a) (E := E) hi
  rw [he] at h2
  exact va_recv hK.1 hP hc h2
variable {y : MethodName} {bytes : ByteArray} {n maxL idx : Nat} {ret : Option FieldType} {ws : List Cond} {rm : Room} {P P' : Heap → Prop} {A0 A1 : Nat → Prop} {b : Nat} {As : List Value} {st : List Value}
theorem r_callI {v : Int32} (S : CallFix p m c cc nL s args BIG own) (hK : Kp G s) (hP : P H) (hM : Met l y ws rm (pcG G P (.ref b :: As)) (qcI G A1 P' v) 0 0 A1) (cw : CallW R s args own y.cls idx y bytes maxL ret ws rm 0 0 n) (hr : ∃ cell : Cell, H[b]? = some cell ∧ cell.vm.isStatics = false ∧ s.vm.findClass y.cls = some cell.cls)
    (hn : As.length = n) (hl : ls.size = nL) (hst : st = As.reverse ++ .ref b :: rest) (hW : (rest.map fun v => v.category).sum ≤ 8) (hdg : decode cc pc = .ok (.invokevirtual idx, 3)) (hc : cells ≤ R.cells ∧ slots ≤ R.slots) (hS : va_S A0 H0 H locs) (hA : ∀ q, A1 q → A0 q)
    (kk : ∀ (H1 : Heap) (locs1 : List Loc), P' H1 → (∀ q : Nat, q < H.size → ¬ A1 q → H1[q]? = H[q]?) → H.size ≤ H1.size → va_S A0 H0 H1 locs1 → W p l e R s m args below meth c H1 locs1 cells slots Q (F0 m (pc + 3) ls (.int v :: rest))) : W p l e R s m args below meth c H locs cells slots Q (F0 m pc ls st) := by
  subst hst
  refine va_calli (mc := 0) (ms := 0) (va_runV (As := As) (rest := rest) S hM cw ⟨pcG_blind, hr, fun U hU hW => ⟨rfl, by rw [hU]; exact hP, hK.warm hW⟩⟩ rfl hn hl rfl (lv_room hW) hdg hc) hS (fun q _ h => hA q h) hA (fun r u t H1 locs1 ht hvm hw hB hz hk hS1 => ?_)
  cases hw
  exact kk H1 locs1 (ht ▸ hB.1) hk hz hS1
theorem r_callV (S : CallFix p m c cc nL s args BIG own) (hK : Kp G s) (hP : P H) (hM : Met l y ws rm (pcG G P (.ref b :: As)) (qcV G A1 P') 0 0 A1) (cw : CallW R s args own y.cls idx y bytes maxL ret ws rm 0 0 n) (hr : ∃ cell : Cell, H[b]? = some cell ∧ cell.vm.isStatics = false ∧ s.vm.findClass y.cls = some cell.cls)
    (hn : As.length = n) (hl : ls.size = nL) (hst : st = As.reverse ++ .ref b :: rest) (hW : (rest.map fun v => v.category).sum ≤ 8) (hdg : decode cc pc = .ok (.invokevirtual idx, 3)) (hc : cells ≤ R.cells ∧ slots ≤ R.slots) (hS : va_S A0 H0 H locs) (hA : ∀ q, A1 q → A0 q)
    (kk : ∀ (H1 : Heap) (locs1 : List Loc), P' H1 → (∀ q : Nat, q < H.size → ¬ A1 q → H1[q]? = H[q]?) → H.size ≤ H1.size → va_S A0 H0 H1 locs1 → W p l e R s m args below meth c H1 locs1 cells slots Q (F0 m (pc + 3) ls rest)) : W p l e R s m args below meth c H locs cells slots Q (F0 m pc ls st) := by
  subst hst
  refine va_callv (mc := 0) (ms := 0) (va_runV (As := As) (rest := rest) S hM cw ⟨pcG_blind, hr, fun U hU hW => ⟨rfl, by rw [hU]; exact hP, hK.warm hW⟩⟩ rfl hn hl rfl (lv_room hW) hdg hc) hS (fun q _ h => hA q h) hA (fun u t H1 locs1 ht hvm hw hB hz hk hS1 => ?_)
  exact kk H1 locs1 (ht ▸ hB.1) hk hz hS1
theorem r_callQ {v : Option Nat} (S : CallFix p m c cc nL s args BIG own) (hK : Kp G s) (hP : P H) (hM : Met l y ws rm (pcG G P (.ref b :: As)) (qcQ G A1 P' v) 0 0 A1) (cw : CallW R s args own y.cls idx y bytes maxL ret ws rm 0 0 n) (hr : ∃ cell : Cell, H[b]? = some cell ∧ cell.vm.isStatics = false ∧ s.vm.findClass y.cls = some cell.cls)
    (hn : As.length = n) (hl : ls.size = nL) (hst : st = As.reverse ++ .ref b :: rest) (hW : (rest.map fun v => v.category).sum ≤ 8) (hdg : decode cc pc = .ok (.invokevirtual idx, 3)) (hc : cells ≤ R.cells ∧ slots ≤ R.slots) (hS : va_S A0 H0 H locs) (hA : ∀ q, A1 q → A0 q)
    (kk : ∀ (H1 : Heap) (locs1 : List Loc), P' H1 → (∀ q : Nat, q < H.size → ¬ A1 q → H1[q]? = H[q]?) → H.size ≤ H1.size → va_S A0 H0 H1 locs1 → W p l e R s m args below meth c H1 locs1 cells slots Q (F0 m (pc + 3) ls (va_rf v :: rest))) : W p l e R s m args below meth c H locs cells slots Q (F0 m pc ls st) := by
  subst hst
  refine va_callq (mc := 0) (ms := 0) (va_runV (As := As) (rest := rest) S hM cw ⟨pcG_blind, hr, fun U hU hW => ⟨rfl, by rw [hU]; exact hP, hK.warm hW⟩⟩ rfl hn hl rfl (lv_room hW) hdg hc) hS (fun q _ h => hA q h) hA (fun r u t H1 locs1 ht hvm hw hB hz hk hS1 => ?_)
  cases hw
  exact kk H1 locs1 (ht ▸ hB.1) hk hz hS1
theorem r_callS {v : Int32} (S : CallFix p m c cc nL s args BIG own) (hK : Kp G s) (hP : P H) (hM : Met l y ws rm (pcG G P As) (qcI G A1 P' v) 0 0 A1) (cw : CallB R s args own idx y bytes maxL ret ws rm 0 0 n ∧ (Cond.static y).before args s = true)
    (hn : As.length = n) (hl : ls.size = nL) (hst : st = As.reverse ++ rest) (hW : (rest.map fun v => v.category).sum ≤ 8) (hdg : decode cc pc = .ok (.invokestatic idx, 3)) (hc : cells ≤ R.cells ∧ slots ≤ R.slots) (hS : va_S A0 H0 H locs) (hA : ∀ q, A1 q → A0 q)
    (kk : ∀ (H1 : Heap) (locs1 : List Loc), P' H1 → (∀ q : Nat, q < H.size → ¬ A1 q → H1[q]? = H[q]?) → H.size ≤ H1.size → va_S A0 H0 H1 locs1 → W p l e R s m args below meth c H1 locs1 cells slots Q (F0 m (pc + 3) ls (.int v :: rest))) : W p l e R s m args below meth c H locs cells slots Q (F0 m pc ls st) := by
  subst hst
  refine va_calli (mc := 0) (ms := 0) (va_runS (As := As) (rest := rest) S hM cw ⟨pcG_blind, fun U hU hW => ⟨rfl, by rw [hU]; exact hP, hK.warm hW⟩⟩ rfl hn hl rfl (lv_room hW) hdg hc) hS (fun q _ h => hA q h) hA (fun r u t H1 locs1 ht hvm hw hB hz hk hS1 => ?_)
  cases hw
  exact kk H1 locs1 (ht ▸ hB.1) hk hz hS1
theorem r_callSN {v : Int32} {host : String} (S : CallFix p m c cc nL s args BIG own) (hK : Kp G s) (hP : P H) (hM : Met l y (Cond.code y bytes maxL ret :: BIG) rm (pcG G P As) (qcI G A1 P' v) 0 0 A1) (hcode : Cond.code y bytes maxL ret ∈ BIG) (hnest : va_Nw (.methodLinkNest own idx y host) s) (hst0 : Cond.static y ∈ BIG) (hini : Cond.initialized y.cls ∈ BIG)
    (hd : y.cls ≠ "java/lang/invoke/MethodHandle" ∧ y.cls ≠ "java/lang/invoke/VarHandle" ∧ (parseMethodDescriptor y.desc).map (fun d => d.parameters.length) = some n) (hR : rm.frames + 1 ≤ R.frames ∧ 8 + (maxL + 11) + rm.locals ≤ R.locals) (hrc : rm.cells = 0) (hrs : rm.slots = 0)
    (hn : As.length = n) (hl : ls.size = nL) (hst : st = As.reverse ++ rest) (hW : (rest.map fun v => v.category).sum ≤ 8) (hdg : decode cc pc = .ok (.invokestatic idx, 3)) (hc : cells ≤ R.cells ∧ slots ≤ R.slots) (hS : va_S A0 H0 H locs) (hA : ∀ q, A1 q → A0 q)
    (kk : ∀ (H1 : Heap) (locs1 : List Loc), P' H1 → (∀ q : Nat, q < H.size → ¬ A1 q → H1[q]? = H[q]?) → H.size ≤ H1.size → va_S A0 H0 H1 locs1 → W p l e R s m args below meth c H1 locs1 cells slots Q (F0 m (pc + 3) ls (.int v :: rest))) : W p l e R s m args below meth c H locs cells slots Q (F0 m pc ls st) := by
  subst hst
  refine va_calli (mc := 0) (ms := 0) (va_runSN (As := As) (rest := rest) S hM ⟨va_cnB n S.2.2.2.2 (big_cons hcode) rfl hrc hrs hnest (S.2.2.2.2 _ hini) hd hR, S.2.2.2.2 _ hst0, trivial⟩ ⟨pcG_blind, fun U hU hW => ⟨rfl, by rw [hU]; exact hP, hK.warm hW⟩⟩ rfl hn hl rfl (lv_room hW) hdg hc) hS (fun q _ h => hA q h) hA (fun r u t H1 locs1 ht hvm hw hB hz hk hS1 => ?_)
  cases hw
  exact kk H1 locs1 (ht ▸ hB.1) hk hz hS1
/-- ends -/
theorem e_int {v v' : Int32} {ty : FieldType} (S : CallFix p m c cc nL s args BIG own) (hr : meth.sig.returnType = some ty) (hk : meth.locks = false) (hty : narrow ty (.int v) = .int v) (hK : Kp G s) (hS : va_S A s.heap H locs) (hP : P' H) (hv : v = v') (hdg : decode cc pc = .ok (.ireturn, 1)) : W p l e R s m args below meth c H locs cells slots (MQ below (qcI G A P' v') args s cells slots A) (F0 m pc ls [.int v]) :=
  W.zret S.1 S.2.1 hr hty (fun t ht hW => ⟨⟨v, (), rfl, hv, by rw [ht]; exact hP, hK.warm hW⟩, hS.F ht⟩) hS.2.2 hdg hk
theorem e_void (S : CallFix p m c cc nL s args BIG own) (hr : meth.sig.returnType = none) (hk : meth.locks = false) (hK : Kp G s) (hS : va_S A s.heap H locs) (hP : P' H) (hdg : decode cc pc = .ok (.return_, 1)) : W p l e R s m args below meth c H locs cells slots (MQ below (qcV G A P') args s cells slots A) (F0 m pc ls []) :=
  W.vret S.1 S.2.1 hr (fun t ht hW => ⟨⟨(), rfl, trivial, by rw [ht]; exact hP, hK.warm hW⟩, hS.F ht⟩) hS.2.2 hdg hk
theorem e_ref {v v' : Option Nat} {rt : FieldType} (S : CallFix p m c cc nL s args BIG own) (hr : meth.sig.returnType = some rt) (hrt : (∃ n, rt = .object n) ∨ ∃ t, rt = .array t) (hk : meth.locks = false) (hK : Kp G s) (hS : va_S A s.heap H locs) (hP : P' H) (hv : v = v') (hdg : decode cc pc = .ok (.areturn, 1)) : W p l e R s m args below meth c H locs cells slots (MQ below (qcQ G A P' v') args s cells slots A) (F0 m pc ls [va_rf v]) :=
  W.aret S.1 S.2.1 hr hrt (by cases v with | none => exact Or.inl rfl | some a => exact Or.inr ⟨a, rfl⟩) (fun t ht hW => ⟨⟨v, (), rfl, hv, by rw [ht]; exact hP, hK.warm hW⟩, hS.F ht⟩) hS.2.2 hdg hk
end RW
/-! worlds of numbered cells: cell i holds C i (M i); M: the numbers -/
def up (M : Nat → Nat → Int32) (i k : Nat) (v : Int32) : Nat → Nat → Int32 := fun i' k' => if i' = i ∧ k' = k then v else M i' k'
theorem up_same {M : Nat → Nat → Int32} {i k : Nat} {v : Int32} : up M i k v i k = v := if_pos ⟨rfl, rfl⟩
theorem up_nk {M : Nat → Nat → Int32} {i k k' : Nat} {v : Int32} (h : k' ≠ k) : up M i k v i k' = M i k' := if_neg (fun z => h z.2)
theorem up_ni {M : Nat → Nat → Int32} {i k i' k' : Nat} {v : Int32} (h : i' ≠ i) : up M i k v i' k' = M i' k' := if_neg (fun z => h z.1)
theorem up_oi {M : Nat → Nat → Int32} {i k i' : Nat} {v : Int32} (h : i' ≠ i) : up M i k v i' = M i' := funext fun _ => up_ni h
theorem up_row {M : Nat → Nat → Int32} {i k : Nat} {v : Int32} : up M i k v i = upd (M i) k v := by
  funext k'
  by_cases h : k' = k
  · subst h; simp [up, upd]
  · simp [up, upd, h]
theorem vp_lo1 {x : Int32} (h : ¬ x < 0) : 0 ≤ x.toInt := by
  have := Int32.not_lt.mp h
  simpa using Int32.le_iff_toInt_le.mp this
theorem vp_lo2 {x : Int32} (h : 0 ≤ x) : 0 ≤ x.toInt := by simpa using Int32.le_iff_toInt_le.mp h
theorem vp_hi2 {x N : Int32} {n n' : Nat} (h : x < N) (hN : N.toInt = n) (hn : n ≤ n') : x.toInt < n' := by
  have := Int32.lt_iff_toInt_lt.mp h
  omega
theorem vp_hi1 {x N : Int32} {n n' : Nat} (h : ¬ N ≤ x) (hN : N.toInt = n) (hn : n ≤ n') : x.toInt < n' := vp_hi2 (Int32.not_le.mp h) hN hn
theorem vp_of {x : Int32} {n : Nat} (h1 : 0 ≤ x.toInt) (h2 : x.toInt < n) : vp_in x n := vp_in_iff.mpr ⟨h1, h2⟩
theorem vp_lt {x : Int32} {n : Nat} (h : vp_in x n) : x.toNatClampNeg < n := Nat.not_le.mp fun q => h (Or.inr q)
theorem vp_nI {x : Int32} {n : Nat} (h : vp_in x n) : x = nI x.toNatClampNeg := by
  obtain ⟨h1, -⟩ := vp_in_iff.mp h
  obtain ⟨j, hj, rfl⟩ := nI_of (x := x) (fun z => h (Or.inl z))
  rw [nI_clamp hj]
theorem vp_pos {x : Int32} (h : 0 < x) : ¬ x = 0 := fun z => absurd h (by rw [z]; decide)
theorem vp_pos2 {x : Int32} (h : ¬ x ≤ 0) : ¬ x = 0 := fun z => h (by rw [z]; decide)
theorem pI : parseFieldDescriptor "I" = some .int := by decide +kernel
theorem pZ : parseFieldDescriptor "Z" = some .boolean := by decide +kernel
def oel {α : Type} (o : Option Nat) (x : α) (f : Nat → α) : α := match o with
  | none => x
  | some j => f j
theorem oel_n {α : Type} {o : Option Nat} {x : α} {f : Nat → α} (h : o = none) : oel o x f = x := by rw [h]; rfl
theorem oel_s {α : Type} {o : Option Nat} {j : Nat} {x : α} {f : Nat → α} (h : o = some j) : oel o x f = f j := by rw [h]; rfl
theorem z_0 : narrow .boolean (.int (0 : Int32)) = .int (0 : Int32) := rfl
theorem z_1 : narrow .boolean (.int (1 : Int32)) = .int (1 : Int32) := rfl
theorem z_ite {c : Prop} [Decidable c] {x y : Int32} (hx : narrow .boolean (.int x) = .int x) (hy : narrow .boolean (.int y) = .int y) : narrow .boolean (.int (if c then x else y)) = .int (if c then x else y) := by
  split
  · exact hx
  · exact hy
theorem z_oel {o : Option Nat} {x : Int32} {f : Nat → Int32} (hx : narrow .boolean (.int x) = .int x) (hf : ∀ j, narrow .boolean (.int (f j)) = .int (f j)) : narrow .boolean (.int (oel o x f)) = .int (oel o x f) := by
  cases o with
  | none => exact hx
  | some j => exact hf j
abbrev cF : Type := Nat → (Nat → Int32) → va_E
abbrev gP (G : kG) (n : Nat) (a : Nat → Nat) (C : cF) (M : Nat → Nat → Int32) (H : Heap) : Prop := va_P G.1 vwCl (fW (List.range n) a (fun i => C i (M i))) H
abbrev gI (n : Nat) (a : Nat → Nat) : Prop := fI (List.range n) a
abbrev gA (n : Nat) (a : Nat → Nat) : Nat → Prop := fA (List.range n) a
theorem gP_eq {G : kG} {n : Nat} {a : Nat → Nat} {C : cF} {M M' : Nat → Nat → Int32} {H : Heap} (h : M' = M) (hP : gP G n a C M H) : gP G n a C M' H := h ▸ hP
theorem rng_get {n k : Nat} {f : Nat → Value} (hk : k < n) : ((List.range n).map f)[k]? = some (f k) := by simp [hk]
theorem rng_set {n k : Nat} {f f' : Nat → Value} {v : Value} (hk : k < n) (h1 : f' k = v) (h2 : ∀ q, q ≠ k → f' q = f q) : ((List.range n).map f).set k v = (List.range n).map f' := by
  apply List.ext_getElem?
  intro q
  by_cases hq : q = k
  · subst hq
    rw [List.getElem?_set_self (by simpa using hk)]
    simp [hk, h1]
  · rw [List.getElem?_set_ne (Ne.symm hq)]
    by_cases hn : q < n
    · simp [hn, h2 q hq]
    · simp [hn]
section GW
variable {p : Program} {l : Launch} {e : Env} {R : Room} {s : State} {m : MethodId} {args : Array Value} {below : List Frame} {meth : Method} {c : Code} {H : Heap} {locs : List Loc} {cells slots : Nat} {Q : State → Prop}
variable {cc : ByteArray} {pc nL : Nat} {own : String} {ls : Array Slot} {rest : List Value} {G : kG} {A : Nat → Prop} {H0 : Heap}
variable {nC : Nat} {a : Nat → Nat} {C : cF} {M : Nat → Nat → Int32} {i : Nat}
theorem r_top {x v : Int32} (h : x = v) (kk : W p l e R s m args below meth c H locs cells slots Q (F0 m pc ls (.int v :: rest))) : W p l e R s m args below meth c H locs cells slots Q (F0 m pc ls (.int x :: rest)) := h ▸ kk
theorem g_get (S : CallFix p m c cc nL s args BIG own) (hK : Kp G s) (hP : gP G nC a C M H) (hi : i < nC) {ci N : Nat} {Cn : String} {T : u_T} {F : (Nat → Int32) → Nat → Value} (he : ∀ x, C i x = .inr (ci, (List.range N).map (F x))) (hc : vwCl[ci]? = some (Cn, T, N)) (hin : ∀ w ∈ u_ws Cn T N, w ∈ BIG) (k : Nat) (hk : k < N) {index : Nat} (hlink : Cond.fieldLink own index (T k).1 (T k).2.1 (T k).2.2.1 ∈ BIG) {v : Value} (hv : F (M i) k = v) (hdg : decode cc pc = .ok (.getfield index, 3))
    (kk : W p l e R s m args below meth c H locs cells slots Q (F0 m (pc + 3) ls (v :: rest))) : W p l e R s m args below meth c H locs cells slots Q (F0 m pc ls (.ref (a i) :: rest)) :=
  r_get S hK hP (List.mem_range.mpr hi) (he (M i)) hc hin k hk hlink (by rw [rng_get hk, hv]) hdg kk
theorem g_put (S : CallFix p m c cc nL s args BIG own) (hK : Kp G s) (hP : gP G nC a C M H) (hI : gI nC a) (hS : va_S (gA nC a) H0 H locs) (hi : i < nC) {ci N : Nat} {Cn : String} {T : u_T} {F : (Nat → Int32) → Nat → Value} (he : ∀ x, C i x = .inr (ci, (List.range N).map (F x))) (hc : vwCl[ci]? = some (Cn, T, N)) (hin : ∀ w ∈ u_ws Cn T N, w ∈ BIG) (ty0 : Nat → FieldType) (hty : ∀ k, k < N → parseFieldDescriptor (T k).2.2.1 = some (ty0 k)) (hnm : ∀ a, a < N → ∀ b, b < N → a ≠ b → (T a).2.1 ≠ (T b).2.1) (hFn : ∀ x x' q, x q = x' q → F x q = F x' q) (k : Nat) (hk : k < N) {index : Nat} (hlink : Cond.fieldLink own index (T k).1 (T k).2.1 (T k).2.2.1 ∈ BIG) (hfin : (T k).2.2.2 = false) {ty : FieldType} {v : Int32} (hd : parseFieldDescriptor (T k).2.2.1 = some ty) (hn : narrow ty (.int v) = .int v) (hfit : fits ty (.int v) = true) (hv : ∀ x, F x k = .int (x k)) (hdg : decode cc pc = .ok (.putfield index, 3))
    (kk : ∀ (H1 : Heap) (locs1 : List Loc), gP G nC a C (up M i k v) H1 → va_S (gA nC a) H0 H1 locs1 → W p l e R s m args below meth c H1 locs1 cells slots Q (F0 m (pc + 3) ls rest)) : W p l e R s m args below meth c H locs cells slots Q (F0 m pc ls (.int v :: .ref (a i) :: rest)) := by
  refine r_put S hK hP hI hS (List.mem_range.mpr hi) (he (M i)) hc hin ty0 hty hnm k hk hlink hfin hd hn hfit (by simpa using hk) hdg (E' := fun j => C j (up M i k v j)) ?_ ?_ kk
  · show C i (up M i k v i) = _
    rw [he, rng_set hk (f' := F (up M i k v i)) (by rw [hv, up_same]) (fun q hq => hFn _ _ q (up_nk hq))]
  · intro j hj
    show C j (up M i k v j) = C j (M j)
    rw [up_oi hj]
theorem g_ald {v : Int32} (S : CallFix p m c cc nL s args BIG own) (hK : Kp G s) (hP : gP G nC a C M H) (hi : i < nC) {N : Nat} (he : ∀ x, C i x = .inl (G.2.1, N, .inl x)) {x : Int32} (hin : vp_in x N) (hv : M i x.toNatClampNeg = v) (hdg : decode cc pc = .ok (.iaload, 1))
    (kk : W p l e R s m args below meth c H locs cells slots Q (F0 m (pc + 1) ls (.int v :: rest))) : W p l e R s m args below meth c H locs cells slots Q (F0 m pc ls (.int x :: .ref (a i) :: rest)) := by
  subst hv
  exact r_iald S hK hP (List.mem_range.mpr hi) (he (M i)) hin hdg kk
theorem g_aldN {v : Int32} (S : CallFix p m c cc nL s args BIG own) (hK : Kp G s) (hP : gP G nC a C M H) (hi : i < nC) {N : Nat} (he : ∀ x, C i x = .inl (G.2.1, N, .inl x)) {k : Nat} (hk : k < N) (hN : N < 2 ^ 31) (hv : M i k = v) (hdg : decode cc pc = .ok (.iaload, 1))
    (kk : W p l e R s m args below meth c H locs cells slots Q (F0 m (pc + 1) ls (.int v :: rest))) : W p l e R s m args below meth c H locs cells slots Q (F0 m pc ls (.int (nI k) :: .ref (a i) :: rest)) := by
  refine g_ald S hK hP hi he (vp_in_nI hk hN) rfl hdg ?_
  rw [nI_clamp (Nat.lt_trans hk hN), hv]
  exact kk
theorem g_cald {v : Int32} (S : CallFix p m c cc nL s args BIG own) (hK : Kp G s) (hP : gP G nC a C M H) (hi : i < nC) {N : Nat} (he : ∀ x, C i x = .inl (G.2.2.1, N, .inl x)) {x : Int32} (hin : vp_in x N) (hv : M i x.toNatClampNeg = v) (hdg : decode cc pc = .ok (.caload, 1))
    (kk : W p l e R s m args below meth c H locs cells slots Q (F0 m (pc + 1) ls (.int v :: rest))) : W p l e R s m args below meth c H locs cells slots Q (F0 m pc ls (.int x :: .ref (a i) :: rest)) := by
  subst hv
  exact r_cald S hK hP (List.mem_range.mpr hi) (he (M i)) hin hdg kk
theorem g_caldN {v : Int32} (S : CallFix p m c cc nL s args BIG own) (hK : Kp G s) (hP : gP G nC a C M H) (hi : i < nC) {N : Nat} (he : ∀ x, C i x = .inl (G.2.2.1, N, .inl x)) {k : Nat} (hk : k < N) (hN : N < 2 ^ 31) (hv : M i k = v) (hdg : decode cc pc = .ok (.caload, 1))
    (kk : W p l e R s m args below meth c H locs cells slots Q (F0 m (pc + 1) ls (.int v :: rest))) : W p l e R s m args below meth c H locs cells slots Q (F0 m pc ls (.int (nI k) :: .ref (a i) :: rest)) := by
  refine g_cald S hK hP hi he (vp_in_nI hk hN) rfl hdg ?_
  rw [nI_clamp (Nat.lt_trans hk hN), hv]
  exact kk
theorem g_ast (S : CallFix p m c cc nL s args BIG own) (hK : Kp G s) (hP : gP G nC a C M H) (hI : gI nC a) (hS : va_S (gA nC a) H0 H locs) (hi : i < nC) {N : Nat} (he : ∀ x, C i x = .inl (G.2.1, N, .inl x)) {x v : Int32} (hin : vp_in x N) (hdg : decode cc pc = .ok (.iastore, 1))
    (kk : ∀ (H1 : Heap) (locs1 : List Loc), gP G nC a C (up M i x.toNatClampNeg v) H1 → va_S (gA nC a) H0 H1 locs1 → W p l e R s m args below meth c H1 locs1 cells slots Q (F0 m (pc + 1) ls rest)) : W p l e R s m args below meth c H locs cells slots Q (F0 m pc ls (.int v :: .int x :: .ref (a i) :: rest)) := by
  refine r_iast S hK hP hI hS (List.mem_range.mpr hi) (he (M i)) hin hdg (E' := fun j => C j (up M i x.toNatClampNeg v j)) ?_ ?_ kk
  · show C i (up M i x.toNatClampNeg v i) = _
    rw [he, up_row]
  · intro j hj
    show C j (up M i x.toNatClampNeg v j) = C j (M j)
    rw [up_oi hj]
theorem g_astN (S : CallFix p m c cc nL s args BIG own) (hK : Kp G s) (hP : gP G nC a C M H) (hI : gI nC a) (hS : va_S (gA nC a) H0 H locs) (hi : i < nC) {N : Nat} (he : ∀ x, C i x = .inl (G.2.1, N, .inl x)) {k : Nat} {v : Int32} (hk : k < N) (hN : N < 2 ^ 31) (hdg : decode cc pc = .ok (.iastore, 1))
    (kk : ∀ (H1 : Heap) (locs1 : List Loc), gP G nC a C (up M i k v) H1 → va_S (gA nC a) H0 H1 locs1 → W p l e R s m args below meth c H1 locs1 cells slots Q (F0 m (pc + 1) ls rest)) : W p l e R s m args below meth c H locs cells slots Q (F0 m pc ls (.int v :: .int (nI k) :: .ref (a i) :: rest)) := by
  refine g_ast S hK hP hI hS hi he (vp_in_nI hk hN) hdg ?_
  rw [nI_clamp (Nat.lt_trans hk hN)]
  exact kk
theorem g_cast (S : CallFix p m c cc nL s args BIG own) (hK : Kp G s) (hP : gP G nC a C M H) (hI : gI nC a) (hS : va_S (gA nC a) H0 H locs) (hi : i < nC) {N : Nat} (he : ∀ x, C i x = .inl (G.2.2.1, N, .inl x)) {x v : Int32} (hin : vp_in x N) (hv : vp_nar .char v = v) (hdg : decode cc pc = .ok (.castore, 1))
    (kk : ∀ (H1 : Heap) (locs1 : List Loc), gP G nC a C (up M i x.toNatClampNeg v) H1 → va_S (gA nC a) H0 H1 locs1 → W p l e R s m args below meth c H1 locs1 cells slots Q (F0 m (pc + 1) ls rest)) : W p l e R s m args below meth c H locs cells slots Q (F0 m pc ls (.int v :: .int x :: .ref (a i) :: rest)) := by
  refine r_cast S hK hP hI hS (List.mem_range.mpr hi) (he (M i)) hin hdg (E' := fun j => C j (up M i x.toNatClampNeg v j)) ?_ ?_ kk
  · show C i (up M i x.toNatClampNeg v i) = _
    rw [he, up_row, hv]
  · intro j hj
    show C j (up M i x.toNatClampNeg v j) = C j (M j)
    rw [up_oi hj]
theorem g_alen (S : CallFix p m c cc nL s args BIG own) (hK : Kp G s) (hP : gP G nC a C M H) (hi : i < nC) {cA : ClassId} {x : vp_A} (he : C i (M i) = .inl (cA, x)) (t0 : Nat) {ty : FieldType} (ht : (kT G.2.1 G.2.2.1 G.2.2.2.1 G.2.2.2.2)[t0]? = some (cA, ty)) {v : Int32} (hv : Int32.ofNat x.1 = v) (hdg : decode cc pc = .ok (.arraylength, 1))
    (kk : W p l e R s m args below meth c H locs cells slots Q (F0 m (pc + 1) ls (.int v :: rest))) : W p l e R s m args below meth c H locs cells slots Q (F0 m pc ls (.ref (a i) :: rest)) :=
  r_alen S hK hP (List.mem_range.mpr hi) he t0 ht hv hdg kk
theorem g_bald (S : CallFix p m c cc nL s args BIG own) (hK : Kp G s) (hP : gP G nC a C M H) (hi : i < nC) {N : Nat} {f : Nat → Option Nat} (he : ∀ x, C i x = .inl (G.2.2.2.1, N, .inr (.inr (.inr (.inr f))))) {k : Nat} (hk : k < N) (hN : N < 2 ^ 31) {v : Value} (hv : va_rf (f k) = v) (hdg : decode cc pc = .ok (.aaload, 1))
    (kk : W p l e R s m args below meth c H locs cells slots Q (F0 m (pc + 1) ls (v :: rest))) : W p l e R s m args below meth c H locs cells slots Q (F0 m pc ls (.int (nI k) :: .ref (a i) :: rest)) := by
  refine r_bald S hK hP (List.mem_range.mpr hi) (he (M i)) (vp_in_nI hk hN) hdg ?_
  rw [nI_clamp (Nat.lt_trans hk hN), hv]
  exact kk
theorem g_baldI (S : CallFix p m c cc nL s args BIG own) (hK : Kp G s) (hP : gP G nC a C M H) (hi : i < nC) {N : Nat} {f : Nat → Option Nat} (he : ∀ x, C i x = .inl (G.2.2.2.1, N, .inr (.inr (.inr (.inr f))))) {x : Int32} (hin : vp_in x N) {v : Value} (hv : va_rf (f x.toNatClampNeg) = v) (hdg : decode cc pc = .ok (.aaload, 1))
    (kk : W p l e R s m args below meth c H locs cells slots Q (F0 m (pc + 1) ls (v :: rest))) : W p l e R s m args below meth c H locs cells slots Q (F0 m pc ls (.int x :: .ref (a i) :: rest)) := by
  refine r_bald S hK hP (List.mem_range.mpr hi) (he (M i)) hin hdg ?_
  rw [hv]
  exact kk
theorem r_opt {o : Option Nat} {f : Nat → Nat} (hn : o = none → W p l e R s m args below meth c H locs cells slots Q (F0 m pc ls (.null :: rest))) (hs : ∀ j : Nat, o = some j → W p l e R s m args below meth c H locs cells slots Q (F0 m pc ls (.ref (f j) :: rest))) : W p l e R s m args below meth c H locs cells slots Q (F0 m pc ls (va_rf (o.map f) :: rest)) := by
  cases h : o with
  | none => exact hn h
  | some j => exact hs j h
theorem g_recv (hK : Kp G s) (hP : gP G nC a C M H) (hi : i < nC) {ci N : Nat} {Cn : String} {T : u_T} {fs : (Nat → Int32) → List Value} (he : ∀ x, C i x = .inr (ci, fs x)) (hc : vwCl[ci]? = some (Cn, T, N)) : ∃ cell : Cell, H[a i]? = some cell ∧ cell.vm.isStatics = false ∧ s.vm.findClass Cn = some cell.cls :=
  fP_recv hK hP (List.mem_range.mpr hi) (he (M i)) hc
/-- another answer, another end, that are the same -/
theorem q_eqI {M M' : Nat → Nat → Int32} {v v' : Int32} {g : JFrame} {mc ms : Nat} {free : Addr → Prop} (hv : v' = v) (hM : M' = M) (kk : W p l e R s m args below meth c H locs cells slots (MQ below (qcI G A (gP G nC a C M) v) args s mc ms free) g) : W p l e R s m args below meth c H locs cells slots (MQ below (qcI G A (gP G nC a C M') v') args s mc ms free) g := by
  subst hv; subst hM; exact kk
theorem q_eqV {M M' : Nat → Nat → Int32} {g : JFrame} {mc ms : Nat} {free : Addr → Prop} (hM : M' = M) (kk : W p l e R s m args below meth c H locs cells slots (MQ below (qcV G A (gP G nC a C M)) args s mc ms free) g) : W p l e R s m args below meth c H locs cells slots (MQ below (qcV G A (gP G nC a C M')) args s mc ms free) g := by
  subst hM; exact kk
end GW
theorem gA_self {n : Nat} {a : Nat → Nat} : ∀ q, gA n a q → gA n a q := fun _ h => h
/-! the world of a book: 0 the object, 1 its row of bills, 2 credits, 3 taxPaid, 4 taxClosed, 5 settings, 6 their values, j + 7 bill j -/
def bF (a : Nat → Nat) (x : Nat → Int32) : Nat → Value := fun k => match k with
  | 0 => .ref (a 1)
  | 1 => .ref (a 2)
  | 2 => .ref (a 3)
  | 3 => .ref (a 4)
  | 4 => .ref (a 5)
  | q => .int (x q)
def iF (x : Nat → Int32) : Nat → Value := fun k => .int (x k)
def bC (G : kG) (a : Nat → Nat) : cF := fun i x => match i with
  | 0 => .inr (1, (List.range 8).map (bF a x))
  | 1 => .inl (G.2.2.2.1, 40, .inr (.inr (.inr (.inr (fun j => some (a (j + 7)))))))
  | 2 => .inl (G.2.1, 8, .inl x)
  | 3 => .inl (G.2.1, 100, .inl x)
  | 4 => .inl (G.2.1, 100, .inl x)
  | 5 => .inr (3, (List.range 1).map (fun _ => .ref (a 6)))
  | 6 => .inl (G.2.1, 5, .inl x)
  | _ => .inr (0, (List.range 14).map (iF x))
theorem bC0 {G : kG} {a : Nat → Nat} (x : Nat → Int32) : bC G a 0 x = .inr (1, (List.range 8).map (bF a x)) := rfl
theorem bC1 {G : kG} {a : Nat → Nat} (x : Nat → Int32) : bC G a 1 x = .inl (G.2.2.2.1, 40, .inr (.inr (.inr (.inr (fun j => some (a (j + 7))))))) := rfl
theorem bC2 {G : kG} {a : Nat → Nat} (x : Nat → Int32) : bC G a 2 x = .inl (G.2.1, 8, .inl x) := rfl
theorem bC3 {G : kG} {a : Nat → Nat} (x : Nat → Int32) : bC G a 3 x = .inl (G.2.1, 100, .inl x) := rfl
theorem bC4 {G : kG} {a : Nat → Nat} (x : Nat → Int32) : bC G a 4 x = .inl (G.2.1, 100, .inl x) := rfl
theorem bC5 {G : kG} {a : Nat → Nat} (x : Nat → Int32) : bC G a 5 x = .inr (3, (List.range 1).map ((fun _ _ => .ref (a 6) : (Nat → Int32) → Nat → Value) x)) := rfl
theorem bC6 {G : kG} {a : Nat → Nat} (x : Nat → Int32) : bC G a 6 x = .inl (G.2.1, 5, .inl x) := rfl
theorem bC7 {G : kG} {a : Nat → Nat} {j : Nat} (x : Nat → Int32) : bC G a (j + 7) x = .inr (0, (List.range 14).map (iF x)) := rfl
theorem bF_n {a : Nat → Nat} (x x' : Nat → Int32) (q : Nat) (h : x q = x' q) : bF a x q = bF a x' q := by
  unfold bF
  split <;> first | rfl | rw [h]
theorem iF_n (x x' : Nat → Int32) (q : Nat) (h : x q = x' q) : iF x q = iF x' q := by
  unfold iF
  rw [h]
abbrev bP (G : kG) (a : Nat → Nat) (b : Nat → Nat → Int32) (H : Heap) : Prop := gP G 47 a (bC G a) b H
/-! the world of a text: 0 the object, 1 its signs -/
def tF (a : Nat → Nat) (x : Nat → Int32) : Nat → Value := fun k => match k with
  | 0 => .ref (a 1)
  | q => .int (x q)
def tC (G : kG) (a : Nat → Nat) : cF := fun i x => match i with
  | 0 => .inr (4, (List.range 9).map (tF a x))
  | _ => .inl (G.2.2.1, 60, .inl x)
theorem tC0 {G : kG} {a : Nat → Nat} (x : Nat → Int32) : tC G a 0 x = .inr (4, (List.range 9).map (tF a x)) := rfl
theorem tC1 {G : kG} {a : Nat → Nat} (x : Nat → Int32) : tC G a 1 x = .inl (G.2.2.1, 60, .inl x) := rfl
theorem tF_n {a : Nat → Nat} (x x' : Nat → Int32) (q : Nat) (h : x q = x' q) : tF a x q = tF a x' q := by
  unfold tF
  split <;> first | rfl | rw [h]
abbrev tP (G : kG) (a : Nat → Nat) (t : Nat → Nat → Int32) (H : Heap) : Prop := gP G 2 a (tC G a) t H
/-! the world of the reference: 0 the object, 1 s, 2 aside, 3 ahead, 4 snapshot, 5 before, 6 text, 7 thing -/
def mF (a : Nat → Nat) (x : Nat → Int32) : Nat → Value := fun k => match k with
  | 0 => .ref (a 1)
  | 1 => .ref (a 2)
  | 2 => .ref (a 3)
  | 3 => .ref (a 4)
  | 5 => .ref (a 5)
  | 7 => .ref (a 6)
  | 13 => .ref (a 7)
  | q => .int (x q)
def mC (G : kG) (a : Nat → Nat) : cF := fun i x => match i with
  | 0 => .inr (6, (List.range 15).map (mF a x))
  | 1 => .inl (G.2.1, 713, .inl x)
  | 2 => .inl (G.2.1, 713, .inl x)
  | 3 => .inl (G.2.1, 713, .inl x)
  | 4 => .inl (G.2.1, 713, .inl x)
  | 5 => .inl (G.2.1, 2852, .inl x)
  | 6 => .inl (G.2.1, 60, .inl x)
  | _ => .inl (G.2.1, 5, .inl x)
theorem mC0 {G : kG} {a : Nat → Nat} (x : Nat → Int32) : mC G a 0 x = .inr (6, (List.range 15).map (mF a x)) := rfl
theorem mC1 {G : kG} {a : Nat → Nat} (x : Nat → Int32) : mC G a 1 x = .inl (G.2.1, 713, .inl x) := rfl
theorem mC2 {G : kG} {a : Nat → Nat} (x : Nat → Int32) : mC G a 2 x = .inl (G.2.1, 713, .inl x) := rfl
theorem mC3 {G : kG} {a : Nat → Nat} (x : Nat → Int32) : mC G a 3 x = .inl (G.2.1, 713, .inl x) := rfl
theorem mC4 {G : kG} {a : Nat → Nat} (x : Nat → Int32) : mC G a 4 x = .inl (G.2.1, 713, .inl x) := rfl
theorem mC5 {G : kG} {a : Nat → Nat} (x : Nat → Int32) : mC G a 5 x = .inl (G.2.1, 2852, .inl x) := rfl
theorem mC6 {G : kG} {a : Nat → Nat} (x : Nat → Int32) : mC G a 6 x = .inl (G.2.1, 60, .inl x) := rfl
theorem mC7 {G : kG} {a : Nat → Nat} (x : Nat → Int32) : mC G a 7 x = .inl (G.2.1, 5, .inl x) := rfl
theorem mF_n {a : Nat → Nat} (x x' : Nat → Int32) (q : Nat) (h : x q = x' q) : mF a x q = mF a x' q := by
  unfold mF
  split <;> first | rfl | rw [h]
abbrev mP (G : kG) (a : Nat → Nat) (m : Nat → Nat → Int32) (H : Heap) : Prop := gP G 8 a (mC G a) m H
end
section
theorem ch_1 : ∀ w, w ∈ wsL_law_r1 → w ∈ BIG := fun w h => List.mem_append_left _ (List.mem_append_left _ (List.mem_append_left _ (List.mem_append_left _ (List.mem_append_left _ (List.mem_append_left _ (List.mem_append_left _ (List.mem_append_left _ (List.mem_append_left _ h))))))))
theorem ch_2 : ∀ w, w ∈ wsL_law_r2 → w ∈ BIG := fun w h => List.mem_append_left _ (List.mem_append_left _ (List.mem_append_left _ (List.mem_append_left _ (List.mem_append_left _ (List.mem_append_left _ (List.mem_append_left _ (List.mem_append_left _ (List.mem_append_right _ (List.mem_append_left _ h)))))))))
theorem ch_3 : ∀ w, w ∈ wsL_law_r3 → w ∈ BIG := fun w h => List.mem_append_left _ (List.mem_append_left _ (List.mem_append_left _ (List.mem_append_left _ (List.mem_append_left _ (List.mem_append_left _ (List.mem_append_left _ (List.mem_append_left _ (List.mem_append_right _ (List.mem_append_right _ (List.mem_append_left _ h))))))))))
theorem ch_4 : ∀ w, w ∈ wsL_law_r4 → w ∈ BIG := fun w h => List.mem_append_left _ (List.mem_append_left _ (List.mem_append_left _ (List.mem_append_left _ (List.mem_append_left _ (List.mem_append_left _ (List.mem_append_left _ (List.mem_append_left _ (List.mem_append_right _ (List.mem_append_right _ (List.mem_append_right _ (List.mem_append_left _ h)))))))))))
theorem ch_5 : ∀ w, w ∈ wsL_law_r5 → w ∈ BIG := fun w h => List.mem_append_left _ (List.mem_append_left _ (List.mem_append_left _ (List.mem_append_left _ (List.mem_append_left _ (List.mem_append_left _ (List.mem_append_left _ (List.mem_append_left _ (List.mem_append_right _ (List.mem_append_right _ (List.mem_append_right _ (List.mem_append_right _ (List.mem_append_left _ h))))))))))))
theorem ch_6 : ∀ w, w ∈ wsL_law_r6 → w ∈ BIG := fun w h => List.mem_append_left _ (List.mem_append_left _ (List.mem_append_left _ (List.mem_append_left _ (List.mem_append_left _ (List.mem_append_left _ (List.mem_append_left _ (List.mem_append_left _ (List.mem_append_right _ (List.mem_append_right _ (List.mem_append_right _ (List.mem_append_right _ (List.mem_append_right _ (List.mem_append_left _ h)))))))))))))
theorem ch_7 : ∀ w, w ∈ wsL_law_r7 → w ∈ BIG := fun w h => List.mem_append_left _ (List.mem_append_left _ (List.mem_append_left _ (List.mem_append_left _ (List.mem_append_left _ (List.mem_append_left _ (List.mem_append_left _ (List.mem_append_left _ (List.mem_append_right _ (List.mem_append_right _ (List.mem_append_right _ (List.mem_append_right _ (List.mem_append_right _ (List.mem_append_right _ (List.mem_append_left _ h))))))))))))))
theorem ch_8 : ∀ w, w ∈ wsL_law_r8 → w ∈ BIG := fun w h => List.mem_append_left _ (List.mem_append_left _ (List.mem_append_left _ (List.mem_append_left _ (List.mem_append_left _ (List.mem_append_left _ (List.mem_append_left _ (List.mem_append_left _ (List.mem_append_right _ (List.mem_append_right _ (List.mem_append_right _ (List.mem_append_right _ (List.mem_append_right _ (List.mem_append_right _ (List.mem_append_right _ (List.mem_append_left _ h)))))))))))))))
theorem ch_9 : ∀ w, w ∈ wsL_law_r9 → w ∈ BIG := fun w h => List.mem_append_left _ (List.mem_append_left _ (List.mem_append_left _ (List.mem_append_left _ (List.mem_append_left _ (List.mem_append_left _ (List.mem_append_left _ (List.mem_append_left _ (List.mem_append_right _ (List.mem_append_right _ (List.mem_append_right _ (List.mem_append_right _ (List.mem_append_right _ (List.mem_append_right _ (List.mem_append_right _ (List.mem_append_right _ (List.mem_append_left _ h))))))))))))))))
theorem ch_10 : ∀ w, w ∈ wsL_law_r10 → w ∈ BIG := fun w h => List.mem_append_left _ (List.mem_append_left _ (List.mem_append_left _ (List.mem_append_left _ (List.mem_append_left _ (List.mem_append_left _ (List.mem_append_left _ (List.mem_append_left _ (List.mem_append_right _ (List.mem_append_right _ (List.mem_append_right _ (List.mem_append_right _ (List.mem_append_right _ (List.mem_append_right _ (List.mem_append_right _ (List.mem_append_right _ (List.mem_append_right _ (List.mem_append_left _ h)))))))))))))))))
theorem ch_11 : ∀ w, w ∈ wsL_law_r11 → w ∈ BIG := fun w h => List.mem_append_left _ (List.mem_append_left _ (List.mem_append_left _ (List.mem_append_left _ (List.mem_append_left _ (List.mem_append_left _ (List.mem_append_left _ (List.mem_append_left _ (List.mem_append_right _ (List.mem_append_right _ (List.mem_append_right _ (List.mem_append_right _ (List.mem_append_right _ (List.mem_append_right _ (List.mem_append_right _ (List.mem_append_right _ (List.mem_append_right _ (List.mem_append_right _ (List.mem_append_left _ h))))))))))))))))))
theorem ch_12 : ∀ w, w ∈ wsL_law_r12 → w ∈ BIG := fun w h => List.mem_append_left _ (List.mem_append_left _ (List.mem_append_left _ (List.mem_append_left _ (List.mem_append_left _ (List.mem_append_left _ (List.mem_append_left _ (List.mem_append_left _ (List.mem_append_right _ (List.mem_append_right _ (List.mem_append_right _ (List.mem_append_right _ (List.mem_append_right _ (List.mem_append_right _ (List.mem_append_right _ (List.mem_append_right _ (List.mem_append_right _ (List.mem_append_right _ (List.mem_append_right _ (List.mem_append_left _ h)))))))))))))))))))
theorem ch_13 : ∀ w, w ∈ wsL_law_r13 → w ∈ BIG := fun w h => List.mem_append_left _ (List.mem_append_left _ (List.mem_append_left _ (List.mem_append_left _ (List.mem_append_left _ (List.mem_append_left _ (List.mem_append_left _ (List.mem_append_left _ (List.mem_append_right _ (List.mem_append_right _ (List.mem_append_right _ (List.mem_append_right _ (List.mem_append_right _ (List.mem_append_right _ (List.mem_append_right _ (List.mem_append_right _ (List.mem_append_right _ (List.mem_append_right _ (List.mem_append_right _ (List.mem_append_right _ (List.mem_append_left _ h))))))))))))))))))))
theorem ch_14 : ∀ w, w ∈ wsL_law_r14 → w ∈ BIG := fun w h => List.mem_append_left _ (List.mem_append_left _ (List.mem_append_left _ (List.mem_append_left _ (List.mem_append_left _ (List.mem_append_left _ (List.mem_append_left _ (List.mem_append_left _ (List.mem_append_right _ (List.mem_append_right _ (List.mem_append_right _ (List.mem_append_right _ (List.mem_append_right _ (List.mem_append_right _ (List.mem_append_right _ (List.mem_append_right _ (List.mem_append_right _ (List.mem_append_right _ (List.mem_append_right _ (List.mem_append_right _ (List.mem_append_right _ (List.mem_append_left _ h)))))))))))))))))))))
theorem ch_15 : ∀ w, w ∈ wsL_law_r15 → w ∈ BIG := fun w h => List.mem_append_left _ (List.mem_append_left _ (List.mem_append_left _ (List.mem_append_left _ (List.mem_append_left _ (List.mem_append_left _ (List.mem_append_left _ (List.mem_append_left _ (List.mem_append_right _ (List.mem_append_right _ (List.mem_append_right _ (List.mem_append_right _ (List.mem_append_right _ (List.mem_append_right _ (List.mem_append_right _ (List.mem_append_right _ (List.mem_append_right _ (List.mem_append_right _ (List.mem_append_right _ (List.mem_append_right _ (List.mem_append_right _ (List.mem_append_right _ (List.mem_append_left _ h))))))))))))))))))))))
theorem ch_16 : ∀ w, w ∈ wsL_law_r16 → w ∈ BIG := fun w h => List.mem_append_left _ (List.mem_append_left _ (List.mem_append_left _ (List.mem_append_left _ (List.mem_append_left _ (List.mem_append_left _ (List.mem_append_left _ (List.mem_append_left _ (List.mem_append_right _ (List.mem_append_right _ (List.mem_append_right _ (List.mem_append_right _ (List.mem_append_right _ (List.mem_append_right _ (List.mem_append_right _ (List.mem_append_right _ (List.mem_append_right _ (List.mem_append_right _ (List.mem_append_right _ (List.mem_append_right _ (List.mem_append_right _ (List.mem_append_right _ (List.mem_append_right _ (List.mem_append_left _ h)))))))))))))))))))))))
theorem ch_17 : ∀ w, w ∈ wsL_law_r17 → w ∈ BIG := fun w h => List.mem_append_left _ (List.mem_append_left _ (List.mem_append_left _ (List.mem_append_left _ (List.mem_append_left _ (List.mem_append_left _ (List.mem_append_left _ (List.mem_append_left _ (List.mem_append_right _ (List.mem_append_right _ (List.mem_append_right _ (List.mem_append_right _ (List.mem_append_right _ (List.mem_append_right _ (List.mem_append_right _ (List.mem_append_right _ (List.mem_append_right _ (List.mem_append_right _ (List.mem_append_right _ (List.mem_append_right _ (List.mem_append_right _ (List.mem_append_right _ (List.mem_append_right _ (List.mem_append_right _ (List.mem_append_left _ h))))))))))))))))))))))))
theorem ch_18 : ∀ w, w ∈ wsL_law_r18 → w ∈ BIG := fun w h => List.mem_append_left _ (List.mem_append_left _ (List.mem_append_left _ (List.mem_append_left _ (List.mem_append_left _ (List.mem_append_left _ (List.mem_append_left _ (List.mem_append_left _ (List.mem_append_right _ (List.mem_append_right _ (List.mem_append_right _ (List.mem_append_right _ (List.mem_append_right _ (List.mem_append_right _ (List.mem_append_right _ (List.mem_append_right _ (List.mem_append_right _ (List.mem_append_right _ (List.mem_append_right _ (List.mem_append_right _ (List.mem_append_right _ (List.mem_append_right _ (List.mem_append_right _ (List.mem_append_right _ (List.mem_append_right _ (List.mem_append_left _ h)))))))))))))))))))))))))
theorem ch_19 : ∀ w, w ∈ wsL_law_r19 → w ∈ BIG := fun w h => List.mem_append_left _ (List.mem_append_left _ (List.mem_append_left _ (List.mem_append_left _ (List.mem_append_left _ (List.mem_append_left _ (List.mem_append_left _ (List.mem_append_left _ (List.mem_append_right _ (List.mem_append_right _ (List.mem_append_right _ (List.mem_append_right _ (List.mem_append_right _ (List.mem_append_right _ (List.mem_append_right _ (List.mem_append_right _ (List.mem_append_right _ (List.mem_append_right _ (List.mem_append_right _ (List.mem_append_right _ (List.mem_append_right _ (List.mem_append_right _ (List.mem_append_right _ (List.mem_append_right _ (List.mem_append_right _ (List.mem_append_right _ (List.mem_append_left _ h))))))))))))))))))))))))))
theorem ch_20 : ∀ w, w ∈ wsL_law_r20 → w ∈ BIG := fun w h => List.mem_append_left _ (List.mem_append_left _ (List.mem_append_left _ (List.mem_append_left _ (List.mem_append_left _ (List.mem_append_left _ (List.mem_append_left _ (List.mem_append_left _ (List.mem_append_right _ (List.mem_append_right _ (List.mem_append_right _ (List.mem_append_right _ (List.mem_append_right _ (List.mem_append_right _ (List.mem_append_right _ (List.mem_append_right _ (List.mem_append_right _ (List.mem_append_right _ (List.mem_append_right _ (List.mem_append_right _ (List.mem_append_right _ (List.mem_append_right _ (List.mem_append_right _ (List.mem_append_right _ (List.mem_append_right _ (List.mem_append_right _ (List.mem_append_right _ (List.mem_append_left _ h)))))))))))))))))))))))))))
theorem ch_21 : ∀ w, w ∈ wsL_law_r21 → w ∈ BIG := fun w h => List.mem_append_left _ (List.mem_append_left _ (List.mem_append_left _ (List.mem_append_left _ (List.mem_append_left _ (List.mem_append_left _ (List.mem_append_left _ (List.mem_append_left _ (List.mem_append_right _ (List.mem_append_right _ (List.mem_append_right _ (List.mem_append_right _ (List.mem_append_right _ (List.mem_append_right _ (List.mem_append_right _ (List.mem_append_right _ (List.mem_append_right _ (List.mem_append_right _ (List.mem_append_right _ (List.mem_append_right _ (List.mem_append_right _ (List.mem_append_right _ (List.mem_append_right _ (List.mem_append_right _ (List.mem_append_right _ (List.mem_append_right _ (List.mem_append_right _ (List.mem_append_right _ (List.mem_append_left _ h))))))))))))))))))))))))))))
theorem ch_22 : ∀ w, w ∈ wsL_law_r22 → w ∈ BIG := fun w h => List.mem_append_left _ (List.mem_append_left _ (List.mem_append_left _ (List.mem_append_left _ (List.mem_append_left _ (List.mem_append_left _ (List.mem_append_left _ (List.mem_append_left _ (List.mem_append_right _ (List.mem_append_right _ (List.mem_append_right _ (List.mem_append_right _ (List.mem_append_right _ (List.mem_append_right _ (List.mem_append_right _ (List.mem_append_right _ (List.mem_append_right _ (List.mem_append_right _ (List.mem_append_right _ (List.mem_append_right _ (List.mem_append_right _ (List.mem_append_right _ (List.mem_append_right _ (List.mem_append_right _ (List.mem_append_right _ (List.mem_append_right _ (List.mem_append_right _ (List.mem_append_right _ (List.mem_append_right _ (List.mem_append_left _ h)))))))))))))))))))))))))))))
theorem ch_23 : ∀ w, w ∈ wsL_law_r23 → w ∈ BIG := fun w h => List.mem_append_left _ (List.mem_append_left _ (List.mem_append_left _ (List.mem_append_left _ (List.mem_append_left _ (List.mem_append_left _ (List.mem_append_left _ (List.mem_append_left _ (List.mem_append_right _ (List.mem_append_right _ (List.mem_append_right _ (List.mem_append_right _ (List.mem_append_right _ (List.mem_append_right _ (List.mem_append_right _ (List.mem_append_right _ (List.mem_append_right _ (List.mem_append_right _ (List.mem_append_right _ (List.mem_append_right _ (List.mem_append_right _ (List.mem_append_right _ (List.mem_append_right _ (List.mem_append_right _ (List.mem_append_right _ (List.mem_append_right _ (List.mem_append_right _ (List.mem_append_right _ (List.mem_append_right _ (List.mem_append_right _ (List.mem_append_left _ h))))))))))))))))))))))))))))))
theorem ch_24 : ∀ w, w ∈ wsL_law_r24 → w ∈ BIG := fun w h => List.mem_append_left _ (List.mem_append_left _ (List.mem_append_left _ (List.mem_append_left _ (List.mem_append_left _ (List.mem_append_left _ (List.mem_append_left _ (List.mem_append_left _ (List.mem_append_right _ (List.mem_append_right _ (List.mem_append_right _ (List.mem_append_right _ (List.mem_append_right _ (List.mem_append_right _ (List.mem_append_right _ (List.mem_append_right _ (List.mem_append_right _ (List.mem_append_right _ (List.mem_append_right _ (List.mem_append_right _ (List.mem_append_right _ (List.mem_append_right _ (List.mem_append_right _ (List.mem_append_right _ (List.mem_append_right _ (List.mem_append_right _ (List.mem_append_right _ (List.mem_append_right _ (List.mem_append_right _ (List.mem_append_right _ (List.mem_append_right _ (List.mem_append_left _ h)))))))))))))))))))))))))))))))
theorem ch_25 : ∀ w, w ∈ wsL_law_r25 → w ∈ BIG := fun w h => List.mem_append_left _ (List.mem_append_left _ (List.mem_append_left _ (List.mem_append_left _ (List.mem_append_left _ (List.mem_append_left _ (List.mem_append_left _ (List.mem_append_left _ (List.mem_append_right _ (List.mem_append_right _ (List.mem_append_right _ (List.mem_append_right _ (List.mem_append_right _ (List.mem_append_right _ (List.mem_append_right _ (List.mem_append_right _ (List.mem_append_right _ (List.mem_append_right _ (List.mem_append_right _ (List.mem_append_right _ (List.mem_append_right _ (List.mem_append_right _ (List.mem_append_right _ (List.mem_append_right _ (List.mem_append_right _ (List.mem_append_right _ (List.mem_append_right _ (List.mem_append_right _ (List.mem_append_right _ (List.mem_append_right _ (List.mem_append_right _ (List.mem_append_right _ (List.mem_append_left _ h))))))))))))))))))))))))))))))))
theorem ch_26 : ∀ w, w ∈ wsL_law_r26 → w ∈ BIG := fun w h => List.mem_append_left _ (List.mem_append_left _ (List.mem_append_left _ (List.mem_append_left _ (List.mem_append_left _ (List.mem_append_left _ (List.mem_append_left _ (List.mem_append_left _ (List.mem_append_right _ (List.mem_append_right _ (List.mem_append_right _ (List.mem_append_right _ (List.mem_append_right _ (List.mem_append_right _ (List.mem_append_right _ (List.mem_append_right _ (List.mem_append_right _ (List.mem_append_right _ (List.mem_append_right _ (List.mem_append_right _ (List.mem_append_right _ (List.mem_append_right _ (List.mem_append_right _ (List.mem_append_right _ (List.mem_append_right _ (List.mem_append_right _ (List.mem_append_right _ (List.mem_append_right _ (List.mem_append_right _ (List.mem_append_right _ (List.mem_append_right _ (List.mem_append_right _ (List.mem_append_right _ (List.mem_append_left _ h)))))))))))))))))))))))))))))))))
theorem ch_27 : ∀ w, w ∈ wsL_law_r27 → w ∈ BIG := fun w h => List.mem_append_left _ (List.mem_append_left _ (List.mem_append_left _ (List.mem_append_left _ (List.mem_append_left _ (List.mem_append_left _ (List.mem_append_left _ (List.mem_append_left _ (List.mem_append_right _ (List.mem_append_right _ (List.mem_append_right _ (List.mem_append_right _ (List.mem_append_right _ (List.mem_append_right _ (List.mem_append_right _ (List.mem_append_right _ (List.mem_append_right _ (List.mem_append_right _ (List.mem_append_right _ (List.mem_append_right _ (List.mem_append_right _ (List.mem_append_right _ (List.mem_append_right _ (List.mem_append_right _ (List.mem_append_right _ (List.mem_append_right _ (List.mem_append_right _ (List.mem_append_right _ (List.mem_append_right _ (List.mem_append_right _ (List.mem_append_right _ (List.mem_append_right _ (List.mem_append_right _ (List.mem_append_right _ (List.mem_append_left _ h))))))))))))))))))))))))))))))))))
theorem ch_28 : ∀ w, w ∈ wsL_law_r28 → w ∈ BIG := fun w h => List.mem_append_left _ (List.mem_append_left _ (List.mem_append_left _ (List.mem_append_left _ (List.mem_append_left _ (List.mem_append_left _ (List.mem_append_left _ (List.mem_append_left _ (List.mem_append_right _ (List.mem_append_right _ (List.mem_append_right _ (List.mem_append_right _ (List.mem_append_right _ (List.mem_append_right _ (List.mem_append_right _ (List.mem_append_right _ (List.mem_append_right _ (List.mem_append_right _ (List.mem_append_right _ (List.mem_append_right _ (List.mem_append_right _ (List.mem_append_right _ (List.mem_append_right _ (List.mem_append_right _ (List.mem_append_right _ (List.mem_append_right _ (List.mem_append_right _ (List.mem_append_right _ (List.mem_append_right _ (List.mem_append_right _ (List.mem_append_right _ (List.mem_append_right _ (List.mem_append_right _ (List.mem_append_right _ (List.mem_append_right _ (List.mem_append_left _ h)))))))))))))))))))))))))))))))))))
theorem ch_29 : ∀ w, w ∈ wsL_law_r29 → w ∈ BIG := fun w h => List.mem_append_left _ (List.mem_append_left _ (List.mem_append_left _ (List.mem_append_left _ (List.mem_append_left _ (List.mem_append_left _ (List.mem_append_left _ (List.mem_append_left _ (List.mem_append_right _ (List.mem_append_right _ (List.mem_append_right _ (List.mem_append_right _ (List.mem_append_right _ (List.mem_append_right _ (List.mem_append_right _ (List.mem_append_right _ (List.mem_append_right _ (List.mem_append_right _ (List.mem_append_right _ (List.mem_append_right _ (List.mem_append_right _ (List.mem_append_right _ (List.mem_append_right _ (List.mem_append_right _ (List.mem_append_right _ (List.mem_append_right _ (List.mem_append_right _ (List.mem_append_right _ (List.mem_append_right _ (List.mem_append_right _ (List.mem_append_right _ (List.mem_append_right _ (List.mem_append_right _ (List.mem_append_right _ (List.mem_append_right _ (List.mem_append_right _ (List.mem_append_left _ h))))))))))))))))))))))))))))))))))))
theorem ch_30 : ∀ w, w ∈ wsL_law_r30 → w ∈ BIG := fun w h => List.mem_append_left _ (List.mem_append_left _ (List.mem_append_left _ (List.mem_append_left _ (List.mem_append_left _ (List.mem_append_left _ (List.mem_append_left _ (List.mem_append_left _ (List.mem_append_right _ (List.mem_append_right _ (List.mem_append_right _ (List.mem_append_right _ (List.mem_append_right _ (List.mem_append_right _ (List.mem_append_right _ (List.mem_append_right _ (List.mem_append_right _ (List.mem_append_right _ (List.mem_append_right _ (List.mem_append_right _ (List.mem_append_right _ (List.mem_append_right _ (List.mem_append_right _ (List.mem_append_right _ (List.mem_append_right _ (List.mem_append_right _ (List.mem_append_right _ (List.mem_append_right _ (List.mem_append_right _ (List.mem_append_right _ (List.mem_append_right _ (List.mem_append_right _ (List.mem_append_right _ (List.mem_append_right _ (List.mem_append_right _ (List.mem_append_right _ (List.mem_append_right _ (List.mem_append_left _ h)))))))))))))))))))))))))))))))))))))
theorem ch_31 : ∀ w, w ∈ wsL_law_r31 → w ∈ BIG := fun w h => List.mem_append_left _ (List.mem_append_left _ (List.mem_append_left _ (List.mem_append_left _ (List.mem_append_left _ (List.mem_append_left _ (List.mem_append_left _ (List.mem_append_left _ (List.mem_append_right _ (List.mem_append_right _ (List.mem_append_right _ (List.mem_append_right _ (List.mem_append_right _ (List.mem_append_right _ (List.mem_append_right _ (List.mem_append_right _ (List.mem_append_right _ (List.mem_append_right _ (List.mem_append_right _ (List.mem_append_right _ (List.mem_append_right _ (List.mem_append_right _ (List.mem_append_right _ (List.mem_append_right _ (List.mem_append_right _ (List.mem_append_right _ (List.mem_append_right _ (List.mem_append_right _ (List.mem_append_right _ (List.mem_append_right _ (List.mem_append_right _ (List.mem_append_right _ (List.mem_append_right _ (List.mem_append_right _ (List.mem_append_right _ (List.mem_append_right _ (List.mem_append_right _ (List.mem_append_right _ (List.mem_append_left _ h))))))))))))))))))))))))))))))))))))))
theorem ch_32 : ∀ w, w ∈ wsL_law_r32 → w ∈ BIG := fun w h => List.mem_append_left _ (List.mem_append_left _ (List.mem_append_left _ (List.mem_append_left _ (List.mem_append_left _ (List.mem_append_left _ (List.mem_append_left _ (List.mem_append_left _ (List.mem_append_right _ (List.mem_append_right _ (List.mem_append_right _ (List.mem_append_right _ (List.mem_append_right _ (List.mem_append_right _ (List.mem_append_right _ (List.mem_append_right _ (List.mem_append_right _ (List.mem_append_right _ (List.mem_append_right _ (List.mem_append_right _ (List.mem_append_right _ (List.mem_append_right _ (List.mem_append_right _ (List.mem_append_right _ (List.mem_append_right _ (List.mem_append_right _ (List.mem_append_right _ (List.mem_append_right _ (List.mem_append_right _ (List.mem_append_right _ (List.mem_append_right _ (List.mem_append_right _ (List.mem_append_right _ (List.mem_append_right _ (List.mem_append_right _ (List.mem_append_right _ (List.mem_append_right _ (List.mem_append_right _ (List.mem_append_right _ (List.mem_append_left _ h)))))))))))))))))))))))))))))))))))))))
theorem ch_33 : ∀ w, w ∈ wsL_law_r33 → w ∈ BIG := fun w h => List.mem_append_left _ (List.mem_append_left _ (List.mem_append_left _ (List.mem_append_left _ (List.mem_append_left _ (List.mem_append_left _ (List.mem_append_left _ (List.mem_append_left _ (List.mem_append_right _ (List.mem_append_right _ (List.mem_append_right _ (List.mem_append_right _ (List.mem_append_right _ (List.mem_append_right _ (List.mem_append_right _ (List.mem_append_right _ (List.mem_append_right _ (List.mem_append_right _ (List.mem_append_right _ (List.mem_append_right _ (List.mem_append_right _ (List.mem_append_right _ (List.mem_append_right _ (List.mem_append_right _ (List.mem_append_right _ (List.mem_append_right _ (List.mem_append_right _ (List.mem_append_right _ (List.mem_append_right _ (List.mem_append_right _ (List.mem_append_right _ (List.mem_append_right _ (List.mem_append_right _ (List.mem_append_right _ (List.mem_append_right _ (List.mem_append_right _ (List.mem_append_right _ (List.mem_append_right _ (List.mem_append_right _ (List.mem_append_right _ (List.mem_append_left _ h))))))))))))))))))))))))))))))))))))))))
theorem ch_34 : ∀ w, w ∈ wsL_law_r34 → w ∈ BIG := fun w h => List.mem_append_left _ (List.mem_append_left _ (List.mem_append_left _ (List.mem_append_left _ (List.mem_append_left _ (List.mem_append_left _ (List.mem_append_left _ (List.mem_append_left _ (List.mem_append_right _ (List.mem_append_right _ (List.mem_append_right _ (List.mem_append_right _ (List.mem_append_right _ (List.mem_append_right _ (List.mem_append_right _ (List.mem_append_right _ (List.mem_append_right _ (List.mem_append_right _ (List.mem_append_right _ (List.mem_append_right _ (List.mem_append_right _ (List.mem_append_right _ (List.mem_append_right _ (List.mem_append_right _ (List.mem_append_right _ (List.mem_append_right _ (List.mem_append_right _ (List.mem_append_right _ (List.mem_append_right _ (List.mem_append_right _ (List.mem_append_right _ (List.mem_append_right _ (List.mem_append_right _ (List.mem_append_right _ (List.mem_append_right _ (List.mem_append_right _ (List.mem_append_right _ (List.mem_append_right _ (List.mem_append_right _ (List.mem_append_right _ (List.mem_append_right _ (List.mem_append_left _ h)))))))))))))))))))))))))))))))))))))))))
theorem ch_35 : ∀ w, w ∈ wsL_law_r35 → w ∈ BIG := fun w h => List.mem_append_left _ (List.mem_append_left _ (List.mem_append_left _ (List.mem_append_left _ (List.mem_append_left _ (List.mem_append_left _ (List.mem_append_left _ (List.mem_append_left _ (List.mem_append_right _ (List.mem_append_right _ (List.mem_append_right _ (List.mem_append_right _ (List.mem_append_right _ (List.mem_append_right _ (List.mem_append_right _ (List.mem_append_right _ (List.mem_append_right _ (List.mem_append_right _ (List.mem_append_right _ (List.mem_append_right _ (List.mem_append_right _ (List.mem_append_right _ (List.mem_append_right _ (List.mem_append_right _ (List.mem_append_right _ (List.mem_append_right _ (List.mem_append_right _ (List.mem_append_right _ (List.mem_append_right _ (List.mem_append_right _ (List.mem_append_right _ (List.mem_append_right _ (List.mem_append_right _ (List.mem_append_right _ (List.mem_append_right _ (List.mem_append_right _ (List.mem_append_right _ (List.mem_append_right _ (List.mem_append_right _ (List.mem_append_right _ (List.mem_append_right _ (List.mem_append_right _ (h))))))))))))))))))))))))))))))))))))))))))
theorem k_0 : Cond.classLink RL 7 RX5 ∈ BIG := ch_1 _ (List.mem_of_getElem? (i := 0) rfl)
theorem k_1 : Cond.instantiable RX5 9 ∈ BIG := ch_1 _ (List.mem_of_getElem? (i := 1) rfl)
theorem k_2 : Cond.initialized RX5 ∈ BIG := ch_1 _ (List.mem_of_getElem? (i := 2) rfl)
theorem k_3 : Cond.classLink RL 10 RX6 ∈ BIG := ch_1 _ (List.mem_of_getElem? (i := 3) rfl)
theorem k_4 : Cond.instantiable RX6 15 ∈ BIG := ch_1 _ (List.mem_of_getElem? (i := 4) rfl)
theorem k_5 : Cond.initialized RX6 ∈ BIG := ch_1 _ (List.mem_of_getElem? (i := 5) rfl)
theorem k_6 : Cond.methodLink RL 9 yX5_init ∈ BIG := ch_1 _ (List.mem_of_getElem? (i := 6) rfl)
theorem k_7 : Cond.instanceMethod yX5_init ∈ BIG := ch_1 _ (List.mem_of_getElem? (i := 7) rfl)
theorem k_8 : Cond.code yX5_init cX5_init 1 none ∈ BIG := ch_1 _ (List.mem_of_getElem? (i := 8) rfl)
theorem k_9 : Cond.methodLink RX5 1 objectInit ∈ BIG := ch_1 _ (List.mem_of_getElem? (i := 9) rfl)
theorem k_10 : Cond.instanceMethod objectInit ∈ BIG := ch_1 _ (List.mem_of_getElem? (i := 10) rfl)
theorem k_11 : Cond.code objectInit ⟨#[0xb1]⟩ 1 none ∈ BIG := ch_1 _ (List.mem_of_getElem? (i := 11) rfl)
theorem k_12 : Cond.classLink RX5 7 RX1 ∈ BIG := ch_1 _ (List.mem_of_getElem? (i := 12) rfl)
theorem k_13 : Cond.instantiable RX1 8 ∈ BIG := ch_1 _ (List.mem_of_getElem? (i := 13) rfl)
theorem k_14 : Cond.initialized RX1 ∈ BIG := ch_1 _ (List.mem_of_getElem? (i := 14) rfl)
theorem k_15 : Cond.fieldLink RX5 10 "InvoiceBook" "now" "LInvoiceBook$Book;" ∈ BIG := ch_1 _ (List.mem_of_getElem? (i := 15) rfl)
theorem k_16 : Cond.fieldLink RX5 16 "InvoiceBook" "spare" "LInvoiceBook$Book;" ∈ BIG := ch_1 _ (List.mem_of_getElem? (i := 16) rfl)
theorem k_17 : Cond.fieldLink RX5 19 "InvoiceBook" "snapshot" "LInvoiceBook$Book;" ∈ BIG := ch_1 _ (List.mem_of_getElem? (i := 17) rfl)
theorem k_18 : Cond.classLink RX5 22 RX2 ∈ BIG := ch_1 _ (List.mem_of_getElem? (i := 18) rfl)
theorem k_19 : Cond.instantiable RX2 2 ∈ BIG := ch_1 _ (List.mem_of_getElem? (i := 19) rfl)
theorem k_20 : Cond.initialized RX2 ∈ BIG := ch_1 _ (List.mem_of_getElem? (i := 20) rfl)
theorem k_21 : Cond.fieldLink RX5 25 "InvoiceBook" "history" "LInvoiceBook$History;" ∈ BIG := ch_1 _ (List.mem_of_getElem? (i := 21) rfl)
theorem k_22 : Cond.classLink RX5 29 RX4 ∈ BIG := ch_1 _ (List.mem_of_getElem? (i := 22) rfl)
theorem k_23 : Cond.instantiable RX4 9 ∈ BIG := ch_1 _ (List.mem_of_getElem? (i := 23) rfl)
theorem k_24 : Cond.initialized RX4 ∈ BIG := ch_2 _ (List.mem_of_getElem? (i := 0) rfl)
theorem k_25 : Cond.fieldLink RX5 32 "InvoiceBook" "text" "LInvoiceBook$Text;" ∈ BIG := ch_2 _ (List.mem_of_getElem? (i := 1) rfl)
theorem k_26 : Cond.methodLink RX5 9 yX1_init ∈ BIG := ch_2 _ (List.mem_of_getElem? (i := 2) rfl)
theorem k_27 : Cond.instanceMethod yX1_init ∈ BIG := ch_2 _ (List.mem_of_getElem? (i := 3) rfl)
theorem k_28 : Cond.code yX1_init cX1_init 2 none ∈ BIG := ch_2 _ (List.mem_of_getElem? (i := 4) rfl)
theorem k_29 : Cond.methodLink RX1 3 objectInit ∈ BIG := ch_2 _ (List.mem_of_getElem? (i := 5) rfl)
theorem k_30 : Cond.classLink RX1 9 RX0 ∈ BIG := ch_2 _ (List.mem_of_getElem? (i := 6) rfl)
theorem k_31 : Cond.fieldLink RX1 11 "InvoiceBook$Book" "bills" "[LInvoiceBook$Bill;" ∈ BIG := ch_2 _ (List.mem_of_getElem? (i := 7) rfl)
theorem k_32 : Cond.arrayClass .int ∈ BIG := ch_2 _ (List.mem_of_getElem? (i := 8) rfl)
theorem k_33 : Cond.fieldLink RX1 17 "InvoiceBook$Book" "credits" "[I" ∈ BIG := ch_2 _ (List.mem_of_getElem? (i := 9) rfl)
theorem k_34 : Cond.fieldLink RX1 21 "InvoiceBook$Book" "taxPaid" "[I" ∈ BIG := ch_2 _ (List.mem_of_getElem? (i := 10) rfl)
theorem k_35 : Cond.fieldLink RX1 24 "InvoiceBook$Book" "taxClosed" "[I" ∈ BIG := ch_2 _ (List.mem_of_getElem? (i := 11) rfl)
theorem k_36 : Cond.classLink RX1 27 RX3 ∈ BIG := ch_2 _ (List.mem_of_getElem? (i := 12) rfl)
theorem k_37 : Cond.instantiable RX3 1 ∈ BIG := ch_2 _ (List.mem_of_getElem? (i := 13) rfl)
theorem k_38 : Cond.initialized RX3 ∈ BIG := ch_2 _ (List.mem_of_getElem? (i := 14) rfl)
theorem k_39 : Cond.fieldLink RX1 30 "InvoiceBook$Book" "settings" "LInvoiceBook$Settings;" ∈ BIG := ch_2 _ (List.mem_of_getElem? (i := 15) rfl)
theorem k_40 : Cond.instantiable RX0 14 ∈ BIG := ch_2 _ (List.mem_of_getElem? (i := 16) rfl)
theorem k_41 : Cond.initialized RX0 ∈ BIG := ch_2 _ (List.mem_of_getElem? (i := 17) rfl)
theorem k_42 : Cond.instanceMethod yX3_init ∈ BIG := ch_2 _ (List.mem_of_getElem? (i := 18) rfl)
theorem k_43 : Cond.code yX3_init cX3_init 1 none ∈ BIG := ch_2 _ (List.mem_of_getElem? (i := 19) rfl)
theorem k_44 : Cond.methodLink RX3 3 objectInit ∈ BIG := ch_2 _ (List.mem_of_getElem? (i := 20) rfl)
theorem k_45 : Cond.fieldLink RX3 9 "InvoiceBook$Settings" "values" "[I" ∈ BIG := ch_2 _ (List.mem_of_getElem? (i := 21) rfl)
theorem k_46 : Cond.instanceMethod yX0_init ∈ BIG := ch_2 _ (List.mem_of_getElem? (i := 22) rfl)
theorem k_47 : Cond.code yX0_init cX0_init 1 none ∈ BIG := ch_2 _ (List.mem_of_getElem? (i := 23) rfl)
theorem k_48 : Cond.methodLink RX0 3 objectInit ∈ BIG := ch_3 _ (List.mem_of_getElem? (i := 0) rfl)
theorem k_49 : Cond.fieldLink RX0 11 "InvoiceBook$Bill" "state" "I" ∈ BIG := ch_3 _ (List.mem_of_getElem? (i := 1) rfl)
theorem k_50 : Cond.fieldLink RX0 15 "InvoiceBook$Bill" "lastPayment" "I" ∈ BIG := ch_3 _ (List.mem_of_getElem? (i := 2) rfl)
theorem k_51 : Cond.methodLink RX5 24 yX2_init ∈ BIG := ch_3 _ (List.mem_of_getElem? (i := 3) rfl)
theorem k_52 : Cond.instanceMethod yX2_init ∈ BIG := ch_3 _ (List.mem_of_getElem? (i := 4) rfl)
theorem k_53 : Cond.code yX2_init cX2_init 2 none ∈ BIG := ch_3 _ (List.mem_of_getElem? (i := 5) rfl)
theorem k_54 : Cond.methodLink RX2 3 objectInit ∈ BIG := ch_3 _ (List.mem_of_getElem? (i := 6) rfl)
theorem k_55 : Cond.classLink RX2 9 RX1 ∈ BIG := ch_3 _ (List.mem_of_getElem? (i := 7) rfl)
theorem k_56 : Cond.fieldLink RX2 11 "InvoiceBook$History" "states" "[LInvoiceBook$Book;" ∈ BIG := ch_3 _ (List.mem_of_getElem? (i := 8) rfl)
theorem k_57 : Cond.methodLink RX2 17 yX1_init ∈ BIG := ch_3 _ (List.mem_of_getElem? (i := 9) rfl)
theorem k_58 : Cond.instanceMethod yX4_init ∈ BIG := ch_3 _ (List.mem_of_getElem? (i := 10) rfl)
theorem k_59 : Cond.code yX4_init cX4_init 1 none ∈ BIG := ch_3 _ (List.mem_of_getElem? (i := 11) rfl)
theorem k_60 : Cond.methodLink RX4 3 objectInit ∈ BIG := ch_3 _ (List.mem_of_getElem? (i := 12) rfl)
theorem k_61 : Cond.arrayClass .char ∈ BIG := ch_3 _ (List.mem_of_getElem? (i := 13) rfl)
theorem k_62 : Cond.fieldLink RX4 9 "InvoiceBook$Text" "signs" "[C" ∈ BIG := ch_3 _ (List.mem_of_getElem? (i := 14) rfl)
theorem k_63 : Cond.methodLink RL 12 yX6_init ∈ BIG := ch_3 _ (List.mem_of_getElem? (i := 15) rfl)
theorem k_64 : Cond.instanceMethod yX6_init ∈ BIG := ch_3 _ (List.mem_of_getElem? (i := 16) rfl)
theorem k_65 : Cond.code yX6_init cX6_init 1 none ∈ BIG := ch_3 _ (List.mem_of_getElem? (i := 17) rfl)
theorem k_66 : Cond.methodLink RX6 1 objectInit ∈ BIG := ch_3 _ (List.mem_of_getElem? (i := 18) rfl)
theorem k_67 : Cond.fieldLink RX6 7 "InvoiceBookModel" "s" "[I" ∈ BIG := ch_3 _ (List.mem_of_getElem? (i := 19) rfl)
theorem k_68 : Cond.fieldLink RX6 13 "InvoiceBookModel" "aside" "[I" ∈ BIG := ch_3 _ (List.mem_of_getElem? (i := 20) rfl)
theorem k_69 : Cond.fieldLink RX6 16 "InvoiceBookModel" "ahead" "[I" ∈ BIG := ch_3 _ (List.mem_of_getElem? (i := 21) rfl)
theorem k_70 : Cond.fieldLink RX6 19 "InvoiceBookModel" "snapshot" "[I" ∈ BIG := ch_3 _ (List.mem_of_getElem? (i := 22) rfl)
theorem k_71 : Cond.fieldLink RX6 22 "InvoiceBookModel" "before" "[I" ∈ BIG := ch_3 _ (List.mem_of_getElem? (i := 23) rfl)
theorem k_72 : Cond.fieldLink RX6 25 "InvoiceBookModel" "text" "[I" ∈ BIG := ch_4 _ (List.mem_of_getElem? (i := 0) rfl)
theorem k_73 : Cond.fieldLink RX6 28 "InvoiceBookModel" "stopAt" "I" ∈ BIG := ch_4 _ (List.mem_of_getElem? (i := 1) rfl)
theorem k_74 : Cond.fieldLink RX6 32 "InvoiceBookModel" "stopBy" "I" ∈ BIG := ch_4 _ (List.mem_of_getElem? (i := 2) rfl)
theorem k_75 : Cond.fieldLink RX6 35 "InvoiceBookModel" "thing" "[I" ∈ BIG := ch_4 _ (List.mem_of_getElem? (i := 3) rfl)
theorem k_76 : Cond.methodLink RL 13 yX5_bill ∈ BIG := ch_4 _ (List.mem_of_getElem? (i := 4) rfl)
theorem k_77 : Cond.instanceMethod yX5_bill ∈ BIG := ch_4 _ (List.mem_of_getElem? (i := 5) rfl)
theorem k_78 : Cond.selects RX5 yX5_bill yX5_bill ∈ BIG := ch_4 _ (List.mem_of_getElem? (i := 6) rfl)
theorem k_79 : Cond.code yX5_bill cX5_bill 5 (some .int) ∈ BIG := ch_4 _ (List.mem_of_getElem? (i := 7) rfl)
theorem k_80 : Cond.methodLink RX5 36 yX5_startAct ∈ BIG := ch_4 _ (List.mem_of_getElem? (i := 8) rfl)
theorem k_81 : Cond.instanceMethod yX5_startAct ∈ BIG := ch_4 _ (List.mem_of_getElem? (i := 9) rfl)
theorem k_82 : Cond.selects RX5 yX5_startAct yX5_startAct ∈ BIG := ch_4 _ (List.mem_of_getElem? (i := 10) rfl)
theorem k_83 : Cond.code yX5_startAct cX5_startAct 1 none ∈ BIG := ch_4 _ (List.mem_of_getElem? (i := 11) rfl)
theorem k_84 : Cond.methodLink RX5 110 yX1_copyFrom ∈ BIG := ch_4 _ (List.mem_of_getElem? (i := 12) rfl)
theorem k_85 : Cond.instanceMethod yX1_copyFrom ∈ BIG := ch_4 _ (List.mem_of_getElem? (i := 13) rfl)
theorem k_86 : Cond.selects RX1 yX1_copyFrom yX1_copyFrom ∈ BIG := ch_4 _ (List.mem_of_getElem? (i := 14) rfl)
theorem k_87 : Cond.code yX1_copyFrom cX1_copyFrom 3 none ∈ BIG := ch_4 _ (List.mem_of_getElem? (i := 15) rfl)
theorem k_88 : Cond.methodLink RX1 39 arraycopyName ∈ BIG := ch_4 _ (List.mem_of_getElem? (i := 16) rfl)
theorem k_89 : Cond.native arraycopyName ∈ BIG := ch_4 _ (List.mem_of_getElem? (i := 17) rfl)
theorem k_90 : Cond.static arraycopyName ∈ BIG := ch_4 _ (List.mem_of_getElem? (i := 18) rfl)
theorem k_91 : Cond.initialized "java/lang/System" ∈ BIG := ch_4 _ (List.mem_of_getElem? (i := 19) rfl)
theorem k_92 : Cond.fieldLink RX1 48 "InvoiceBook$Book" "day" "I" ∈ BIG := ch_4 _ (List.mem_of_getElem? (i := 20) rfl)
theorem k_93 : Cond.fieldLink RX1 52 "InvoiceBook$Book" "closedYears" "I" ∈ BIG := ch_4 _ (List.mem_of_getElem? (i := 21) rfl)
theorem k_94 : Cond.fieldLink RX1 55 "InvoiceBook$Book" "paidBack" "I" ∈ BIG := ch_4 _ (List.mem_of_getElem? (i := 22) rfl)
theorem k_95 : Cond.methodLink RX1 35 yX0_copyFrom ∈ BIG := ch_4 _ (List.mem_of_getElem? (i := 23) rfl)
theorem k_96 : Cond.instanceMethod yX0_copyFrom ∈ BIG := ch_5 _ (List.mem_of_getElem? (i := 0) rfl)
theorem k_97 : Cond.selects RX0 yX0_copyFrom yX0_copyFrom ∈ BIG := ch_5 _ (List.mem_of_getElem? (i := 1) rfl)
theorem k_98 : Cond.code yX0_copyFrom cX0_copyFrom 2 none ∈ BIG := ch_5 _ (List.mem_of_getElem? (i := 2) rfl)
theorem k_99 : Cond.fieldLink RX0 18 "InvoiceBook$Bill" "customer" "I" ∈ BIG := ch_5 _ (List.mem_of_getElem? (i := 3) rfl)
theorem k_100 : Cond.fieldLink RX0 21 "InvoiceBook$Bill" "net" "I" ∈ BIG := ch_5 _ (List.mem_of_getElem? (i := 4) rfl)
theorem k_101 : Cond.fieldLink RX0 24 "InvoiceBook$Bill" "rate" "I" ∈ BIG := ch_5 _ (List.mem_of_getElem? (i := 5) rfl)
theorem k_102 : Cond.fieldLink RX0 27 "InvoiceBook$Bill" "tax" "I" ∈ BIG := ch_5 _ (List.mem_of_getElem? (i := 6) rfl)
theorem k_103 : Cond.fieldLink RX0 30 "InvoiceBook$Bill" "sum" "I" ∈ BIG := ch_5 _ (List.mem_of_getElem? (i := 7) rfl)
theorem k_104 : Cond.fieldLink RX0 33 "InvoiceBook$Bill" "day" "I" ∈ BIG := ch_5 _ (List.mem_of_getElem? (i := 8) rfl)
theorem k_105 : Cond.fieldLink RX0 36 "InvoiceBook$Bill" "due" "I" ∈ BIG := ch_5 _ (List.mem_of_getElem? (i := 9) rfl)
theorem k_106 : Cond.fieldLink RX0 39 "InvoiceBook$Bill" "paid" "I" ∈ BIG := ch_5 _ (List.mem_of_getElem? (i := 10) rfl)
theorem k_107 : Cond.fieldLink RX0 42 "InvoiceBook$Bill" "discount" "I" ∈ BIG := ch_5 _ (List.mem_of_getElem? (i := 11) rfl)
theorem k_108 : Cond.fieldLink RX0 45 "InvoiceBook$Bill" "fees" "I" ∈ BIG := ch_5 _ (List.mem_of_getElem? (i := 12) rfl)
theorem k_109 : Cond.fieldLink RX0 48 "InvoiceBook$Bill" "reminders" "I" ∈ BIG := ch_5 _ (List.mem_of_getElem? (i := 13) rfl)
theorem k_110 : Cond.fieldLink RX0 51 "InvoiceBook$Bill" "lastReminder" "I" ∈ BIG := ch_5 _ (List.mem_of_getElem? (i := 14) rfl)
theorem k_111 : Cond.methodLink RX1 45 yX3_copyFrom ∈ BIG := ch_5 _ (List.mem_of_getElem? (i := 15) rfl)
theorem k_112 : Cond.instanceMethod yX3_copyFrom ∈ BIG := ch_5 _ (List.mem_of_getElem? (i := 16) rfl)
theorem k_113 : Cond.selects RX3 yX3_copyFrom yX3_copyFrom ∈ BIG := ch_5 _ (List.mem_of_getElem? (i := 17) rfl)
theorem k_114 : Cond.code yX3_copyFrom cX3_copyFrom 2 none ∈ BIG := ch_5 _ (List.mem_of_getElem? (i := 18) rfl)
theorem k_115 : Cond.methodLink RX3 15 arraycopyName ∈ BIG := ch_5 _ (List.mem_of_getElem? (i := 19) rfl)
theorem k_116 : Cond.methodLink RX5 39 yX1_writeBill ∈ BIG := ch_5 _ (List.mem_of_getElem? (i := 20) rfl)
theorem k_117 : Cond.instanceMethod yX1_writeBill ∈ BIG := ch_5 _ (List.mem_of_getElem? (i := 21) rfl)
theorem k_118 : Cond.selects RX1 yX1_writeBill yX1_writeBill ∈ BIG := ch_5 _ (List.mem_of_getElem? (i := 22) rfl)
theorem k_119 : Cond.code yX1_writeBill cX1_writeBill 8 (some .int) ∈ BIG := ch_5 _ (List.mem_of_getElem? (i := 23) rfl)
theorem k_120 : Cond.static yX5_isCustomer ∈ BIG := ch_6 _ (List.mem_of_getElem? (i := 0) rfl)
theorem k_121 : Cond.code yX5_isCustomer cX5_isCustomer 1 (some .boolean) ∈ BIG := ch_6 _ (List.mem_of_getElem? (i := 1) rfl)
theorem k_122 : Cond.methodLink RX1 65 yX1_countBills ∈ BIG := ch_6 _ (List.mem_of_getElem? (i := 2) rfl)
theorem k_123 : Cond.instanceMethod yX1_countBills ∈ BIG := ch_6 _ (List.mem_of_getElem? (i := 3) rfl)
theorem k_124 : Cond.selects RX1 yX1_countBills yX1_countBills ∈ BIG := ch_6 _ (List.mem_of_getElem? (i := 4) rfl)
theorem k_125 : Cond.code yX1_countBills cX1_countBills 8 (some .int) ∈ BIG := ch_6 _ (List.mem_of_getElem? (i := 5) rfl)
theorem k_126 : Cond.methodLink RX1 88 yX0_is ∈ BIG := ch_6 _ (List.mem_of_getElem? (i := 6) rfl)
theorem k_127 : Cond.instanceMethod yX0_is ∈ BIG := ch_6 _ (List.mem_of_getElem? (i := 7) rfl)
theorem k_128 : Cond.selects RX0 yX0_is yX0_is ∈ BIG := ch_6 _ (List.mem_of_getElem? (i := 8) rfl)
theorem k_129 : Cond.code yX0_is cX0_is 3 (some .boolean) ∈ BIG := ch_6 _ (List.mem_of_getElem? (i := 9) rfl)
theorem k_130 : Cond.methodLink RX1 69 yX0_write ∈ BIG := ch_6 _ (List.mem_of_getElem? (i := 10) rfl)
theorem k_131 : Cond.instanceMethod yX0_write ∈ BIG := ch_6 _ (List.mem_of_getElem? (i := 11) rfl)
theorem k_132 : Cond.selects RX0 yX0_write yX0_write ∈ BIG := ch_6 _ (List.mem_of_getElem? (i := 12) rfl)
theorem k_133 : Cond.code yX0_write cX0_write 6 none ∈ BIG := ch_6 _ (List.mem_of_getElem? (i := 13) rfl)
theorem k_134 : Cond.methodLink RX1 73 yX1_creditOf ∈ BIG := ch_6 _ (List.mem_of_getElem? (i := 14) rfl)
theorem k_135 : Cond.instanceMethod yX1_creditOf ∈ BIG := ch_6 _ (List.mem_of_getElem? (i := 15) rfl)
theorem k_136 : Cond.selects RX1 yX1_creditOf yX1_creditOf ∈ BIG := ch_6 _ (List.mem_of_getElem? (i := 16) rfl)
theorem k_137 : Cond.code yX1_creditOf cX1_creditOf 2 (some .int) ∈ BIG := ch_6 _ (List.mem_of_getElem? (i := 17) rfl)
theorem k_138 : Cond.methodLink RX1 77 yX1_payOn ∈ BIG := ch_6 _ (List.mem_of_getElem? (i := 18) rfl)
theorem k_139 : Cond.instanceMethod yX1_payOn ∈ BIG := ch_6 _ (List.mem_of_getElem? (i := 19) rfl)
theorem k_140 : Cond.selects RX1 yX1_payOn yX1_payOn ∈ BIG := ch_6 _ (List.mem_of_getElem? (i := 20) rfl)
theorem k_141 : Cond.code yX1_payOn cX1_payOn 8 (some .int) ∈ BIG := ch_6 _ (List.mem_of_getElem? (i := 21) rfl)
theorem k_142 : Cond.methodLink RX1 106 yX1_discountOn ∈ BIG := ch_6 _ (List.mem_of_getElem? (i := 22) rfl)
theorem k_143 : Cond.instanceMethod yX1_discountOn ∈ BIG := ch_6 _ (List.mem_of_getElem? (i := 23) rfl)
theorem k_144 : Cond.selects RX1 yX1_discountOn yX1_discountOn ∈ BIG := ch_7 _ (List.mem_of_getElem? (i := 0) rfl)
theorem k_145 : Cond.code yX1_discountOn cX1_discountOn 2 (some .int) ∈ BIG := ch_7 _ (List.mem_of_getElem? (i := 1) rfl)
theorem k_146 : Cond.fieldLink RX1 120 "InvoiceBook$Bill" "reminders" "I" ∈ BIG := ch_7 _ (List.mem_of_getElem? (i := 2) rfl)
theorem k_147 : Cond.fieldLink RX1 123 "InvoiceBook$Bill" "day" "I" ∈ BIG := ch_7 _ (List.mem_of_getElem? (i := 3) rfl)
theorem k_148 : Cond.fieldLink RX1 127 "InvoiceBook$Bill" "sum" "I" ∈ BIG := ch_7 _ (List.mem_of_getElem? (i := 4) rfl)
theorem k_149 : Cond.methodLink RX1 133 Lib.Math.min.name ∈ BIG := ch_7 _ (List.mem_of_getElem? (i := 5) rfl)
theorem k_150 : Cond.static Lib.Math.min.name ∈ BIG := ch_7 _ (List.mem_of_getElem? (i := 6) rfl)
theorem k_151 : Cond.initialized "java/lang/Math" ∈ BIG := ch_7 _ (List.mem_of_getElem? (i := 7) rfl)
theorem k_152 : Cond.code Lib.Math.min.name Lib.Math.min.code 2 (some .int) ∈ BIG := ch_7 _ (List.mem_of_getElem? (i := 8) rfl)
theorem k_153 : Cond.methodLink RX1 124 yX3_discountDays ∈ BIG := ch_7 _ (List.mem_of_getElem? (i := 9) rfl)
theorem k_154 : Cond.instanceMethod yX3_discountDays ∈ BIG := ch_7 _ (List.mem_of_getElem? (i := 10) rfl)
theorem k_155 : Cond.selects RX3 yX3_discountDays yX3_discountDays ∈ BIG := ch_7 _ (List.mem_of_getElem? (i := 11) rfl)
theorem k_156 : Cond.code yX3_discountDays cX3_discountDays 1 (some .int) ∈ BIG := ch_7 _ (List.mem_of_getElem? (i := 12) rfl)
theorem k_157 : Cond.methodLink RX1 130 yX3_discountPercent ∈ BIG := ch_7 _ (List.mem_of_getElem? (i := 13) rfl)
theorem k_158 : Cond.instanceMethod yX3_discountPercent ∈ BIG := ch_7 _ (List.mem_of_getElem? (i := 14) rfl)
theorem k_159 : Cond.selects RX3 yX3_discountPercent yX3_discountPercent ∈ BIG := ch_7 _ (List.mem_of_getElem? (i := 15) rfl)
theorem k_160 : Cond.code yX3_discountPercent cX3_discountPercent 1 (some .int) ∈ BIG := ch_7 _ (List.mem_of_getElem? (i := 16) rfl)
theorem k_161 : Cond.methodLink RX1 102 yX0_owed ∈ BIG := ch_7 _ (List.mem_of_getElem? (i := 17) rfl)
theorem k_162 : Cond.instanceMethod yX0_owed ∈ BIG := ch_7 _ (List.mem_of_getElem? (i := 18) rfl)
theorem k_163 : Cond.selects RX0 yX0_owed yX0_owed ∈ BIG := ch_7 _ (List.mem_of_getElem? (i := 19) rfl)
theorem k_164 : Cond.code yX0_owed cX0_owed 1 (some .int) ∈ BIG := ch_7 _ (List.mem_of_getElem? (i := 20) rfl)
theorem k_165 : Cond.methodLink RX1 110 yX0_takeMoney ∈ BIG := ch_7 _ (List.mem_of_getElem? (i := 21) rfl)
theorem k_166 : Cond.instanceMethod yX0_takeMoney ∈ BIG := ch_7 _ (List.mem_of_getElem? (i := 22) rfl)
theorem k_167 : Cond.selects RX0 yX0_takeMoney yX0_takeMoney ∈ BIG := ch_7 _ (List.mem_of_getElem? (i := 23) rfl)
theorem k_168 : Cond.code yX0_takeMoney cX0_takeMoney 4 none ∈ BIG := ch_8 _ (List.mem_of_getElem? (i := 0) rfl)
theorem k_169 : Cond.methodLink RX0 66 yX0_owed ∈ BIG := ch_8 _ (List.mem_of_getElem? (i := 1) rfl)
theorem k_170 : Cond.static yX5_isYear ∈ BIG := ch_8 _ (List.mem_of_getElem? (i := 2) rfl)
theorem k_171 : Cond.code yX5_isYear cX5_isYear 1 (some .boolean) ∈ BIG := ch_8 _ (List.mem_of_getElem? (i := 3) rfl)
theorem k_172 : Cond.methodLink RX1 117 yX0_taxIn ∈ BIG := ch_8 _ (List.mem_of_getElem? (i := 4) rfl)
theorem k_173 : Cond.instanceMethod yX0_taxIn ∈ BIG := ch_8 _ (List.mem_of_getElem? (i := 5) rfl)
theorem k_174 : Cond.selects RX0 yX0_taxIn yX0_taxIn ∈ BIG := ch_8 _ (List.mem_of_getElem? (i := 6) rfl)
theorem k_175 : Cond.code yX0_taxIn cX0_taxIn 3 (some .int) ∈ BIG := ch_8 _ (List.mem_of_getElem? (i := 7) rfl)
theorem k_176 : Cond.methodLink RX1 81 yX1_setCredit ∈ BIG := ch_8 _ (List.mem_of_getElem? (i := 8) rfl)
theorem k_177 : Cond.instanceMethod yX1_setCredit ∈ BIG := ch_8 _ (List.mem_of_getElem? (i := 9) rfl)
theorem k_178 : Cond.selects RX1 yX1_setCredit yX1_setCredit ∈ BIG := ch_8 _ (List.mem_of_getElem? (i := 10) rfl)
theorem k_179 : Cond.code yX1_setCredit cX1_setCredit 3 none ∈ BIG := ch_8 _ (List.mem_of_getElem? (i := 11) rfl)
theorem k_180 : Cond.methodLink RX5 43 yX5_endAct ∈ BIG := ch_8 _ (List.mem_of_getElem? (i := 12) rfl)
theorem k_181 : Cond.instanceMethod yX5_endAct ∈ BIG := ch_8 _ (List.mem_of_getElem? (i := 13) rfl)
theorem k_182 : Cond.selects RX5 yX5_endAct yX5_endAct ∈ BIG := ch_8 _ (List.mem_of_getElem? (i := 14) rfl)
theorem k_183 : Cond.code yX5_endAct cX5_endAct 3 (some .int) ∈ BIG := ch_8 _ (List.mem_of_getElem? (i := 15) rfl)
theorem k_184 : Cond.methodLink RX5 251 yX2_add ∈ BIG := ch_8 _ (List.mem_of_getElem? (i := 16) rfl)
theorem k_185 : Cond.instanceMethod yX2_add ∈ BIG := ch_8 _ (List.mem_of_getElem? (i := 17) rfl)
theorem k_186 : Cond.selects RX2 yX2_add yX2_add ∈ BIG := ch_8 _ (List.mem_of_getElem? (i := 18) rfl)
theorem k_187 : Cond.code yX2_add cX2_add 4 (some (.object "InvoiceBook$Book")) ∈ BIG := ch_8 _ (List.mem_of_getElem? (i := 19) rfl)
theorem k_188 : Cond.fieldLink RX2 18 "InvoiceBook$History" "count" "I" ∈ BIG := ch_8 _ (List.mem_of_getElem? (i := 20) rfl)
theorem k_189 : Cond.methodLink RL 17 yX6_bill ∈ BIG := ch_8 _ (List.mem_of_getElem? (i := 21) rfl)
theorem k_190 : Cond.instanceMethod yX6_bill ∈ BIG := ch_8 _ (List.mem_of_getElem? (i := 22) rfl)
theorem k_191 : Cond.selects RX6 yX6_bill yX6_bill ∈ BIG := ch_8 _ (List.mem_of_getElem? (i := 23) rfl)
theorem k_192 : Cond.code yX6_bill cX6_bill 5 (some .int) ∈ BIG := ch_9 _ (List.mem_of_getElem? (i := 0) rfl)
theorem k_193 : Cond.methodLink RX6 96 yX6_isCustomer ∈ BIG := ch_9 _ (List.mem_of_getElem? (i := 1) rfl)
theorem k_194 : Cond.static yX6_isCustomer ∈ BIG := ch_9 _ (List.mem_of_getElem? (i := 2) rfl)
theorem k_195 : Cond.code yX6_isCustomer cX6_isCustomer 1 (some .boolean) ∈ BIG := ch_9 _ (List.mem_of_getElem? (i := 3) rfl)
theorem k_196 : Cond.methodLink RX6 38 yX6_in ∈ BIG := ch_9 _ (List.mem_of_getElem? (i := 4) rfl)
theorem k_197 : Cond.static yX6_in ∈ BIG := ch_9 _ (List.mem_of_getElem? (i := 5) rfl)
theorem k_198 : Cond.code yX6_in cX6_in 3 (some .boolean) ∈ BIG := ch_9 _ (List.mem_of_getElem? (i := 6) rfl)
theorem k_199 : Cond.methodLink RX6 99 yX6_isNet ∈ BIG := ch_9 _ (List.mem_of_getElem? (i := 7) rfl)
theorem k_200 : Cond.static yX6_isNet ∈ BIG := ch_9 _ (List.mem_of_getElem? (i := 8) rfl)
theorem k_201 : Cond.code yX6_isNet cX6_isNet 3 (some .boolean) ∈ BIG := ch_9 _ (List.mem_of_getElem? (i := 9) rfl)
theorem k_202 : Cond.methodLink RX6 102 yX6_know ∈ BIG := ch_9 _ (List.mem_of_getElem? (i := 10) rfl)
theorem k_203 : Cond.instanceMethod yX6_know ∈ BIG := ch_9 _ (List.mem_of_getElem? (i := 11) rfl)
theorem k_204 : Cond.selects RX6 yX6_know yX6_know ∈ BIG := ch_9 _ (List.mem_of_getElem? (i := 12) rfl)
theorem k_205 : Cond.code yX6_know cX6_know 1 none ∈ BIG := ch_9 _ (List.mem_of_getElem? (i := 13) rfl)
theorem k_206 : Cond.methodLink RX6 45 yX6_looks ∈ BIG := ch_9 _ (List.mem_of_getElem? (i := 14) rfl)
theorem k_207 : Cond.instanceMethod yX6_looks ∈ BIG := ch_9 _ (List.mem_of_getElem? (i := 15) rfl)
theorem k_208 : Cond.selects RX6 yX6_looks yX6_looks ∈ BIG := ch_9 _ (List.mem_of_getElem? (i := 16) rfl)
theorem k_209 : Cond.code yX6_looks cX6_looks 2 none ∈ BIG := ch_9 _ (List.mem_of_getElem? (i := 17) rfl)
theorem k_210 : Cond.methodLink RX6 48 yX6_records ∈ BIG := ch_9 _ (List.mem_of_getElem? (i := 18) rfl)
theorem k_211 : Cond.instanceMethod yX6_records ∈ BIG := ch_9 _ (List.mem_of_getElem? (i := 19) rfl)
theorem k_212 : Cond.selects RX6 yX6_records yX6_records ∈ BIG := ch_9 _ (List.mem_of_getElem? (i := 20) rfl)
theorem k_213 : Cond.code yX6_records cX6_records 2 none ∈ BIG := ch_9 _ (List.mem_of_getElem? (i := 21) rfl)
theorem k_214 : Cond.fieldLink RX6 42 "InvoiceBookModel" "known" "I" ∈ BIG := ch_9 _ (List.mem_of_getElem? (i := 22) rfl)
theorem k_215 : Cond.methodLink RX6 105 yX6_billed ∈ BIG := ch_9 _ (List.mem_of_getElem? (i := 23) rfl)
theorem k_216 : Cond.instanceMethod yX6_billed ∈ BIG := ch_10 _ (List.mem_of_getElem? (i := 0) rfl)
theorem k_217 : Cond.selects RX6 yX6_billed yX6_billed ∈ BIG := ch_10 _ (List.mem_of_getElem? (i := 1) rfl)
theorem k_218 : Cond.code yX6_billed cX6_billed 7 (some .int) ∈ BIG := ch_10 _ (List.mem_of_getElem? (i := 2) rfl)
theorem k_219 : Cond.methodLink RX6 51 yX6_of ∈ BIG := ch_10 _ (List.mem_of_getElem? (i := 3) rfl)
theorem k_220 : Cond.static yX6_of ∈ BIG := ch_10 _ (List.mem_of_getElem? (i := 4) rfl)
theorem k_221 : Cond.code yX6_of cX6_of 2 (some .int) ∈ BIG := ch_10 _ (List.mem_of_getElem? (i := 5) rfl)
theorem k_222 : Cond.methodLink RX6 78 yX6_takesOf ∈ BIG := ch_10 _ (List.mem_of_getElem? (i := 6) rfl)
theorem k_223 : Cond.instanceMethod yX6_takesOf ∈ BIG := ch_10 _ (List.mem_of_getElem? (i := 7) rfl)
theorem k_224 : Cond.selects RX6 yX6_takesOf yX6_takesOf ∈ BIG := ch_10 _ (List.mem_of_getElem? (i := 8) rfl)
theorem k_225 : Cond.code yX6_takesOf cX6_takesOf 6 (some .int) ∈ BIG := ch_10 _ (List.mem_of_getElem? (i := 9) rfl)
theorem k_226 : Cond.methodLink RX6 72 yX6_discountOf ∈ BIG := ch_10 _ (List.mem_of_getElem? (i := 10) rfl)
theorem k_227 : Cond.instanceMethod yX6_discountOf ∈ BIG := ch_10 _ (List.mem_of_getElem? (i := 11) rfl)
theorem k_228 : Cond.selects RX6 yX6_discountOf yX6_discountOf ∈ BIG := ch_10 _ (List.mem_of_getElem? (i := 12) rfl)
theorem k_229 : Cond.code yX6_discountOf cX6_discountOf 4 (some .int) ∈ BIG := ch_10 _ (List.mem_of_getElem? (i := 13) rfl)
theorem k_230 : Cond.methodLink RX6 66 yX6_daysSince ∈ BIG := ch_10 _ (List.mem_of_getElem? (i := 14) rfl)
theorem k_231 : Cond.instanceMethod yX6_daysSince ∈ BIG := ch_10 _ (List.mem_of_getElem? (i := 15) rfl)
theorem k_232 : Cond.selects RX6 yX6_daysSince yX6_daysSince ∈ BIG := ch_10 _ (List.mem_of_getElem? (i := 16) rfl)
theorem k_233 : Cond.code yX6_daysSince cX6_daysSince 2 (some .int) ∈ BIG := ch_10 _ (List.mem_of_getElem? (i := 17) rfl)
theorem k_234 : Cond.methodLink RX6 59 yX6_sumOf ∈ BIG := ch_10 _ (List.mem_of_getElem? (i := 18) rfl)
theorem k_235 : Cond.instanceMethod yX6_sumOf ∈ BIG := ch_10 _ (List.mem_of_getElem? (i := 19) rfl)
theorem k_236 : Cond.selects RX6 yX6_sumOf yX6_sumOf ∈ BIG := ch_10 _ (List.mem_of_getElem? (i := 20) rfl)
theorem k_237 : Cond.code yX6_sumOf cX6_sumOf 2 (some .int) ∈ BIG := ch_10 _ (List.mem_of_getElem? (i := 21) rfl)
theorem k_238 : Cond.methodLink RX6 55 yX6_taxOf ∈ BIG := ch_10 _ (List.mem_of_getElem? (i := 22) rfl)
theorem k_239 : Cond.instanceMethod yX6_taxOf ∈ BIG := ch_10 _ (List.mem_of_getElem? (i := 23) rfl)
theorem k_240 : Cond.selects RX6 yX6_taxOf yX6_taxOf ∈ BIG := ch_11 _ (List.mem_of_getElem? (i := 0) rfl)
theorem k_241 : Cond.code yX6_taxOf cX6_taxOf 2 (some .int) ∈ BIG := ch_11 _ (List.mem_of_getElem? (i := 1) rfl)
theorem k_242 : Cond.methodLink RX6 69 yX6_owedOn ∈ BIG := ch_11 _ (List.mem_of_getElem? (i := 2) rfl)
theorem k_243 : Cond.instanceMethod yX6_owedOn ∈ BIG := ch_11 _ (List.mem_of_getElem? (i := 3) rfl)
theorem k_244 : Cond.selects RX6 yX6_owedOn yX6_owedOn ∈ BIG := ch_11 _ (List.mem_of_getElem? (i := 4) rfl)
theorem k_245 : Cond.code yX6_owedOn cX6_owedOn 2 (some .int) ∈ BIG := ch_11 _ (List.mem_of_getElem? (i := 5) rfl)
theorem k_246 : Cond.methodLink RL 18 yX5_pay ∈ BIG := ch_11 _ (List.mem_of_getElem? (i := 6) rfl)
theorem k_247 : Cond.instanceMethod yX5_pay ∈ BIG := ch_11 _ (List.mem_of_getElem? (i := 7) rfl)
theorem k_248 : Cond.selects RX5 yX5_pay yX5_pay ∈ BIG := ch_11 _ (List.mem_of_getElem? (i := 8) rfl)
theorem k_249 : Cond.code yX5_pay cX5_pay 3 (some .int) ∈ BIG := ch_11 _ (List.mem_of_getElem? (i := 9) rfl)
theorem k_250 : Cond.methodLink RX5 47 yX1_takePayment ∈ BIG := ch_11 _ (List.mem_of_getElem? (i := 10) rfl)
theorem k_251 : Cond.instanceMethod yX1_takePayment ∈ BIG := ch_11 _ (List.mem_of_getElem? (i := 11) rfl)
theorem k_252 : Cond.selects RX1 yX1_takePayment yX1_takePayment ∈ BIG := ch_11 _ (List.mem_of_getElem? (i := 12) rfl)
theorem k_253 : Cond.code yX1_takePayment cX1_takePayment 9 (some .int) ∈ BIG := ch_11 _ (List.mem_of_getElem? (i := 13) rfl)
theorem k_254 : Cond.fieldLink RX1 58 "InvoiceBook$Bill" "state" "I" ∈ BIG := ch_11 _ (List.mem_of_getElem? (i := 14) rfl)
theorem k_255 : Cond.static yX5_isAmount ∈ BIG := ch_11 _ (List.mem_of_getElem? (i := 15) rfl)
theorem k_256 : Cond.code yX5_isAmount cX5_isAmount 1 (some .boolean) ∈ BIG := ch_11 _ (List.mem_of_getElem? (i := 16) rfl)
theorem k_257 : Cond.constant RX5 285 (99999) ∈ BIG := ch_11 _ (List.mem_of_getElem? (i := 17) rfl)
theorem k_258 : Cond.methodLink RX1 92 yX1_addCredit ∈ BIG := ch_11 _ (List.mem_of_getElem? (i := 18) rfl)
theorem k_259 : Cond.instanceMethod yX1_addCredit ∈ BIG := ch_11 _ (List.mem_of_getElem? (i := 19) rfl)
theorem k_260 : Cond.selects RX1 yX1_addCredit yX1_addCredit ∈ BIG := ch_11 _ (List.mem_of_getElem? (i := 20) rfl)
theorem k_261 : Cond.code yX1_addCredit cX1_addCredit 4 (some .boolean) ∈ BIG := ch_11 _ (List.mem_of_getElem? (i := 21) rfl)
theorem k_262 : Cond.constant RX1 138 (999999) ∈ BIG := ch_11 _ (List.mem_of_getElem? (i := 22) rfl)
theorem k_263 : Cond.methodLink RL 22 yX6_pay ∈ BIG := ch_11 _ (List.mem_of_getElem? (i := 23) rfl)
theorem k_264 : Cond.instanceMethod yX6_pay ∈ BIG := ch_12 _ (List.mem_of_getElem? (i := 0) rfl)
theorem k_265 : Cond.selects RX6 yX6_pay yX6_pay ∈ BIG := ch_12 _ (List.mem_of_getElem? (i := 1) rfl)
theorem k_266 : Cond.code yX6_pay cX6_pay 3 (some .int) ∈ BIG := ch_12 _ (List.mem_of_getElem? (i := 2) rfl)
theorem k_267 : Cond.methodLink RX6 122 yX6_isAmount ∈ BIG := ch_12 _ (List.mem_of_getElem? (i := 3) rfl)
theorem k_268 : Cond.static yX6_isAmount ∈ BIG := ch_12 _ (List.mem_of_getElem? (i := 4) rfl)
theorem k_269 : Cond.code yX6_isAmount cX6_isAmount 1 (some .boolean) ∈ BIG := ch_12 _ (List.mem_of_getElem? (i := 5) rfl)
theorem k_270 : Cond.constant RX6 95 (99999) ∈ BIG := ch_12 _ (List.mem_of_getElem? (i := 6) rfl)
theorem k_271 : Cond.methodLink RX6 125 yX6_wouldBeTooMuch ∈ BIG := ch_12 _ (List.mem_of_getElem? (i := 7) rfl)
theorem k_272 : Cond.instanceMethod yX6_wouldBeTooMuch ∈ BIG := ch_12 _ (List.mem_of_getElem? (i := 8) rfl)
theorem k_273 : Cond.selects RX6 yX6_wouldBeTooMuch yX6_wouldBeTooMuch ∈ BIG := ch_12 _ (List.mem_of_getElem? (i := 9) rfl)
theorem k_274 : Cond.code yX6_wouldBeTooMuch cX6_wouldBeTooMuch 5 (some .boolean) ∈ BIG := ch_12 _ (List.mem_of_getElem? (i := 10) rfl)
theorem k_275 : Cond.methodLink RX6 109 yX6_putAside ∈ BIG := ch_12 _ (List.mem_of_getElem? (i := 11) rfl)
theorem k_276 : Cond.instanceMethod yX6_putAside ∈ BIG := ch_12 _ (List.mem_of_getElem? (i := 12) rfl)
theorem k_277 : Cond.selects RX6 yX6_putAside yX6_putAside ∈ BIG := ch_12 _ (List.mem_of_getElem? (i := 13) rfl)
theorem k_278 : Cond.code yX6_putAside cX6_putAside 2 none ∈ BIG := ch_12 _ (List.mem_of_getElem? (i := 14) rfl)
theorem k_279 : Cond.methodLink RX6 112 yX6_paysAll ∈ BIG := ch_12 _ (List.mem_of_getElem? (i := 15) rfl)
theorem k_280 : Cond.instanceMethod yX6_paysAll ∈ BIG := ch_12 _ (List.mem_of_getElem? (i := 16) rfl)
theorem k_281 : Cond.selects RX6 yX6_paysAll yX6_paysAll ∈ BIG := ch_12 _ (List.mem_of_getElem? (i := 17) rfl)
theorem k_282 : Cond.code yX6_paysAll cX6_paysAll 6 (some .int) ∈ BIG := ch_12 _ (List.mem_of_getElem? (i := 18) rfl)
theorem k_283 : Cond.methodLink RX6 75 yX6_isOpenOf ∈ BIG := ch_12 _ (List.mem_of_getElem? (i := 19) rfl)
theorem k_284 : Cond.instanceMethod yX6_isOpenOf ∈ BIG := ch_12 _ (List.mem_of_getElem? (i := 20) rfl)
theorem k_285 : Cond.selects RX6 yX6_isOpenOf yX6_isOpenOf ∈ BIG := ch_12 _ (List.mem_of_getElem? (i := 21) rfl)
theorem k_286 : Cond.code yX6_isOpenOf cX6_isOpenOf 3 (some .boolean) ∈ BIG := ch_12 _ (List.mem_of_getElem? (i := 22) rfl)
theorem k_287 : Cond.methodLink RX6 62 yX6_is ∈ BIG := ch_12 _ (List.mem_of_getElem? (i := 23) rfl)
theorem k_288 : Cond.instanceMethod yX6_is ∈ BIG := ch_13 _ (List.mem_of_getElem? (i := 0) rfl)
theorem k_289 : Cond.selects RX6 yX6_is yX6_is ∈ BIG := ch_13 _ (List.mem_of_getElem? (i := 1) rfl)
theorem k_290 : Cond.code yX6_is cX6_is 3 (some .boolean) ∈ BIG := ch_13 _ (List.mem_of_getElem? (i := 2) rfl)
theorem k_291 : Cond.methodLink RX6 115 yX6_isTooMuch ∈ BIG := ch_13 _ (List.mem_of_getElem? (i := 3) rfl)
theorem k_292 : Cond.instanceMethod yX6_isTooMuch ∈ BIG := ch_13 _ (List.mem_of_getElem? (i := 4) rfl)
theorem k_293 : Cond.selects RX6 yX6_isTooMuch yX6_isTooMuch ∈ BIG := ch_13 _ (List.mem_of_getElem? (i := 5) rfl)
theorem k_294 : Cond.code yX6_isTooMuch cX6_isTooMuch 3 (some .boolean) ∈ BIG := ch_13 _ (List.mem_of_getElem? (i := 6) rfl)
theorem k_295 : Cond.constant RX6 81 (999999) ∈ BIG := ch_13 _ (List.mem_of_getElem? (i := 7) rfl)
theorem k_296 : Cond.methodLink RX6 119 yX6_putBack ∈ BIG := ch_13 _ (List.mem_of_getElem? (i := 8) rfl)
theorem k_297 : Cond.instanceMethod yX6_putBack ∈ BIG := ch_13 _ (List.mem_of_getElem? (i := 9) rfl)
theorem k_298 : Cond.selects RX6 yX6_putBack yX6_putBack ∈ BIG := ch_13 _ (List.mem_of_getElem? (i := 10) rfl)
theorem k_299 : Cond.code yX6_putBack cX6_putBack 2 none ∈ BIG := ch_13 _ (List.mem_of_getElem? (i := 11) rfl)
theorem k_300 : Cond.methodLink RL 23 yX5_payBill ∈ BIG := ch_13 _ (List.mem_of_getElem? (i := 12) rfl)
theorem k_301 : Cond.instanceMethod yX5_payBill ∈ BIG := ch_13 _ (List.mem_of_getElem? (i := 13) rfl)
theorem k_302 : Cond.selects RX5 yX5_payBill yX5_payBill ∈ BIG := ch_13 _ (List.mem_of_getElem? (i := 14) rfl)
theorem k_303 : Cond.code yX5_payBill cX5_payBill 3 (some .int) ∈ BIG := ch_13 _ (List.mem_of_getElem? (i := 15) rfl)
theorem k_304 : Cond.methodLink RX5 51 yX1_takePaymentFor ∈ BIG := ch_13 _ (List.mem_of_getElem? (i := 16) rfl)
theorem k_305 : Cond.instanceMethod yX1_takePaymentFor ∈ BIG := ch_13 _ (List.mem_of_getElem? (i := 17) rfl)
theorem k_306 : Cond.selects RX1 yX1_takePaymentFor yX1_takePaymentFor ∈ BIG := ch_13 _ (List.mem_of_getElem? (i := 18) rfl)
theorem k_307 : Cond.code yX1_takePaymentFor cX1_takePaymentFor 5 (some .int) ∈ BIG := ch_13 _ (List.mem_of_getElem? (i := 19) rfl)
theorem k_308 : Cond.fieldLink RX1 99 "InvoiceBook$Bill" "customer" "I" ∈ BIG := ch_13 _ (List.mem_of_getElem? (i := 20) rfl)
theorem k_309 : Cond.methodLink RX1 95 yX1_billAt ∈ BIG := ch_13 _ (List.mem_of_getElem? (i := 21) rfl)
theorem k_310 : Cond.instanceMethod yX1_billAt ∈ BIG := ch_13 _ (List.mem_of_getElem? (i := 22) rfl)
theorem k_311 : Cond.selects RX1 yX1_billAt yX1_billAt ∈ BIG := ch_13 _ (List.mem_of_getElem? (i := 23) rfl)
theorem k_312 : Cond.code yX1_billAt cX1_billAt 2 (some (.object "InvoiceBook$Bill")) ∈ BIG := ch_14 _ (List.mem_of_getElem? (i := 0) rfl)
theorem k_313 : Cond.methodLink RL 26 yX6_payBill ∈ BIG := ch_14 _ (List.mem_of_getElem? (i := 1) rfl)
theorem k_314 : Cond.instanceMethod yX6_payBill ∈ BIG := ch_14 _ (List.mem_of_getElem? (i := 2) rfl)
theorem k_315 : Cond.selects RX6 yX6_payBill yX6_payBill ∈ BIG := ch_14 _ (List.mem_of_getElem? (i := 3) rfl)
theorem k_316 : Cond.code yX6_payBill cX6_payBill 4 (some .int) ∈ BIG := ch_14 _ (List.mem_of_getElem? (i := 4) rfl)
theorem k_317 : Cond.methodLink RX6 131 yX6_isBill ∈ BIG := ch_14 _ (List.mem_of_getElem? (i := 5) rfl)
theorem k_318 : Cond.instanceMethod yX6_isBill ∈ BIG := ch_14 _ (List.mem_of_getElem? (i := 6) rfl)
theorem k_319 : Cond.selects RX6 yX6_isBill yX6_isBill ∈ BIG := ch_14 _ (List.mem_of_getElem? (i := 7) rfl)
theorem k_320 : Cond.code yX6_isBill cX6_isBill 2 (some .boolean) ∈ BIG := ch_14 _ (List.mem_of_getElem? (i := 8) rfl)
theorem k_321 : Cond.methodLink RX6 134 yX6_refusalOn ∈ BIG := ch_14 _ (List.mem_of_getElem? (i := 9) rfl)
theorem k_322 : Cond.instanceMethod yX6_refusalOn ∈ BIG := ch_14 _ (List.mem_of_getElem? (i := 10) rfl)
theorem k_323 : Cond.selects RX6 yX6_refusalOn yX6_refusalOn ∈ BIG := ch_14 _ (List.mem_of_getElem? (i := 11) rfl)
theorem k_324 : Cond.code yX6_refusalOn cX6_refusalOn 5 (some .int) ∈ BIG := ch_14 _ (List.mem_of_getElem? (i := 12) rfl)
theorem k_325 : Cond.methodLink RX6 128 yX6_paidOn ∈ BIG := ch_14 _ (List.mem_of_getElem? (i := 13) rfl)
theorem k_326 : Cond.instanceMethod yX6_paidOn ∈ BIG := ch_14 _ (List.mem_of_getElem? (i := 14) rfl)
theorem k_327 : Cond.selects RX6 yX6_paidOn yX6_paidOn ∈ BIG := ch_14 _ (List.mem_of_getElem? (i := 15) rfl)
theorem k_328 : Cond.code yX6_paidOn cX6_paidOn 4 (some .int) ∈ BIG := ch_14 _ (List.mem_of_getElem? (i := 16) rfl)
theorem k_329 : Cond.methodLink RL 27 yX5_payBack ∈ BIG := ch_14 _ (List.mem_of_getElem? (i := 17) rfl)
theorem k_330 : Cond.instanceMethod yX5_payBack ∈ BIG := ch_14 _ (List.mem_of_getElem? (i := 18) rfl)
theorem k_331 : Cond.selects RX5 yX5_payBack yX5_payBack ∈ BIG := ch_14 _ (List.mem_of_getElem? (i := 19) rfl)
theorem k_332 : Cond.code yX5_payBack cX5_payBack 2 (some .int) ∈ BIG := ch_14 _ (List.mem_of_getElem? (i := 20) rfl)
theorem k_333 : Cond.methodLink RX5 54 yX1_returnCredit ∈ BIG := ch_14 _ (List.mem_of_getElem? (i := 21) rfl)
theorem k_334 : Cond.instanceMethod yX1_returnCredit ∈ BIG := ch_14 _ (List.mem_of_getElem? (i := 22) rfl)
theorem k_335 : Cond.selects RX1 yX1_returnCredit yX1_returnCredit ∈ BIG := ch_14 _ (List.mem_of_getElem? (i := 23) rfl)
theorem k_336 : Cond.code yX1_returnCredit cX1_returnCredit 3 (some .int) ∈ BIG := ch_15 _ (List.mem_of_getElem? (i := 0) rfl)
theorem k_337 : Cond.methodLink RL 31 yX6_payBack ∈ BIG := ch_15 _ (List.mem_of_getElem? (i := 1) rfl)
theorem k_338 : Cond.instanceMethod yX6_payBack ∈ BIG := ch_15 _ (List.mem_of_getElem? (i := 2) rfl)
theorem k_339 : Cond.selects RX6 yX6_payBack yX6_payBack ∈ BIG := ch_15 _ (List.mem_of_getElem? (i := 3) rfl)
theorem k_340 : Cond.code yX6_payBack cX6_payBack 3 (some .int) ∈ BIG := ch_15 _ (List.mem_of_getElem? (i := 4) rfl)
theorem k_341 : Cond.methodLink RL 32 yX5_pass ∈ BIG := ch_15 _ (List.mem_of_getElem? (i := 5) rfl)
theorem k_342 : Cond.instanceMethod yX5_pass ∈ BIG := ch_15 _ (List.mem_of_getElem? (i := 6) rfl)
theorem k_343 : Cond.selects RX5 yX5_pass yX5_pass ∈ BIG := ch_15 _ (List.mem_of_getElem? (i := 7) rfl)
theorem k_344 : Cond.code yX5_pass cX5_pass 2 (some .int) ∈ BIG := ch_15 _ (List.mem_of_getElem? (i := 8) rfl)
theorem k_345 : Cond.methodLink RX5 57 yX1_goOn ∈ BIG := ch_15 _ (List.mem_of_getElem? (i := 9) rfl)
theorem k_346 : Cond.instanceMethod yX1_goOn ∈ BIG := ch_15 _ (List.mem_of_getElem? (i := 10) rfl)
theorem k_347 : Cond.selects RX1 yX1_goOn yX1_goOn ∈ BIG := ch_15 _ (List.mem_of_getElem? (i := 11) rfl)
theorem k_348 : Cond.code yX1_goOn cX1_goOn 2 (some .int) ∈ BIG := ch_15 _ (List.mem_of_getElem? (i := 12) rfl)
theorem k_349 : Cond.methodLink RX1 139 yX1_countOverdue ∈ BIG := ch_15 _ (List.mem_of_getElem? (i := 13) rfl)
theorem k_350 : Cond.instanceMethod yX1_countOverdue ∈ BIG := ch_15 _ (List.mem_of_getElem? (i := 14) rfl)
theorem k_351 : Cond.selects RX1 yX1_countOverdue yX1_countOverdue ∈ BIG := ch_15 _ (List.mem_of_getElem? (i := 15) rfl)
theorem k_352 : Cond.code yX1_countOverdue cX1_countOverdue 6 (some .int) ∈ BIG := ch_15 _ (List.mem_of_getElem? (i := 16) rfl)
theorem k_353 : Cond.methodLink RX1 166 yX0_isOverdue ∈ BIG := ch_15 _ (List.mem_of_getElem? (i := 17) rfl)
theorem k_354 : Cond.instanceMethod yX0_isOverdue ∈ BIG := ch_15 _ (List.mem_of_getElem? (i := 18) rfl)
theorem k_355 : Cond.selects RX0 yX0_isOverdue yX0_isOverdue ∈ BIG := ch_15 _ (List.mem_of_getElem? (i := 19) rfl)
theorem k_356 : Cond.code yX0_isOverdue cX0_isOverdue 2 (some .boolean) ∈ BIG := ch_15 _ (List.mem_of_getElem? (i := 20) rfl)
theorem k_357 : Cond.methodLink RL 35 yX6_pass ∈ BIG := ch_15 _ (List.mem_of_getElem? (i := 21) rfl)
theorem k_358 : Cond.instanceMethod yX6_pass ∈ BIG := ch_15 _ (List.mem_of_getElem? (i := 22) rfl)
theorem k_359 : Cond.selects RX6 yX6_pass yX6_pass ∈ BIG := ch_15 _ (List.mem_of_getElem? (i := 23) rfl)
theorem k_360 : Cond.code yX6_pass cX6_pass 2 (some .int) ∈ BIG := ch_16 _ (List.mem_of_getElem? (i := 0) rfl)
theorem k_361 : Cond.methodLink RX6 137 yX6_overdue ∈ BIG := ch_16 _ (List.mem_of_getElem? (i := 1) rfl)
theorem k_362 : Cond.instanceMethod yX6_overdue ∈ BIG := ch_16 _ (List.mem_of_getElem? (i := 2) rfl)
theorem k_363 : Cond.selects RX6 yX6_overdue yX6_overdue ∈ BIG := ch_16 _ (List.mem_of_getElem? (i := 3) rfl)
theorem k_364 : Cond.code yX6_overdue cX6_overdue 3 (some .int) ∈ BIG := ch_16 _ (List.mem_of_getElem? (i := 4) rfl)
theorem k_365 : Cond.methodLink RX6 85 yX6_isOverdue ∈ BIG := ch_16 _ (List.mem_of_getElem? (i := 5) rfl)
theorem k_366 : Cond.instanceMethod yX6_isOverdue ∈ BIG := ch_16 _ (List.mem_of_getElem? (i := 6) rfl)
theorem k_367 : Cond.selects RX6 yX6_isOverdue yX6_isOverdue ∈ BIG := ch_16 _ (List.mem_of_getElem? (i := 7) rfl)
theorem k_368 : Cond.code yX6_isOverdue cX6_isOverdue 2 (some .boolean) ∈ BIG := ch_16 _ (List.mem_of_getElem? (i := 8) rfl)
theorem k_369 : Cond.methodLink RL 36 yX5_remind ∈ BIG := ch_16 _ (List.mem_of_getElem? (i := 9) rfl)
theorem k_370 : Cond.instanceMethod yX5_remind ∈ BIG := ch_16 _ (List.mem_of_getElem? (i := 10) rfl)
theorem k_371 : Cond.selects RX5 yX5_remind yX5_remind ∈ BIG := ch_16 _ (List.mem_of_getElem? (i := 11) rfl)
theorem k_372 : Cond.code yX5_remind cX5_remind 1 (some .int) ∈ BIG := ch_16 _ (List.mem_of_getElem? (i := 12) rfl)
theorem k_373 : Cond.methodLink RX5 60 yX1_sendReminders ∈ BIG := ch_16 _ (List.mem_of_getElem? (i := 13) rfl)
theorem k_374 : Cond.instanceMethod yX1_sendReminders ∈ BIG := ch_16 _ (List.mem_of_getElem? (i := 14) rfl)
theorem k_375 : Cond.selects RX1 yX1_sendReminders yX1_sendReminders ∈ BIG := ch_16 _ (List.mem_of_getElem? (i := 15) rfl)
theorem k_376 : Cond.code yX1_sendReminders cX1_sendReminders 6 (some .int) ∈ BIG := ch_16 _ (List.mem_of_getElem? (i := 16) rfl)
theorem k_377 : Cond.methodLink RX1 142 yX3_reminderDays ∈ BIG := ch_16 _ (List.mem_of_getElem? (i := 17) rfl)
theorem k_378 : Cond.instanceMethod yX3_reminderDays ∈ BIG := ch_16 _ (List.mem_of_getElem? (i := 18) rfl)
theorem k_379 : Cond.selects RX3 yX3_reminderDays yX3_reminderDays ∈ BIG := ch_16 _ (List.mem_of_getElem? (i := 19) rfl)
theorem k_380 : Cond.code yX3_reminderDays cX3_reminderDays 1 (some .int) ∈ BIG := ch_16 _ (List.mem_of_getElem? (i := 20) rfl)
theorem k_381 : Cond.methodLink RX1 145 yX0_whyNoReminder ∈ BIG := ch_16 _ (List.mem_of_getElem? (i := 21) rfl)
theorem k_382 : Cond.instanceMethod yX0_whyNoReminder ∈ BIG := ch_16 _ (List.mem_of_getElem? (i := 22) rfl)
theorem k_383 : Cond.selects RX0 yX0_whyNoReminder yX0_whyNoReminder ∈ BIG := ch_16 _ (List.mem_of_getElem? (i := 23) rfl)
theorem k_384 : Cond.code yX0_whyNoReminder cX0_whyNoReminder 3 (some .int) ∈ BIG := ch_17 _ (List.mem_of_getElem? (i := 0) rfl)
theorem k_385 : Cond.methodLink RX0 54 yX0_isOverdue ∈ BIG := ch_17 _ (List.mem_of_getElem? (i := 1) rfl)
theorem k_386 : Cond.methodLink RX0 58 yX0_reminderDay ∈ BIG := ch_17 _ (List.mem_of_getElem? (i := 2) rfl)
theorem k_387 : Cond.instanceMethod yX0_reminderDay ∈ BIG := ch_17 _ (List.mem_of_getElem? (i := 3) rfl)
theorem k_388 : Cond.selects RX0 yX0_reminderDay yX0_reminderDay ∈ BIG := ch_17 _ (List.mem_of_getElem? (i := 4) rfl)
theorem k_389 : Cond.code yX0_reminderDay cX0_reminderDay 2 (some .int) ∈ BIG := ch_17 _ (List.mem_of_getElem? (i := 5) rfl)
theorem k_390 : Cond.methodLink RX0 62 yX0_dueDay ∈ BIG := ch_17 _ (List.mem_of_getElem? (i := 6) rfl)
theorem k_391 : Cond.instanceMethod yX0_dueDay ∈ BIG := ch_17 _ (List.mem_of_getElem? (i := 7) rfl)
theorem k_392 : Cond.selects RX0 yX0_dueDay yX0_dueDay ∈ BIG := ch_17 _ (List.mem_of_getElem? (i := 8) rfl)
theorem k_393 : Cond.code yX0_dueDay cX0_dueDay 1 (some .int) ∈ BIG := ch_17 _ (List.mem_of_getElem? (i := 9) rfl)
theorem k_394 : Cond.methodLink RX1 148 yX3_reminderFee ∈ BIG := ch_17 _ (List.mem_of_getElem? (i := 10) rfl)
theorem k_395 : Cond.instanceMethod yX3_reminderFee ∈ BIG := ch_17 _ (List.mem_of_getElem? (i := 11) rfl)
theorem k_396 : Cond.selects RX3 yX3_reminderFee yX3_reminderFee ∈ BIG := ch_17 _ (List.mem_of_getElem? (i := 12) rfl)
theorem k_397 : Cond.code yX3_reminderFee cX3_reminderFee 1 (some .int) ∈ BIG := ch_17 _ (List.mem_of_getElem? (i := 13) rfl)
theorem k_398 : Cond.methodLink RX1 151 yX0_addReminder ∈ BIG := ch_17 _ (List.mem_of_getElem? (i := 14) rfl)
theorem k_399 : Cond.instanceMethod yX0_addReminder ∈ BIG := ch_17 _ (List.mem_of_getElem? (i := 15) rfl)
theorem k_400 : Cond.selects RX0 yX0_addReminder yX0_addReminder ∈ BIG := ch_17 _ (List.mem_of_getElem? (i := 16) rfl)
theorem k_401 : Cond.code yX0_addReminder cX0_addReminder 3 none ∈ BIG := ch_17 _ (List.mem_of_getElem? (i := 17) rfl)
theorem k_402 : Cond.methodLink RL 40 yX6_remind ∈ BIG := ch_17 _ (List.mem_of_getElem? (i := 18) rfl)
theorem k_403 : Cond.instanceMethod yX6_remind ∈ BIG := ch_17 _ (List.mem_of_getElem? (i := 19) rfl)
theorem k_404 : Cond.selects RX6 yX6_remind yX6_remind ∈ BIG := ch_17 _ (List.mem_of_getElem? (i := 20) rfl)
theorem k_405 : Cond.code yX6_remind cX6_remind 2 (some .int) ∈ BIG := ch_17 _ (List.mem_of_getElem? (i := 21) rfl)
theorem k_406 : Cond.methodLink RX6 141 yX6_reminds ∈ BIG := ch_17 _ (List.mem_of_getElem? (i := 22) rfl)
theorem k_407 : Cond.instanceMethod yX6_reminds ∈ BIG := ch_17 _ (List.mem_of_getElem? (i := 23) rfl)
theorem k_408 : Cond.selects RX6 yX6_reminds yX6_reminds ∈ BIG := ch_18 _ (List.mem_of_getElem? (i := 0) rfl)
theorem k_409 : Cond.code yX6_reminds cX6_reminds 3 (some .int) ∈ BIG := ch_18 _ (List.mem_of_getElem? (i := 1) rfl)
theorem k_410 : Cond.methodLink RX6 92 yX6_why ∈ BIG := ch_18 _ (List.mem_of_getElem? (i := 2) rfl)
theorem k_411 : Cond.instanceMethod yX6_why ∈ BIG := ch_18 _ (List.mem_of_getElem? (i := 3) rfl)
theorem k_412 : Cond.selects RX6 yX6_why yX6_why ∈ BIG := ch_18 _ (List.mem_of_getElem? (i := 4) rfl)
theorem k_413 : Cond.code yX6_why cX6_why 2 (some .int) ∈ BIG := ch_18 _ (List.mem_of_getElem? (i := 5) rfl)
theorem k_414 : Cond.methodLink RX6 89 yX6_countedFrom ∈ BIG := ch_18 _ (List.mem_of_getElem? (i := 6) rfl)
theorem k_415 : Cond.instanceMethod yX6_countedFrom ∈ BIG := ch_18 _ (List.mem_of_getElem? (i := 7) rfl)
theorem k_416 : Cond.selects RX6 yX6_countedFrom yX6_countedFrom ∈ BIG := ch_18 _ (List.mem_of_getElem? (i := 8) rfl)
theorem k_417 : Cond.code yX6_countedFrom cX6_countedFrom 2 (some .int) ∈ BIG := ch_18 _ (List.mem_of_getElem? (i := 9) rfl)
theorem k_418 : Cond.methodLink RX6 82 yX6_dueDay ∈ BIG := ch_18 _ (List.mem_of_getElem? (i := 10) rfl)
theorem k_419 : Cond.instanceMethod yX6_dueDay ∈ BIG := ch_18 _ (List.mem_of_getElem? (i := 11) rfl)
theorem k_420 : Cond.selects RX6 yX6_dueDay yX6_dueDay ∈ BIG := ch_18 _ (List.mem_of_getElem? (i := 12) rfl)
theorem k_421 : Cond.code yX6_dueDay cX6_dueDay 2 (some .int) ∈ BIG := ch_18 _ (List.mem_of_getElem? (i := 13) rfl)
theorem k_422 : Cond.methodLink RL 41 yX5_writeOff ∈ BIG := ch_18 _ (List.mem_of_getElem? (i := 14) rfl)
theorem k_423 : Cond.instanceMethod yX5_writeOff ∈ BIG := ch_18 _ (List.mem_of_getElem? (i := 15) rfl)
theorem k_424 : Cond.selects RX5 yX5_writeOff yX5_writeOff ∈ BIG := ch_18 _ (List.mem_of_getElem? (i := 16) rfl)
theorem k_425 : Cond.code yX5_writeOff cX5_writeOff 2 (some .int) ∈ BIG := ch_18 _ (List.mem_of_getElem? (i := 17) rfl)
theorem k_426 : Cond.methodLink RX5 64 yX1_giveUp ∈ BIG := ch_18 _ (List.mem_of_getElem? (i := 18) rfl)
theorem k_427 : Cond.instanceMethod yX1_giveUp ∈ BIG := ch_18 _ (List.mem_of_getElem? (i := 19) rfl)
theorem k_428 : Cond.selects RX1 yX1_giveUp yX1_giveUp ∈ BIG := ch_18 _ (List.mem_of_getElem? (i := 20) rfl)
theorem k_429 : Cond.code yX1_giveUp cX1_giveUp 3 (some .int) ∈ BIG := ch_18 _ (List.mem_of_getElem? (i := 21) rfl)
theorem k_430 : Cond.methodLink RX1 154 yX0_canBeWrittenOff ∈ BIG := ch_18 _ (List.mem_of_getElem? (i := 22) rfl)
theorem k_431 : Cond.instanceMethod yX0_canBeWrittenOff ∈ BIG := ch_18 _ (List.mem_of_getElem? (i := 23) rfl)
theorem k_432 : Cond.selects RX0 yX0_canBeWrittenOff yX0_canBeWrittenOff ∈ BIG := ch_19 _ (List.mem_of_getElem? (i := 0) rfl)
theorem k_433 : Cond.code yX0_canBeWrittenOff cX0_canBeWrittenOff 3 (some .boolean) ∈ BIG := ch_19 _ (List.mem_of_getElem? (i := 1) rfl)
theorem k_434 : Cond.methodLink RL 44 yX6_writeOff ∈ BIG := ch_19 _ (List.mem_of_getElem? (i := 2) rfl)
theorem k_435 : Cond.instanceMethod yX6_writeOff ∈ BIG := ch_19 _ (List.mem_of_getElem? (i := 3) rfl)
theorem k_436 : Cond.selects RX6 yX6_writeOff yX6_writeOff ∈ BIG := ch_19 _ (List.mem_of_getElem? (i := 4) rfl)
theorem k_437 : Cond.code yX6_writeOff cX6_writeOff 2 (some .int) ∈ BIG := ch_19 _ (List.mem_of_getElem? (i := 5) rfl)
theorem k_438 : Cond.methodLink RX6 144 yX6_canBeOff ∈ BIG := ch_19 _ (List.mem_of_getElem? (i := 6) rfl)
theorem k_439 : Cond.instanceMethod yX6_canBeOff ∈ BIG := ch_19 _ (List.mem_of_getElem? (i := 7) rfl)
theorem k_440 : Cond.selects RX6 yX6_canBeOff yX6_canBeOff ∈ BIG := ch_19 _ (List.mem_of_getElem? (i := 8) rfl)
theorem k_441 : Cond.code yX6_canBeOff cX6_canBeOff 2 (some .boolean) ∈ BIG := ch_19 _ (List.mem_of_getElem? (i := 9) rfl)
theorem k_442 : Cond.methodLink RL 45 yX5_closeYear ∈ BIG := ch_19 _ (List.mem_of_getElem? (i := 10) rfl)
theorem k_443 : Cond.instanceMethod yX5_closeYear ∈ BIG := ch_19 _ (List.mem_of_getElem? (i := 11) rfl)
theorem k_444 : Cond.selects RX5 yX5_closeYear yX5_closeYear ∈ BIG := ch_19 _ (List.mem_of_getElem? (i := 12) rfl)
theorem k_445 : Cond.code yX5_closeYear cX5_closeYear 2 (some .int) ∈ BIG := ch_19 _ (List.mem_of_getElem? (i := 13) rfl)
theorem k_446 : Cond.methodLink RX5 67 yX1_endYear ∈ BIG := ch_19 _ (List.mem_of_getElem? (i := 14) rfl)
theorem k_447 : Cond.instanceMethod yX1_endYear ∈ BIG := ch_19 _ (List.mem_of_getElem? (i := 15) rfl)
theorem k_448 : Cond.selects RX1 yX1_endYear yX1_endYear ∈ BIG := ch_19 _ (List.mem_of_getElem? (i := 16) rfl)
theorem k_449 : Cond.code yX1_endYear cX1_endYear 2 (some .int) ∈ BIG := ch_19 _ (List.mem_of_getElem? (i := 17) rfl)
theorem k_450 : Cond.methodLink RX1 157 yX3_taxWay ∈ BIG := ch_19 _ (List.mem_of_getElem? (i := 18) rfl)
theorem k_451 : Cond.instanceMethod yX3_taxWay ∈ BIG := ch_19 _ (List.mem_of_getElem? (i := 19) rfl)
theorem k_452 : Cond.selects RX3 yX3_taxWay yX3_taxWay ∈ BIG := ch_19 _ (List.mem_of_getElem? (i := 20) rfl)
theorem k_453 : Cond.code yX3_taxWay cX3_taxWay 1 (some .int) ∈ BIG := ch_19 _ (List.mem_of_getElem? (i := 21) rfl)
theorem k_454 : Cond.methodLink RX1 160 yX1_taxOf ∈ BIG := ch_19 _ (List.mem_of_getElem? (i := 22) rfl)
theorem k_455 : Cond.instanceMethod yX1_taxOf ∈ BIG := ch_19 _ (List.mem_of_getElem? (i := 23) rfl)
theorem k_456 : Cond.selects RX1 yX1_taxOf yX1_taxOf ∈ BIG := ch_20 _ (List.mem_of_getElem? (i := 0) rfl)
theorem k_457 : Cond.code yX1_taxOf cX1_taxOf 8 (some .int) ∈ BIG := ch_20 _ (List.mem_of_getElem? (i := 1) rfl)
theorem k_458 : Cond.fieldLink RX1 163 "InvoiceBook$Bill" "tax" "I" ∈ BIG := ch_20 _ (List.mem_of_getElem? (i := 2) rfl)
theorem k_459 : Cond.methodLink RL 48 yX6_closeYear ∈ BIG := ch_20 _ (List.mem_of_getElem? (i := 3) rfl)
theorem k_460 : Cond.instanceMethod yX6_closeYear ∈ BIG := ch_20 _ (List.mem_of_getElem? (i := 4) rfl)
theorem k_461 : Cond.selects RX6 yX6_closeYear yX6_closeYear ∈ BIG := ch_20 _ (List.mem_of_getElem? (i := 5) rfl)
theorem k_462 : Cond.code yX6_closeYear cX6_closeYear 2 (some .int) ∈ BIG := ch_20 _ (List.mem_of_getElem? (i := 6) rfl)
theorem k_463 : Cond.methodLink RX6 147 yX6_isYear ∈ BIG := ch_20 _ (List.mem_of_getElem? (i := 7) rfl)
theorem k_464 : Cond.static yX6_isYear ∈ BIG := ch_20 _ (List.mem_of_getElem? (i := 8) rfl)
theorem k_465 : Cond.code yX6_isYear cX6_isYear 1 (some .boolean) ∈ BIG := ch_20 _ (List.mem_of_getElem? (i := 9) rfl)
theorem k_466 : Cond.methodLink RX6 150 yX6_dueFor ∈ BIG := ch_20 _ (List.mem_of_getElem? (i := 10) rfl)
theorem k_467 : Cond.instanceMethod yX6_dueFor ∈ BIG := ch_20 _ (List.mem_of_getElem? (i := 11) rfl)
theorem k_468 : Cond.selects RX6 yX6_dueFor yX6_dueFor ∈ BIG := ch_20 _ (List.mem_of_getElem? (i := 12) rfl)
theorem k_469 : Cond.code yX6_dueFor cX6_dueFor 5 (some .int) ∈ BIG := ch_20 _ (List.mem_of_getElem? (i := 13) rfl)
theorem k_470 : Cond.methodLink RL 49 yX5_set ∈ BIG := ch_20 _ (List.mem_of_getElem? (i := 14) rfl)
theorem k_471 : Cond.instanceMethod yX5_set ∈ BIG := ch_20 _ (List.mem_of_getElem? (i := 15) rfl)
theorem k_472 : Cond.selects RX5 yX5_set yX5_set ∈ BIG := ch_20 _ (List.mem_of_getElem? (i := 16) rfl)
theorem k_473 : Cond.code yX5_set cX5_set 3 (some .int) ∈ BIG := ch_20 _ (List.mem_of_getElem? (i := 17) rfl)
theorem k_474 : Cond.fieldLink RX5 70 "InvoiceBook$Book" "settings" "LInvoiceBook$Settings;" ∈ BIG := ch_20 _ (List.mem_of_getElem? (i := 18) rfl)
theorem k_475 : Cond.methodLink RX5 74 yX3_change ∈ BIG := ch_20 _ (List.mem_of_getElem? (i := 19) rfl)
theorem k_476 : Cond.instanceMethod yX3_change ∈ BIG := ch_20 _ (List.mem_of_getElem? (i := 20) rfl)
theorem k_477 : Cond.selects RX3 yX3_change yX3_change ∈ BIG := ch_20 _ (List.mem_of_getElem? (i := 21) rfl)
theorem k_478 : Cond.code yX3_change cX3_change 4 (some .int) ∈ BIG := ch_20 _ (List.mem_of_getElem? (i := 22) rfl)
theorem k_479 : Cond.fieldLink RX3 25 "InvoiceBook$Settings" "LEAST" "[I" ∈ BIG := ch_20 _ (List.mem_of_getElem? (i := 23) rfl)
theorem k_480 : Cond.fieldLink RX3 28 "InvoiceBook$Settings" "MOST" "[I" ∈ BIG := ch_21 _ (List.mem_of_getElem? (i := 0) rfl)
theorem k_481 : Cond.methodLink RX3 21 yX3_valueOf ∈ BIG := ch_21 _ (List.mem_of_getElem? (i := 1) rfl)
theorem k_482 : Cond.instanceMethod yX3_valueOf ∈ BIG := ch_21 _ (List.mem_of_getElem? (i := 2) rfl)
theorem k_483 : Cond.selects RX3 yX3_valueOf yX3_valueOf ∈ BIG := ch_21 _ (List.mem_of_getElem? (i := 3) rfl)
theorem k_484 : Cond.code yX3_valueOf cX3_valueOf 2 (some .int) ∈ BIG := ch_21 _ (List.mem_of_getElem? (i := 4) rfl)
theorem k_485 : Cond.methodLink RL 52 yX6_set ∈ BIG := ch_21 _ (List.mem_of_getElem? (i := 5) rfl)
theorem k_486 : Cond.instanceMethod yX6_set ∈ BIG := ch_21 _ (List.mem_of_getElem? (i := 6) rfl)
theorem k_487 : Cond.selects RX6 yX6_set yX6_set ∈ BIG := ch_21 _ (List.mem_of_getElem? (i := 7) rfl)
theorem k_488 : Cond.code yX6_set cX6_set 4 (some .int) ∈ BIG := ch_21 _ (List.mem_of_getElem? (i := 8) rfl)
theorem k_489 : Cond.methodLink RX6 153 yX6_most ∈ BIG := ch_21 _ (List.mem_of_getElem? (i := 9) rfl)
theorem k_490 : Cond.static yX6_most ∈ BIG := ch_21 _ (List.mem_of_getElem? (i := 10) rfl)
theorem k_491 : Cond.code yX6_most cX6_most 1 (some .int) ∈ BIG := ch_21 _ (List.mem_of_getElem? (i := 11) rfl)
theorem k_492 : Cond.methodLink RL 53 yX5_type ∈ BIG := ch_21 _ (List.mem_of_getElem? (i := 12) rfl)
theorem k_493 : Cond.instanceMethod yX5_type ∈ BIG := ch_21 _ (List.mem_of_getElem? (i := 13) rfl)
theorem k_494 : Cond.selects RX5 yX5_type yX5_type ∈ BIG := ch_21 _ (List.mem_of_getElem? (i := 14) rfl)
theorem k_495 : Cond.code yX5_type cX5_type 2 (some .int) ∈ BIG := ch_21 _ (List.mem_of_getElem? (i := 15) rfl)
theorem k_496 : Cond.fieldLink RX5 83 "InvoiceBook$Text" "length" "I" ∈ BIG := ch_21 _ (List.mem_of_getElem? (i := 16) rfl)
theorem k_497 : Cond.methodLink RX5 79 yX4_add ∈ BIG := ch_21 _ (List.mem_of_getElem? (i := 17) rfl)
theorem k_498 : Cond.instanceMethod yX4_add ∈ BIG := ch_21 _ (List.mem_of_getElem? (i := 18) rfl)
theorem k_499 : Cond.selects RX4 yX4_add yX4_add ∈ BIG := ch_21 _ (List.mem_of_getElem? (i := 19) rfl)
theorem k_500 : Cond.code yX4_add cX4_add 2 (some .boolean) ∈ BIG := ch_21 _ (List.mem_of_getElem? (i := 20) rfl)
theorem k_501 : Cond.fieldLink RX4 15 "InvoiceBook$Text" "length" "I" ∈ BIG := ch_21 _ (List.mem_of_getElem? (i := 21) rfl)
theorem k_502 : Cond.methodLink RL 57 yX6_type ∈ BIG := ch_21 _ (List.mem_of_getElem? (i := 22) rfl)
theorem k_503 : Cond.instanceMethod yX6_type ∈ BIG := ch_21 _ (List.mem_of_getElem? (i := 23) rfl)
theorem k_504 : Cond.selects RX6 yX6_type yX6_type ∈ BIG := ch_22 _ (List.mem_of_getElem? (i := 0) rfl)
theorem k_505 : Cond.code yX6_type cX6_type 2 (some .int) ∈ BIG := ch_22 _ (List.mem_of_getElem? (i := 1) rfl)
theorem k_506 : Cond.fieldLink RX6 156 "InvoiceBookModel" "length" "I" ∈ BIG := ch_22 _ (List.mem_of_getElem? (i := 2) rfl)
theorem k_507 : Cond.methodLink RL 58 yX5_clearText ∈ BIG := ch_22 _ (List.mem_of_getElem? (i := 3) rfl)
theorem k_508 : Cond.instanceMethod yX5_clearText ∈ BIG := ch_22 _ (List.mem_of_getElem? (i := 4) rfl)
theorem k_509 : Cond.selects RX5 yX5_clearText yX5_clearText ∈ BIG := ch_22 _ (List.mem_of_getElem? (i := 5) rfl)
theorem k_510 : Cond.code yX5_clearText cX5_clearText 2 (some .int) ∈ BIG := ch_22 _ (List.mem_of_getElem? (i := 6) rfl)
theorem k_511 : Cond.methodLink RL 61 yX6_clearText ∈ BIG := ch_22 _ (List.mem_of_getElem? (i := 7) rfl)
theorem k_512 : Cond.instanceMethod yX6_clearText ∈ BIG := ch_22 _ (List.mem_of_getElem? (i := 8) rfl)
theorem k_513 : Cond.selects RX6 yX6_clearText yX6_clearText ∈ BIG := ch_22 _ (List.mem_of_getElem? (i := 9) rfl)
theorem k_514 : Cond.code yX6_clearText cX6_clearText 2 (some .int) ∈ BIG := ch_22 _ (List.mem_of_getElem? (i := 10) rfl)
theorem k_515 : Cond.methodLink RL 62 yX5_perform ∈ BIG := ch_22 _ (List.mem_of_getElem? (i := 11) rfl)
theorem k_516 : Cond.instanceMethod yX5_perform ∈ BIG := ch_22 _ (List.mem_of_getElem? (i := 12) rfl)
theorem k_517 : Cond.selects RX5 yX5_perform yX5_perform ∈ BIG := ch_22 _ (List.mem_of_getElem? (i := 13) rfl)
theorem k_518 : Cond.code yX5_perform cX5_perform 2 (some .int) ∈ BIG := ch_22 _ (List.mem_of_getElem? (i := 14) rfl)
theorem k_519 : Cond.methodLink RX5 87 yX4_findFault ∈ BIG := ch_22 _ (List.mem_of_getElem? (i := 15) rfl)
theorem k_520 : Cond.instanceMethod yX4_findFault ∈ BIG := ch_22 _ (List.mem_of_getElem? (i := 16) rfl)
theorem k_521 : Cond.selects RX4 yX4_findFault yX4_findFault ∈ BIG := ch_22 _ (List.mem_of_getElem? (i := 17) rfl)
theorem k_522 : Cond.code yX4_findFault cX4_findFault 2 (some .int) ∈ BIG := ch_22 _ (List.mem_of_getElem? (i := 18) rfl)
theorem k_523 : Cond.fieldLink RX4 19 "InvoiceBook$Text" "place" "I" ∈ BIG := ch_22 _ (List.mem_of_getElem? (i := 19) rfl)
theorem k_524 : Cond.methodLink RX4 22 yX4_goToStart ∈ BIG := ch_22 _ (List.mem_of_getElem? (i := 20) rfl)
theorem k_525 : Cond.instanceMethod yX4_goToStart ∈ BIG := ch_22 _ (List.mem_of_getElem? (i := 21) rfl)
theorem k_526 : Cond.selects RX4 yX4_goToStart yX4_goToStart ∈ BIG := ch_22 _ (List.mem_of_getElem? (i := 22) rfl)
theorem k_527 : Cond.code yX4_goToStart cX4_goToStart 1 none ∈ BIG := ch_22 _ (List.mem_of_getElem? (i := 23) rfl)
theorem k_528 : Cond.methodLink RX4 25 yX4_readThing ∈ BIG := ch_23 _ (List.mem_of_getElem? (i := 0) rfl)
theorem k_529 : Cond.instanceMethod yX4_readThing ∈ BIG := ch_23 _ (List.mem_of_getElem? (i := 1) rfl)
theorem k_530 : Cond.selects RX4 yX4_readThing yX4_readThing ∈ BIG := ch_23 _ (List.mem_of_getElem? (i := 2) rfl)
theorem k_531 : Cond.code yX4_readThing cX4_readThing 1 (some .boolean) ∈ BIG := ch_23 _ (List.mem_of_getElem? (i := 3) rfl)
theorem k_532 : Cond.fieldLink RX4 33 "InvoiceBook$Text" "kind" "I" ∈ BIG := ch_23 _ (List.mem_of_getElem? (i := 4) rfl)
theorem k_533 : Cond.fieldLink RX4 46 "InvoiceBook$Text" "days" "I" ∈ BIG := ch_23 _ (List.mem_of_getElem? (i := 5) rfl)
theorem k_534 : Cond.methodLink RX4 29 yX4_skip ∈ BIG := ch_23 _ (List.mem_of_getElem? (i := 6) rfl)
theorem k_535 : Cond.instanceMethod yX4_skip ∈ BIG := ch_23 _ (List.mem_of_getElem? (i := 7) rfl)
theorem k_536 : Cond.selects RX4 yX4_skip yX4_skip ∈ BIG := ch_23 _ (List.mem_of_getElem? (i := 8) rfl)
theorem k_537 : Cond.code yX4_skip cX4_skip 2 (some .boolean) ∈ BIG := ch_23 _ (List.mem_of_getElem? (i := 9) rfl)
theorem k_538 : Cond.methodLink RX4 36 yX4_readBill ∈ BIG := ch_23 _ (List.mem_of_getElem? (i := 10) rfl)
theorem k_539 : Cond.instanceMethod yX4_readBill ∈ BIG := ch_23 _ (List.mem_of_getElem? (i := 11) rfl)
theorem k_540 : Cond.selects RX4 yX4_readBill yX4_readBill ∈ BIG := ch_23 _ (List.mem_of_getElem? (i := 12) rfl)
theorem k_541 : Cond.code yX4_readBill cX4_readBill 1 (some .boolean) ∈ BIG := ch_23 _ (List.mem_of_getElem? (i := 13) rfl)
theorem k_542 : Cond.fieldLink RX4 53 "InvoiceBook$Text" "rate" "I" ∈ BIG := ch_23 _ (List.mem_of_getElem? (i := 14) rfl)
theorem k_543 : Cond.methodLink RX4 49 yX4_readCustomerAndAmount ∈ BIG := ch_23 _ (List.mem_of_getElem? (i := 15) rfl)
theorem k_544 : Cond.instanceMethod yX4_readCustomerAndAmount ∈ BIG := ch_23 _ (List.mem_of_getElem? (i := 16) rfl)
theorem k_545 : Cond.selects RX4 yX4_readCustomerAndAmount yX4_readCustomerAndAmount ∈ BIG := ch_23 _ (List.mem_of_getElem? (i := 17) rfl)
theorem k_546 : Cond.code yX4_readCustomerAndAmount cX4_readCustomerAndAmount 2 (some .boolean) ∈ BIG := ch_23 _ (List.mem_of_getElem? (i := 18) rfl)
theorem k_547 : Cond.fieldLink RX4 60 "InvoiceBook$Text" "customer" "I" ∈ BIG := ch_23 _ (List.mem_of_getElem? (i := 19) rfl)
theorem k_548 : Cond.fieldLink RX4 63 "InvoiceBook$Text" "amount" "I" ∈ BIG := ch_23 _ (List.mem_of_getElem? (i := 20) rfl)
theorem k_549 : Cond.methodLink RX4 42 yX4_readNumber ∈ BIG := ch_23 _ (List.mem_of_getElem? (i := 21) rfl)
theorem k_550 : Cond.instanceMethod yX4_readNumber ∈ BIG := ch_23 _ (List.mem_of_getElem? (i := 22) rfl)
theorem k_551 : Cond.selects RX4 yX4_readNumber yX4_readNumber ∈ BIG := ch_23 _ (List.mem_of_getElem? (i := 23) rfl)
theorem k_552 : Cond.code yX4_readNumber cX4_readNumber 5 (some .int) ∈ BIG := ch_24 _ (List.mem_of_getElem? (i := 0) rfl)
theorem k_553 : Cond.methodLink RX4 66 yX4_digitAtPlace ∈ BIG := ch_24 _ (List.mem_of_getElem? (i := 1) rfl)
theorem k_554 : Cond.instanceMethod yX4_digitAtPlace ∈ BIG := ch_24 _ (List.mem_of_getElem? (i := 2) rfl)
theorem k_555 : Cond.selects RX4 yX4_digitAtPlace yX4_digitAtPlace ∈ BIG := ch_24 _ (List.mem_of_getElem? (i := 3) rfl)
theorem k_556 : Cond.code yX4_digitAtPlace cX4_digitAtPlace 2 (some .int) ∈ BIG := ch_24 _ (List.mem_of_getElem? (i := 4) rfl)
theorem k_557 : Cond.methodLink RX4 39 yX4_readPayment ∈ BIG := ch_24 _ (List.mem_of_getElem? (i := 5) rfl)
theorem k_558 : Cond.instanceMethod yX4_readPayment ∈ BIG := ch_24 _ (List.mem_of_getElem? (i := 6) rfl)
theorem k_559 : Cond.selects RX4 yX4_readPayment yX4_readPayment ∈ BIG := ch_24 _ (List.mem_of_getElem? (i := 7) rfl)
theorem k_560 : Cond.code yX4_readPayment cX4_readPayment 1 (some .boolean) ∈ BIG := ch_24 _ (List.mem_of_getElem? (i := 8) rfl)
theorem k_561 : Cond.constant RX4 56 (99999) ∈ BIG := ch_24 _ (List.mem_of_getElem? (i := 9) rfl)
theorem k_562 : Cond.fieldLink RX4 57 "InvoiceBook$Text" "bill" "I" ∈ BIG := ch_24 _ (List.mem_of_getElem? (i := 10) rfl)
theorem k_563 : Cond.methodLink RX5 90 yX5_doAllThings ∈ BIG := ch_24 _ (List.mem_of_getElem? (i := 11) rfl)
theorem k_564 : Cond.instanceMethod yX5_doAllThings ∈ BIG := ch_24 _ (List.mem_of_getElem? (i := 12) rfl)
theorem k_565 : Cond.selects RX5 yX5_doAllThings yX5_doAllThings ∈ BIG := ch_24 _ (List.mem_of_getElem? (i := 13) rfl)
theorem k_566 : Cond.code yX5_doAllThings cX5_doAllThings 3 (some .int) ∈ BIG := ch_24 _ (List.mem_of_getElem? (i := 14) rfl)
theorem k_567 : Cond.fieldLink RX5 93 "InvoiceBook" "hasStop" "Z" ∈ BIG := ch_24 _ (List.mem_of_getElem? (i := 15) rfl)
theorem k_568 : Cond.fieldLink RX5 97 "InvoiceBook" "stopNumber" "I" ∈ BIG := ch_24 _ (List.mem_of_getElem? (i := 16) rfl)
theorem k_569 : Cond.fieldLink RX5 100 "InvoiceBook" "stopError" "I" ∈ BIG := ch_24 _ (List.mem_of_getElem? (i := 17) rfl)
theorem k_570 : Cond.methodLink RX5 253 yX4_goToStart ∈ BIG := ch_24 _ (List.mem_of_getElem? (i := 18) rfl)
theorem k_571 : Cond.methodLink RX5 256 yX4_readThing ∈ BIG := ch_24 _ (List.mem_of_getElem? (i := 19) rfl)
theorem k_572 : Cond.methodLink RX5 259 yX5_doThing ∈ BIG := ch_24 _ (List.mem_of_getElem? (i := 20) rfl)
theorem k_573 : Cond.instanceMethod yX5_doThing ∈ BIG := ch_24 _ (List.mem_of_getElem? (i := 21) rfl)
theorem k_574 : Cond.selects RX5 yX5_doThing yX5_doThing ∈ BIG := ch_24 _ (List.mem_of_getElem? (i := 22) rfl)
theorem k_575 : Cond.code yX5_doThing cX5_doThing 1 (some .int) ∈ BIG := ch_24 _ (List.mem_of_getElem? (i := 23) rfl)
theorem k_576 : Cond.fieldLink RX5 265 "InvoiceBook$Text" "kind" "I" ∈ BIG := ch_25 _ (List.mem_of_getElem? (i := 0) rfl)
theorem k_577 : Cond.fieldLink RX5 268 "InvoiceBook$Text" "customer" "I" ∈ BIG := ch_25 _ (List.mem_of_getElem? (i := 1) rfl)
theorem k_578 : Cond.fieldLink RX5 269 "InvoiceBook$Text" "amount" "I" ∈ BIG := ch_25 _ (List.mem_of_getElem? (i := 2) rfl)
theorem k_579 : Cond.fieldLink RX5 272 "InvoiceBook$Text" "rate" "I" ∈ BIG := ch_25 _ (List.mem_of_getElem? (i := 3) rfl)
theorem k_580 : Cond.fieldLink RX5 275 "InvoiceBook$Text" "days" "I" ∈ BIG := ch_25 _ (List.mem_of_getElem? (i := 4) rfl)
theorem k_581 : Cond.fieldLink RX5 278 "InvoiceBook$Text" "bill" "I" ∈ BIG := ch_25 _ (List.mem_of_getElem? (i := 5) rfl)
theorem k_582 : Cond.methodLink RX5 281 yX1_isOfAnother ∈ BIG := ch_25 _ (List.mem_of_getElem? (i := 6) rfl)
theorem k_583 : Cond.instanceMethod yX1_isOfAnother ∈ BIG := ch_25 _ (List.mem_of_getElem? (i := 7) rfl)
theorem k_584 : Cond.selects RX1 yX1_isOfAnother yX1_isOfAnother ∈ BIG := ch_25 _ (List.mem_of_getElem? (i := 8) rfl)
theorem k_585 : Cond.code yX1_isOfAnother cX1_isOfAnother 4 (some .boolean) ∈ BIG := ch_25 _ (List.mem_of_getElem? (i := 9) rfl)
theorem k_586 : Cond.methodLink RX5 262 yX4_skip ∈ BIG := ch_25 _ (List.mem_of_getElem? (i := 10) rfl)
theorem k_587 : Cond.methodLink RL 65 yX6_perform ∈ BIG := ch_25 _ (List.mem_of_getElem? (i := 11) rfl)
theorem k_588 : Cond.instanceMethod yX6_perform ∈ BIG := ch_25 _ (List.mem_of_getElem? (i := 12) rfl)
theorem k_589 : Cond.selects RX6 yX6_perform yX6_perform ∈ BIG := ch_25 _ (List.mem_of_getElem? (i := 13) rfl)
theorem k_590 : Cond.code yX6_perform cX6_perform 4 (some .int) ∈ BIG := ch_25 _ (List.mem_of_getElem? (i := 14) rfl)
theorem k_591 : Cond.fieldLink RX6 159 "InvoiceBookModel" "isWrong" "Z" ∈ BIG := ch_25 _ (List.mem_of_getElem? (i := 15) rfl)
theorem k_592 : Cond.fieldLink RX6 163 "InvoiceBookModel" "position" "I" ∈ BIG := ch_25 _ (List.mem_of_getElem? (i := 16) rfl)
theorem k_593 : Cond.fieldLink RX6 182 "InvoiceBookModel" "stop" "I" ∈ BIG := ch_25 _ (List.mem_of_getElem? (i := 17) rfl)
theorem k_594 : Cond.methodLink RX6 191 yX6_goes ∈ BIG := ch_25 _ (List.mem_of_getElem? (i := 18) rfl)
theorem k_595 : Cond.instanceMethod yX6_goes ∈ BIG := ch_25 _ (List.mem_of_getElem? (i := 19) rfl)
theorem k_596 : Cond.selects RX6 yX6_goes yX6_goes ∈ BIG := ch_25 _ (List.mem_of_getElem? (i := 20) rfl)
theorem k_597 : Cond.code yX6_goes cX6_goes 6 (some .int) ∈ BIG := ch_25 _ (List.mem_of_getElem? (i := 21) rfl)
theorem k_598 : Cond.methodLink RX6 185 yX6_readThing ∈ BIG := ch_25 _ (List.mem_of_getElem? (i := 22) rfl)
theorem k_599 : Cond.instanceMethod yX6_readThing ∈ BIG := ch_25 _ (List.mem_of_getElem? (i := 23) rfl)
theorem k_600 : Cond.selects RX6 yX6_readThing yX6_readThing ∈ BIG := ch_26 _ (List.mem_of_getElem? (i := 0) rfl)
theorem k_601 : Cond.code yX6_readThing cX6_readThing 3 none ∈ BIG := ch_26 _ (List.mem_of_getElem? (i := 1) rfl)
theorem k_602 : Cond.methodLink RX6 172 yX6_takesNumber ∈ BIG := ch_26 _ (List.mem_of_getElem? (i := 2) rfl)
theorem k_603 : Cond.instanceMethod yX6_takesNumber ∈ BIG := ch_26 _ (List.mem_of_getElem? (i := 3) rfl)
theorem k_604 : Cond.selects RX6 yX6_takesNumber yX6_takesNumber ∈ BIG := ch_26 _ (List.mem_of_getElem? (i := 4) rfl)
theorem k_605 : Cond.code yX6_takesNumber cX6_takesNumber 5 (some .int) ∈ BIG := ch_26 _ (List.mem_of_getElem? (i := 5) rfl)
theorem k_606 : Cond.methodLink RX6 166 yX6_takes ∈ BIG := ch_26 _ (List.mem_of_getElem? (i := 6) rfl)
theorem k_607 : Cond.instanceMethod yX6_takes ∈ BIG := ch_26 _ (List.mem_of_getElem? (i := 7) rfl)
theorem k_608 : Cond.selects RX6 yX6_takes yX6_takes ∈ BIG := ch_26 _ (List.mem_of_getElem? (i := 8) rfl)
theorem k_609 : Cond.code yX6_takes cX6_takes 4 (some .int) ∈ BIG := ch_26 _ (List.mem_of_getElem? (i := 9) rfl)
theorem k_610 : Cond.methodLink RX6 169 yX6_isNext ∈ BIG := ch_26 _ (List.mem_of_getElem? (i := 10) rfl)
theorem k_611 : Cond.instanceMethod yX6_isNext ∈ BIG := ch_26 _ (List.mem_of_getElem? (i := 11) rfl)
theorem k_612 : Cond.selects RX6 yX6_isNext yX6_isNext ∈ BIG := ch_26 _ (List.mem_of_getElem? (i := 12) rfl)
theorem k_613 : Cond.code yX6_isNext cX6_isNext 3 (some .boolean) ∈ BIG := ch_26 _ (List.mem_of_getElem? (i := 13) rfl)
theorem k_614 : Cond.methodLink RX6 175 yX6_takesBehind ∈ BIG := ch_26 _ (List.mem_of_getElem? (i := 14) rfl)
theorem k_615 : Cond.instanceMethod yX6_takesBehind ∈ BIG := ch_26 _ (List.mem_of_getElem? (i := 15) rfl)
theorem k_616 : Cond.selects RX6 yX6_takesBehind yX6_takesBehind ∈ BIG := ch_26 _ (List.mem_of_getElem? (i := 16) rfl)
theorem k_617 : Cond.code yX6_takesBehind cX6_takesBehind 5 (some .int) ∈ BIG := ch_26 _ (List.mem_of_getElem? (i := 17) rfl)
theorem k_618 : Cond.methodLink RX6 188 yX6_does ∈ BIG := ch_26 _ (List.mem_of_getElem? (i := 18) rfl)
theorem k_619 : Cond.instanceMethod yX6_does ∈ BIG := ch_26 _ (List.mem_of_getElem? (i := 19) rfl)
theorem k_620 : Cond.selects RX6 yX6_does yX6_does ∈ BIG := ch_26 _ (List.mem_of_getElem? (i := 20) rfl)
theorem k_621 : Cond.code yX6_does cX6_does 2 (some .int) ∈ BIG := ch_26 _ (List.mem_of_getElem? (i := 21) rfl)
theorem k_622 : Cond.methodLink RX6 179 yX6_paidByText ∈ BIG := ch_26 _ (List.mem_of_getElem? (i := 22) rfl)
theorem k_623 : Cond.instanceMethod yX6_paidByText ∈ BIG := ch_26 _ (List.mem_of_getElem? (i := 23) rfl)
theorem k_624 : Cond.selects RX6 yX6_paidByText yX6_paidByText ∈ BIG := ch_27 _ (List.mem_of_getElem? (i := 0) rfl)
theorem k_625 : Cond.code yX6_paidByText cX6_paidByText 5 (some .int) ∈ BIG := ch_27 _ (List.mem_of_getElem? (i := 1) rfl)
theorem k_626 : Cond.methodLink RL 66 yX5_stopped ∈ BIG := ch_27 _ (List.mem_of_getElem? (i := 2) rfl)
theorem k_627 : Cond.instanceMethod yX5_stopped ∈ BIG := ch_27 _ (List.mem_of_getElem? (i := 3) rfl)
theorem k_628 : Cond.selects RX5 yX5_stopped yX5_stopped ∈ BIG := ch_27 _ (List.mem_of_getElem? (i := 4) rfl)
theorem k_629 : Cond.code yX5_stopped cX5_stopped 2 (some .int) ∈ BIG := ch_27 _ (List.mem_of_getElem? (i := 5) rfl)
theorem k_630 : Cond.methodLink RL 69 yX6_stopped ∈ BIG := ch_27 _ (List.mem_of_getElem? (i := 6) rfl)
theorem k_631 : Cond.instanceMethod yX6_stopped ∈ BIG := ch_27 _ (List.mem_of_getElem? (i := 7) rfl)
theorem k_632 : Cond.selects RX6 yX6_stopped yX6_stopped ∈ BIG := ch_27 _ (List.mem_of_getElem? (i := 8) rfl)
theorem k_633 : Cond.code yX6_stopped cX6_stopped 2 (some .int) ∈ BIG := ch_27 _ (List.mem_of_getElem? (i := 9) rfl)
theorem k_634 : Cond.methodLink RL 70 yX5_undo ∈ BIG := ch_27 _ (List.mem_of_getElem? (i := 10) rfl)
theorem k_635 : Cond.instanceMethod yX5_undo ∈ BIG := ch_27 _ (List.mem_of_getElem? (i := 11) rfl)
theorem k_636 : Cond.selects RX5 yX5_undo yX5_undo ∈ BIG := ch_27 _ (List.mem_of_getElem? (i := 12) rfl)
theorem k_637 : Cond.code yX5_undo cX5_undo 1 (some .int) ∈ BIG := ch_27 _ (List.mem_of_getElem? (i := 13) rfl)
theorem k_638 : Cond.fieldLink RX5 103 "InvoiceBook$History" "count" "I" ∈ BIG := ch_27 _ (List.mem_of_getElem? (i := 14) rfl)
theorem k_639 : Cond.methodLink RX5 106 yX2_takeLatest ∈ BIG := ch_27 _ (List.mem_of_getElem? (i := 15) rfl)
theorem k_640 : Cond.instanceMethod yX2_takeLatest ∈ BIG := ch_27 _ (List.mem_of_getElem? (i := 16) rfl)
theorem k_641 : Cond.selects RX2 yX2_takeLatest yX2_takeLatest ∈ BIG := ch_27 _ (List.mem_of_getElem? (i := 17) rfl)
theorem k_642 : Cond.code yX2_takeLatest cX2_takeLatest 3 (some (.object "InvoiceBook$Book")) ∈ BIG := ch_27 _ (List.mem_of_getElem? (i := 18) rfl)
theorem k_643 : Cond.methodLink RL 73 yX6_undo ∈ BIG := ch_27 _ (List.mem_of_getElem? (i := 19) rfl)
theorem k_644 : Cond.instanceMethod yX6_undo ∈ BIG := ch_27 _ (List.mem_of_getElem? (i := 20) rfl)
theorem k_645 : Cond.selects RX6 yX6_undo yX6_undo ∈ BIG := ch_27 _ (List.mem_of_getElem? (i := 21) rfl)
theorem k_646 : Cond.code yX6_undo cX6_undo 2 (some .int) ∈ BIG := ch_27 _ (List.mem_of_getElem? (i := 22) rfl)
theorem k_647 : Cond.methodLink RL 74 yX5_keep ∈ BIG := ch_27 _ (List.mem_of_getElem? (i := 23) rfl)
theorem k_648 : Cond.instanceMethod yX5_keep ∈ BIG := ch_28 _ (List.mem_of_getElem? (i := 0) rfl)
theorem k_649 : Cond.selects RX5 yX5_keep yX5_keep ∈ BIG := ch_28 _ (List.mem_of_getElem? (i := 1) rfl)
theorem k_650 : Cond.code yX5_keep cX5_keep 1 (some .int) ∈ BIG := ch_28 _ (List.mem_of_getElem? (i := 2) rfl)
theorem k_651 : Cond.fieldLink RX5 114 "InvoiceBook" "hasSnapshot" "Z" ∈ BIG := ch_28 _ (List.mem_of_getElem? (i := 3) rfl)
theorem k_652 : Cond.fieldLink RX5 117 "InvoiceBook$Book" "day" "I" ∈ BIG := ch_28 _ (List.mem_of_getElem? (i := 4) rfl)
theorem k_653 : Cond.methodLink RL 77 yX6_keep ∈ BIG := ch_28 _ (List.mem_of_getElem? (i := 5) rfl)
theorem k_654 : Cond.instanceMethod yX6_keep ∈ BIG := ch_28 _ (List.mem_of_getElem? (i := 6) rfl)
theorem k_655 : Cond.selects RX6 yX6_keep yX6_keep ∈ BIG := ch_28 _ (List.mem_of_getElem? (i := 7) rfl)
theorem k_656 : Cond.code yX6_keep cX6_keep 2 (some .int) ∈ BIG := ch_28 _ (List.mem_of_getElem? (i := 8) rfl)
theorem k_657 : Cond.fieldLink RX6 195 "InvoiceBookModel" "isKept" "Z" ∈ BIG := ch_28 _ (List.mem_of_getElem? (i := 9) rfl)
theorem k_658 : Cond.methodLink RL 78 yX5_restore ∈ BIG := ch_28 _ (List.mem_of_getElem? (i := 10) rfl)
theorem k_659 : Cond.instanceMethod yX5_restore ∈ BIG := ch_28 _ (List.mem_of_getElem? (i := 11) rfl)
theorem k_660 : Cond.selects RX5 yX5_restore yX5_restore ∈ BIG := ch_28 _ (List.mem_of_getElem? (i := 12) rfl)
theorem k_661 : Cond.code yX5_restore cX5_restore 1 (some .int) ∈ BIG := ch_28 _ (List.mem_of_getElem? (i := 13) rfl)
theorem k_662 : Cond.methodLink RL 81 yX6_restore ∈ BIG := ch_28 _ (List.mem_of_getElem? (i := 14) rfl)
theorem k_663 : Cond.instanceMethod yX6_restore ∈ BIG := ch_28 _ (List.mem_of_getElem? (i := 15) rfl)
theorem k_664 : Cond.selects RX6 yX6_restore yX6_restore ∈ BIG := ch_28 _ (List.mem_of_getElem? (i := 16) rfl)
theorem k_665 : Cond.code yX6_restore cX6_restore 2 (some .int) ∈ BIG := ch_28 _ (List.mem_of_getElem? (i := 17) rfl)
theorem k_666 : Cond.methodLink RL 82 yX5_billOf ∈ BIG := ch_28 _ (List.mem_of_getElem? (i := 18) rfl)
theorem k_667 : Cond.instanceMethod yX5_billOf ∈ BIG := ch_28 _ (List.mem_of_getElem? (i := 19) rfl)
theorem k_668 : Cond.selects RX5 yX5_billOf yX5_billOf ∈ BIG := ch_28 _ (List.mem_of_getElem? (i := 20) rfl)
theorem k_669 : Cond.code yX5_billOf cX5_billOf 4 (some .int) ∈ BIG := ch_28 _ (List.mem_of_getElem? (i := 21) rfl)
theorem k_670 : Cond.fieldLink RX5 124 "InvoiceBook$Bill" "customer" "I" ∈ BIG := ch_28 _ (List.mem_of_getElem? (i := 22) rfl)
theorem k_671 : Cond.fieldLink RX5 129 "InvoiceBook$Bill" "net" "I" ∈ BIG := ch_28 _ (List.mem_of_getElem? (i := 23) rfl)
theorem k_672 : Cond.fieldLink RX5 132 "InvoiceBook$Bill" "tax" "I" ∈ BIG := ch_29 _ (List.mem_of_getElem? (i := 0) rfl)
theorem k_673 : Cond.fieldLink RX5 135 "InvoiceBook$Bill" "sum" "I" ∈ BIG := ch_29 _ (List.mem_of_getElem? (i := 1) rfl)
theorem k_674 : Cond.fieldLink RX5 138 "InvoiceBook$Bill" "day" "I" ∈ BIG := ch_29 _ (List.mem_of_getElem? (i := 2) rfl)
theorem k_675 : Cond.fieldLink RX5 142 "InvoiceBook$Bill" "state" "I" ∈ BIG := ch_29 _ (List.mem_of_getElem? (i := 3) rfl)
theorem k_676 : Cond.fieldLink RX5 145 "InvoiceBook$Bill" "paid" "I" ∈ BIG := ch_29 _ (List.mem_of_getElem? (i := 4) rfl)
theorem k_677 : Cond.fieldLink RX5 148 "InvoiceBook$Bill" "discount" "I" ∈ BIG := ch_29 _ (List.mem_of_getElem? (i := 5) rfl)
theorem k_678 : Cond.fieldLink RX5 151 "InvoiceBook$Bill" "fees" "I" ∈ BIG := ch_29 _ (List.mem_of_getElem? (i := 6) rfl)
theorem k_679 : Cond.fieldLink RX5 157 "InvoiceBook$Bill" "reminders" "I" ∈ BIG := ch_29 _ (List.mem_of_getElem? (i := 7) rfl)
theorem k_680 : Cond.fieldLink RX5 160 "InvoiceBook$Bill" "lastPayment" "I" ∈ BIG := ch_29 _ (List.mem_of_getElem? (i := 8) rfl)
theorem k_681 : Cond.methodLink RX5 120 yX1_billAt ∈ BIG := ch_29 _ (List.mem_of_getElem? (i := 9) rfl)
theorem k_682 : Cond.methodLink RX5 139 yX0_dueDay ∈ BIG := ch_29 _ (List.mem_of_getElem? (i := 10) rfl)
theorem k_683 : Cond.methodLink RX5 154 yX0_owed ∈ BIG := ch_29 _ (List.mem_of_getElem? (i := 11) rfl)
theorem k_684 : Cond.methodLink RX5 163 yX0_isOverdue ∈ BIG := ch_29 _ (List.mem_of_getElem? (i := 12) rfl)
theorem k_685 : Cond.methodLink RL 85 yX6_billOf ∈ BIG := ch_29 _ (List.mem_of_getElem? (i := 13) rfl)
theorem k_686 : Cond.instanceMethod yX6_billOf ∈ BIG := ch_29 _ (List.mem_of_getElem? (i := 14) rfl)
theorem k_687 : Cond.selects RX6 yX6_billOf yX6_billOf ∈ BIG := ch_29 _ (List.mem_of_getElem? (i := 15) rfl)
theorem k_688 : Cond.code yX6_billOf cX6_billOf 3 (some .int) ∈ BIG := ch_29 _ (List.mem_of_getElem? (i := 16) rfl)
theorem k_689 : Cond.methodLink RL 86 yX5_customer ∈ BIG := ch_29 _ (List.mem_of_getElem? (i := 17) rfl)
theorem k_690 : Cond.instanceMethod yX5_customer ∈ BIG := ch_29 _ (List.mem_of_getElem? (i := 18) rfl)
theorem k_691 : Cond.selects RX5 yX5_customer yX5_customer ∈ BIG := ch_29 _ (List.mem_of_getElem? (i := 19) rfl)
theorem k_692 : Cond.code yX5_customer cX5_customer 3 (some .int) ∈ BIG := ch_29 _ (List.mem_of_getElem? (i := 20) rfl)
theorem k_693 : Cond.methodLink RX5 167 yX5_isCustomer ∈ BIG := ch_29 _ (List.mem_of_getElem? (i := 21) rfl)
theorem k_694 : Cond.methodLink RX5 170 yX1_countBills ∈ BIG := ch_29 _ (List.mem_of_getElem? (i := 22) rfl)
theorem k_695 : Cond.methodLink RX5 173 yX1_owedOn ∈ BIG := ch_29 _ (List.mem_of_getElem? (i := 23) rfl)
theorem k_696 : Cond.instanceMethod yX1_owedOn ∈ BIG := ch_30 _ (List.mem_of_getElem? (i := 0) rfl)
theorem k_697 : Cond.selects RX1 yX1_owedOn yX1_owedOn ∈ BIG := ch_30 _ (List.mem_of_getElem? (i := 1) rfl)
theorem k_698 : Cond.code yX1_owedOn cX1_owedOn 8 (some .int) ∈ BIG := ch_30 _ (List.mem_of_getElem? (i := 2) rfl)
theorem k_699 : Cond.methodLink RX5 176 yX1_creditOf ∈ BIG := ch_30 _ (List.mem_of_getElem? (i := 3) rfl)
theorem k_700 : Cond.methodLink RX5 179 yX1_paidOn ∈ BIG := ch_30 _ (List.mem_of_getElem? (i := 4) rfl)
theorem k_701 : Cond.instanceMethod yX1_paidOn ∈ BIG := ch_30 _ (List.mem_of_getElem? (i := 5) rfl)
theorem k_702 : Cond.selects RX1 yX1_paidOn yX1_paidOn ∈ BIG := ch_30 _ (List.mem_of_getElem? (i := 6) rfl)
theorem k_703 : Cond.code yX1_paidOn cX1_paidOn 7 (some .int) ∈ BIG := ch_30 _ (List.mem_of_getElem? (i := 7) rfl)
theorem k_704 : Cond.fieldLink RX1 169 "InvoiceBook$Bill" "paid" "I" ∈ BIG := ch_30 _ (List.mem_of_getElem? (i := 8) rfl)
theorem k_705 : Cond.methodLink RX5 182 yX1_oldestOpenBill ∈ BIG := ch_30 _ (List.mem_of_getElem? (i := 9) rfl)
theorem k_706 : Cond.instanceMethod yX1_oldestOpenBill ∈ BIG := ch_30 _ (List.mem_of_getElem? (i := 10) rfl)
theorem k_707 : Cond.selects RX1 yX1_oldestOpenBill yX1_oldestOpenBill ∈ BIG := ch_30 _ (List.mem_of_getElem? (i := 11) rfl)
theorem k_708 : Cond.code yX1_oldestOpenBill cX1_oldestOpenBill 3 (some .int) ∈ BIG := ch_30 _ (List.mem_of_getElem? (i := 12) rfl)
theorem k_709 : Cond.methodLink RL 89 yX6_customer ∈ BIG := ch_30 _ (List.mem_of_getElem? (i := 13) rfl)
theorem k_710 : Cond.instanceMethod yX6_customer ∈ BIG := ch_30 _ (List.mem_of_getElem? (i := 14) rfl)
theorem k_711 : Cond.selects RX6 yX6_customer yX6_customer ∈ BIG := ch_30 _ (List.mem_of_getElem? (i := 15) rfl)
theorem k_712 : Cond.code yX6_customer cX6_customer 3 (some .int) ∈ BIG := ch_30 _ (List.mem_of_getElem? (i := 16) rfl)
theorem k_713 : Cond.methodLink RX6 198 yX6_billsOf ∈ BIG := ch_30 _ (List.mem_of_getElem? (i := 17) rfl)
theorem k_714 : Cond.instanceMethod yX6_billsOf ∈ BIG := ch_30 _ (List.mem_of_getElem? (i := 18) rfl)
theorem k_715 : Cond.selects RX6 yX6_billsOf yX6_billsOf ∈ BIG := ch_30 _ (List.mem_of_getElem? (i := 19) rfl)
theorem k_716 : Cond.code yX6_billsOf cX6_billsOf 5 (some .int) ∈ BIG := ch_30 _ (List.mem_of_getElem? (i := 20) rfl)
theorem k_717 : Cond.methodLink RX6 201 yX6_owedBy ∈ BIG := ch_30 _ (List.mem_of_getElem? (i := 21) rfl)
theorem k_718 : Cond.instanceMethod yX6_owedBy ∈ BIG := ch_30 _ (List.mem_of_getElem? (i := 22) rfl)
theorem k_719 : Cond.selects RX6 yX6_owedBy yX6_owedBy ∈ BIG := ch_30 _ (List.mem_of_getElem? (i := 23) rfl)
theorem k_720 : Cond.code yX6_owedBy cX6_owedBy 5 (some .int) ∈ BIG := ch_31 _ (List.mem_of_getElem? (i := 0) rfl)
theorem k_721 : Cond.methodLink RX6 204 yX6_oldestOpen ∈ BIG := ch_31 _ (List.mem_of_getElem? (i := 1) rfl)
theorem k_722 : Cond.instanceMethod yX6_oldestOpen ∈ BIG := ch_31 _ (List.mem_of_getElem? (i := 2) rfl)
theorem k_723 : Cond.selects RX6 yX6_oldestOpen yX6_oldestOpen ∈ BIG := ch_31 _ (List.mem_of_getElem? (i := 3) rfl)
theorem k_724 : Cond.code yX6_oldestOpen cX6_oldestOpen 4 (some .int) ∈ BIG := ch_31 _ (List.mem_of_getElem? (i := 4) rfl)
theorem k_725 : Cond.methodLink RL 90 yX5_tax ∈ BIG := ch_31 _ (List.mem_of_getElem? (i := 5) rfl)
theorem k_726 : Cond.instanceMethod yX5_tax ∈ BIG := ch_31 _ (List.mem_of_getElem? (i := 6) rfl)
theorem k_727 : Cond.selects RX5 yX5_tax yX5_tax ∈ BIG := ch_31 _ (List.mem_of_getElem? (i := 7) rfl)
theorem k_728 : Cond.code yX5_tax cX5_tax 3 (some .int) ∈ BIG := ch_31 _ (List.mem_of_getElem? (i := 8) rfl)
theorem k_729 : Cond.methodLink RX5 185 yX5_isYear ∈ BIG := ch_31 _ (List.mem_of_getElem? (i := 9) rfl)
theorem k_730 : Cond.methodLink RX5 188 yX1_taxTold ∈ BIG := ch_31 _ (List.mem_of_getElem? (i := 10) rfl)
theorem k_731 : Cond.instanceMethod yX1_taxTold ∈ BIG := ch_31 _ (List.mem_of_getElem? (i := 11) rfl)
theorem k_732 : Cond.selects RX1 yX1_taxTold yX1_taxTold ∈ BIG := ch_31 _ (List.mem_of_getElem? (i := 12) rfl)
theorem k_733 : Cond.code yX1_taxTold cX1_taxTold 2 (some .int) ∈ BIG := ch_31 _ (List.mem_of_getElem? (i := 13) rfl)
theorem k_734 : Cond.methodLink RX5 191 yX1_taxOf ∈ BIG := ch_31 _ (List.mem_of_getElem? (i := 14) rfl)
theorem k_735 : Cond.methodLink RL 93 yX6_tax ∈ BIG := ch_31 _ (List.mem_of_getElem? (i := 15) rfl)
theorem k_736 : Cond.instanceMethod yX6_tax ∈ BIG := ch_31 _ (List.mem_of_getElem? (i := 16) rfl)
theorem k_737 : Cond.selects RX6 yX6_tax yX6_tax ∈ BIG := ch_31 _ (List.mem_of_getElem? (i := 17) rfl)
theorem k_738 : Cond.code yX6_tax cX6_tax 3 (some .int) ∈ BIG := ch_31 _ (List.mem_of_getElem? (i := 18) rfl)
theorem k_739 : Cond.methodLink RL 94 yX5_reason ∈ BIG := ch_31 _ (List.mem_of_getElem? (i := 19) rfl)
theorem k_740 : Cond.instanceMethod yX5_reason ∈ BIG := ch_31 _ (List.mem_of_getElem? (i := 20) rfl)
theorem k_741 : Cond.selects RX5 yX5_reason yX5_reason ∈ BIG := ch_31 _ (List.mem_of_getElem? (i := 21) rfl)
theorem k_742 : Cond.code yX5_reason cX5_reason 3 (some .int) ∈ BIG := ch_31 _ (List.mem_of_getElem? (i := 22) rfl)
theorem k_743 : Cond.methodLink RX5 194 yX3_reminderDays ∈ BIG := ch_31 _ (List.mem_of_getElem? (i := 23) rfl)
theorem k_744 : Cond.methodLink RX5 197 yX0_whyNoReminder ∈ BIG := ch_32 _ (List.mem_of_getElem? (i := 0) rfl)
theorem k_745 : Cond.methodLink RL 97 yX6_reason ∈ BIG := ch_32 _ (List.mem_of_getElem? (i := 1) rfl)
theorem k_746 : Cond.instanceMethod yX6_reason ∈ BIG := ch_32 _ (List.mem_of_getElem? (i := 2) rfl)
theorem k_747 : Cond.selects RX6 yX6_reason yX6_reason ∈ BIG := ch_32 _ (List.mem_of_getElem? (i := 3) rfl)
theorem k_748 : Cond.code yX6_reason cX6_reason 2 (some .int) ∈ BIG := ch_32 _ (List.mem_of_getElem? (i := 4) rfl)
theorem k_749 : Cond.methodLink RL 98 yX5_ifPaid ∈ BIG := ch_32 _ (List.mem_of_getElem? (i := 5) rfl)
theorem k_750 : Cond.instanceMethod yX5_ifPaid ∈ BIG := ch_32 _ (List.mem_of_getElem? (i := 6) rfl)
theorem k_751 : Cond.selects RX5 yX5_ifPaid yX5_ifPaid ∈ BIG := ch_32 _ (List.mem_of_getElem? (i := 7) rfl)
theorem k_752 : Cond.code yX5_ifPaid cX5_ifPaid 5 (some .int) ∈ BIG := ch_32 _ (List.mem_of_getElem? (i := 8) rfl)
theorem k_753 : Cond.methodLink RX5 200 yX5_isAmount ∈ BIG := ch_32 _ (List.mem_of_getElem? (i := 9) rfl)
theorem k_754 : Cond.methodLink RX5 203 yX1_allDiscounts ∈ BIG := ch_32 _ (List.mem_of_getElem? (i := 10) rfl)
theorem k_755 : Cond.instanceMethod yX1_allDiscounts ∈ BIG := ch_32 _ (List.mem_of_getElem? (i := 11) rfl)
theorem k_756 : Cond.selects RX1 yX1_allDiscounts yX1_allDiscounts ∈ BIG := ch_32 _ (List.mem_of_getElem? (i := 12) rfl)
theorem k_757 : Cond.code yX1_allDiscounts cX1_allDiscounts 6 (some .int) ∈ BIG := ch_32 _ (List.mem_of_getElem? (i := 13) rfl)
theorem k_758 : Cond.fieldLink RX1 172 "InvoiceBook$Bill" "discount" "I" ∈ BIG := ch_32 _ (List.mem_of_getElem? (i := 14) rfl)
theorem k_759 : Cond.methodLink RL 102 yX6_ifPaid ∈ BIG := ch_32 _ (List.mem_of_getElem? (i := 15) rfl)
theorem k_760 : Cond.instanceMethod yX6_ifPaid ∈ BIG := ch_32 _ (List.mem_of_getElem? (i := 16) rfl)
theorem k_761 : Cond.selects RX6 yX6_ifPaid yX6_ifPaid ∈ BIG := ch_32 _ (List.mem_of_getElem? (i := 17) rfl)
theorem k_762 : Cond.code yX6_ifPaid cX6_ifPaid 7 (some .int) ∈ BIG := ch_32 _ (List.mem_of_getElem? (i := 18) rfl)
theorem k_763 : Cond.methodLink RX6 207 yX6_sum ∈ BIG := ch_32 _ (List.mem_of_getElem? (i := 19) rfl)
theorem k_764 : Cond.instanceMethod yX6_sum ∈ BIG := ch_32 _ (List.mem_of_getElem? (i := 20) rfl)
theorem k_765 : Cond.selects RX6 yX6_sum yX6_sum ∈ BIG := ch_32 _ (List.mem_of_getElem? (i := 21) rfl)
theorem k_766 : Cond.code yX6_sum cX6_sum 4 (some .int) ∈ BIG := ch_32 _ (List.mem_of_getElem? (i := 22) rfl)
theorem k_767 : Cond.methodLink RL 103 yX5_settles ∈ BIG := ch_32 _ (List.mem_of_getElem? (i := 23) rfl)
theorem k_768 : Cond.instanceMethod yX5_settles ∈ BIG := ch_33 _ (List.mem_of_getElem? (i := 0) rfl)
theorem k_769 : Cond.selects RX5 yX5_settles yX5_settles ∈ BIG := ch_33 _ (List.mem_of_getElem? (i := 1) rfl)
theorem k_770 : Cond.code yX5_settles cX5_settles 2 (some .int) ∈ BIG := ch_33 _ (List.mem_of_getElem? (i := 2) rfl)
theorem k_771 : Cond.methodLink RX5 206 yX1_leastToPayAll ∈ BIG := ch_33 _ (List.mem_of_getElem? (i := 3) rfl)
theorem k_772 : Cond.instanceMethod yX1_leastToPayAll ∈ BIG := ch_33 _ (List.mem_of_getElem? (i := 4) rfl)
theorem k_773 : Cond.selects RX1 yX1_leastToPayAll yX1_leastToPayAll ∈ BIG := ch_33 _ (List.mem_of_getElem? (i := 5) rfl)
theorem k_774 : Cond.code yX1_leastToPayAll cX1_leastToPayAll 7 (some .int) ∈ BIG := ch_33 _ (List.mem_of_getElem? (i := 6) rfl)
theorem k_775 : Cond.methodLink RL 106 yX6_settles ∈ BIG := ch_33 _ (List.mem_of_getElem? (i := 7) rfl)
theorem k_776 : Cond.instanceMethod yX6_settles ∈ BIG := ch_33 _ (List.mem_of_getElem? (i := 8) rfl)
theorem k_777 : Cond.selects RX6 yX6_settles yX6_settles ∈ BIG := ch_33 _ (List.mem_of_getElem? (i := 9) rfl)
theorem k_778 : Cond.code yX6_settles cX6_settles 4 (some .int) ∈ BIG := ch_33 _ (List.mem_of_getElem? (i := 10) rfl)
theorem k_779 : Cond.methodLink RL 107 yX5_nextReminder ∈ BIG := ch_33 _ (List.mem_of_getElem? (i := 11) rfl)
theorem k_780 : Cond.instanceMethod yX5_nextReminder ∈ BIG := ch_33 _ (List.mem_of_getElem? (i := 12) rfl)
theorem k_781 : Cond.selects RX5 yX5_nextReminder yX5_nextReminder ∈ BIG := ch_33 _ (List.mem_of_getElem? (i := 13) rfl)
theorem k_782 : Cond.code yX5_nextReminder cX5_nextReminder 4 (some .int) ∈ BIG := ch_33 _ (List.mem_of_getElem? (i := 14) rfl)
theorem k_783 : Cond.methodLink RX5 216 Lib.Math.max.name ∈ BIG := ch_33 _ (List.mem_of_getElem? (i := 15) rfl)
theorem k_784 : Cond.static Lib.Math.max.name ∈ BIG := ch_33 _ (List.mem_of_getElem? (i := 16) rfl)
theorem k_785 : Cond.code Lib.Math.max.name Lib.Math.max.code 2 (some .int) ∈ BIG := ch_33 _ (List.mem_of_getElem? (i := 17) rfl)
theorem k_786 : Cond.methodLink RX5 209 yX0_awaitsReminder ∈ BIG := ch_33 _ (List.mem_of_getElem? (i := 18) rfl)
theorem k_787 : Cond.instanceMethod yX0_awaitsReminder ∈ BIG := ch_33 _ (List.mem_of_getElem? (i := 19) rfl)
theorem k_788 : Cond.selects RX0 yX0_awaitsReminder yX0_awaitsReminder ∈ BIG := ch_33 _ (List.mem_of_getElem? (i := 20) rfl)
theorem k_789 : Cond.code yX0_awaitsReminder cX0_awaitsReminder 1 (some .boolean) ∈ BIG := ch_33 _ (List.mem_of_getElem? (i := 21) rfl)
theorem k_790 : Cond.methodLink RX5 213 yX0_reminderDay ∈ BIG := ch_33 _ (List.mem_of_getElem? (i := 22) rfl)
theorem k_791 : Cond.methodLink RL 110 yX6_nextReminder ∈ BIG := ch_33 _ (List.mem_of_getElem? (i := 23) rfl)
theorem k_792 : Cond.instanceMethod yX6_nextReminder ∈ BIG := ch_34 _ (List.mem_of_getElem? (i := 0) rfl)
theorem k_793 : Cond.selects RX6 yX6_nextReminder yX6_nextReminder ∈ BIG := ch_34 _ (List.mem_of_getElem? (i := 1) rfl)
theorem k_794 : Cond.code yX6_nextReminder cX6_nextReminder 3 (some .int) ∈ BIG := ch_34 _ (List.mem_of_getElem? (i := 2) rfl)
theorem k_795 : Cond.methodLink RL 111 yX5_worst ∈ BIG := ch_34 _ (List.mem_of_getElem? (i := 3) rfl)
theorem k_796 : Cond.instanceMethod yX5_worst ∈ BIG := ch_34 _ (List.mem_of_getElem? (i := 4) rfl)
theorem k_797 : Cond.selects RX5 yX5_worst yX5_worst ∈ BIG := ch_34 _ (List.mem_of_getElem? (i := 5) rfl)
theorem k_798 : Cond.code yX5_worst cX5_worst 5 (some .int) ∈ BIG := ch_34 _ (List.mem_of_getElem? (i := 6) rfl)
theorem k_799 : Cond.methodLink RL 114 yX6_worst ∈ BIG := ch_34 _ (List.mem_of_getElem? (i := 7) rfl)
theorem k_800 : Cond.instanceMethod yX6_worst ∈ BIG := ch_34 _ (List.mem_of_getElem? (i := 8) rfl)
theorem k_801 : Cond.selects RX6 yX6_worst yX6_worst ∈ BIG := ch_34 _ (List.mem_of_getElem? (i := 9) rfl)
theorem k_802 : Cond.code yX6_worst cX6_worst 5 (some .int) ∈ BIG := ch_34 _ (List.mem_of_getElem? (i := 10) rfl)
theorem k_803 : Cond.methodLink RL 115 yX5_count ∈ BIG := ch_34 _ (List.mem_of_getElem? (i := 11) rfl)
theorem k_804 : Cond.instanceMethod yX5_count ∈ BIG := ch_34 _ (List.mem_of_getElem? (i := 12) rfl)
theorem k_805 : Cond.selects RX5 yX5_count yX5_count ∈ BIG := ch_34 _ (List.mem_of_getElem? (i := 13) rfl)
theorem k_806 : Cond.code yX5_count cX5_count 2 (some .int) ∈ BIG := ch_34 _ (List.mem_of_getElem? (i := 14) rfl)
theorem k_807 : Cond.fieldLink RX5 227 "InvoiceBook$Book" "paidBack" "I" ∈ BIG := ch_34 _ (List.mem_of_getElem? (i := 15) rfl)
theorem k_808 : Cond.fieldLink RX5 236 "InvoiceBook$Book" "closedYears" "I" ∈ BIG := ch_34 _ (List.mem_of_getElem? (i := 16) rfl)
theorem k_809 : Cond.methodLink RX5 221 yX1_countOverdue ∈ BIG := ch_34 _ (List.mem_of_getElem? (i := 17) rfl)
theorem k_810 : Cond.methodLink RX5 224 yX1_allCredit ∈ BIG := ch_34 _ (List.mem_of_getElem? (i := 18) rfl)
theorem k_811 : Cond.instanceMethod yX1_allCredit ∈ BIG := ch_34 _ (List.mem_of_getElem? (i := 19) rfl)
theorem k_812 : Cond.selects RX1 yX1_allCredit yX1_allCredit ∈ BIG := ch_34 _ (List.mem_of_getElem? (i := 20) rfl)
theorem k_813 : Cond.code yX1_allCredit cX1_allCredit 6 (some .int) ∈ BIG := ch_34 _ (List.mem_of_getElem? (i := 21) rfl)
theorem k_814 : Cond.methodLink RX5 230 yX1_allFees ∈ BIG := ch_34 _ (List.mem_of_getElem? (i := 22) rfl)
theorem k_815 : Cond.instanceMethod yX1_allFees ∈ BIG := ch_34 _ (List.mem_of_getElem? (i := 23) rfl)
theorem k_816 : Cond.selects RX1 yX1_allFees yX1_allFees ∈ BIG := ch_35 _ (List.mem_of_getElem? (i := 0) rfl)
theorem k_817 : Cond.code yX1_allFees cX1_allFees 6 (some .int) ∈ BIG := ch_35 _ (List.mem_of_getElem? (i := 1) rfl)
theorem k_818 : Cond.fieldLink RX1 175 "InvoiceBook$Bill" "fees" "I" ∈ BIG := ch_35 _ (List.mem_of_getElem? (i := 2) rfl)
theorem k_819 : Cond.methodLink RX5 233 yX1_allReminders ∈ BIG := ch_35 _ (List.mem_of_getElem? (i := 3) rfl)
theorem k_820 : Cond.instanceMethod yX1_allReminders ∈ BIG := ch_35 _ (List.mem_of_getElem? (i := 4) rfl)
theorem k_821 : Cond.selects RX1 yX1_allReminders yX1_allReminders ∈ BIG := ch_35 _ (List.mem_of_getElem? (i := 5) rfl)
theorem k_822 : Cond.code yX1_allReminders cX1_allReminders 6 (some .int) ∈ BIG := ch_35 _ (List.mem_of_getElem? (i := 6) rfl)
theorem k_823 : Cond.methodLink RX5 239 yX3_discountDays ∈ BIG := ch_35 _ (List.mem_of_getElem? (i := 7) rfl)
theorem k_824 : Cond.methodLink RX5 242 yX3_discountPercent ∈ BIG := ch_35 _ (List.mem_of_getElem? (i := 8) rfl)
theorem k_825 : Cond.methodLink RX5 245 yX3_reminderFee ∈ BIG := ch_35 _ (List.mem_of_getElem? (i := 9) rfl)
theorem k_826 : Cond.methodLink RX5 248 yX3_taxWay ∈ BIG := ch_35 _ (List.mem_of_getElem? (i := 10) rfl)
theorem k_827 : Cond.methodLink RL 118 yX6_count ∈ BIG := ch_35 _ (List.mem_of_getElem? (i := 11) rfl)
theorem k_828 : Cond.instanceMethod yX6_count ∈ BIG := ch_35 _ (List.mem_of_getElem? (i := 12) rfl)
theorem k_829 : Cond.selects RX6 yX6_count yX6_count ∈ BIG := ch_35 _ (List.mem_of_getElem? (i := 13) rfl)
theorem k_830 : Cond.code yX6_count cX6_count 2 (some .int) ∈ BIG := ch_35 _ (List.mem_of_getElem? (i := 14) rfl)
theorem k_831 : Cond.methodLink RX6 210 yX6_sumOfCustomers ∈ BIG := ch_35 _ (List.mem_of_getElem? (i := 15) rfl)
theorem k_832 : Cond.instanceMethod yX6_sumOfCustomers ∈ BIG := ch_35 _ (List.mem_of_getElem? (i := 16) rfl)
theorem k_833 : Cond.selects RX6 yX6_sumOfCustomers yX6_sumOfCustomers ∈ BIG := ch_35 _ (List.mem_of_getElem? (i := 17) rfl)
theorem k_834 : Cond.code yX6_sumOfCustomers cX6_sumOfCustomers 4 (some .int) ∈ BIG := ch_35 _ (List.mem_of_getElem? (i := 18) rfl)
end
section
theorem dX0_init_0 : decode cX0_init 0 = .ok (.aload_n 0, 1) := by decide +kernel
theorem dX0_init_1 : decode cX0_init 1 = .ok (.invokespecial 3, 3) := by decide +kernel
theorem dX0_init_4 : decode cX0_init 4 = .ok (.aload_n 0, 1) := by decide +kernel
theorem dX0_init_5 : decode cX0_init 5 = .ok (.iconst (-1), 1) := by decide +kernel
theorem dX0_init_6 : decode cX0_init 6 = .ok (.putfield 11, 3) := by decide +kernel
theorem dX0_init_9 : decode cX0_init 9 = .ok (.aload_n 0, 1) := by decide +kernel
theorem dX0_init_10 : decode cX0_init 10 = .ok (.bipush (-5), 2) := by decide +kernel
theorem dX0_init_12 : decode cX0_init 12 = .ok (.putfield 15, 3) := by decide +kernel
theorem dX0_init_15 : decode cX0_init 15 = .ok (.return_, 1) := by decide +kernel
theorem dX0_copyFrom_0 : decode cX0_copyFrom 0 = .ok (.aload_n 0, 1) := by decide +kernel
theorem dX0_copyFrom_1 : decode cX0_copyFrom 1 = .ok (.aload_n 1, 1) := by decide +kernel
theorem dX0_copyFrom_2 : decode cX0_copyFrom 2 = .ok (.getfield 11, 3) := by decide +kernel
theorem dX0_copyFrom_5 : decode cX0_copyFrom 5 = .ok (.putfield 11, 3) := by decide +kernel
theorem dX0_copyFrom_8 : decode cX0_copyFrom 8 = .ok (.aload_n 0, 1) := by decide +kernel
theorem dX0_copyFrom_9 : decode cX0_copyFrom 9 = .ok (.aload_n 1, 1) := by decide +kernel
theorem dX0_copyFrom_10 : decode cX0_copyFrom 10 = .ok (.getfield 18, 3) := by decide +kernel
theorem dX0_copyFrom_13 : decode cX0_copyFrom 13 = .ok (.putfield 18, 3) := by decide +kernel
theorem dX0_copyFrom_16 : decode cX0_copyFrom 16 = .ok (.aload_n 0, 1) := by decide +kernel
theorem dX0_copyFrom_17 : decode cX0_copyFrom 17 = .ok (.aload_n 1, 1) := by decide +kernel
theorem dX0_copyFrom_18 : decode cX0_copyFrom 18 = .ok (.getfield 21, 3) := by decide +kernel
theorem dX0_copyFrom_21 : decode cX0_copyFrom 21 = .ok (.putfield 21, 3) := by decide +kernel
theorem dX0_copyFrom_24 : decode cX0_copyFrom 24 = .ok (.aload_n 0, 1) := by decide +kernel
theorem dX0_copyFrom_25 : decode cX0_copyFrom 25 = .ok (.aload_n 1, 1) := by decide +kernel
theorem dX0_copyFrom_26 : decode cX0_copyFrom 26 = .ok (.getfield 24, 3) := by decide +kernel
theorem dX0_copyFrom_29 : decode cX0_copyFrom 29 = .ok (.putfield 24, 3) := by decide +kernel
theorem dX0_copyFrom_32 : decode cX0_copyFrom 32 = .ok (.aload_n 0, 1) := by decide +kernel
theorem dX0_copyFrom_33 : decode cX0_copyFrom 33 = .ok (.aload_n 1, 1) := by decide +kernel
theorem dX0_copyFrom_34 : decode cX0_copyFrom 34 = .ok (.getfield 27, 3) := by decide +kernel
theorem dX0_copyFrom_37 : decode cX0_copyFrom 37 = .ok (.putfield 27, 3) := by decide +kernel
theorem dX0_copyFrom_40 : decode cX0_copyFrom 40 = .ok (.aload_n 0, 1) := by decide +kernel
theorem dX0_copyFrom_41 : decode cX0_copyFrom 41 = .ok (.aload_n 1, 1) := by decide +kernel
theorem dX0_copyFrom_42 : decode cX0_copyFrom 42 = .ok (.getfield 30, 3) := by decide +kernel
theorem dX0_copyFrom_45 : decode cX0_copyFrom 45 = .ok (.putfield 30, 3) := by decide +kernel
theorem dX0_copyFrom_48 : decode cX0_copyFrom 48 = .ok (.aload_n 0, 1) := by decide +kernel
theorem dX0_copyFrom_49 : decode cX0_copyFrom 49 = .ok (.aload_n 1, 1) := by decide +kernel
theorem dX0_copyFrom_50 : decode cX0_copyFrom 50 = .ok (.getfield 33, 3) := by decide +kernel
theorem dX0_copyFrom_53 : decode cX0_copyFrom 53 = .ok (.putfield 33, 3) := by decide +kernel
theorem dX0_copyFrom_56 : decode cX0_copyFrom 56 = .ok (.aload_n 0, 1) := by decide +kernel
theorem dX0_copyFrom_57 : decode cX0_copyFrom 57 = .ok (.aload_n 1, 1) := by decide +kernel
theorem dX0_copyFrom_58 : decode cX0_copyFrom 58 = .ok (.getfield 36, 3) := by decide +kernel
theorem dX0_copyFrom_61 : decode cX0_copyFrom 61 = .ok (.putfield 36, 3) := by decide +kernel
theorem dX0_copyFrom_64 : decode cX0_copyFrom 64 = .ok (.aload_n 0, 1) := by decide +kernel
theorem dX0_copyFrom_65 : decode cX0_copyFrom 65 = .ok (.aload_n 1, 1) := by decide +kernel
theorem dX0_copyFrom_66 : decode cX0_copyFrom 66 = .ok (.getfield 39, 3) := by decide +kernel
theorem dX0_copyFrom_69 : decode cX0_copyFrom 69 = .ok (.putfield 39, 3) := by decide +kernel
theorem dX0_copyFrom_72 : decode cX0_copyFrom 72 = .ok (.aload_n 0, 1) := by decide +kernel
theorem dX0_copyFrom_73 : decode cX0_copyFrom 73 = .ok (.aload_n 1, 1) := by decide +kernel
theorem dX0_copyFrom_74 : decode cX0_copyFrom 74 = .ok (.getfield 42, 3) := by decide +kernel
theorem dX0_copyFrom_77 : decode cX0_copyFrom 77 = .ok (.putfield 42, 3) := by decide +kernel
theorem dX0_copyFrom_80 : decode cX0_copyFrom 80 = .ok (.aload_n 0, 1) := by decide +kernel
theorem dX0_copyFrom_81 : decode cX0_copyFrom 81 = .ok (.aload_n 1, 1) := by decide +kernel
theorem dX0_copyFrom_82 : decode cX0_copyFrom 82 = .ok (.getfield 45, 3) := by decide +kernel
theorem dX0_copyFrom_85 : decode cX0_copyFrom 85 = .ok (.putfield 45, 3) := by decide +kernel
theorem dX0_copyFrom_88 : decode cX0_copyFrom 88 = .ok (.aload_n 0, 1) := by decide +kernel
theorem dX0_copyFrom_89 : decode cX0_copyFrom 89 = .ok (.aload_n 1, 1) := by decide +kernel
theorem dX0_copyFrom_90 : decode cX0_copyFrom 90 = .ok (.getfield 48, 3) := by decide +kernel
theorem dX0_copyFrom_93 : decode cX0_copyFrom 93 = .ok (.putfield 48, 3) := by decide +kernel
theorem dX0_copyFrom_96 : decode cX0_copyFrom 96 = .ok (.aload_n 0, 1) := by decide +kernel
theorem dX0_copyFrom_97 : decode cX0_copyFrom 97 = .ok (.aload_n 1, 1) := by decide +kernel
theorem dX0_copyFrom_98 : decode cX0_copyFrom 98 = .ok (.getfield 51, 3) := by decide +kernel
theorem dX0_copyFrom_101 : decode cX0_copyFrom 101 = .ok (.putfield 51, 3) := by decide +kernel
theorem dX0_copyFrom_104 : decode cX0_copyFrom 104 = .ok (.aload_n 0, 1) := by decide +kernel
theorem dX0_copyFrom_105 : decode cX0_copyFrom 105 = .ok (.aload_n 1, 1) := by decide +kernel
theorem dX0_copyFrom_106 : decode cX0_copyFrom 106 = .ok (.getfield 15, 3) := by decide +kernel
theorem dX0_copyFrom_109 : decode cX0_copyFrom 109 = .ok (.putfield 15, 3) := by decide +kernel
theorem dX0_copyFrom_112 : decode cX0_copyFrom 112 = .ok (.return_, 1) := by decide +kernel
theorem dX0_write_0 : decode cX0_write 0 = .ok (.aload_n 0, 1) := by decide +kernel
theorem dX0_write_1 : decode cX0_write 1 = .ok (.iconst 0, 1) := by decide +kernel
theorem dX0_write_2 : decode cX0_write 2 = .ok (.putfield 11, 3) := by decide +kernel
theorem dX0_write_5 : decode cX0_write 5 = .ok (.aload_n 0, 1) := by decide +kernel
theorem dX0_write_6 : decode cX0_write 6 = .ok (.iload_n 1, 1) := by decide +kernel
theorem dX0_write_7 : decode cX0_write 7 = .ok (.putfield 18, 3) := by decide +kernel
theorem dX0_write_10 : decode cX0_write 10 = .ok (.aload_n 0, 1) := by decide +kernel
theorem dX0_write_11 : decode cX0_write 11 = .ok (.iload_n 2, 1) := by decide +kernel
theorem dX0_write_12 : decode cX0_write 12 = .ok (.putfield 21, 3) := by decide +kernel
theorem dX0_write_15 : decode cX0_write 15 = .ok (.aload_n 0, 1) := by decide +kernel
theorem dX0_write_16 : decode cX0_write 16 = .ok (.iload_n 3, 1) := by decide +kernel
theorem dX0_write_17 : decode cX0_write 17 = .ok (.putfield 24, 3) := by decide +kernel
theorem dX0_write_20 : decode cX0_write 20 = .ok (.aload_n 0, 1) := by decide +kernel
theorem dX0_write_21 : decode cX0_write 21 = .ok (.iload_n 2, 1) := by decide +kernel
theorem dX0_write_22 : decode cX0_write 22 = .ok (.iload_n 3, 1) := by decide +kernel
theorem dX0_write_23 : decode cX0_write 23 = .ok (.imul, 1) := by decide +kernel
theorem dX0_write_24 : decode cX0_write 24 = .ok (.bipush 50, 2) := by decide +kernel
theorem dX0_write_26 : decode cX0_write 26 = .ok (.iadd, 1) := by decide +kernel
theorem dX0_write_27 : decode cX0_write 27 = .ok (.bipush 100, 2) := by decide +kernel
theorem dX0_write_29 : decode cX0_write 29 = .ok (.idiv, 1) := by decide +kernel
theorem dX0_write_30 : decode cX0_write 30 = .ok (.putfield 27, 3) := by decide +kernel
theorem dX0_write_33 : decode cX0_write 33 = .ok (.aload_n 0, 1) := by decide +kernel
theorem dX0_write_34 : decode cX0_write 34 = .ok (.iload_n 2, 1) := by decide +kernel
theorem dX0_write_35 : decode cX0_write 35 = .ok (.aload_n 0, 1) := by decide +kernel
theorem dX0_write_36 : decode cX0_write 36 = .ok (.getfield 27, 3) := by decide +kernel
theorem dX0_write_39 : decode cX0_write 39 = .ok (.iadd, 1) := by decide +kernel
theorem dX0_write_40 : decode cX0_write 40 = .ok (.putfield 30, 3) := by decide +kernel
theorem dX0_write_43 : decode cX0_write 43 = .ok (.aload_n 0, 1) := by decide +kernel
theorem dX0_write_44 : decode cX0_write 44 = .ok (.iload 4, 2) := by decide +kernel
theorem dX0_write_46 : decode cX0_write 46 = .ok (.putfield 33, 3) := by decide +kernel
theorem dX0_write_49 : decode cX0_write 49 = .ok (.aload_n 0, 1) := by decide +kernel
theorem dX0_write_50 : decode cX0_write 50 = .ok (.iload 5, 2) := by decide +kernel
theorem dX0_write_52 : decode cX0_write 52 = .ok (.putfield 36, 3) := by decide +kernel
theorem dX0_write_55 : decode cX0_write 55 = .ok (.return_, 1) := by decide +kernel
theorem dX0_is_0 : decode cX0_is 0 = .ok (.aload_n 0, 1) := by decide +kernel
theorem dX0_is_1 : decode cX0_is 1 = .ok (.getfield 11, 3) := by decide +kernel
theorem dX0_is_4 : decode cX0_is 4 = .ok (.iconst (-1), 1) := by decide +kernel
theorem dX0_is_5 : decode cX0_is 5 = .ok (.if_icmp .eq 35, 3) := by decide +kernel
theorem dX0_is_8 : decode cX0_is 8 = .ok (.iload_n 1, 1) := by decide +kernel
theorem dX0_is_9 : decode cX0_is 9 = .ok (.bipush (-9), 2) := by decide +kernel
theorem dX0_is_11 : decode cX0_is 11 = .ok (.if_icmp .eq 11, 3) := by decide +kernel
theorem dX0_is_14 : decode cX0_is 14 = .ok (.iload_n 1, 1) := by decide +kernel
theorem dX0_is_15 : decode cX0_is 15 = .ok (.aload_n 0, 1) := by decide +kernel
theorem dX0_is_16 : decode cX0_is 16 = .ok (.getfield 18, 3) := by decide +kernel
theorem dX0_is_19 : decode cX0_is 19 = .ok (.if_icmp .ne 21, 3) := by decide +kernel
theorem dX0_is_22 : decode cX0_is 22 = .ok (.iload_n 2, 1) := by decide +kernel
theorem dX0_is_23 : decode cX0_is 23 = .ok (.bipush (-9), 2) := by decide +kernel
theorem dX0_is_25 : decode cX0_is 25 = .ok (.if_icmp .eq 11, 3) := by decide +kernel
theorem dX0_is_28 : decode cX0_is 28 = .ok (.iload_n 2, 1) := by decide +kernel
theorem dX0_is_29 : decode cX0_is 29 = .ok (.aload_n 0, 1) := by decide +kernel
theorem dX0_is_30 : decode cX0_is 30 = .ok (.getfield 11, 3) := by decide +kernel
theorem dX0_is_33 : decode cX0_is 33 = .ok (.if_icmp .ne 7, 3) := by decide +kernel
theorem dX0_is_36 : decode cX0_is 36 = .ok (.iconst 1, 1) := by decide +kernel
theorem dX0_is_37 : decode cX0_is 37 = .ok (.goto 4, 3) := by decide +kernel
theorem dX0_is_40 : decode cX0_is 40 = .ok (.iconst 0, 1) := by decide +kernel
theorem dX0_is_41 : decode cX0_is 41 = .ok (.ireturn, 1) := by decide +kernel
theorem dX0_owed_0 : decode cX0_owed 0 = .ok (.aload_n 0, 1) := by decide +kernel
theorem dX0_owed_1 : decode cX0_owed 1 = .ok (.getfield 30, 3) := by decide +kernel
theorem dX0_owed_4 : decode cX0_owed 4 = .ok (.aload_n 0, 1) := by decide +kernel
theorem dX0_owed_5 : decode cX0_owed 5 = .ok (.getfield 45, 3) := by decide +kernel
theorem dX0_owed_8 : decode cX0_owed 8 = .ok (.iadd, 1) := by decide +kernel
theorem dX0_owed_9 : decode cX0_owed 9 = .ok (.aload_n 0, 1) := by decide +kernel
theorem dX0_owed_10 : decode cX0_owed 10 = .ok (.getfield 39, 3) := by decide +kernel
theorem dX0_owed_13 : decode cX0_owed 13 = .ok (.isub, 1) := by decide +kernel
theorem dX0_owed_14 : decode cX0_owed 14 = .ok (.aload_n 0, 1) := by decide +kernel
theorem dX0_owed_15 : decode cX0_owed 15 = .ok (.getfield 42, 3) := by decide +kernel
theorem dX0_owed_18 : decode cX0_owed 18 = .ok (.isub, 1) := by decide +kernel
theorem dX0_owed_19 : decode cX0_owed 19 = .ok (.ireturn, 1) := by decide +kernel
theorem dX0_dueDay_0 : decode cX0_dueDay 0 = .ok (.aload_n 0, 1) := by decide +kernel
theorem dX0_dueDay_1 : decode cX0_dueDay 1 = .ok (.getfield 33, 3) := by decide +kernel
theorem dX0_dueDay_4 : decode cX0_dueDay 4 = .ok (.aload_n 0, 1) := by decide +kernel
theorem dX0_dueDay_5 : decode cX0_dueDay 5 = .ok (.getfield 36, 3) := by decide +kernel
theorem dX0_dueDay_8 : decode cX0_dueDay 8 = .ok (.iadd, 1) := by decide +kernel
theorem dX0_dueDay_9 : decode cX0_dueDay 9 = .ok (.ireturn, 1) := by decide +kernel
theorem dX0_isOverdue_0 : decode cX0_isOverdue 0 = .ok (.aload_n 0, 1) := by decide +kernel
theorem dX0_isOverdue_1 : decode cX0_isOverdue 1 = .ok (.getfield 11, 3) := by decide +kernel
theorem dX0_isOverdue_4 : decode cX0_isOverdue 4 = .ok (.ifCond .ne 20, 3) := by decide +kernel
theorem dX0_isOverdue_7 : decode cX0_isOverdue 7 = .ok (.iload_n 1, 1) := by decide +kernel
theorem dX0_isOverdue_8 : decode cX0_isOverdue 8 = .ok (.aload_n 0, 1) := by decide +kernel
theorem dX0_isOverdue_9 : decode cX0_isOverdue 9 = .ok (.getfield 33, 3) := by decide +kernel
theorem dX0_isOverdue_12 : decode cX0_isOverdue 12 = .ok (.isub, 1) := by decide +kernel
theorem dX0_isOverdue_13 : decode cX0_isOverdue 13 = .ok (.aload_n 0, 1) := by decide +kernel
theorem dX0_isOverdue_14 : decode cX0_isOverdue 14 = .ok (.getfield 36, 3) := by decide +kernel
theorem dX0_isOverdue_17 : decode cX0_isOverdue 17 = .ok (.if_icmp .le 7, 3) := by decide +kernel
theorem dX0_isOverdue_20 : decode cX0_isOverdue 20 = .ok (.iconst 1, 1) := by decide +kernel
theorem dX0_isOverdue_21 : decode cX0_isOverdue 21 = .ok (.goto 4, 3) := by decide +kernel
theorem dX0_isOverdue_24 : decode cX0_isOverdue 24 = .ok (.iconst 0, 1) := by decide +kernel
theorem dX0_isOverdue_25 : decode cX0_isOverdue 25 = .ok (.ireturn, 1) := by decide +kernel
theorem dX0_whyNoReminder_0 : decode cX0_whyNoReminder 0 = .ok (.aload_n 0, 1) := by decide +kernel
theorem dX0_whyNoReminder_1 : decode cX0_whyNoReminder 1 = .ok (.getfield 11, 3) := by decide +kernel
theorem dX0_whyNoReminder_4 : decode cX0_whyNoReminder 4 = .ok (.iconst 1, 1) := by decide +kernel
theorem dX0_whyNoReminder_5 : decode cX0_whyNoReminder 5 = .ok (.if_icmp .ne 5, 3) := by decide +kernel
theorem dX0_whyNoReminder_8 : decode cX0_whyNoReminder 8 = .ok (.iconst 1, 1) := by decide +kernel
theorem dX0_whyNoReminder_9 : decode cX0_whyNoReminder 9 = .ok (.ireturn, 1) := by decide +kernel
theorem dX0_whyNoReminder_10 : decode cX0_whyNoReminder 10 = .ok (.aload_n 0, 1) := by decide +kernel
theorem dX0_whyNoReminder_11 : decode cX0_whyNoReminder 11 = .ok (.getfield 11, 3) := by decide +kernel
theorem dX0_whyNoReminder_14 : decode cX0_whyNoReminder 14 = .ok (.iconst 2, 1) := by decide +kernel
theorem dX0_whyNoReminder_15 : decode cX0_whyNoReminder 15 = .ok (.if_icmp .ne 5, 3) := by decide +kernel
theorem dX0_whyNoReminder_18 : decode cX0_whyNoReminder 18 = .ok (.iconst 2, 1) := by decide +kernel
theorem dX0_whyNoReminder_19 : decode cX0_whyNoReminder 19 = .ok (.ireturn, 1) := by decide +kernel
theorem dX0_whyNoReminder_20 : decode cX0_whyNoReminder 20 = .ok (.aload_n 0, 1) := by decide +kernel
theorem dX0_whyNoReminder_21 : decode cX0_whyNoReminder 21 = .ok (.iload_n 1, 1) := by decide +kernel
theorem dX0_whyNoReminder_22 : decode cX0_whyNoReminder 22 = .ok (.invokevirtual 54, 3) := by decide +kernel
theorem dX0_whyNoReminder_25 : decode cX0_whyNoReminder 25 = .ok (.ifCond .ne 5, 3) := by decide +kernel
theorem dX0_whyNoReminder_28 : decode cX0_whyNoReminder 28 = .ok (.iconst 3, 1) := by decide +kernel
theorem dX0_whyNoReminder_29 : decode cX0_whyNoReminder 29 = .ok (.ireturn, 1) := by decide +kernel
theorem dX0_whyNoReminder_30 : decode cX0_whyNoReminder 30 = .ok (.aload_n 0, 1) := by decide +kernel
theorem dX0_whyNoReminder_31 : decode cX0_whyNoReminder 31 = .ok (.getfield 48, 3) := by decide +kernel
theorem dX0_whyNoReminder_34 : decode cX0_whyNoReminder 34 = .ok (.iconst 3, 1) := by decide +kernel
theorem dX0_whyNoReminder_35 : decode cX0_whyNoReminder 35 = .ok (.if_icmp .lt 5, 3) := by decide +kernel
theorem dX0_whyNoReminder_38 : decode cX0_whyNoReminder 38 = .ok (.iconst 4, 1) := by decide +kernel
theorem dX0_whyNoReminder_39 : decode cX0_whyNoReminder 39 = .ok (.ireturn, 1) := by decide +kernel
theorem dX0_whyNoReminder_40 : decode cX0_whyNoReminder 40 = .ok (.iload_n 1, 1) := by decide +kernel
theorem dX0_whyNoReminder_41 : decode cX0_whyNoReminder 41 = .ok (.aload_n 0, 1) := by decide +kernel
theorem dX0_whyNoReminder_42 : decode cX0_whyNoReminder 42 = .ok (.iload_n 2, 1) := by decide +kernel
theorem dX0_whyNoReminder_43 : decode cX0_whyNoReminder 43 = .ok (.invokevirtual 58, 3) := by decide +kernel
theorem dX0_whyNoReminder_46 : decode cX0_whyNoReminder 46 = .ok (.if_icmp .ge 7, 3) := by decide +kernel
theorem dX0_whyNoReminder_49 : decode cX0_whyNoReminder 49 = .ok (.iconst 5, 1) := by decide +kernel
theorem dX0_whyNoReminder_50 : decode cX0_whyNoReminder 50 = .ok (.goto 4, 3) := by decide +kernel
theorem dX0_whyNoReminder_53 : decode cX0_whyNoReminder 53 = .ok (.iconst 0, 1) := by decide +kernel
theorem dX0_whyNoReminder_54 : decode cX0_whyNoReminder 54 = .ok (.ireturn, 1) := by decide +kernel
theorem dX0_awaitsReminder_0 : decode cX0_awaitsReminder 0 = .ok (.aload_n 0, 1) := by decide +kernel
theorem dX0_awaitsReminder_1 : decode cX0_awaitsReminder 1 = .ok (.getfield 11, 3) := by decide +kernel
theorem dX0_awaitsReminder_4 : decode cX0_awaitsReminder 4 = .ok (.ifCond .ne 15, 3) := by decide +kernel
theorem dX0_awaitsReminder_7 : decode cX0_awaitsReminder 7 = .ok (.aload_n 0, 1) := by decide +kernel
theorem dX0_awaitsReminder_8 : decode cX0_awaitsReminder 8 = .ok (.getfield 48, 3) := by decide +kernel
theorem dX0_awaitsReminder_11 : decode cX0_awaitsReminder 11 = .ok (.iconst 3, 1) := by decide +kernel
theorem dX0_awaitsReminder_12 : decode cX0_awaitsReminder 12 = .ok (.if_icmp .ge 7, 3) := by decide +kernel
theorem dX0_awaitsReminder_15 : decode cX0_awaitsReminder 15 = .ok (.iconst 1, 1) := by decide +kernel
theorem dX0_awaitsReminder_16 : decode cX0_awaitsReminder 16 = .ok (.goto 4, 3) := by decide +kernel
theorem dX0_awaitsReminder_19 : decode cX0_awaitsReminder 19 = .ok (.iconst 0, 1) := by decide +kernel
theorem dX0_awaitsReminder_20 : decode cX0_awaitsReminder 20 = .ok (.ireturn, 1) := by decide +kernel
theorem dX0_reminderDay_0 : decode cX0_reminderDay 0 = .ok (.aload_n 0, 1) := by decide +kernel
theorem dX0_reminderDay_1 : decode cX0_reminderDay 1 = .ok (.getfield 48, 3) := by decide +kernel
theorem dX0_reminderDay_4 : decode cX0_reminderDay 4 = .ok (.ifCond .ne 10, 3) := by decide +kernel
theorem dX0_reminderDay_7 : decode cX0_reminderDay 7 = .ok (.aload_n 0, 1) := by decide +kernel
theorem dX0_reminderDay_8 : decode cX0_reminderDay 8 = .ok (.invokevirtual 62, 3) := by decide +kernel
theorem dX0_reminderDay_11 : decode cX0_reminderDay 11 = .ok (.goto 7, 3) := by decide +kernel
theorem dX0_reminderDay_14 : decode cX0_reminderDay 14 = .ok (.aload_n 0, 1) := by decide +kernel
theorem dX0_reminderDay_15 : decode cX0_reminderDay 15 = .ok (.getfield 51, 3) := by decide +kernel
theorem dX0_reminderDay_18 : decode cX0_reminderDay 18 = .ok (.iload_n 1, 1) := by decide +kernel
theorem dX0_reminderDay_19 : decode cX0_reminderDay 19 = .ok (.iadd, 1) := by decide +kernel
theorem dX0_reminderDay_20 : decode cX0_reminderDay 20 = .ok (.ireturn, 1) := by decide +kernel
theorem dX0_addReminder_0 : decode cX0_addReminder 0 = .ok (.aload_n 0, 1) := by decide +kernel
theorem dX0_addReminder_1 : decode cX0_addReminder 1 = .ok (.dup, 1) := by decide +kernel
theorem dX0_addReminder_2 : decode cX0_addReminder 2 = .ok (.getfield 45, 3) := by decide +kernel
theorem dX0_addReminder_5 : decode cX0_addReminder 5 = .ok (.aload_n 0, 1) := by decide +kernel
theorem dX0_addReminder_6 : decode cX0_addReminder 6 = .ok (.getfield 48, 3) := by decide +kernel
theorem dX0_addReminder_9 : decode cX0_addReminder 9 = .ok (.iload_n 2, 1) := by decide +kernel
theorem dX0_addReminder_10 : decode cX0_addReminder 10 = .ok (.imul, 1) := by decide +kernel
theorem dX0_addReminder_11 : decode cX0_addReminder 11 = .ok (.iadd, 1) := by decide +kernel
theorem dX0_addReminder_12 : decode cX0_addReminder 12 = .ok (.putfield 45, 3) := by decide +kernel
theorem dX0_addReminder_15 : decode cX0_addReminder 15 = .ok (.aload_n 0, 1) := by decide +kernel
theorem dX0_addReminder_16 : decode cX0_addReminder 16 = .ok (.dup, 1) := by decide +kernel
theorem dX0_addReminder_17 : decode cX0_addReminder 17 = .ok (.getfield 48, 3) := by decide +kernel
theorem dX0_addReminder_20 : decode cX0_addReminder 20 = .ok (.iconst 1, 1) := by decide +kernel
theorem dX0_addReminder_21 : decode cX0_addReminder 21 = .ok (.iadd, 1) := by decide +kernel
theorem dX0_addReminder_22 : decode cX0_addReminder 22 = .ok (.putfield 48, 3) := by decide +kernel
theorem dX0_addReminder_25 : decode cX0_addReminder 25 = .ok (.aload_n 0, 1) := by decide +kernel
theorem dX0_addReminder_26 : decode cX0_addReminder 26 = .ok (.iload_n 1, 1) := by decide +kernel
theorem dX0_addReminder_27 : decode cX0_addReminder 27 = .ok (.putfield 51, 3) := by decide +kernel
theorem dX0_addReminder_30 : decode cX0_addReminder 30 = .ok (.return_, 1) := by decide +kernel
theorem dX0_canBeWrittenOff_0 : decode cX0_canBeWrittenOff 0 = .ok (.aload_n 0, 1) := by decide +kernel
theorem dX0_canBeWrittenOff_1 : decode cX0_canBeWrittenOff 1 = .ok (.getfield 11, 3) := by decide +kernel
theorem dX0_canBeWrittenOff_4 : decode cX0_canBeWrittenOff 4 = .ok (.ifCond .ne 25, 3) := by decide +kernel
theorem dX0_canBeWrittenOff_7 : decode cX0_canBeWrittenOff 7 = .ok (.aload_n 0, 1) := by decide +kernel
theorem dX0_canBeWrittenOff_8 : decode cX0_canBeWrittenOff 8 = .ok (.getfield 48, 3) := by decide +kernel
theorem dX0_canBeWrittenOff_11 : decode cX0_canBeWrittenOff 11 = .ok (.iconst 3, 1) := by decide +kernel
theorem dX0_canBeWrittenOff_12 : decode cX0_canBeWrittenOff 12 = .ok (.if_icmp .lt 17, 3) := by decide +kernel
theorem dX0_canBeWrittenOff_15 : decode cX0_canBeWrittenOff 15 = .ok (.iload_n 1, 1) := by decide +kernel
theorem dX0_canBeWrittenOff_16 : decode cX0_canBeWrittenOff 16 = .ok (.aload_n 0, 1) := by decide +kernel
theorem dX0_canBeWrittenOff_17 : decode cX0_canBeWrittenOff 17 = .ok (.getfield 51, 3) := by decide +kernel
theorem dX0_canBeWrittenOff_20 : decode cX0_canBeWrittenOff 20 = .ok (.isub, 1) := by decide +kernel
theorem dX0_canBeWrittenOff_21 : decode cX0_canBeWrittenOff 21 = .ok (.iload_n 2, 1) := by decide +kernel
theorem dX0_canBeWrittenOff_22 : decode cX0_canBeWrittenOff 22 = .ok (.if_icmp .lt 7, 3) := by decide +kernel
theorem dX0_canBeWrittenOff_25 : decode cX0_canBeWrittenOff 25 = .ok (.iconst 1, 1) := by decide +kernel
theorem dX0_canBeWrittenOff_26 : decode cX0_canBeWrittenOff 26 = .ok (.goto 4, 3) := by decide +kernel
theorem dX0_canBeWrittenOff_29 : decode cX0_canBeWrittenOff 29 = .ok (.iconst 0, 1) := by decide +kernel
theorem dX0_canBeWrittenOff_30 : decode cX0_canBeWrittenOff 30 = .ok (.ireturn, 1) := by decide +kernel
theorem dX0_takeMoney_0 : decode cX0_takeMoney 0 = .ok (.aload_n 0, 1) := by decide +kernel
theorem dX0_takeMoney_1 : decode cX0_takeMoney 1 = .ok (.dup, 1) := by decide +kernel
theorem dX0_takeMoney_2 : decode cX0_takeMoney 2 = .ok (.getfield 39, 3) := by decide +kernel
theorem dX0_takeMoney_5 : decode cX0_takeMoney 5 = .ok (.iload_n 1, 1) := by decide +kernel
theorem dX0_takeMoney_6 : decode cX0_takeMoney 6 = .ok (.iadd, 1) := by decide +kernel
theorem dX0_takeMoney_7 : decode cX0_takeMoney 7 = .ok (.putfield 39, 3) := by decide +kernel
theorem dX0_takeMoney_10 : decode cX0_takeMoney 10 = .ok (.aload_n 0, 1) := by decide +kernel
theorem dX0_takeMoney_11 : decode cX0_takeMoney 11 = .ok (.dup, 1) := by decide +kernel
theorem dX0_takeMoney_12 : decode cX0_takeMoney 12 = .ok (.getfield 42, 3) := by decide +kernel
theorem dX0_takeMoney_15 : decode cX0_takeMoney 15 = .ok (.iload_n 2, 1) := by decide +kernel
theorem dX0_takeMoney_16 : decode cX0_takeMoney 16 = .ok (.iadd, 1) := by decide +kernel
theorem dX0_takeMoney_17 : decode cX0_takeMoney 17 = .ok (.putfield 42, 3) := by decide +kernel
theorem dX0_takeMoney_20 : decode cX0_takeMoney 20 = .ok (.aload_n 0, 1) := by decide +kernel
theorem dX0_takeMoney_21 : decode cX0_takeMoney 21 = .ok (.iload_n 3, 1) := by decide +kernel
theorem dX0_takeMoney_22 : decode cX0_takeMoney 22 = .ok (.putfield 15, 3) := by decide +kernel
theorem dX0_takeMoney_25 : decode cX0_takeMoney 25 = .ok (.aload_n 0, 1) := by decide +kernel
theorem dX0_takeMoney_26 : decode cX0_takeMoney 26 = .ok (.invokevirtual 66, 3) := by decide +kernel
theorem dX0_takeMoney_29 : decode cX0_takeMoney 29 = .ok (.ifCond .gt 8, 3) := by decide +kernel
theorem dX0_takeMoney_32 : decode cX0_takeMoney 32 = .ok (.aload_n 0, 1) := by decide +kernel
theorem dX0_takeMoney_33 : decode cX0_takeMoney 33 = .ok (.iconst 1, 1) := by decide +kernel
theorem dX0_takeMoney_34 : decode cX0_takeMoney 34 = .ok (.putfield 11, 3) := by decide +kernel
theorem dX0_takeMoney_37 : decode cX0_takeMoney 37 = .ok (.return_, 1) := by decide +kernel
theorem dX0_taxIn_0 : decode cX0_taxIn 0 = .ok (.bipush 100, 2) := by decide +kernel
theorem dX0_taxIn_2 : decode cX0_taxIn 2 = .ok (.aload_n 0, 1) := by decide +kernel
theorem dX0_taxIn_3 : decode cX0_taxIn 3 = .ok (.getfield 24, 3) := by decide +kernel
theorem dX0_taxIn_6 : decode cX0_taxIn 6 = .ok (.iadd, 1) := by decide +kernel
theorem dX0_taxIn_7 : decode cX0_taxIn 7 = .ok (.istore_n 2, 1) := by decide +kernel
theorem dX0_taxIn_8 : decode cX0_taxIn 8 = .ok (.iload_n 2, 1) := by decide +kernel
theorem dX0_taxIn_9 : decode cX0_taxIn 9 = .ok (.ifCond .le 14, 3) := by decide +kernel
theorem dX0_taxIn_12 : decode cX0_taxIn 12 = .ok (.iload_n 1, 1) := by decide +kernel
theorem dX0_taxIn_13 : decode cX0_taxIn 13 = .ok (.aload_n 0, 1) := by decide +kernel
theorem dX0_taxIn_14 : decode cX0_taxIn 14 = .ok (.getfield 24, 3) := by decide +kernel
theorem dX0_taxIn_17 : decode cX0_taxIn 17 = .ok (.imul, 1) := by decide +kernel
theorem dX0_taxIn_18 : decode cX0_taxIn 18 = .ok (.iload_n 2, 1) := by decide +kernel
theorem dX0_taxIn_19 : decode cX0_taxIn 19 = .ok (.idiv, 1) := by decide +kernel
theorem dX0_taxIn_20 : decode cX0_taxIn 20 = .ok (.goto 4, 3) := by decide +kernel
theorem dX0_taxIn_23 : decode cX0_taxIn 23 = .ok (.iconst 0, 1) := by decide +kernel
theorem dX0_taxIn_24 : decode cX0_taxIn 24 = .ok (.ireturn, 1) := by decide +kernel
theorem dX1_init_0 : decode cX1_init 0 = .ok (.aload_n 0, 1) := by decide +kernel
theorem dX1_init_1 : decode cX1_init 1 = .ok (.invokespecial 3, 3) := by decide +kernel
theorem dX1_init_4 : decode cX1_init 4 = .ok (.aload_n 0, 1) := by decide +kernel
theorem dX1_init_5 : decode cX1_init 5 = .ok (.bipush 40, 2) := by decide +kernel
theorem dX1_init_7 : decode cX1_init 7 = .ok (.anewarray 9, 3) := by decide +kernel
theorem dX1_init_10 : decode cX1_init 10 = .ok (.putfield 11, 3) := by decide +kernel
theorem dX1_init_13 : decode cX1_init 13 = .ok (.aload_n 0, 1) := by decide +kernel
theorem dX1_init_14 : decode cX1_init 14 = .ok (.bipush 8, 2) := by decide +kernel
theorem dX1_init_16 : decode cX1_init 16 = .ok (.newarray .int, 2) := by decide +kernel
theorem dX1_init_18 : decode cX1_init 18 = .ok (.putfield 17, 3) := by decide +kernel
theorem dX1_init_21 : decode cX1_init 21 = .ok (.aload_n 0, 1) := by decide +kernel
theorem dX1_init_22 : decode cX1_init 22 = .ok (.bipush 100, 2) := by decide +kernel
theorem dX1_init_24 : decode cX1_init 24 = .ok (.newarray .int, 2) := by decide +kernel
theorem dX1_init_26 : decode cX1_init 26 = .ok (.putfield 21, 3) := by decide +kernel
theorem dX1_init_29 : decode cX1_init 29 = .ok (.aload_n 0, 1) := by decide +kernel
theorem dX1_init_30 : decode cX1_init 30 = .ok (.bipush 100, 2) := by decide +kernel
theorem dX1_init_32 : decode cX1_init 32 = .ok (.newarray .int, 2) := by decide +kernel
theorem dX1_init_34 : decode cX1_init 34 = .ok (.putfield 24, 3) := by decide +kernel
theorem dX1_init_37 : decode cX1_init 37 = .ok (.aload_n 0, 1) := by decide +kernel
theorem dX1_init_38 : decode cX1_init 38 = .ok (.new 27, 3) := by decide +kernel
theorem dX1_init_41 : decode cX1_init 41 = .ok (.dup, 1) := by decide +kernel
theorem dX1_init_42 : decode cX1_init 42 = .ok (.invokespecial 29, 3) := by decide +kernel
theorem dX1_init_45 : decode cX1_init 45 = .ok (.putfield 30, 3) := by decide +kernel
theorem dX1_init_48 : decode cX1_init 48 = .ok (.iconst 0, 1) := by decide +kernel
theorem dX1_init_49 : decode cX1_init 49 = .ok (.istore_n 1, 1) := by decide +kernel
theorem dX1_init_50 : decode cX1_init 50 = .ok (.iload_n 1, 1) := by decide +kernel
theorem dX1_init_51 : decode cX1_init 51 = .ok (.aload_n 0, 1) := by decide +kernel
theorem dX1_init_52 : decode cX1_init 52 = .ok (.getfield 11, 3) := by decide +kernel
theorem dX1_init_55 : decode cX1_init 55 = .ok (.arraylength, 1) := by decide +kernel
theorem dX1_init_56 : decode cX1_init 56 = .ok (.if_icmp .ge 22, 3) := by decide +kernel
theorem dX1_init_59 : decode cX1_init 59 = .ok (.aload_n 0, 1) := by decide +kernel
theorem dX1_init_60 : decode cX1_init 60 = .ok (.getfield 11, 3) := by decide +kernel
theorem dX1_init_63 : decode cX1_init 63 = .ok (.iload_n 1, 1) := by decide +kernel
theorem dX1_init_64 : decode cX1_init 64 = .ok (.new 9, 3) := by decide +kernel
theorem dX1_init_67 : decode cX1_init 67 = .ok (.dup, 1) := by decide +kernel
theorem dX1_init_68 : decode cX1_init 68 = .ok (.invokespecial 34, 3) := by decide +kernel
theorem dX1_init_71 : decode cX1_init 71 = .ok (.aastore, 1) := by decide +kernel
theorem dX1_init_72 : decode cX1_init 72 = .ok (.iinc 1 1, 3) := by decide +kernel
theorem dX1_init_75 : decode cX1_init 75 = .ok (.goto (-25), 3) := by decide +kernel
theorem dX1_init_78 : decode cX1_init 78 = .ok (.return_, 1) := by decide +kernel
theorem dX1_copyFrom_0 : decode cX1_copyFrom 0 = .ok (.iconst 0, 1) := by decide +kernel
theorem dX1_copyFrom_1 : decode cX1_copyFrom 1 = .ok (.istore_n 2, 1) := by decide +kernel
theorem dX1_copyFrom_2 : decode cX1_copyFrom 2 = .ok (.iload_n 2, 1) := by decide +kernel
theorem dX1_copyFrom_3 : decode cX1_copyFrom 3 = .ok (.aload_n 0, 1) := by decide +kernel
theorem dX1_copyFrom_4 : decode cX1_copyFrom 4 = .ok (.getfield 11, 3) := by decide +kernel
theorem dX1_copyFrom_7 : decode cX1_copyFrom 7 = .ok (.arraylength, 1) := by decide +kernel
theorem dX1_copyFrom_8 : decode cX1_copyFrom 8 = .ok (.if_icmp .ge 24, 3) := by decide +kernel
theorem dX1_copyFrom_11 : decode cX1_copyFrom 11 = .ok (.aload_n 0, 1) := by decide +kernel
theorem dX1_copyFrom_12 : decode cX1_copyFrom 12 = .ok (.getfield 11, 3) := by decide +kernel
theorem dX1_copyFrom_15 : decode cX1_copyFrom 15 = .ok (.iload_n 2, 1) := by decide +kernel
theorem dX1_copyFrom_16 : decode cX1_copyFrom 16 = .ok (.aaload, 1) := by decide +kernel
theorem dX1_copyFrom_17 : decode cX1_copyFrom 17 = .ok (.aload_n 1, 1) := by decide +kernel
theorem dX1_copyFrom_18 : decode cX1_copyFrom 18 = .ok (.getfield 11, 3) := by decide +kernel
theorem dX1_copyFrom_21 : decode cX1_copyFrom 21 = .ok (.iload_n 2, 1) := by decide +kernel
theorem dX1_copyFrom_22 : decode cX1_copyFrom 22 = .ok (.aaload, 1) := by decide +kernel
theorem dX1_copyFrom_23 : decode cX1_copyFrom 23 = .ok (.invokevirtual 35, 3) := by decide +kernel
theorem dX1_copyFrom_26 : decode cX1_copyFrom 26 = .ok (.iinc 2 1, 3) := by decide +kernel
theorem dX1_copyFrom_29 : decode cX1_copyFrom 29 = .ok (.goto (-27), 3) := by decide +kernel
theorem dX1_copyFrom_32 : decode cX1_copyFrom 32 = .ok (.aload_n 1, 1) := by decide +kernel
theorem dX1_copyFrom_33 : decode cX1_copyFrom 33 = .ok (.getfield 17, 3) := by decide +kernel
theorem dX1_copyFrom_36 : decode cX1_copyFrom 36 = .ok (.iconst 0, 1) := by decide +kernel
theorem dX1_copyFrom_37 : decode cX1_copyFrom 37 = .ok (.aload_n 0, 1) := by decide +kernel
theorem dX1_copyFrom_38 : decode cX1_copyFrom 38 = .ok (.getfield 17, 3) := by decide +kernel
theorem dX1_copyFrom_41 : decode cX1_copyFrom 41 = .ok (.iconst 0, 1) := by decide +kernel
theorem dX1_copyFrom_42 : decode cX1_copyFrom 42 = .ok (.aload_n 0, 1) := by decide +kernel
theorem dX1_copyFrom_43 : decode cX1_copyFrom 43 = .ok (.getfield 17, 3) := by decide +kernel
theorem dX1_copyFrom_46 : decode cX1_copyFrom 46 = .ok (.arraylength, 1) := by decide +kernel
theorem dX1_copyFrom_47 : decode cX1_copyFrom 47 = .ok (.invokestatic 39, 3) := by decide +kernel
theorem dX1_copyFrom_50 : decode cX1_copyFrom 50 = .ok (.aload_n 1, 1) := by decide +kernel
theorem dX1_copyFrom_51 : decode cX1_copyFrom 51 = .ok (.getfield 21, 3) := by decide +kernel
theorem dX1_copyFrom_54 : decode cX1_copyFrom 54 = .ok (.iconst 0, 1) := by decide +kernel
theorem dX1_copyFrom_55 : decode cX1_copyFrom 55 = .ok (.aload_n 0, 1) := by decide +kernel
theorem dX1_copyFrom_56 : decode cX1_copyFrom 56 = .ok (.getfield 21, 3) := by decide +kernel
theorem dX1_copyFrom_59 : decode cX1_copyFrom 59 = .ok (.iconst 0, 1) := by decide +kernel
theorem dX1_copyFrom_60 : decode cX1_copyFrom 60 = .ok (.aload_n 0, 1) := by decide +kernel
theorem dX1_copyFrom_61 : decode cX1_copyFrom 61 = .ok (.getfield 21, 3) := by decide +kernel
theorem dX1_copyFrom_64 : decode cX1_copyFrom 64 = .ok (.arraylength, 1) := by decide +kernel
theorem dX1_copyFrom_65 : decode cX1_copyFrom 65 = .ok (.invokestatic 39, 3) := by decide +kernel
theorem dX1_copyFrom_68 : decode cX1_copyFrom 68 = .ok (.aload_n 1, 1) := by decide +kernel
theorem dX1_copyFrom_69 : decode cX1_copyFrom 69 = .ok (.getfield 24, 3) := by decide +kernel
theorem dX1_copyFrom_72 : decode cX1_copyFrom 72 = .ok (.iconst 0, 1) := by decide +kernel
theorem dX1_copyFrom_73 : decode cX1_copyFrom 73 = .ok (.aload_n 0, 1) := by decide +kernel
theorem dX1_copyFrom_74 : decode cX1_copyFrom 74 = .ok (.getfield 24, 3) := by decide +kernel
theorem dX1_copyFrom_77 : decode cX1_copyFrom 77 = .ok (.iconst 0, 1) := by decide +kernel
theorem dX1_copyFrom_78 : decode cX1_copyFrom 78 = .ok (.aload_n 0, 1) := by decide +kernel
theorem dX1_copyFrom_79 : decode cX1_copyFrom 79 = .ok (.getfield 24, 3) := by decide +kernel
theorem dX1_copyFrom_82 : decode cX1_copyFrom 82 = .ok (.arraylength, 1) := by decide +kernel
theorem dX1_copyFrom_83 : decode cX1_copyFrom 83 = .ok (.invokestatic 39, 3) := by decide +kernel
theorem dX1_copyFrom_86 : decode cX1_copyFrom 86 = .ok (.aload_n 0, 1) := by decide +kernel
theorem dX1_copyFrom_87 : decode cX1_copyFrom 87 = .ok (.getfield 30, 3) := by decide +kernel
theorem dX1_copyFrom_90 : decode cX1_copyFrom 90 = .ok (.aload_n 1, 1) := by decide +kernel
theorem dX1_copyFrom_91 : decode cX1_copyFrom 91 = .ok (.getfield 30, 3) := by decide +kernel
theorem dX1_copyFrom_94 : decode cX1_copyFrom 94 = .ok (.invokevirtual 45, 3) := by decide +kernel
theorem dX1_copyFrom_97 : decode cX1_copyFrom 97 = .ok (.aload_n 0, 1) := by decide +kernel
theorem dX1_copyFrom_98 : decode cX1_copyFrom 98 = .ok (.aload_n 1, 1) := by decide +kernel
theorem dX1_copyFrom_99 : decode cX1_copyFrom 99 = .ok (.getfield 48, 3) := by decide +kernel
theorem dX1_copyFrom_102 : decode cX1_copyFrom 102 = .ok (.putfield 48, 3) := by decide +kernel
theorem dX1_copyFrom_105 : decode cX1_copyFrom 105 = .ok (.aload_n 0, 1) := by decide +kernel
theorem dX1_copyFrom_106 : decode cX1_copyFrom 106 = .ok (.aload_n 1, 1) := by decide +kernel
theorem dX1_copyFrom_107 : decode cX1_copyFrom 107 = .ok (.getfield 52, 3) := by decide +kernel
theorem dX1_copyFrom_110 : decode cX1_copyFrom 110 = .ok (.putfield 52, 3) := by decide +kernel
theorem dX1_copyFrom_113 : decode cX1_copyFrom 113 = .ok (.aload_n 0, 1) := by decide +kernel
theorem dX1_copyFrom_114 : decode cX1_copyFrom 114 = .ok (.aload_n 1, 1) := by decide +kernel
theorem dX1_copyFrom_115 : decode cX1_copyFrom 115 = .ok (.getfield 55, 3) := by decide +kernel
theorem dX1_copyFrom_118 : decode cX1_copyFrom 118 = .ok (.putfield 55, 3) := by decide +kernel
theorem dX1_copyFrom_121 : decode cX1_copyFrom 121 = .ok (.return_, 1) := by decide +kernel
theorem dX1_billAt_0 : decode cX1_billAt 0 = .ok (.iload_n 1, 1) := by decide +kernel
theorem dX1_billAt_1 : decode cX1_billAt 1 = .ok (.ifCond .lt 25, 3) := by decide +kernel
theorem dX1_billAt_4 : decode cX1_billAt 4 = .ok (.iload_n 1, 1) := by decide +kernel
theorem dX1_billAt_5 : decode cX1_billAt 5 = .ok (.aload_n 0, 1) := by decide +kernel
theorem dX1_billAt_6 : decode cX1_billAt 6 = .ok (.getfield 11, 3) := by decide +kernel
theorem dX1_billAt_9 : decode cX1_billAt 9 = .ok (.arraylength, 1) := by decide +kernel
theorem dX1_billAt_10 : decode cX1_billAt 10 = .ok (.if_icmp .ge 16, 3) := by decide +kernel
theorem dX1_billAt_13 : decode cX1_billAt 13 = .ok (.aload_n 0, 1) := by decide +kernel
theorem dX1_billAt_14 : decode cX1_billAt 14 = .ok (.getfield 11, 3) := by decide +kernel
theorem dX1_billAt_17 : decode cX1_billAt 17 = .ok (.iload_n 1, 1) := by decide +kernel
theorem dX1_billAt_18 : decode cX1_billAt 18 = .ok (.aaload, 1) := by decide +kernel
theorem dX1_billAt_19 : decode cX1_billAt 19 = .ok (.getfield 58, 3) := by decide +kernel
theorem dX1_billAt_22 : decode cX1_billAt 22 = .ok (.iconst (-1), 1) := by decide +kernel
theorem dX1_billAt_23 : decode cX1_billAt 23 = .ok (.if_icmp .ne 5, 3) := by decide +kernel
theorem dX1_billAt_26 : decode cX1_billAt 26 = .ok (.aconst_null, 1) := by decide +kernel
theorem dX1_billAt_27 : decode cX1_billAt 27 = .ok (.areturn, 1) := by decide +kernel
theorem dX1_billAt_28 : decode cX1_billAt 28 = .ok (.aload_n 0, 1) := by decide +kernel
theorem dX1_billAt_29 : decode cX1_billAt 29 = .ok (.getfield 11, 3) := by decide +kernel
theorem dX1_billAt_32 : decode cX1_billAt 32 = .ok (.iload_n 1, 1) := by decide +kernel
theorem dX1_billAt_33 : decode cX1_billAt 33 = .ok (.aaload, 1) := by decide +kernel
theorem dX1_billAt_34 : decode cX1_billAt 34 = .ok (.areturn, 1) := by decide +kernel
theorem dX1_creditOf_0 : decode cX1_creditOf 0 = .ok (.iload_n 1, 1) := by decide +kernel
theorem dX1_creditOf_1 : decode cX1_creditOf 1 = .ok (.invokestatic 61, 3) := by decide +kernel
theorem dX1_creditOf_4 : decode cX1_creditOf 4 = .ok (.ifCond .eq 12, 3) := by decide +kernel
theorem dX1_creditOf_7 : decode cX1_creditOf 7 = .ok (.aload_n 0, 1) := by decide +kernel
theorem dX1_creditOf_8 : decode cX1_creditOf 8 = .ok (.getfield 17, 3) := by decide +kernel
theorem dX1_creditOf_11 : decode cX1_creditOf 11 = .ok (.iload_n 1, 1) := by decide +kernel
theorem dX1_creditOf_12 : decode cX1_creditOf 12 = .ok (.iaload, 1) := by decide +kernel
theorem dX1_creditOf_13 : decode cX1_creditOf 13 = .ok (.goto 4, 3) := by decide +kernel
theorem dX1_creditOf_16 : decode cX1_creditOf 16 = .ok (.iconst 0, 1) := by decide +kernel
theorem dX1_creditOf_17 : decode cX1_creditOf 17 = .ok (.ireturn, 1) := by decide +kernel
theorem dX1_setCredit_0 : decode cX1_setCredit 0 = .ok (.iload_n 1, 1) := by decide +kernel
theorem dX1_setCredit_1 : decode cX1_setCredit 1 = .ok (.invokestatic 61, 3) := by decide +kernel
theorem dX1_setCredit_4 : decode cX1_setCredit 4 = .ok (.ifCond .eq 10, 3) := by decide +kernel
theorem dX1_setCredit_7 : decode cX1_setCredit 7 = .ok (.aload_n 0, 1) := by decide +kernel
theorem dX1_setCredit_8 : decode cX1_setCredit 8 = .ok (.getfield 17, 3) := by decide +kernel
theorem dX1_setCredit_11 : decode cX1_setCredit 11 = .ok (.iload_n 1, 1) := by decide +kernel
theorem dX1_setCredit_12 : decode cX1_setCredit 12 = .ok (.iload_n 2, 1) := by decide +kernel
theorem dX1_setCredit_13 : decode cX1_setCredit 13 = .ok (.iastore, 1) := by decide +kernel
theorem dX1_setCredit_14 : decode cX1_setCredit 14 = .ok (.return_, 1) := by decide +kernel
theorem dX1_writeBill_0 : decode cX1_writeBill 0 = .ok (.iload_n 1, 1) := by decide +kernel
theorem dX1_writeBill_1 : decode cX1_writeBill 1 = .ok (.invokestatic 61, 3) := by decide +kernel
theorem dX1_writeBill_4 : decode cX1_writeBill 4 = .ok (.ifCond .ne 5, 3) := by decide +kernel
theorem dX1_writeBill_7 : decode cX1_writeBill 7 = .ok (.iconst (-1), 1) := by decide +kernel
theorem dX1_writeBill_8 : decode cX1_writeBill 8 = .ok (.ireturn, 1) := by decide +kernel
theorem dX1_writeBill_9 : decode cX1_writeBill 9 = .ok (.iload_n 2, 1) := by decide +kernel
theorem dX1_writeBill_10 : decode cX1_writeBill 10 = .ok (.iconst 1, 1) := by decide +kernel
theorem dX1_writeBill_11 : decode cX1_writeBill 11 = .ok (.if_icmp .lt 32, 3) := by decide +kernel
theorem dX1_writeBill_14 : decode cX1_writeBill 14 = .ok (.iload_n 2, 1) := by decide +kernel
theorem dX1_writeBill_15 : decode cX1_writeBill 15 = .ok (.sipush 9999, 3) := by decide +kernel
theorem dX1_writeBill_18 : decode cX1_writeBill 18 = .ok (.if_icmp .gt 25, 3) := by decide +kernel
theorem dX1_writeBill_21 : decode cX1_writeBill 21 = .ok (.iload_n 3, 1) := by decide +kernel
theorem dX1_writeBill_22 : decode cX1_writeBill 22 = .ok (.ifCond .lt 21, 3) := by decide +kernel
theorem dX1_writeBill_25 : decode cX1_writeBill 25 = .ok (.iload_n 3, 1) := by decide +kernel
theorem dX1_writeBill_26 : decode cX1_writeBill 26 = .ok (.bipush 40, 2) := by decide +kernel
theorem dX1_writeBill_28 : decode cX1_writeBill 28 = .ok (.if_icmp .gt 15, 3) := by decide +kernel
theorem dX1_writeBill_31 : decode cX1_writeBill 31 = .ok (.iload 4, 2) := by decide +kernel
theorem dX1_writeBill_33 : decode cX1_writeBill 33 = .ok (.ifCond .lt 10, 3) := by decide +kernel
theorem dX1_writeBill_36 : decode cX1_writeBill 36 = .ok (.iload 4, 2) := by decide +kernel
theorem dX1_writeBill_38 : decode cX1_writeBill 38 = .ok (.bipush 99, 2) := by decide +kernel
theorem dX1_writeBill_40 : decode cX1_writeBill 40 = .ok (.if_icmp .le 6, 3) := by decide +kernel
theorem dX1_writeBill_43 : decode cX1_writeBill 43 = .ok (.bipush (-2), 2) := by decide +kernel
theorem dX1_writeBill_45 : decode cX1_writeBill 45 = .ok (.ireturn, 1) := by decide +kernel
theorem dX1_writeBill_46 : decode cX1_writeBill 46 = .ok (.aload_n 0, 1) := by decide +kernel
theorem dX1_writeBill_47 : decode cX1_writeBill 47 = .ok (.bipush (-9), 2) := by decide +kernel
theorem dX1_writeBill_49 : decode cX1_writeBill 49 = .ok (.bipush (-9), 2) := by decide +kernel
theorem dX1_writeBill_51 : decode cX1_writeBill 51 = .ok (.invokevirtual 65, 3) := by decide +kernel
theorem dX1_writeBill_54 : decode cX1_writeBill 54 = .ok (.istore 5, 2) := by decide +kernel
theorem dX1_writeBill_56 : decode cX1_writeBill 56 = .ok (.iload 5, 2) := by decide +kernel
theorem dX1_writeBill_58 : decode cX1_writeBill 58 = .ok (.aload_n 0, 1) := by decide +kernel
theorem dX1_writeBill_59 : decode cX1_writeBill 59 = .ok (.getfield 11, 3) := by decide +kernel
theorem dX1_writeBill_62 : decode cX1_writeBill 62 = .ok (.arraylength, 1) := by decide +kernel
theorem dX1_writeBill_63 : decode cX1_writeBill 63 = .ok (.if_icmp .lt 6, 3) := by decide +kernel
theorem dX1_writeBill_66 : decode cX1_writeBill 66 = .ok (.bipush (-3), 2) := by decide +kernel
theorem dX1_writeBill_68 : decode cX1_writeBill 68 = .ok (.ireturn, 1) := by decide +kernel
theorem dX1_writeBill_69 : decode cX1_writeBill 69 = .ok (.aload_n 0, 1) := by decide +kernel
theorem dX1_writeBill_70 : decode cX1_writeBill 70 = .ok (.getfield 11, 3) := by decide +kernel
theorem dX1_writeBill_73 : decode cX1_writeBill 73 = .ok (.iload 5, 2) := by decide +kernel
theorem dX1_writeBill_75 : decode cX1_writeBill 75 = .ok (.aaload, 1) := by decide +kernel
theorem dX1_writeBill_76 : decode cX1_writeBill 76 = .ok (.astore 6, 2) := by decide +kernel
theorem dX1_writeBill_78 : decode cX1_writeBill 78 = .ok (.aload 6, 2) := by decide +kernel
theorem dX1_writeBill_80 : decode cX1_writeBill 80 = .ok (.iload_n 1, 1) := by decide +kernel
theorem dX1_writeBill_81 : decode cX1_writeBill 81 = .ok (.iload_n 2, 1) := by decide +kernel
theorem dX1_writeBill_82 : decode cX1_writeBill 82 = .ok (.iload_n 3, 1) := by decide +kernel
theorem dX1_writeBill_83 : decode cX1_writeBill 83 = .ok (.aload_n 0, 1) := by decide +kernel
theorem dX1_writeBill_84 : decode cX1_writeBill 84 = .ok (.getfield 48, 3) := by decide +kernel
theorem dX1_writeBill_87 : decode cX1_writeBill 87 = .ok (.iload 4, 2) := by decide +kernel
theorem dX1_writeBill_89 : decode cX1_writeBill 89 = .ok (.invokevirtual 69, 3) := by decide +kernel
theorem dX1_writeBill_92 : decode cX1_writeBill 92 = .ok (.aload_n 0, 1) := by decide +kernel
theorem dX1_writeBill_93 : decode cX1_writeBill 93 = .ok (.iload_n 1, 1) := by decide +kernel
theorem dX1_writeBill_94 : decode cX1_writeBill 94 = .ok (.invokevirtual 73, 3) := by decide +kernel
theorem dX1_writeBill_97 : decode cX1_writeBill 97 = .ok (.istore 7, 2) := by decide +kernel
theorem dX1_writeBill_99 : decode cX1_writeBill 99 = .ok (.aload_n 0, 1) := by decide +kernel
theorem dX1_writeBill_100 : decode cX1_writeBill 100 = .ok (.iload_n 1, 1) := by decide +kernel
theorem dX1_writeBill_101 : decode cX1_writeBill 101 = .ok (.iload 7, 2) := by decide +kernel
theorem dX1_writeBill_103 : decode cX1_writeBill 103 = .ok (.aload_n 0, 1) := by decide +kernel
theorem dX1_writeBill_104 : decode cX1_writeBill 104 = .ok (.aload 6, 2) := by decide +kernel
theorem dX1_writeBill_106 : decode cX1_writeBill 106 = .ok (.iload 7, 2) := by decide +kernel
theorem dX1_writeBill_108 : decode cX1_writeBill 108 = .ok (.invokevirtual 77, 3) := by decide +kernel
theorem dX1_writeBill_111 : decode cX1_writeBill 111 = .ok (.isub, 1) := by decide +kernel
theorem dX1_writeBill_112 : decode cX1_writeBill 112 = .ok (.invokevirtual 81, 3) := by decide +kernel
theorem dX1_writeBill_115 : decode cX1_writeBill 115 = .ok (.iload 5, 2) := by decide +kernel
theorem dX1_writeBill_117 : decode cX1_writeBill 117 = .ok (.ireturn, 1) := by decide +kernel
theorem dX1_takePayment_0 : decode cX1_takePayment 0 = .ok (.iload_n 1, 1) := by decide +kernel
theorem dX1_takePayment_1 : decode cX1_takePayment 1 = .ok (.invokestatic 61, 3) := by decide +kernel
theorem dX1_takePayment_4 : decode cX1_takePayment 4 = .ok (.ifCond .ne 5, 3) := by decide +kernel
theorem dX1_takePayment_7 : decode cX1_takePayment 7 = .ok (.iconst (-1), 1) := by decide +kernel
theorem dX1_takePayment_8 : decode cX1_takePayment 8 = .ok (.ireturn, 1) := by decide +kernel
theorem dX1_takePayment_9 : decode cX1_takePayment 9 = .ok (.iload_n 2, 1) := by decide +kernel
theorem dX1_takePayment_10 : decode cX1_takePayment 10 = .ok (.invokestatic 85, 3) := by decide +kernel
theorem dX1_takePayment_13 : decode cX1_takePayment 13 = .ok (.ifCond .ne 6, 3) := by decide +kernel
theorem dX1_takePayment_16 : decode cX1_takePayment 16 = .ok (.bipush (-2), 2) := by decide +kernel
theorem dX1_takePayment_18 : decode cX1_takePayment 18 = .ok (.ireturn, 1) := by decide +kernel
theorem dX1_takePayment_19 : decode cX1_takePayment 19 = .ok (.iload_n 2, 1) := by decide +kernel
theorem dX1_takePayment_20 : decode cX1_takePayment 20 = .ok (.istore_n 3, 1) := by decide +kernel
theorem dX1_takePayment_21 : decode cX1_takePayment 21 = .ok (.iconst 0, 1) := by decide +kernel
theorem dX1_takePayment_22 : decode cX1_takePayment 22 = .ok (.istore 4, 2) := by decide +kernel
theorem dX1_takePayment_24 : decode cX1_takePayment 24 = .ok (.aload_n 0, 1) := by decide +kernel
theorem dX1_takePayment_25 : decode cX1_takePayment 25 = .ok (.getfield 11, 3) := by decide +kernel
theorem dX1_takePayment_28 : decode cX1_takePayment 28 = .ok (.astore 5, 2) := by decide +kernel
theorem dX1_takePayment_30 : decode cX1_takePayment 30 = .ok (.aload 5, 2) := by decide +kernel
theorem dX1_takePayment_32 : decode cX1_takePayment 32 = .ok (.arraylength, 1) := by decide +kernel
theorem dX1_takePayment_33 : decode cX1_takePayment 33 = .ok (.istore 6, 2) := by decide +kernel
theorem dX1_takePayment_35 : decode cX1_takePayment 35 = .ok (.iconst 0, 1) := by decide +kernel
theorem dX1_takePayment_36 : decode cX1_takePayment 36 = .ok (.istore 7, 2) := by decide +kernel
theorem dX1_takePayment_38 : decode cX1_takePayment 38 = .ok (.iload 7, 2) := by decide +kernel
theorem dX1_takePayment_40 : decode cX1_takePayment 40 = .ok (.iload 6, 2) := by decide +kernel
theorem dX1_takePayment_42 : decode cX1_takePayment 42 = .ok (.if_icmp .ge 55, 3) := by decide +kernel
theorem dX1_takePayment_45 : decode cX1_takePayment 45 = .ok (.aload 5, 2) := by decide +kernel
theorem dX1_takePayment_47 : decode cX1_takePayment 47 = .ok (.iload 7, 2) := by decide +kernel
theorem dX1_takePayment_49 : decode cX1_takePayment 49 = .ok (.aaload, 1) := by decide +kernel
theorem dX1_takePayment_50 : decode cX1_takePayment 50 = .ok (.astore 8, 2) := by decide +kernel
theorem dX1_takePayment_52 : decode cX1_takePayment 52 = .ok (.aload 8, 2) := by decide +kernel
theorem dX1_takePayment_54 : decode cX1_takePayment 54 = .ok (.iload_n 1, 1) := by decide +kernel
theorem dX1_takePayment_55 : decode cX1_takePayment 55 = .ok (.iconst 0, 1) := by decide +kernel
theorem dX1_takePayment_56 : decode cX1_takePayment 56 = .ok (.invokevirtual 88, 3) := by decide +kernel
theorem dX1_takePayment_59 : decode cX1_takePayment 59 = .ok (.ifCond .eq 32, 3) := by decide +kernel
theorem dX1_takePayment_62 : decode cX1_takePayment 62 = .ok (.iload_n 3, 1) := by decide +kernel
theorem dX1_takePayment_63 : decode cX1_takePayment 63 = .ok (.aload_n 0, 1) := by decide +kernel
theorem dX1_takePayment_64 : decode cX1_takePayment 64 = .ok (.aload 8, 2) := by decide +kernel
theorem dX1_takePayment_66 : decode cX1_takePayment 66 = .ok (.iload_n 3, 1) := by decide +kernel
theorem dX1_takePayment_67 : decode cX1_takePayment 67 = .ok (.invokevirtual 77, 3) := by decide +kernel
theorem dX1_takePayment_70 : decode cX1_takePayment 70 = .ok (.isub, 1) := by decide +kernel
theorem dX1_takePayment_71 : decode cX1_takePayment 71 = .ok (.istore_n 3, 1) := by decide +kernel
theorem dX1_takePayment_72 : decode cX1_takePayment 72 = .ok (.iload 4, 2) := by decide +kernel
theorem dX1_takePayment_74 : decode cX1_takePayment 74 = .ok (.aload 8, 2) := by decide +kernel
theorem dX1_takePayment_76 : decode cX1_takePayment 76 = .ok (.getfield 58, 3) := by decide +kernel
theorem dX1_takePayment_79 : decode cX1_takePayment 79 = .ok (.iconst 1, 1) := by decide +kernel
theorem dX1_takePayment_80 : decode cX1_takePayment 80 = .ok (.if_icmp .ne 7, 3) := by decide +kernel
theorem dX1_takePayment_83 : decode cX1_takePayment 83 = .ok (.iconst 1, 1) := by decide +kernel
theorem dX1_takePayment_84 : decode cX1_takePayment 84 = .ok (.goto 4, 3) := by decide +kernel
theorem dX1_takePayment_87 : decode cX1_takePayment 87 = .ok (.iconst 0, 1) := by decide +kernel
theorem dX1_takePayment_88 : decode cX1_takePayment 88 = .ok (.iadd, 1) := by decide +kernel
theorem dX1_takePayment_89 : decode cX1_takePayment 89 = .ok (.istore 4, 2) := by decide +kernel
theorem dX1_takePayment_91 : decode cX1_takePayment 91 = .ok (.iinc 7 1, 3) := by decide +kernel
theorem dX1_takePayment_94 : decode cX1_takePayment 94 = .ok (.goto (-56), 3) := by decide +kernel
theorem dX1_takePayment_97 : decode cX1_takePayment 97 = .ok (.aload_n 0, 1) := by decide +kernel
theorem dX1_takePayment_98 : decode cX1_takePayment 98 = .ok (.iload_n 1, 1) := by decide +kernel
theorem dX1_takePayment_99 : decode cX1_takePayment 99 = .ok (.iload_n 3, 1) := by decide +kernel
theorem dX1_takePayment_100 : decode cX1_takePayment 100 = .ok (.invokevirtual 92, 3) := by decide +kernel
theorem dX1_takePayment_103 : decode cX1_takePayment 103 = .ok (.ifCond .eq 8, 3) := by decide +kernel
theorem dX1_takePayment_106 : decode cX1_takePayment 106 = .ok (.iload 4, 2) := by decide +kernel
theorem dX1_takePayment_108 : decode cX1_takePayment 108 = .ok (.goto 5, 3) := by decide +kernel
theorem dX1_takePayment_111 : decode cX1_takePayment 111 = .ok (.bipush (-3), 2) := by decide +kernel
theorem dX1_takePayment_113 : decode cX1_takePayment 113 = .ok (.ireturn, 1) := by decide +kernel
theorem dX1_takePaymentFor_0 : decode cX1_takePaymentFor 0 = .ok (.aload_n 0, 1) := by decide +kernel
theorem dX1_takePaymentFor_1 : decode cX1_takePaymentFor 1 = .ok (.iload_n 1, 1) := by decide +kernel
theorem dX1_takePaymentFor_2 : decode cX1_takePaymentFor 2 = .ok (.invokevirtual 95, 3) := by decide +kernel
theorem dX1_takePaymentFor_5 : decode cX1_takePaymentFor 5 = .ok (.astore_n 3, 1) := by decide +kernel
theorem dX1_takePaymentFor_6 : decode cX1_takePaymentFor 6 = .ok (.aload_n 3, 1) := by decide +kernel
theorem dX1_takePaymentFor_7 : decode cX1_takePaymentFor 7 = .ok (.ifnonnull 5, 3) := by decide +kernel
theorem dX1_takePaymentFor_10 : decode cX1_takePaymentFor 10 = .ok (.iconst (-1), 1) := by decide +kernel
theorem dX1_takePaymentFor_11 : decode cX1_takePaymentFor 11 = .ok (.ireturn, 1) := by decide +kernel
theorem dX1_takePaymentFor_12 : decode cX1_takePaymentFor 12 = .ok (.iload_n 2, 1) := by decide +kernel
theorem dX1_takePaymentFor_13 : decode cX1_takePaymentFor 13 = .ok (.invokestatic 85, 3) := by decide +kernel
theorem dX1_takePaymentFor_16 : decode cX1_takePaymentFor 16 = .ok (.ifCond .ne 6, 3) := by decide +kernel
theorem dX1_takePaymentFor_19 : decode cX1_takePaymentFor 19 = .ok (.bipush (-2), 2) := by decide +kernel
theorem dX1_takePaymentFor_21 : decode cX1_takePaymentFor 21 = .ok (.ireturn, 1) := by decide +kernel
theorem dX1_takePaymentFor_22 : decode cX1_takePaymentFor 22 = .ok (.aload_n 3, 1) := by decide +kernel
theorem dX1_takePaymentFor_23 : decode cX1_takePaymentFor 23 = .ok (.getfield 58, 3) := by decide +kernel
theorem dX1_takePaymentFor_26 : decode cX1_takePaymentFor 26 = .ok (.iconst 1, 1) := by decide +kernel
theorem dX1_takePaymentFor_27 : decode cX1_takePaymentFor 27 = .ok (.if_icmp .ne 6, 3) := by decide +kernel
theorem dX1_takePaymentFor_30 : decode cX1_takePaymentFor 30 = .ok (.bipush (-4), 2) := by decide +kernel
theorem dX1_takePaymentFor_32 : decode cX1_takePaymentFor 32 = .ok (.ireturn, 1) := by decide +kernel
theorem dX1_takePaymentFor_33 : decode cX1_takePaymentFor 33 = .ok (.iload_n 2, 1) := by decide +kernel
theorem dX1_takePaymentFor_34 : decode cX1_takePaymentFor 34 = .ok (.aload_n 0, 1) := by decide +kernel
theorem dX1_takePaymentFor_35 : decode cX1_takePaymentFor 35 = .ok (.aload_n 3, 1) := by decide +kernel
theorem dX1_takePaymentFor_36 : decode cX1_takePaymentFor 36 = .ok (.iload_n 2, 1) := by decide +kernel
theorem dX1_takePaymentFor_37 : decode cX1_takePaymentFor 37 = .ok (.invokevirtual 77, 3) := by decide +kernel
theorem dX1_takePaymentFor_40 : decode cX1_takePaymentFor 40 = .ok (.isub, 1) := by decide +kernel
theorem dX1_takePaymentFor_41 : decode cX1_takePaymentFor 41 = .ok (.istore 4, 2) := by decide +kernel
theorem dX1_takePaymentFor_43 : decode cX1_takePaymentFor 43 = .ok (.aload_n 0, 1) := by decide +kernel
theorem dX1_takePaymentFor_44 : decode cX1_takePaymentFor 44 = .ok (.aload_n 3, 1) := by decide +kernel
theorem dX1_takePaymentFor_45 : decode cX1_takePaymentFor 45 = .ok (.getfield 99, 3) := by decide +kernel
theorem dX1_takePaymentFor_48 : decode cX1_takePaymentFor 48 = .ok (.iload 4, 2) := by decide +kernel
theorem dX1_takePaymentFor_50 : decode cX1_takePaymentFor 50 = .ok (.invokevirtual 92, 3) := by decide +kernel
theorem dX1_takePaymentFor_53 : decode cX1_takePaymentFor 53 = .ok (.ifCond .eq 10, 3) := by decide +kernel
theorem dX1_takePaymentFor_56 : decode cX1_takePaymentFor 56 = .ok (.aload_n 3, 1) := by decide +kernel
theorem dX1_takePaymentFor_57 : decode cX1_takePaymentFor 57 = .ok (.invokevirtual 102, 3) := by decide +kernel
theorem dX1_takePaymentFor_60 : decode cX1_takePaymentFor 60 = .ok (.goto 5, 3) := by decide +kernel
theorem dX1_takePaymentFor_63 : decode cX1_takePaymentFor 63 = .ok (.bipush (-3), 2) := by decide +kernel
theorem dX1_takePaymentFor_65 : decode cX1_takePaymentFor 65 = .ok (.ireturn, 1) := by decide +kernel
theorem dX1_isOfAnother_0 : decode cX1_isOfAnother 0 = .ok (.aload_n 0, 1) := by decide +kernel
theorem dX1_isOfAnother_1 : decode cX1_isOfAnother 1 = .ok (.iload_n 1, 1) := by decide +kernel
theorem dX1_isOfAnother_2 : decode cX1_isOfAnother 2 = .ok (.invokevirtual 95, 3) := by decide +kernel
theorem dX1_isOfAnother_5 : decode cX1_isOfAnother 5 = .ok (.astore_n 3, 1) := by decide +kernel
theorem dX1_isOfAnother_6 : decode cX1_isOfAnother 6 = .ok (.aload_n 3, 1) := by decide +kernel
theorem dX1_isOfAnother_7 : decode cX1_isOfAnother 7 = .ok (.ifnull 15, 3) := by decide +kernel
theorem dX1_isOfAnother_10 : decode cX1_isOfAnother 10 = .ok (.aload_n 3, 1) := by decide +kernel
theorem dX1_isOfAnother_11 : decode cX1_isOfAnother 11 = .ok (.getfield 99, 3) := by decide +kernel
theorem dX1_isOfAnother_14 : decode cX1_isOfAnother 14 = .ok (.iload_n 2, 1) := by decide +kernel
theorem dX1_isOfAnother_15 : decode cX1_isOfAnother 15 = .ok (.if_icmp .eq 7, 3) := by decide +kernel
theorem dX1_isOfAnother_18 : decode cX1_isOfAnother 18 = .ok (.iconst 1, 1) := by decide +kernel
theorem dX1_isOfAnother_19 : decode cX1_isOfAnother 19 = .ok (.goto 4, 3) := by decide +kernel
theorem dX1_isOfAnother_22 : decode cX1_isOfAnother 22 = .ok (.iconst 0, 1) := by decide +kernel
theorem dX1_isOfAnother_23 : decode cX1_isOfAnother 23 = .ok (.ireturn, 1) := by decide +kernel
theorem dX1_payOn_0 : decode cX1_payOn 0 = .ok (.iload_n 2, 1) := by decide +kernel
theorem dX1_payOn_1 : decode cX1_payOn 1 = .ok (.ifCond .gt 5, 3) := by decide +kernel
theorem dX1_payOn_4 : decode cX1_payOn 4 = .ok (.iconst 0, 1) := by decide +kernel
theorem dX1_payOn_5 : decode cX1_payOn 5 = .ok (.ireturn, 1) := by decide +kernel
theorem dX1_payOn_6 : decode cX1_payOn 6 = .ok (.aload_n 0, 1) := by decide +kernel
theorem dX1_payOn_7 : decode cX1_payOn 7 = .ok (.aload_n 1, 1) := by decide +kernel
theorem dX1_payOn_8 : decode cX1_payOn 8 = .ok (.invokevirtual 106, 3) := by decide +kernel
theorem dX1_payOn_11 : decode cX1_payOn 11 = .ok (.istore_n 3, 1) := by decide +kernel
theorem dX1_payOn_12 : decode cX1_payOn 12 = .ok (.aload_n 1, 1) := by decide +kernel
theorem dX1_payOn_13 : decode cX1_payOn 13 = .ok (.invokevirtual 102, 3) := by decide +kernel
theorem dX1_payOn_16 : decode cX1_payOn 16 = .ok (.iload_n 3, 1) := by decide +kernel
theorem dX1_payOn_17 : decode cX1_payOn 17 = .ok (.isub, 1) := by decide +kernel
theorem dX1_payOn_18 : decode cX1_payOn 18 = .ok (.istore 4, 2) := by decide +kernel
theorem dX1_payOn_20 : decode cX1_payOn 20 = .ok (.iload_n 2, 1) := by decide +kernel
theorem dX1_payOn_21 : decode cX1_payOn 21 = .ok (.iload 4, 2) := by decide +kernel
theorem dX1_payOn_23 : decode cX1_payOn 23 = .ok (.if_icmp .lt 7, 3) := by decide +kernel
theorem dX1_payOn_26 : decode cX1_payOn 26 = .ok (.iconst 1, 1) := by decide +kernel
theorem dX1_payOn_27 : decode cX1_payOn 27 = .ok (.goto 4, 3) := by decide +kernel
theorem dX1_payOn_30 : decode cX1_payOn 30 = .ok (.iconst 0, 1) := by decide +kernel
theorem dX1_payOn_31 : decode cX1_payOn 31 = .ok (.istore 5, 2) := by decide +kernel
theorem dX1_payOn_33 : decode cX1_payOn 33 = .ok (.iload 5, 2) := by decide +kernel
theorem dX1_payOn_35 : decode cX1_payOn 35 = .ok (.ifCond .eq 8, 3) := by decide +kernel
theorem dX1_payOn_38 : decode cX1_payOn 38 = .ok (.iload 4, 2) := by decide +kernel
theorem dX1_payOn_40 : decode cX1_payOn 40 = .ok (.goto 4, 3) := by decide +kernel
theorem dX1_payOn_43 : decode cX1_payOn 43 = .ok (.iload_n 2, 1) := by decide +kernel
theorem dX1_payOn_44 : decode cX1_payOn 44 = .ok (.istore 6, 2) := by decide +kernel
theorem dX1_payOn_46 : decode cX1_payOn 46 = .ok (.aload_n 1, 1) := by decide +kernel
theorem dX1_payOn_47 : decode cX1_payOn 47 = .ok (.iload 6, 2) := by decide +kernel
theorem dX1_payOn_49 : decode cX1_payOn 49 = .ok (.iload 5, 2) := by decide +kernel
theorem dX1_payOn_51 : decode cX1_payOn 51 = .ok (.ifCond .eq 7, 3) := by decide +kernel
theorem dX1_payOn_54 : decode cX1_payOn 54 = .ok (.iload_n 3, 1) := by decide +kernel
theorem dX1_payOn_55 : decode cX1_payOn 55 = .ok (.goto 4, 3) := by decide +kernel
theorem dX1_payOn_58 : decode cX1_payOn 58 = .ok (.iconst 0, 1) := by decide +kernel
theorem dX1_payOn_59 : decode cX1_payOn 59 = .ok (.aload_n 0, 1) := by decide +kernel
theorem dX1_payOn_60 : decode cX1_payOn 60 = .ok (.getfield 48, 3) := by decide +kernel
theorem dX1_payOn_63 : decode cX1_payOn 63 = .ok (.invokevirtual 110, 3) := by decide +kernel
theorem dX1_payOn_66 : decode cX1_payOn 66 = .ok (.aload_n 0, 1) := by decide +kernel
theorem dX1_payOn_67 : decode cX1_payOn 67 = .ok (.getfield 48, 3) := by decide +kernel
theorem dX1_payOn_70 : decode cX1_payOn 70 = .ok (.bipush 100, 2) := by decide +kernel
theorem dX1_payOn_72 : decode cX1_payOn 72 = .ok (.idiv, 1) := by decide +kernel
theorem dX1_payOn_73 : decode cX1_payOn 73 = .ok (.istore 7, 2) := by decide +kernel
theorem dX1_payOn_75 : decode cX1_payOn 75 = .ok (.iload 7, 2) := by decide +kernel
theorem dX1_payOn_77 : decode cX1_payOn 77 = .ok (.invokestatic 114, 3) := by decide +kernel
theorem dX1_payOn_80 : decode cX1_payOn 80 = .ok (.ifCond .eq 19, 3) := by decide +kernel
theorem dX1_payOn_83 : decode cX1_payOn 83 = .ok (.aload_n 0, 1) := by decide +kernel
theorem dX1_payOn_84 : decode cX1_payOn 84 = .ok (.getfield 21, 3) := by decide +kernel
theorem dX1_payOn_87 : decode cX1_payOn 87 = .ok (.iload 7, 2) := by decide +kernel
theorem dX1_payOn_89 : decode cX1_payOn 89 = .ok (.dup2, 1) := by decide +kernel
theorem dX1_payOn_90 : decode cX1_payOn 90 = .ok (.iaload, 1) := by decide +kernel
theorem dX1_payOn_91 : decode cX1_payOn 91 = .ok (.aload_n 1, 1) := by decide +kernel
theorem dX1_payOn_92 : decode cX1_payOn 92 = .ok (.iload 6, 2) := by decide +kernel
theorem dX1_payOn_94 : decode cX1_payOn 94 = .ok (.invokevirtual 117, 3) := by decide +kernel
theorem dX1_payOn_97 : decode cX1_payOn 97 = .ok (.iadd, 1) := by decide +kernel
theorem dX1_payOn_98 : decode cX1_payOn 98 = .ok (.iastore, 1) := by decide +kernel
theorem dX1_payOn_99 : decode cX1_payOn 99 = .ok (.iload 6, 2) := by decide +kernel
theorem dX1_payOn_101 : decode cX1_payOn 101 = .ok (.ireturn, 1) := by decide +kernel
theorem dX1_discountOn_0 : decode cX1_discountOn 0 = .ok (.aload_n 1, 1) := by decide +kernel
theorem dX1_discountOn_1 : decode cX1_discountOn 1 = .ok (.getfield 120, 3) := by decide +kernel
theorem dX1_discountOn_4 : decode cX1_discountOn 4 = .ok (.ifCond .gt 22, 3) := by decide +kernel
theorem dX1_discountOn_7 : decode cX1_discountOn 7 = .ok (.aload_n 0, 1) := by decide +kernel
theorem dX1_discountOn_8 : decode cX1_discountOn 8 = .ok (.getfield 48, 3) := by decide +kernel
theorem dX1_discountOn_11 : decode cX1_discountOn 11 = .ok (.aload_n 1, 1) := by decide +kernel
theorem dX1_discountOn_12 : decode cX1_discountOn 12 = .ok (.getfield 123, 3) := by decide +kernel
theorem dX1_discountOn_15 : decode cX1_discountOn 15 = .ok (.isub, 1) := by decide +kernel
theorem dX1_discountOn_16 : decode cX1_discountOn 16 = .ok (.aload_n 0, 1) := by decide +kernel
theorem dX1_discountOn_17 : decode cX1_discountOn 17 = .ok (.getfield 30, 3) := by decide +kernel
theorem dX1_discountOn_20 : decode cX1_discountOn 20 = .ok (.invokevirtual 124, 3) := by decide +kernel
theorem dX1_discountOn_23 : decode cX1_discountOn 23 = .ok (.if_icmp .le 5, 3) := by decide +kernel
theorem dX1_discountOn_26 : decode cX1_discountOn 26 = .ok (.iconst 0, 1) := by decide +kernel
theorem dX1_discountOn_27 : decode cX1_discountOn 27 = .ok (.ireturn, 1) := by decide +kernel
theorem dX1_discountOn_28 : decode cX1_discountOn 28 = .ok (.aload_n 1, 1) := by decide +kernel
theorem dX1_discountOn_29 : decode cX1_discountOn 29 = .ok (.getfield 127, 3) := by decide +kernel
theorem dX1_discountOn_32 : decode cX1_discountOn 32 = .ok (.aload_n 0, 1) := by decide +kernel
theorem dX1_discountOn_33 : decode cX1_discountOn 33 = .ok (.getfield 30, 3) := by decide +kernel
theorem dX1_discountOn_36 : decode cX1_discountOn 36 = .ok (.invokevirtual 130, 3) := by decide +kernel
theorem dX1_discountOn_39 : decode cX1_discountOn 39 = .ok (.imul, 1) := by decide +kernel
theorem dX1_discountOn_40 : decode cX1_discountOn 40 = .ok (.bipush 100, 2) := by decide +kernel
theorem dX1_discountOn_42 : decode cX1_discountOn 42 = .ok (.idiv, 1) := by decide +kernel
theorem dX1_discountOn_43 : decode cX1_discountOn 43 = .ok (.aload_n 1, 1) := by decide +kernel
theorem dX1_discountOn_44 : decode cX1_discountOn 44 = .ok (.invokevirtual 102, 3) := by decide +kernel
theorem dX1_discountOn_47 : decode cX1_discountOn 47 = .ok (.iconst 1, 1) := by decide +kernel
theorem dX1_discountOn_48 : decode cX1_discountOn 48 = .ok (.isub, 1) := by decide +kernel
theorem dX1_discountOn_49 : decode cX1_discountOn 49 = .ok (.invokestatic 133, 3) := by decide +kernel
theorem dX1_discountOn_52 : decode cX1_discountOn 52 = .ok (.ireturn, 1) := by decide +kernel
theorem dX1_addCredit_0 : decode cX1_addCredit 0 = .ok (.aload_n 0, 1) := by decide +kernel
theorem dX1_addCredit_1 : decode cX1_addCredit 1 = .ok (.iload_n 1, 1) := by decide +kernel
theorem dX1_addCredit_2 : decode cX1_addCredit 2 = .ok (.invokevirtual 73, 3) := by decide +kernel
theorem dX1_addCredit_5 : decode cX1_addCredit 5 = .ok (.iload_n 2, 1) := by decide +kernel
theorem dX1_addCredit_6 : decode cX1_addCredit 6 = .ok (.iadd, 1) := by decide +kernel
theorem dX1_addCredit_7 : decode cX1_addCredit 7 = .ok (.istore_n 3, 1) := by decide +kernel
theorem dX1_addCredit_8 : decode cX1_addCredit 8 = .ok (.aload_n 0, 1) := by decide +kernel
theorem dX1_addCredit_9 : decode cX1_addCredit 9 = .ok (.iload_n 1, 1) := by decide +kernel
theorem dX1_addCredit_10 : decode cX1_addCredit 10 = .ok (.iload_n 3, 1) := by decide +kernel
theorem dX1_addCredit_11 : decode cX1_addCredit 11 = .ok (.invokevirtual 81, 3) := by decide +kernel
theorem dX1_addCredit_14 : decode cX1_addCredit 14 = .ok (.iload_n 3, 1) := by decide +kernel
theorem dX1_addCredit_15 : decode cX1_addCredit 15 = .ok (.ldc 138, 2) := by decide +kernel
theorem dX1_addCredit_17 : decode cX1_addCredit 17 = .ok (.if_icmp .gt 7, 3) := by decide +kernel
theorem dX1_addCredit_20 : decode cX1_addCredit 20 = .ok (.iconst 1, 1) := by decide +kernel
theorem dX1_addCredit_21 : decode cX1_addCredit 21 = .ok (.goto 4, 3) := by decide +kernel
theorem dX1_addCredit_24 : decode cX1_addCredit 24 = .ok (.iconst 0, 1) := by decide +kernel
theorem dX1_addCredit_25 : decode cX1_addCredit 25 = .ok (.ireturn, 1) := by decide +kernel
theorem dX1_returnCredit_0 : decode cX1_returnCredit 0 = .ok (.iload_n 1, 1) := by decide +kernel
theorem dX1_returnCredit_1 : decode cX1_returnCredit 1 = .ok (.invokestatic 61, 3) := by decide +kernel
theorem dX1_returnCredit_4 : decode cX1_returnCredit 4 = .ok (.ifCond .ne 5, 3) := by decide +kernel
theorem dX1_returnCredit_7 : decode cX1_returnCredit 7 = .ok (.iconst (-1), 1) := by decide +kernel
theorem dX1_returnCredit_8 : decode cX1_returnCredit 8 = .ok (.ireturn, 1) := by decide +kernel
theorem dX1_returnCredit_9 : decode cX1_returnCredit 9 = .ok (.aload_n 0, 1) := by decide +kernel
theorem dX1_returnCredit_10 : decode cX1_returnCredit 10 = .ok (.iload_n 1, 1) := by decide +kernel
theorem dX1_returnCredit_11 : decode cX1_returnCredit 11 = .ok (.invokevirtual 73, 3) := by decide +kernel
theorem dX1_returnCredit_14 : decode cX1_returnCredit 14 = .ok (.istore_n 2, 1) := by decide +kernel
theorem dX1_returnCredit_15 : decode cX1_returnCredit 15 = .ok (.iload_n 2, 1) := by decide +kernel
theorem dX1_returnCredit_16 : decode cX1_returnCredit 16 = .ok (.ifCond .ne 6, 3) := by decide +kernel
theorem dX1_returnCredit_19 : decode cX1_returnCredit 19 = .ok (.bipush (-5), 2) := by decide +kernel
theorem dX1_returnCredit_21 : decode cX1_returnCredit 21 = .ok (.ireturn, 1) := by decide +kernel
theorem dX1_returnCredit_22 : decode cX1_returnCredit 22 = .ok (.aload_n 0, 1) := by decide +kernel
theorem dX1_returnCredit_23 : decode cX1_returnCredit 23 = .ok (.iload_n 1, 1) := by decide +kernel
theorem dX1_returnCredit_24 : decode cX1_returnCredit 24 = .ok (.iconst 0, 1) := by decide +kernel
theorem dX1_returnCredit_25 : decode cX1_returnCredit 25 = .ok (.invokevirtual 81, 3) := by decide +kernel
theorem dX1_returnCredit_28 : decode cX1_returnCredit 28 = .ok (.aload_n 0, 1) := by decide +kernel
theorem dX1_returnCredit_29 : decode cX1_returnCredit 29 = .ok (.dup, 1) := by decide +kernel
theorem dX1_returnCredit_30 : decode cX1_returnCredit 30 = .ok (.getfield 55, 3) := by decide +kernel
theorem dX1_returnCredit_33 : decode cX1_returnCredit 33 = .ok (.iload_n 2, 1) := by decide +kernel
theorem dX1_returnCredit_34 : decode cX1_returnCredit 34 = .ok (.iadd, 1) := by decide +kernel
theorem dX1_returnCredit_35 : decode cX1_returnCredit 35 = .ok (.putfield 55, 3) := by decide +kernel
theorem dX1_returnCredit_38 : decode cX1_returnCredit 38 = .ok (.iload_n 2, 1) := by decide +kernel
theorem dX1_returnCredit_39 : decode cX1_returnCredit 39 = .ok (.ireturn, 1) := by decide +kernel
theorem dX1_goOn_0 : decode cX1_goOn 0 = .ok (.iload_n 1, 1) := by decide +kernel
theorem dX1_goOn_1 : decode cX1_goOn 1 = .ok (.iconst 1, 1) := by decide +kernel
theorem dX1_goOn_2 : decode cX1_goOn 2 = .ok (.if_icmp .lt 9, 3) := by decide +kernel
theorem dX1_goOn_5 : decode cX1_goOn 5 = .ok (.iload_n 1, 1) := by decide +kernel
theorem dX1_goOn_6 : decode cX1_goOn 6 = .ok (.bipush 99, 2) := by decide +kernel
theorem dX1_goOn_8 : decode cX1_goOn 8 = .ok (.if_icmp .le 6, 3) := by decide +kernel
theorem dX1_goOn_11 : decode cX1_goOn 11 = .ok (.bipush (-2), 2) := by decide +kernel
theorem dX1_goOn_13 : decode cX1_goOn 13 = .ok (.ireturn, 1) := by decide +kernel
theorem dX1_goOn_14 : decode cX1_goOn 14 = .ok (.aload_n 0, 1) := by decide +kernel
theorem dX1_goOn_15 : decode cX1_goOn 15 = .ok (.getfield 48, 3) := by decide +kernel
theorem dX1_goOn_18 : decode cX1_goOn 18 = .ok (.iload_n 1, 1) := by decide +kernel
theorem dX1_goOn_19 : decode cX1_goOn 19 = .ok (.iadd, 1) := by decide +kernel
theorem dX1_goOn_20 : decode cX1_goOn 20 = .ok (.sipush 9999, 3) := by decide +kernel
theorem dX1_goOn_23 : decode cX1_goOn 23 = .ok (.if_icmp .le 6, 3) := by decide +kernel
theorem dX1_goOn_26 : decode cX1_goOn 26 = .ok (.bipush (-3), 2) := by decide +kernel
theorem dX1_goOn_28 : decode cX1_goOn 28 = .ok (.ireturn, 1) := by decide +kernel
theorem dX1_goOn_29 : decode cX1_goOn 29 = .ok (.aload_n 0, 1) := by decide +kernel
theorem dX1_goOn_30 : decode cX1_goOn 30 = .ok (.dup, 1) := by decide +kernel
theorem dX1_goOn_31 : decode cX1_goOn 31 = .ok (.getfield 48, 3) := by decide +kernel
theorem dX1_goOn_34 : decode cX1_goOn 34 = .ok (.iload_n 1, 1) := by decide +kernel
theorem dX1_goOn_35 : decode cX1_goOn 35 = .ok (.iadd, 1) := by decide +kernel
theorem dX1_goOn_36 : decode cX1_goOn 36 = .ok (.putfield 48, 3) := by decide +kernel
theorem dX1_goOn_39 : decode cX1_goOn 39 = .ok (.aload_n 0, 1) := by decide +kernel
theorem dX1_goOn_40 : decode cX1_goOn 40 = .ok (.invokevirtual 139, 3) := by decide +kernel
theorem dX1_goOn_43 : decode cX1_goOn 43 = .ok (.ireturn, 1) := by decide +kernel
theorem dX1_sendReminders_0 : decode cX1_sendReminders 0 = .ok (.iconst 0, 1) := by decide +kernel
theorem dX1_sendReminders_1 : decode cX1_sendReminders 1 = .ok (.istore_n 1, 1) := by decide +kernel
theorem dX1_sendReminders_2 : decode cX1_sendReminders 2 = .ok (.aload_n 0, 1) := by decide +kernel
theorem dX1_sendReminders_3 : decode cX1_sendReminders 3 = .ok (.getfield 11, 3) := by decide +kernel
theorem dX1_sendReminders_6 : decode cX1_sendReminders 6 = .ok (.astore_n 2, 1) := by decide +kernel
theorem dX1_sendReminders_7 : decode cX1_sendReminders 7 = .ok (.aload_n 2, 1) := by decide +kernel
theorem dX1_sendReminders_8 : decode cX1_sendReminders 8 = .ok (.arraylength, 1) := by decide +kernel
theorem dX1_sendReminders_9 : decode cX1_sendReminders 9 = .ok (.istore_n 3, 1) := by decide +kernel
theorem dX1_sendReminders_10 : decode cX1_sendReminders 10 = .ok (.iconst 0, 1) := by decide +kernel
theorem dX1_sendReminders_11 : decode cX1_sendReminders 11 = .ok (.istore 4, 2) := by decide +kernel
theorem dX1_sendReminders_13 : decode cX1_sendReminders 13 = .ok (.iload 4, 2) := by decide +kernel
theorem dX1_sendReminders_15 : decode cX1_sendReminders 15 = .ok (.iload_n 3, 1) := by decide +kernel
theorem dX1_sendReminders_16 : decode cX1_sendReminders 16 = .ok (.if_icmp .ge 53, 3) := by decide +kernel
theorem dX1_sendReminders_19 : decode cX1_sendReminders 19 = .ok (.aload_n 2, 1) := by decide +kernel
theorem dX1_sendReminders_20 : decode cX1_sendReminders 20 = .ok (.iload 4, 2) := by decide +kernel
theorem dX1_sendReminders_22 : decode cX1_sendReminders 22 = .ok (.aaload, 1) := by decide +kernel
theorem dX1_sendReminders_23 : decode cX1_sendReminders 23 = .ok (.astore 5, 2) := by decide +kernel
theorem dX1_sendReminders_25 : decode cX1_sendReminders 25 = .ok (.aload 5, 2) := by decide +kernel
theorem dX1_sendReminders_27 : decode cX1_sendReminders 27 = .ok (.aload_n 0, 1) := by decide +kernel
theorem dX1_sendReminders_28 : decode cX1_sendReminders 28 = .ok (.getfield 48, 3) := by decide +kernel
theorem dX1_sendReminders_31 : decode cX1_sendReminders 31 = .ok (.aload_n 0, 1) := by decide +kernel
theorem dX1_sendReminders_32 : decode cX1_sendReminders 32 = .ok (.getfield 30, 3) := by decide +kernel
theorem dX1_sendReminders_35 : decode cX1_sendReminders 35 = .ok (.invokevirtual 142, 3) := by decide +kernel
theorem dX1_sendReminders_38 : decode cX1_sendReminders 38 = .ok (.invokevirtual 145, 3) := by decide +kernel
theorem dX1_sendReminders_41 : decode cX1_sendReminders 41 = .ok (.ifCond .ne 22, 3) := by decide +kernel
theorem dX1_sendReminders_44 : decode cX1_sendReminders 44 = .ok (.aload 5, 2) := by decide +kernel
theorem dX1_sendReminders_46 : decode cX1_sendReminders 46 = .ok (.aload_n 0, 1) := by decide +kernel
theorem dX1_sendReminders_47 : decode cX1_sendReminders 47 = .ok (.getfield 48, 3) := by decide +kernel
theorem dX1_sendReminders_50 : decode cX1_sendReminders 50 = .ok (.aload_n 0, 1) := by decide +kernel
theorem dX1_sendReminders_51 : decode cX1_sendReminders 51 = .ok (.getfield 30, 3) := by decide +kernel
theorem dX1_sendReminders_54 : decode cX1_sendReminders 54 = .ok (.invokevirtual 148, 3) := by decide +kernel
theorem dX1_sendReminders_57 : decode cX1_sendReminders 57 = .ok (.invokevirtual 151, 3) := by decide +kernel
theorem dX1_sendReminders_60 : decode cX1_sendReminders 60 = .ok (.iinc 1 1, 3) := by decide +kernel
theorem dX1_sendReminders_63 : decode cX1_sendReminders 63 = .ok (.iinc 4 1, 3) := by decide +kernel
theorem dX1_sendReminders_66 : decode cX1_sendReminders 66 = .ok (.goto (-53), 3) := by decide +kernel
theorem dX1_sendReminders_69 : decode cX1_sendReminders 69 = .ok (.iload_n 1, 1) := by decide +kernel
theorem dX1_sendReminders_70 : decode cX1_sendReminders 70 = .ok (.ifCond .le 7, 3) := by decide +kernel
theorem dX1_sendReminders_73 : decode cX1_sendReminders 73 = .ok (.iload_n 1, 1) := by decide +kernel
theorem dX1_sendReminders_74 : decode cX1_sendReminders 74 = .ok (.goto 5, 3) := by decide +kernel
theorem dX1_sendReminders_77 : decode cX1_sendReminders 77 = .ok (.bipush (-5), 2) := by decide +kernel
theorem dX1_sendReminders_79 : decode cX1_sendReminders 79 = .ok (.ireturn, 1) := by decide +kernel
theorem dX1_giveUp_0 : decode cX1_giveUp 0 = .ok (.aload_n 0, 1) := by decide +kernel
theorem dX1_giveUp_1 : decode cX1_giveUp 1 = .ok (.iload_n 1, 1) := by decide +kernel
theorem dX1_giveUp_2 : decode cX1_giveUp 2 = .ok (.invokevirtual 95, 3) := by decide +kernel
theorem dX1_giveUp_5 : decode cX1_giveUp 5 = .ok (.astore_n 2, 1) := by decide +kernel
theorem dX1_giveUp_6 : decode cX1_giveUp 6 = .ok (.aload_n 2, 1) := by decide +kernel
theorem dX1_giveUp_7 : decode cX1_giveUp 7 = .ok (.ifnonnull 5, 3) := by decide +kernel
theorem dX1_giveUp_10 : decode cX1_giveUp 10 = .ok (.iconst (-1), 1) := by decide +kernel
theorem dX1_giveUp_11 : decode cX1_giveUp 11 = .ok (.ireturn, 1) := by decide +kernel
theorem dX1_giveUp_12 : decode cX1_giveUp 12 = .ok (.aload_n 2, 1) := by decide +kernel
theorem dX1_giveUp_13 : decode cX1_giveUp 13 = .ok (.aload_n 0, 1) := by decide +kernel
theorem dX1_giveUp_14 : decode cX1_giveUp 14 = .ok (.getfield 48, 3) := by decide +kernel
theorem dX1_giveUp_17 : decode cX1_giveUp 17 = .ok (.aload_n 0, 1) := by decide +kernel
theorem dX1_giveUp_18 : decode cX1_giveUp 18 = .ok (.getfield 30, 3) := by decide +kernel
theorem dX1_giveUp_21 : decode cX1_giveUp 21 = .ok (.invokevirtual 142, 3) := by decide +kernel
theorem dX1_giveUp_24 : decode cX1_giveUp 24 = .ok (.invokevirtual 154, 3) := by decide +kernel
theorem dX1_giveUp_27 : decode cX1_giveUp 27 = .ok (.ifCond .ne 6, 3) := by decide +kernel
theorem dX1_giveUp_30 : decode cX1_giveUp 30 = .ok (.bipush (-4), 2) := by decide +kernel
theorem dX1_giveUp_32 : decode cX1_giveUp 32 = .ok (.ireturn, 1) := by decide +kernel
theorem dX1_giveUp_33 : decode cX1_giveUp 33 = .ok (.aload_n 2, 1) := by decide +kernel
theorem dX1_giveUp_34 : decode cX1_giveUp 34 = .ok (.iconst 2, 1) := by decide +kernel
theorem dX1_giveUp_35 : decode cX1_giveUp 35 = .ok (.putfield 58, 3) := by decide +kernel
theorem dX1_giveUp_38 : decode cX1_giveUp 38 = .ok (.aload_n 2, 1) := by decide +kernel
theorem dX1_giveUp_39 : decode cX1_giveUp 39 = .ok (.invokevirtual 102, 3) := by decide +kernel
theorem dX1_giveUp_42 : decode cX1_giveUp 42 = .ok (.ireturn, 1) := by decide +kernel
theorem dX1_endYear_0 : decode cX1_endYear 0 = .ok (.iload_n 1, 1) := by decide +kernel
theorem dX1_endYear_1 : decode cX1_endYear 1 = .ok (.invokestatic 114, 3) := by decide +kernel
theorem dX1_endYear_4 : decode cX1_endYear 4 = .ok (.ifCond .ne 5, 3) := by decide +kernel
theorem dX1_endYear_7 : decode cX1_endYear 7 = .ok (.iconst (-1), 1) := by decide +kernel
theorem dX1_endYear_8 : decode cX1_endYear 8 = .ok (.ireturn, 1) := by decide +kernel
theorem dX1_endYear_9 : decode cX1_endYear 9 = .ok (.aload_n 0, 1) := by decide +kernel
theorem dX1_endYear_10 : decode cX1_endYear 10 = .ok (.getfield 48, 3) := by decide +kernel
theorem dX1_endYear_13 : decode cX1_endYear 13 = .ok (.iload_n 1, 1) := by decide +kernel
theorem dX1_endYear_14 : decode cX1_endYear 14 = .ok (.iconst 1, 1) := by decide +kernel
theorem dX1_endYear_15 : decode cX1_endYear 15 = .ok (.iadd, 1) := by decide +kernel
theorem dX1_endYear_16 : decode cX1_endYear 16 = .ok (.bipush 100, 2) := by decide +kernel
theorem dX1_endYear_18 : decode cX1_endYear 18 = .ok (.imul, 1) := by decide +kernel
theorem dX1_endYear_19 : decode cX1_endYear 19 = .ok (.if_icmp .lt 11, 3) := by decide +kernel
theorem dX1_endYear_22 : decode cX1_endYear 22 = .ok (.iload_n 1, 1) := by decide +kernel
theorem dX1_endYear_23 : decode cX1_endYear 23 = .ok (.aload_n 0, 1) := by decide +kernel
theorem dX1_endYear_24 : decode cX1_endYear 24 = .ok (.getfield 52, 3) := by decide +kernel
theorem dX1_endYear_27 : decode cX1_endYear 27 = .ok (.if_icmp .le 6, 3) := by decide +kernel
theorem dX1_endYear_30 : decode cX1_endYear 30 = .ok (.bipush (-4), 2) := by decide +kernel
theorem dX1_endYear_32 : decode cX1_endYear 32 = .ok (.ireturn, 1) := by decide +kernel
theorem dX1_endYear_33 : decode cX1_endYear 33 = .ok (.iload_n 1, 1) := by decide +kernel
theorem dX1_endYear_34 : decode cX1_endYear 34 = .ok (.aload_n 0, 1) := by decide +kernel
theorem dX1_endYear_35 : decode cX1_endYear 35 = .ok (.getfield 52, 3) := by decide +kernel
theorem dX1_endYear_38 : decode cX1_endYear 38 = .ok (.if_icmp .ge 6, 3) := by decide +kernel
theorem dX1_endYear_41 : decode cX1_endYear 41 = .ok (.bipush (-5), 2) := by decide +kernel
theorem dX1_endYear_43 : decode cX1_endYear 43 = .ok (.ireturn, 1) := by decide +kernel
theorem dX1_endYear_44 : decode cX1_endYear 44 = .ok (.aload_n 0, 1) := by decide +kernel
theorem dX1_endYear_45 : decode cX1_endYear 45 = .ok (.getfield 24, 3) := by decide +kernel
theorem dX1_endYear_48 : decode cX1_endYear 48 = .ok (.iload_n 1, 1) := by decide +kernel
theorem dX1_endYear_49 : decode cX1_endYear 49 = .ok (.aload_n 0, 1) := by decide +kernel
theorem dX1_endYear_50 : decode cX1_endYear 50 = .ok (.iload_n 1, 1) := by decide +kernel
theorem dX1_endYear_51 : decode cX1_endYear 51 = .ok (.aload_n 0, 1) := by decide +kernel
theorem dX1_endYear_52 : decode cX1_endYear 52 = .ok (.getfield 30, 3) := by decide +kernel
theorem dX1_endYear_55 : decode cX1_endYear 55 = .ok (.invokevirtual 157, 3) := by decide +kernel
theorem dX1_endYear_58 : decode cX1_endYear 58 = .ok (.invokevirtual 160, 3) := by decide +kernel
theorem dX1_endYear_61 : decode cX1_endYear 61 = .ok (.iastore, 1) := by decide +kernel
theorem dX1_endYear_62 : decode cX1_endYear 62 = .ok (.aload_n 0, 1) := by decide +kernel
theorem dX1_endYear_63 : decode cX1_endYear 63 = .ok (.dup, 1) := by decide +kernel
theorem dX1_endYear_64 : decode cX1_endYear 64 = .ok (.getfield 52, 3) := by decide +kernel
theorem dX1_endYear_67 : decode cX1_endYear 67 = .ok (.iconst 1, 1) := by decide +kernel
theorem dX1_endYear_68 : decode cX1_endYear 68 = .ok (.iadd, 1) := by decide +kernel
theorem dX1_endYear_69 : decode cX1_endYear 69 = .ok (.putfield 52, 3) := by decide +kernel
theorem dX1_endYear_72 : decode cX1_endYear 72 = .ok (.aload_n 0, 1) := by decide +kernel
theorem dX1_endYear_73 : decode cX1_endYear 73 = .ok (.getfield 24, 3) := by decide +kernel
theorem dX1_endYear_76 : decode cX1_endYear 76 = .ok (.iload_n 1, 1) := by decide +kernel
theorem dX1_endYear_77 : decode cX1_endYear 77 = .ok (.iaload, 1) := by decide +kernel
theorem dX1_endYear_78 : decode cX1_endYear 78 = .ok (.ireturn, 1) := by decide +kernel
theorem dX1_taxOf_0 : decode cX1_taxOf 0 = .ok (.iload_n 2, 1) := by decide +kernel
theorem dX1_taxOf_1 : decode cX1_taxOf 1 = .ok (.iconst 1, 1) := by decide +kernel
theorem dX1_taxOf_2 : decode cX1_taxOf 2 = .ok (.if_icmp .ne 21, 3) := by decide +kernel
theorem dX1_taxOf_5 : decode cX1_taxOf 5 = .ok (.iload_n 1, 1) := by decide +kernel
theorem dX1_taxOf_6 : decode cX1_taxOf 6 = .ok (.invokestatic 114, 3) := by decide +kernel
theorem dX1_taxOf_9 : decode cX1_taxOf 9 = .ok (.ifCond .eq 12, 3) := by decide +kernel
theorem dX1_taxOf_12 : decode cX1_taxOf 12 = .ok (.aload_n 0, 1) := by decide +kernel
theorem dX1_taxOf_13 : decode cX1_taxOf 13 = .ok (.getfield 21, 3) := by decide +kernel
theorem dX1_taxOf_16 : decode cX1_taxOf 16 = .ok (.iload_n 1, 1) := by decide +kernel
theorem dX1_taxOf_17 : decode cX1_taxOf 17 = .ok (.iaload, 1) := by decide +kernel
theorem dX1_taxOf_18 : decode cX1_taxOf 18 = .ok (.goto 4, 3) := by decide +kernel
theorem dX1_taxOf_21 : decode cX1_taxOf 21 = .ok (.iconst 0, 1) := by decide +kernel
theorem dX1_taxOf_22 : decode cX1_taxOf 22 = .ok (.ireturn, 1) := by decide +kernel
theorem dX1_taxOf_23 : decode cX1_taxOf 23 = .ok (.iconst 0, 1) := by decide +kernel
theorem dX1_taxOf_24 : decode cX1_taxOf 24 = .ok (.istore_n 3, 1) := by decide +kernel
theorem dX1_taxOf_25 : decode cX1_taxOf 25 = .ok (.aload_n 0, 1) := by decide +kernel
theorem dX1_taxOf_26 : decode cX1_taxOf 26 = .ok (.getfield 11, 3) := by decide +kernel
theorem dX1_taxOf_29 : decode cX1_taxOf 29 = .ok (.astore 4, 2) := by decide +kernel
theorem dX1_taxOf_31 : decode cX1_taxOf 31 = .ok (.aload 4, 2) := by decide +kernel
theorem dX1_taxOf_33 : decode cX1_taxOf 33 = .ok (.arraylength, 1) := by decide +kernel
theorem dX1_taxOf_34 : decode cX1_taxOf 34 = .ok (.istore 5, 2) := by decide +kernel
theorem dX1_taxOf_36 : decode cX1_taxOf 36 = .ok (.iconst 0, 1) := by decide +kernel
theorem dX1_taxOf_37 : decode cX1_taxOf 37 = .ok (.istore 6, 2) := by decide +kernel
theorem dX1_taxOf_39 : decode cX1_taxOf 39 = .ok (.iload 6, 2) := by decide +kernel
theorem dX1_taxOf_41 : decode cX1_taxOf 41 = .ok (.iload 5, 2) := by decide +kernel
theorem dX1_taxOf_43 : decode cX1_taxOf 43 = .ok (.if_icmp .ge 48, 3) := by decide +kernel
theorem dX1_taxOf_46 : decode cX1_taxOf 46 = .ok (.aload 4, 2) := by decide +kernel
theorem dX1_taxOf_48 : decode cX1_taxOf 48 = .ok (.iload 6, 2) := by decide +kernel
theorem dX1_taxOf_50 : decode cX1_taxOf 50 = .ok (.aaload, 1) := by decide +kernel
theorem dX1_taxOf_51 : decode cX1_taxOf 51 = .ok (.astore 7, 2) := by decide +kernel
theorem dX1_taxOf_53 : decode cX1_taxOf 53 = .ok (.aload 7, 2) := by decide +kernel
theorem dX1_taxOf_55 : decode cX1_taxOf 55 = .ok (.bipush (-9), 2) := by decide +kernel
theorem dX1_taxOf_57 : decode cX1_taxOf 57 = .ok (.bipush (-9), 2) := by decide +kernel
theorem dX1_taxOf_59 : decode cX1_taxOf 59 = .ok (.invokevirtual 88, 3) := by decide +kernel
theorem dX1_taxOf_62 : decode cX1_taxOf 62 = .ok (.ifCond .eq 23, 3) := by decide +kernel
theorem dX1_taxOf_65 : decode cX1_taxOf 65 = .ok (.aload 7, 2) := by decide +kernel
theorem dX1_taxOf_67 : decode cX1_taxOf 67 = .ok (.getfield 123, 3) := by decide +kernel
theorem dX1_taxOf_70 : decode cX1_taxOf 70 = .ok (.bipush 100, 2) := by decide +kernel
theorem dX1_taxOf_72 : decode cX1_taxOf 72 = .ok (.idiv, 1) := by decide +kernel
theorem dX1_taxOf_73 : decode cX1_taxOf 73 = .ok (.iload_n 1, 1) := by decide +kernel
theorem dX1_taxOf_74 : decode cX1_taxOf 74 = .ok (.if_icmp .ne 11, 3) := by decide +kernel
theorem dX1_taxOf_77 : decode cX1_taxOf 77 = .ok (.iload_n 3, 1) := by decide +kernel
theorem dX1_taxOf_78 : decode cX1_taxOf 78 = .ok (.aload 7, 2) := by decide +kernel
theorem dX1_taxOf_80 : decode cX1_taxOf 80 = .ok (.getfield 163, 3) := by decide +kernel
theorem dX1_taxOf_83 : decode cX1_taxOf 83 = .ok (.iadd, 1) := by decide +kernel
theorem dX1_taxOf_84 : decode cX1_taxOf 84 = .ok (.istore_n 3, 1) := by decide +kernel
theorem dX1_taxOf_85 : decode cX1_taxOf 85 = .ok (.iinc 6 1, 3) := by decide +kernel
theorem dX1_taxOf_88 : decode cX1_taxOf 88 = .ok (.goto (-49), 3) := by decide +kernel
theorem dX1_taxOf_91 : decode cX1_taxOf 91 = .ok (.iload_n 3, 1) := by decide +kernel
theorem dX1_taxOf_92 : decode cX1_taxOf 92 = .ok (.ireturn, 1) := by decide +kernel
theorem dX1_taxTold_0 : decode cX1_taxTold 0 = .ok (.iload_n 1, 1) := by decide +kernel
theorem dX1_taxTold_1 : decode cX1_taxTold 1 = .ok (.invokestatic 114, 3) := by decide +kernel
theorem dX1_taxTold_4 : decode cX1_taxTold 4 = .ok (.ifCond .eq 20, 3) := by decide +kernel
theorem dX1_taxTold_7 : decode cX1_taxTold 7 = .ok (.iload_n 1, 1) := by decide +kernel
theorem dX1_taxTold_8 : decode cX1_taxTold 8 = .ok (.aload_n 0, 1) := by decide +kernel
theorem dX1_taxTold_9 : decode cX1_taxTold 9 = .ok (.getfield 52, 3) := by decide +kernel
theorem dX1_taxTold_12 : decode cX1_taxTold 12 = .ok (.if_icmp .ge 12, 3) := by decide +kernel
theorem dX1_taxTold_15 : decode cX1_taxTold 15 = .ok (.aload_n 0, 1) := by decide +kernel
theorem dX1_taxTold_16 : decode cX1_taxTold 16 = .ok (.getfield 24, 3) := by decide +kernel
theorem dX1_taxTold_19 : decode cX1_taxTold 19 = .ok (.iload_n 1, 1) := by decide +kernel
theorem dX1_taxTold_20 : decode cX1_taxTold 20 = .ok (.iaload, 1) := by decide +kernel
theorem dX1_taxTold_21 : decode cX1_taxTold 21 = .ok (.goto 5, 3) := by decide +kernel
theorem dX1_taxTold_24 : decode cX1_taxTold 24 = .ok (.bipush (-5), 2) := by decide +kernel
theorem dX1_taxTold_26 : decode cX1_taxTold 26 = .ok (.ireturn, 1) := by decide +kernel
theorem dX1_countBills_0 : decode cX1_countBills 0 = .ok (.iconst 0, 1) := by decide +kernel
theorem dX1_countBills_1 : decode cX1_countBills 1 = .ok (.istore_n 3, 1) := by decide +kernel
theorem dX1_countBills_2 : decode cX1_countBills 2 = .ok (.aload_n 0, 1) := by decide +kernel
theorem dX1_countBills_3 : decode cX1_countBills 3 = .ok (.getfield 11, 3) := by decide +kernel
theorem dX1_countBills_6 : decode cX1_countBills 6 = .ok (.astore 4, 2) := by decide +kernel
theorem dX1_countBills_8 : decode cX1_countBills 8 = .ok (.aload 4, 2) := by decide +kernel
theorem dX1_countBills_10 : decode cX1_countBills 10 = .ok (.arraylength, 1) := by decide +kernel
theorem dX1_countBills_11 : decode cX1_countBills 11 = .ok (.istore 5, 2) := by decide +kernel
theorem dX1_countBills_13 : decode cX1_countBills 13 = .ok (.iconst 0, 1) := by decide +kernel
theorem dX1_countBills_14 : decode cX1_countBills 14 = .ok (.istore 6, 2) := by decide +kernel
theorem dX1_countBills_16 : decode cX1_countBills 16 = .ok (.iload 6, 2) := by decide +kernel
theorem dX1_countBills_18 : decode cX1_countBills 18 = .ok (.iload 5, 2) := by decide +kernel
theorem dX1_countBills_20 : decode cX1_countBills 20 = .ok (.if_icmp .ge 34, 3) := by decide +kernel
theorem dX1_countBills_23 : decode cX1_countBills 23 = .ok (.aload 4, 2) := by decide +kernel
theorem dX1_countBills_25 : decode cX1_countBills 25 = .ok (.iload 6, 2) := by decide +kernel
theorem dX1_countBills_27 : decode cX1_countBills 27 = .ok (.aaload, 1) := by decide +kernel
theorem dX1_countBills_28 : decode cX1_countBills 28 = .ok (.astore 7, 2) := by decide +kernel
theorem dX1_countBills_30 : decode cX1_countBills 30 = .ok (.iload_n 3, 1) := by decide +kernel
theorem dX1_countBills_31 : decode cX1_countBills 31 = .ok (.aload 7, 2) := by decide +kernel
theorem dX1_countBills_33 : decode cX1_countBills 33 = .ok (.iload_n 1, 1) := by decide +kernel
theorem dX1_countBills_34 : decode cX1_countBills 34 = .ok (.iload_n 2, 1) := by decide +kernel
theorem dX1_countBills_35 : decode cX1_countBills 35 = .ok (.invokevirtual 88, 3) := by decide +kernel
theorem dX1_countBills_38 : decode cX1_countBills 38 = .ok (.ifCond .eq 7, 3) := by decide +kernel
theorem dX1_countBills_41 : decode cX1_countBills 41 = .ok (.iconst 1, 1) := by decide +kernel
theorem dX1_countBills_42 : decode cX1_countBills 42 = .ok (.goto 4, 3) := by decide +kernel
theorem dX1_countBills_45 : decode cX1_countBills 45 = .ok (.iconst 0, 1) := by decide +kernel
theorem dX1_countBills_46 : decode cX1_countBills 46 = .ok (.iadd, 1) := by decide +kernel
theorem dX1_countBills_47 : decode cX1_countBills 47 = .ok (.istore_n 3, 1) := by decide +kernel
theorem dX1_countBills_48 : decode cX1_countBills 48 = .ok (.iinc 6 1, 3) := by decide +kernel
theorem dX1_countBills_51 : decode cX1_countBills 51 = .ok (.goto (-35), 3) := by decide +kernel
theorem dX1_countBills_54 : decode cX1_countBills 54 = .ok (.iload_n 3, 1) := by decide +kernel
theorem dX1_countBills_55 : decode cX1_countBills 55 = .ok (.ireturn, 1) := by decide +kernel
theorem dX1_countOverdue_0 : decode cX1_countOverdue 0 = .ok (.iconst 0, 1) := by decide +kernel
theorem dX1_countOverdue_1 : decode cX1_countOverdue 1 = .ok (.istore_n 1, 1) := by decide +kernel
theorem dX1_countOverdue_2 : decode cX1_countOverdue 2 = .ok (.aload_n 0, 1) := by decide +kernel
theorem dX1_countOverdue_3 : decode cX1_countOverdue 3 = .ok (.getfield 11, 3) := by decide +kernel
theorem dX1_countOverdue_6 : decode cX1_countOverdue 6 = .ok (.astore_n 2, 1) := by decide +kernel
theorem dX1_countOverdue_7 : decode cX1_countOverdue 7 = .ok (.aload_n 2, 1) := by decide +kernel
theorem dX1_countOverdue_8 : decode cX1_countOverdue 8 = .ok (.arraylength, 1) := by decide +kernel
theorem dX1_countOverdue_9 : decode cX1_countOverdue 9 = .ok (.istore_n 3, 1) := by decide +kernel
theorem dX1_countOverdue_10 : decode cX1_countOverdue 10 = .ok (.iconst 0, 1) := by decide +kernel
theorem dX1_countOverdue_11 : decode cX1_countOverdue 11 = .ok (.istore 4, 2) := by decide +kernel
theorem dX1_countOverdue_13 : decode cX1_countOverdue 13 = .ok (.iload 4, 2) := by decide +kernel
theorem dX1_countOverdue_15 : decode cX1_countOverdue 15 = .ok (.iload_n 3, 1) := by decide +kernel
theorem dX1_countOverdue_16 : decode cX1_countOverdue 16 = .ok (.if_icmp .ge 35, 3) := by decide +kernel
theorem dX1_countOverdue_19 : decode cX1_countOverdue 19 = .ok (.aload_n 2, 1) := by decide +kernel
theorem dX1_countOverdue_20 : decode cX1_countOverdue 20 = .ok (.iload 4, 2) := by decide +kernel
theorem dX1_countOverdue_22 : decode cX1_countOverdue 22 = .ok (.aaload, 1) := by decide +kernel
theorem dX1_countOverdue_23 : decode cX1_countOverdue 23 = .ok (.astore 5, 2) := by decide +kernel
theorem dX1_countOverdue_25 : decode cX1_countOverdue 25 = .ok (.iload_n 1, 1) := by decide +kernel
theorem dX1_countOverdue_26 : decode cX1_countOverdue 26 = .ok (.aload 5, 2) := by decide +kernel
theorem dX1_countOverdue_28 : decode cX1_countOverdue 28 = .ok (.aload_n 0, 1) := by decide +kernel
theorem dX1_countOverdue_29 : decode cX1_countOverdue 29 = .ok (.getfield 48, 3) := by decide +kernel
theorem dX1_countOverdue_32 : decode cX1_countOverdue 32 = .ok (.invokevirtual 166, 3) := by decide +kernel
theorem dX1_countOverdue_35 : decode cX1_countOverdue 35 = .ok (.ifCond .eq 7, 3) := by decide +kernel
theorem dX1_countOverdue_38 : decode cX1_countOverdue 38 = .ok (.iconst 1, 1) := by decide +kernel
theorem dX1_countOverdue_39 : decode cX1_countOverdue 39 = .ok (.goto 4, 3) := by decide +kernel
theorem dX1_countOverdue_42 : decode cX1_countOverdue 42 = .ok (.iconst 0, 1) := by decide +kernel
theorem dX1_countOverdue_43 : decode cX1_countOverdue 43 = .ok (.iadd, 1) := by decide +kernel
theorem dX1_countOverdue_44 : decode cX1_countOverdue 44 = .ok (.istore_n 1, 1) := by decide +kernel
theorem dX1_countOverdue_45 : decode cX1_countOverdue 45 = .ok (.iinc 4 1, 3) := by decide +kernel
theorem dX1_countOverdue_48 : decode cX1_countOverdue 48 = .ok (.goto (-35), 3) := by decide +kernel
theorem dX1_countOverdue_51 : decode cX1_countOverdue 51 = .ok (.iload_n 1, 1) := by decide +kernel
theorem dX1_countOverdue_52 : decode cX1_countOverdue 52 = .ok (.ireturn, 1) := by decide +kernel
theorem dX1_owedOn_0 : decode cX1_owedOn 0 = .ok (.iconst 0, 1) := by decide +kernel
theorem dX1_owedOn_1 : decode cX1_owedOn 1 = .ok (.istore_n 3, 1) := by decide +kernel
theorem dX1_owedOn_2 : decode cX1_owedOn 2 = .ok (.aload_n 0, 1) := by decide +kernel
theorem dX1_owedOn_3 : decode cX1_owedOn 3 = .ok (.getfield 11, 3) := by decide +kernel
theorem dX1_owedOn_6 : decode cX1_owedOn 6 = .ok (.astore 4, 2) := by decide +kernel
theorem dX1_owedOn_8 : decode cX1_owedOn 8 = .ok (.aload 4, 2) := by decide +kernel
theorem dX1_owedOn_10 : decode cX1_owedOn 10 = .ok (.arraylength, 1) := by decide +kernel
theorem dX1_owedOn_11 : decode cX1_owedOn 11 = .ok (.istore 5, 2) := by decide +kernel
theorem dX1_owedOn_13 : decode cX1_owedOn 13 = .ok (.iconst 0, 1) := by decide +kernel
theorem dX1_owedOn_14 : decode cX1_owedOn 14 = .ok (.istore 6, 2) := by decide +kernel
theorem dX1_owedOn_16 : decode cX1_owedOn 16 = .ok (.iload 6, 2) := by decide +kernel
theorem dX1_owedOn_18 : decode cX1_owedOn 18 = .ok (.iload 5, 2) := by decide +kernel
theorem dX1_owedOn_20 : decode cX1_owedOn 20 = .ok (.if_icmp .ge 38, 3) := by decide +kernel
theorem dX1_owedOn_23 : decode cX1_owedOn 23 = .ok (.aload 4, 2) := by decide +kernel
theorem dX1_owedOn_25 : decode cX1_owedOn 25 = .ok (.iload 6, 2) := by decide +kernel
theorem dX1_owedOn_27 : decode cX1_owedOn 27 = .ok (.aaload, 1) := by decide +kernel
theorem dX1_owedOn_28 : decode cX1_owedOn 28 = .ok (.astore 7, 2) := by decide +kernel
theorem dX1_owedOn_30 : decode cX1_owedOn 30 = .ok (.iload_n 3, 1) := by decide +kernel
theorem dX1_owedOn_31 : decode cX1_owedOn 31 = .ok (.aload 7, 2) := by decide +kernel
theorem dX1_owedOn_33 : decode cX1_owedOn 33 = .ok (.iload_n 1, 1) := by decide +kernel
theorem dX1_owedOn_34 : decode cX1_owedOn 34 = .ok (.iload_n 2, 1) := by decide +kernel
theorem dX1_owedOn_35 : decode cX1_owedOn 35 = .ok (.invokevirtual 88, 3) := by decide +kernel
theorem dX1_owedOn_38 : decode cX1_owedOn 38 = .ok (.ifCond .eq 11, 3) := by decide +kernel
theorem dX1_owedOn_41 : decode cX1_owedOn 41 = .ok (.aload 7, 2) := by decide +kernel
theorem dX1_owedOn_43 : decode cX1_owedOn 43 = .ok (.invokevirtual 102, 3) := by decide +kernel
theorem dX1_owedOn_46 : decode cX1_owedOn 46 = .ok (.goto 4, 3) := by decide +kernel
theorem dX1_owedOn_49 : decode cX1_owedOn 49 = .ok (.iconst 0, 1) := by decide +kernel
theorem dX1_owedOn_50 : decode cX1_owedOn 50 = .ok (.iadd, 1) := by decide +kernel
theorem dX1_owedOn_51 : decode cX1_owedOn 51 = .ok (.istore_n 3, 1) := by decide +kernel
theorem dX1_owedOn_52 : decode cX1_owedOn 52 = .ok (.iinc 6 1, 3) := by decide +kernel
theorem dX1_owedOn_55 : decode cX1_owedOn 55 = .ok (.goto (-39), 3) := by decide +kernel
theorem dX1_owedOn_58 : decode cX1_owedOn 58 = .ok (.iload_n 3, 1) := by decide +kernel
theorem dX1_owedOn_59 : decode cX1_owedOn 59 = .ok (.ireturn, 1) := by decide +kernel
theorem dX1_leastToPayAll_0 : decode cX1_leastToPayAll 0 = .ok (.iconst 0, 1) := by decide +kernel
theorem dX1_leastToPayAll_1 : decode cX1_leastToPayAll 1 = .ok (.istore_n 2, 1) := by decide +kernel
theorem dX1_leastToPayAll_2 : decode cX1_leastToPayAll 2 = .ok (.aload_n 0, 1) := by decide +kernel
theorem dX1_leastToPayAll_3 : decode cX1_leastToPayAll 3 = .ok (.getfield 11, 3) := by decide +kernel
theorem dX1_leastToPayAll_6 : decode cX1_leastToPayAll 6 = .ok (.astore_n 3, 1) := by decide +kernel
theorem dX1_leastToPayAll_7 : decode cX1_leastToPayAll 7 = .ok (.aload_n 3, 1) := by decide +kernel
theorem dX1_leastToPayAll_8 : decode cX1_leastToPayAll 8 = .ok (.arraylength, 1) := by decide +kernel
theorem dX1_leastToPayAll_9 : decode cX1_leastToPayAll 9 = .ok (.istore 4, 2) := by decide +kernel
theorem dX1_leastToPayAll_11 : decode cX1_leastToPayAll 11 = .ok (.iconst 0, 1) := by decide +kernel
theorem dX1_leastToPayAll_12 : decode cX1_leastToPayAll 12 = .ok (.istore 5, 2) := by decide +kernel
theorem dX1_leastToPayAll_14 : decode cX1_leastToPayAll 14 = .ok (.iload 5, 2) := by decide +kernel
theorem dX1_leastToPayAll_16 : decode cX1_leastToPayAll 16 = .ok (.iload 4, 2) := by decide +kernel
theorem dX1_leastToPayAll_18 : decode cX1_leastToPayAll 18 = .ok (.if_icmp .ge 44, 3) := by decide +kernel
theorem dX1_leastToPayAll_21 : decode cX1_leastToPayAll 21 = .ok (.aload_n 3, 1) := by decide +kernel
theorem dX1_leastToPayAll_22 : decode cX1_leastToPayAll 22 = .ok (.iload 5, 2) := by decide +kernel
theorem dX1_leastToPayAll_24 : decode cX1_leastToPayAll 24 = .ok (.aaload, 1) := by decide +kernel
theorem dX1_leastToPayAll_25 : decode cX1_leastToPayAll 25 = .ok (.astore 6, 2) := by decide +kernel
theorem dX1_leastToPayAll_27 : decode cX1_leastToPayAll 27 = .ok (.iload_n 2, 1) := by decide +kernel
theorem dX1_leastToPayAll_28 : decode cX1_leastToPayAll 28 = .ok (.aload 6, 2) := by decide +kernel
theorem dX1_leastToPayAll_30 : decode cX1_leastToPayAll 30 = .ok (.iload_n 1, 1) := by decide +kernel
theorem dX1_leastToPayAll_31 : decode cX1_leastToPayAll 31 = .ok (.iconst 0, 1) := by decide +kernel
theorem dX1_leastToPayAll_32 : decode cX1_leastToPayAll 32 = .ok (.invokevirtual 88, 3) := by decide +kernel
theorem dX1_leastToPayAll_35 : decode cX1_leastToPayAll 35 = .ok (.ifCond .eq 18, 3) := by decide +kernel
theorem dX1_leastToPayAll_38 : decode cX1_leastToPayAll 38 = .ok (.aload 6, 2) := by decide +kernel
theorem dX1_leastToPayAll_40 : decode cX1_leastToPayAll 40 = .ok (.invokevirtual 102, 3) := by decide +kernel
theorem dX1_leastToPayAll_43 : decode cX1_leastToPayAll 43 = .ok (.aload_n 0, 1) := by decide +kernel
theorem dX1_leastToPayAll_44 : decode cX1_leastToPayAll 44 = .ok (.aload 6, 2) := by decide +kernel
theorem dX1_leastToPayAll_46 : decode cX1_leastToPayAll 46 = .ok (.invokevirtual 106, 3) := by decide +kernel
theorem dX1_leastToPayAll_49 : decode cX1_leastToPayAll 49 = .ok (.isub, 1) := by decide +kernel
theorem dX1_leastToPayAll_50 : decode cX1_leastToPayAll 50 = .ok (.goto 4, 3) := by decide +kernel
theorem dX1_leastToPayAll_53 : decode cX1_leastToPayAll 53 = .ok (.iconst 0, 1) := by decide +kernel
theorem dX1_leastToPayAll_54 : decode cX1_leastToPayAll 54 = .ok (.iadd, 1) := by decide +kernel
theorem dX1_leastToPayAll_55 : decode cX1_leastToPayAll 55 = .ok (.istore_n 2, 1) := by decide +kernel
theorem dX1_leastToPayAll_56 : decode cX1_leastToPayAll 56 = .ok (.iinc 5 1, 3) := by decide +kernel
theorem dX1_leastToPayAll_59 : decode cX1_leastToPayAll 59 = .ok (.goto (-45), 3) := by decide +kernel
theorem dX1_leastToPayAll_62 : decode cX1_leastToPayAll 62 = .ok (.iload_n 2, 1) := by decide +kernel
theorem dX1_leastToPayAll_63 : decode cX1_leastToPayAll 63 = .ok (.ireturn, 1) := by decide +kernel
theorem dX1_oldestOpenBill_0 : decode cX1_oldestOpenBill 0 = .ok (.iconst 0, 1) := by decide +kernel
theorem dX1_oldestOpenBill_1 : decode cX1_oldestOpenBill 1 = .ok (.istore_n 2, 1) := by decide +kernel
theorem dX1_oldestOpenBill_2 : decode cX1_oldestOpenBill 2 = .ok (.iload_n 2, 1) := by decide +kernel
theorem dX1_oldestOpenBill_3 : decode cX1_oldestOpenBill 3 = .ok (.aload_n 0, 1) := by decide +kernel
theorem dX1_oldestOpenBill_4 : decode cX1_oldestOpenBill 4 = .ok (.getfield 11, 3) := by decide +kernel
theorem dX1_oldestOpenBill_7 : decode cX1_oldestOpenBill 7 = .ok (.arraylength, 1) := by decide +kernel
theorem dX1_oldestOpenBill_8 : decode cX1_oldestOpenBill 8 = .ok (.if_icmp .ge 25, 3) := by decide +kernel
theorem dX1_oldestOpenBill_11 : decode cX1_oldestOpenBill 11 = .ok (.aload_n 0, 1) := by decide +kernel
theorem dX1_oldestOpenBill_12 : decode cX1_oldestOpenBill 12 = .ok (.getfield 11, 3) := by decide +kernel
theorem dX1_oldestOpenBill_15 : decode cX1_oldestOpenBill 15 = .ok (.iload_n 2, 1) := by decide +kernel
theorem dX1_oldestOpenBill_16 : decode cX1_oldestOpenBill 16 = .ok (.aaload, 1) := by decide +kernel
theorem dX1_oldestOpenBill_17 : decode cX1_oldestOpenBill 17 = .ok (.iload_n 1, 1) := by decide +kernel
theorem dX1_oldestOpenBill_18 : decode cX1_oldestOpenBill 18 = .ok (.iconst 0, 1) := by decide +kernel
theorem dX1_oldestOpenBill_19 : decode cX1_oldestOpenBill 19 = .ok (.invokevirtual 88, 3) := by decide +kernel
theorem dX1_oldestOpenBill_22 : decode cX1_oldestOpenBill 22 = .ok (.ifCond .eq 5, 3) := by decide +kernel
theorem dX1_oldestOpenBill_25 : decode cX1_oldestOpenBill 25 = .ok (.iload_n 2, 1) := by decide +kernel
theorem dX1_oldestOpenBill_26 : decode cX1_oldestOpenBill 26 = .ok (.ireturn, 1) := by decide +kernel
theorem dX1_oldestOpenBill_27 : decode cX1_oldestOpenBill 27 = .ok (.iinc 2 1, 3) := by decide +kernel
theorem dX1_oldestOpenBill_30 : decode cX1_oldestOpenBill 30 = .ok (.goto (-28), 3) := by decide +kernel
theorem dX1_oldestOpenBill_33 : decode cX1_oldestOpenBill 33 = .ok (.bipush (-5), 2) := by decide +kernel
theorem dX1_oldestOpenBill_35 : decode cX1_oldestOpenBill 35 = .ok (.ireturn, 1) := by decide +kernel
theorem dX1_paidOn_0 : decode cX1_paidOn 0 = .ok (.iconst 0, 1) := by decide +kernel
theorem dX1_paidOn_1 : decode cX1_paidOn 1 = .ok (.istore_n 2, 1) := by decide +kernel
theorem dX1_paidOn_2 : decode cX1_paidOn 2 = .ok (.aload_n 0, 1) := by decide +kernel
theorem dX1_paidOn_3 : decode cX1_paidOn 3 = .ok (.getfield 11, 3) := by decide +kernel
theorem dX1_paidOn_6 : decode cX1_paidOn 6 = .ok (.astore_n 3, 1) := by decide +kernel
theorem dX1_paidOn_7 : decode cX1_paidOn 7 = .ok (.aload_n 3, 1) := by decide +kernel
theorem dX1_paidOn_8 : decode cX1_paidOn 8 = .ok (.arraylength, 1) := by decide +kernel
theorem dX1_paidOn_9 : decode cX1_paidOn 9 = .ok (.istore 4, 2) := by decide +kernel
theorem dX1_paidOn_11 : decode cX1_paidOn 11 = .ok (.iconst 0, 1) := by decide +kernel
theorem dX1_paidOn_12 : decode cX1_paidOn 12 = .ok (.istore 5, 2) := by decide +kernel
theorem dX1_paidOn_14 : decode cX1_paidOn 14 = .ok (.iload 5, 2) := by decide +kernel
theorem dX1_paidOn_16 : decode cX1_paidOn 16 = .ok (.iload 4, 2) := by decide +kernel
theorem dX1_paidOn_18 : decode cX1_paidOn 18 = .ok (.if_icmp .ge 38, 3) := by decide +kernel
theorem dX1_paidOn_21 : decode cX1_paidOn 21 = .ok (.aload_n 3, 1) := by decide +kernel
theorem dX1_paidOn_22 : decode cX1_paidOn 22 = .ok (.iload 5, 2) := by decide +kernel
theorem dX1_paidOn_24 : decode cX1_paidOn 24 = .ok (.aaload, 1) := by decide +kernel
theorem dX1_paidOn_25 : decode cX1_paidOn 25 = .ok (.astore 6, 2) := by decide +kernel
theorem dX1_paidOn_27 : decode cX1_paidOn 27 = .ok (.iload_n 2, 1) := by decide +kernel
theorem dX1_paidOn_28 : decode cX1_paidOn 28 = .ok (.aload 6, 2) := by decide +kernel
theorem dX1_paidOn_30 : decode cX1_paidOn 30 = .ok (.iload_n 1, 1) := by decide +kernel
theorem dX1_paidOn_31 : decode cX1_paidOn 31 = .ok (.bipush (-9), 2) := by decide +kernel
theorem dX1_paidOn_33 : decode cX1_paidOn 33 = .ok (.invokevirtual 88, 3) := by decide +kernel
theorem dX1_paidOn_36 : decode cX1_paidOn 36 = .ok (.ifCond .eq 11, 3) := by decide +kernel
theorem dX1_paidOn_39 : decode cX1_paidOn 39 = .ok (.aload 6, 2) := by decide +kernel
theorem dX1_paidOn_41 : decode cX1_paidOn 41 = .ok (.getfield 169, 3) := by decide +kernel
theorem dX1_paidOn_44 : decode cX1_paidOn 44 = .ok (.goto 4, 3) := by decide +kernel
theorem dX1_paidOn_47 : decode cX1_paidOn 47 = .ok (.iconst 0, 1) := by decide +kernel
theorem dX1_paidOn_48 : decode cX1_paidOn 48 = .ok (.iadd, 1) := by decide +kernel
theorem dX1_paidOn_49 : decode cX1_paidOn 49 = .ok (.istore_n 2, 1) := by decide +kernel
theorem dX1_paidOn_50 : decode cX1_paidOn 50 = .ok (.iinc 5 1, 3) := by decide +kernel
theorem dX1_paidOn_53 : decode cX1_paidOn 53 = .ok (.goto (-39), 3) := by decide +kernel
theorem dX1_paidOn_56 : decode cX1_paidOn 56 = .ok (.iload_n 2, 1) := by decide +kernel
theorem dX1_paidOn_57 : decode cX1_paidOn 57 = .ok (.ireturn, 1) := by decide +kernel
theorem dX1_allCredit_0 : decode cX1_allCredit 0 = .ok (.iconst 0, 1) := by decide +kernel
theorem dX1_allCredit_1 : decode cX1_allCredit 1 = .ok (.istore_n 1, 1) := by decide +kernel
theorem dX1_allCredit_2 : decode cX1_allCredit 2 = .ok (.aload_n 0, 1) := by decide +kernel
theorem dX1_allCredit_3 : decode cX1_allCredit 3 = .ok (.getfield 17, 3) := by decide +kernel
theorem dX1_allCredit_6 : decode cX1_allCredit 6 = .ok (.astore_n 2, 1) := by decide +kernel
theorem dX1_allCredit_7 : decode cX1_allCredit 7 = .ok (.aload_n 2, 1) := by decide +kernel
theorem dX1_allCredit_8 : decode cX1_allCredit 8 = .ok (.arraylength, 1) := by decide +kernel
theorem dX1_allCredit_9 : decode cX1_allCredit 9 = .ok (.istore_n 3, 1) := by decide +kernel
theorem dX1_allCredit_10 : decode cX1_allCredit 10 = .ok (.iconst 0, 1) := by decide +kernel
theorem dX1_allCredit_11 : decode cX1_allCredit 11 = .ok (.istore 4, 2) := by decide +kernel
theorem dX1_allCredit_13 : decode cX1_allCredit 13 = .ok (.iload 4, 2) := by decide +kernel
theorem dX1_allCredit_15 : decode cX1_allCredit 15 = .ok (.iload_n 3, 1) := by decide +kernel
theorem dX1_allCredit_16 : decode cX1_allCredit 16 = .ok (.if_icmp .ge 20, 3) := by decide +kernel
theorem dX1_allCredit_19 : decode cX1_allCredit 19 = .ok (.aload_n 2, 1) := by decide +kernel
theorem dX1_allCredit_20 : decode cX1_allCredit 20 = .ok (.iload 4, 2) := by decide +kernel
theorem dX1_allCredit_22 : decode cX1_allCredit 22 = .ok (.iaload, 1) := by decide +kernel
theorem dX1_allCredit_23 : decode cX1_allCredit 23 = .ok (.istore 5, 2) := by decide +kernel
theorem dX1_allCredit_25 : decode cX1_allCredit 25 = .ok (.iload_n 1, 1) := by decide +kernel
theorem dX1_allCredit_26 : decode cX1_allCredit 26 = .ok (.iload 5, 2) := by decide +kernel
theorem dX1_allCredit_28 : decode cX1_allCredit 28 = .ok (.iadd, 1) := by decide +kernel
theorem dX1_allCredit_29 : decode cX1_allCredit 29 = .ok (.istore_n 1, 1) := by decide +kernel
theorem dX1_allCredit_30 : decode cX1_allCredit 30 = .ok (.iinc 4 1, 3) := by decide +kernel
theorem dX1_allCredit_33 : decode cX1_allCredit 33 = .ok (.goto (-20), 3) := by decide +kernel
theorem dX1_allCredit_36 : decode cX1_allCredit 36 = .ok (.iload_n 1, 1) := by decide +kernel
theorem dX1_allCredit_37 : decode cX1_allCredit 37 = .ok (.ireturn, 1) := by decide +kernel
theorem dX1_allDiscounts_0 : decode cX1_allDiscounts 0 = .ok (.iconst 0, 1) := by decide +kernel
theorem dX1_allDiscounts_1 : decode cX1_allDiscounts 1 = .ok (.istore_n 1, 1) := by decide +kernel
theorem dX1_allDiscounts_2 : decode cX1_allDiscounts 2 = .ok (.aload_n 0, 1) := by decide +kernel
theorem dX1_allDiscounts_3 : decode cX1_allDiscounts 3 = .ok (.getfield 11, 3) := by decide +kernel
theorem dX1_allDiscounts_6 : decode cX1_allDiscounts 6 = .ok (.astore_n 2, 1) := by decide +kernel
theorem dX1_allDiscounts_7 : decode cX1_allDiscounts 7 = .ok (.aload_n 2, 1) := by decide +kernel
theorem dX1_allDiscounts_8 : decode cX1_allDiscounts 8 = .ok (.arraylength, 1) := by decide +kernel
theorem dX1_allDiscounts_9 : decode cX1_allDiscounts 9 = .ok (.istore_n 3, 1) := by decide +kernel
theorem dX1_allDiscounts_10 : decode cX1_allDiscounts 10 = .ok (.iconst 0, 1) := by decide +kernel
theorem dX1_allDiscounts_11 : decode cX1_allDiscounts 11 = .ok (.istore 4, 2) := by decide +kernel
theorem dX1_allDiscounts_13 : decode cX1_allDiscounts 13 = .ok (.iload 4, 2) := by decide +kernel
theorem dX1_allDiscounts_15 : decode cX1_allDiscounts 15 = .ok (.iload_n 3, 1) := by decide +kernel
theorem dX1_allDiscounts_16 : decode cX1_allDiscounts 16 = .ok (.if_icmp .ge 23, 3) := by decide +kernel
theorem dX1_allDiscounts_19 : decode cX1_allDiscounts 19 = .ok (.aload_n 2, 1) := by decide +kernel
theorem dX1_allDiscounts_20 : decode cX1_allDiscounts 20 = .ok (.iload 4, 2) := by decide +kernel
theorem dX1_allDiscounts_22 : decode cX1_allDiscounts 22 = .ok (.aaload, 1) := by decide +kernel
theorem dX1_allDiscounts_23 : decode cX1_allDiscounts 23 = .ok (.astore 5, 2) := by decide +kernel
theorem dX1_allDiscounts_25 : decode cX1_allDiscounts 25 = .ok (.iload_n 1, 1) := by decide +kernel
theorem dX1_allDiscounts_26 : decode cX1_allDiscounts 26 = .ok (.aload 5, 2) := by decide +kernel
theorem dX1_allDiscounts_28 : decode cX1_allDiscounts 28 = .ok (.getfield 172, 3) := by decide +kernel
theorem dX1_allDiscounts_31 : decode cX1_allDiscounts 31 = .ok (.iadd, 1) := by decide +kernel
theorem dX1_allDiscounts_32 : decode cX1_allDiscounts 32 = .ok (.istore_n 1, 1) := by decide +kernel
theorem dX1_allDiscounts_33 : decode cX1_allDiscounts 33 = .ok (.iinc 4 1, 3) := by decide +kernel
theorem dX1_allDiscounts_36 : decode cX1_allDiscounts 36 = .ok (.goto (-23), 3) := by decide +kernel
theorem dX1_allDiscounts_39 : decode cX1_allDiscounts 39 = .ok (.iload_n 1, 1) := by decide +kernel
theorem dX1_allDiscounts_40 : decode cX1_allDiscounts 40 = .ok (.ireturn, 1) := by decide +kernel
theorem dX1_allFees_0 : decode cX1_allFees 0 = .ok (.iconst 0, 1) := by decide +kernel
theorem dX1_allFees_1 : decode cX1_allFees 1 = .ok (.istore_n 1, 1) := by decide +kernel
theorem dX1_allFees_2 : decode cX1_allFees 2 = .ok (.aload_n 0, 1) := by decide +kernel
theorem dX1_allFees_3 : decode cX1_allFees 3 = .ok (.getfield 11, 3) := by decide +kernel
theorem dX1_allFees_6 : decode cX1_allFees 6 = .ok (.astore_n 2, 1) := by decide +kernel
theorem dX1_allFees_7 : decode cX1_allFees 7 = .ok (.aload_n 2, 1) := by decide +kernel
theorem dX1_allFees_8 : decode cX1_allFees 8 = .ok (.arraylength, 1) := by decide +kernel
theorem dX1_allFees_9 : decode cX1_allFees 9 = .ok (.istore_n 3, 1) := by decide +kernel
theorem dX1_allFees_10 : decode cX1_allFees 10 = .ok (.iconst 0, 1) := by decide +kernel
theorem dX1_allFees_11 : decode cX1_allFees 11 = .ok (.istore 4, 2) := by decide +kernel
theorem dX1_allFees_13 : decode cX1_allFees 13 = .ok (.iload 4, 2) := by decide +kernel
theorem dX1_allFees_15 : decode cX1_allFees 15 = .ok (.iload_n 3, 1) := by decide +kernel
theorem dX1_allFees_16 : decode cX1_allFees 16 = .ok (.if_icmp .ge 23, 3) := by decide +kernel
theorem dX1_allFees_19 : decode cX1_allFees 19 = .ok (.aload_n 2, 1) := by decide +kernel
theorem dX1_allFees_20 : decode cX1_allFees 20 = .ok (.iload 4, 2) := by decide +kernel
theorem dX1_allFees_22 : decode cX1_allFees 22 = .ok (.aaload, 1) := by decide +kernel
theorem dX1_allFees_23 : decode cX1_allFees 23 = .ok (.astore 5, 2) := by decide +kernel
theorem dX1_allFees_25 : decode cX1_allFees 25 = .ok (.iload_n 1, 1) := by decide +kernel
theorem dX1_allFees_26 : decode cX1_allFees 26 = .ok (.aload 5, 2) := by decide +kernel
theorem dX1_allFees_28 : decode cX1_allFees 28 = .ok (.getfield 175, 3) := by decide +kernel
theorem dX1_allFees_31 : decode cX1_allFees 31 = .ok (.iadd, 1) := by decide +kernel
theorem dX1_allFees_32 : decode cX1_allFees 32 = .ok (.istore_n 1, 1) := by decide +kernel
theorem dX1_allFees_33 : decode cX1_allFees 33 = .ok (.iinc 4 1, 3) := by decide +kernel
theorem dX1_allFees_36 : decode cX1_allFees 36 = .ok (.goto (-23), 3) := by decide +kernel
theorem dX1_allFees_39 : decode cX1_allFees 39 = .ok (.iload_n 1, 1) := by decide +kernel
theorem dX1_allFees_40 : decode cX1_allFees 40 = .ok (.ireturn, 1) := by decide +kernel
theorem dX1_allReminders_0 : decode cX1_allReminders 0 = .ok (.iconst 0, 1) := by decide +kernel
theorem dX1_allReminders_1 : decode cX1_allReminders 1 = .ok (.istore_n 1, 1) := by decide +kernel
theorem dX1_allReminders_2 : decode cX1_allReminders 2 = .ok (.aload_n 0, 1) := by decide +kernel
theorem dX1_allReminders_3 : decode cX1_allReminders 3 = .ok (.getfield 11, 3) := by decide +kernel
theorem dX1_allReminders_6 : decode cX1_allReminders 6 = .ok (.astore_n 2, 1) := by decide +kernel
theorem dX1_allReminders_7 : decode cX1_allReminders 7 = .ok (.aload_n 2, 1) := by decide +kernel
theorem dX1_allReminders_8 : decode cX1_allReminders 8 = .ok (.arraylength, 1) := by decide +kernel
theorem dX1_allReminders_9 : decode cX1_allReminders 9 = .ok (.istore_n 3, 1) := by decide +kernel
theorem dX1_allReminders_10 : decode cX1_allReminders 10 = .ok (.iconst 0, 1) := by decide +kernel
theorem dX1_allReminders_11 : decode cX1_allReminders 11 = .ok (.istore 4, 2) := by decide +kernel
theorem dX1_allReminders_13 : decode cX1_allReminders 13 = .ok (.iload 4, 2) := by decide +kernel
theorem dX1_allReminders_15 : decode cX1_allReminders 15 = .ok (.iload_n 3, 1) := by decide +kernel
theorem dX1_allReminders_16 : decode cX1_allReminders 16 = .ok (.if_icmp .ge 23, 3) := by decide +kernel
theorem dX1_allReminders_19 : decode cX1_allReminders 19 = .ok (.aload_n 2, 1) := by decide +kernel
theorem dX1_allReminders_20 : decode cX1_allReminders 20 = .ok (.iload 4, 2) := by decide +kernel
theorem dX1_allReminders_22 : decode cX1_allReminders 22 = .ok (.aaload, 1) := by decide +kernel
theorem dX1_allReminders_23 : decode cX1_allReminders 23 = .ok (.astore 5, 2) := by decide +kernel
theorem dX1_allReminders_25 : decode cX1_allReminders 25 = .ok (.iload_n 1, 1) := by decide +kernel
theorem dX1_allReminders_26 : decode cX1_allReminders 26 = .ok (.aload 5, 2) := by decide +kernel
theorem dX1_allReminders_28 : decode cX1_allReminders 28 = .ok (.getfield 120, 3) := by decide +kernel
theorem dX1_allReminders_31 : decode cX1_allReminders 31 = .ok (.iadd, 1) := by decide +kernel
theorem dX1_allReminders_32 : decode cX1_allReminders 32 = .ok (.istore_n 1, 1) := by decide +kernel
theorem dX1_allReminders_33 : decode cX1_allReminders 33 = .ok (.iinc 4 1, 3) := by decide +kernel
theorem dX1_allReminders_36 : decode cX1_allReminders 36 = .ok (.goto (-23), 3) := by decide +kernel
theorem dX1_allReminders_39 : decode cX1_allReminders 39 = .ok (.iload_n 1, 1) := by decide +kernel
theorem dX1_allReminders_40 : decode cX1_allReminders 40 = .ok (.ireturn, 1) := by decide +kernel
theorem dX3_init_0 : decode cX3_init 0 = .ok (.aload_n 0, 1) := by decide +kernel
theorem dX3_init_1 : decode cX3_init 1 = .ok (.invokespecial 3, 3) := by decide +kernel
theorem dX3_init_4 : decode cX3_init 4 = .ok (.aload_n 0, 1) := by decide +kernel
theorem dX3_init_5 : decode cX3_init 5 = .ok (.iconst 5, 1) := by decide +kernel
theorem dX3_init_6 : decode cX3_init 6 = .ok (.newarray .int, 2) := by decide +kernel
theorem dX3_init_8 : decode cX3_init 8 = .ok (.dup, 1) := by decide +kernel
theorem dX3_init_9 : decode cX3_init 9 = .ok (.iconst 0, 1) := by decide +kernel
theorem dX3_init_10 : decode cX3_init 10 = .ok (.bipush 10, 2) := by decide +kernel
theorem dX3_init_12 : decode cX3_init 12 = .ok (.iastore, 1) := by decide +kernel
theorem dX3_init_13 : decode cX3_init 13 = .ok (.dup, 1) := by decide +kernel
theorem dX3_init_14 : decode cX3_init 14 = .ok (.iconst 1, 1) := by decide +kernel
theorem dX3_init_15 : decode cX3_init 15 = .ok (.iconst 2, 1) := by decide +kernel
theorem dX3_init_16 : decode cX3_init 16 = .ok (.iastore, 1) := by decide +kernel
theorem dX3_init_17 : decode cX3_init 17 = .ok (.dup, 1) := by decide +kernel
theorem dX3_init_18 : decode cX3_init 18 = .ok (.iconst 2, 1) := by decide +kernel
theorem dX3_init_19 : decode cX3_init 19 = .ok (.bipush 7, 2) := by decide +kernel
theorem dX3_init_21 : decode cX3_init 21 = .ok (.iastore, 1) := by decide +kernel
theorem dX3_init_22 : decode cX3_init 22 = .ok (.dup, 1) := by decide +kernel
theorem dX3_init_23 : decode cX3_init 23 = .ok (.iconst 3, 1) := by decide +kernel
theorem dX3_init_24 : decode cX3_init 24 = .ok (.iconst 5, 1) := by decide +kernel
theorem dX3_init_25 : decode cX3_init 25 = .ok (.iastore, 1) := by decide +kernel
theorem dX3_init_26 : decode cX3_init 26 = .ok (.dup, 1) := by decide +kernel
theorem dX3_init_27 : decode cX3_init 27 = .ok (.iconst 4, 1) := by decide +kernel
theorem dX3_init_28 : decode cX3_init 28 = .ok (.iconst 0, 1) := by decide +kernel
theorem dX3_init_29 : decode cX3_init 29 = .ok (.iastore, 1) := by decide +kernel
theorem dX3_init_30 : decode cX3_init 30 = .ok (.putfield 9, 3) := by decide +kernel
theorem dX3_init_33 : decode cX3_init 33 = .ok (.return_, 1) := by decide +kernel
theorem dX3_copyFrom_0 : decode cX3_copyFrom 0 = .ok (.aload_n 1, 1) := by decide +kernel
theorem dX3_copyFrom_1 : decode cX3_copyFrom 1 = .ok (.getfield 9, 3) := by decide +kernel
theorem dX3_copyFrom_4 : decode cX3_copyFrom 4 = .ok (.iconst 0, 1) := by decide +kernel
theorem dX3_copyFrom_5 : decode cX3_copyFrom 5 = .ok (.aload_n 0, 1) := by decide +kernel
theorem dX3_copyFrom_6 : decode cX3_copyFrom 6 = .ok (.getfield 9, 3) := by decide +kernel
theorem dX3_copyFrom_9 : decode cX3_copyFrom 9 = .ok (.iconst 0, 1) := by decide +kernel
theorem dX3_copyFrom_10 : decode cX3_copyFrom 10 = .ok (.aload_n 0, 1) := by decide +kernel
theorem dX3_copyFrom_11 : decode cX3_copyFrom 11 = .ok (.getfield 9, 3) := by decide +kernel
theorem dX3_copyFrom_14 : decode cX3_copyFrom 14 = .ok (.arraylength, 1) := by decide +kernel
theorem dX3_copyFrom_15 : decode cX3_copyFrom 15 = .ok (.invokestatic 15, 3) := by decide +kernel
theorem dX3_copyFrom_18 : decode cX3_copyFrom 18 = .ok (.return_, 1) := by decide +kernel
theorem dX3_valueOf_0 : decode cX3_valueOf 0 = .ok (.iload_n 1, 1) := by decide +kernel
theorem dX3_valueOf_1 : decode cX3_valueOf 1 = .ok (.ifCond .lt 21, 3) := by decide +kernel
theorem dX3_valueOf_4 : decode cX3_valueOf 4 = .ok (.iload_n 1, 1) := by decide +kernel
theorem dX3_valueOf_5 : decode cX3_valueOf 5 = .ok (.aload_n 0, 1) := by decide +kernel
theorem dX3_valueOf_6 : decode cX3_valueOf 6 = .ok (.getfield 9, 3) := by decide +kernel
theorem dX3_valueOf_9 : decode cX3_valueOf 9 = .ok (.arraylength, 1) := by decide +kernel
theorem dX3_valueOf_10 : decode cX3_valueOf 10 = .ok (.if_icmp .ge 12, 3) := by decide +kernel
theorem dX3_valueOf_13 : decode cX3_valueOf 13 = .ok (.aload_n 0, 1) := by decide +kernel
theorem dX3_valueOf_14 : decode cX3_valueOf 14 = .ok (.getfield 9, 3) := by decide +kernel
theorem dX3_valueOf_17 : decode cX3_valueOf 17 = .ok (.iload_n 1, 1) := by decide +kernel
theorem dX3_valueOf_18 : decode cX3_valueOf 18 = .ok (.iaload, 1) := by decide +kernel
theorem dX3_valueOf_19 : decode cX3_valueOf 19 = .ok (.goto 4, 3) := by decide +kernel
theorem dX3_valueOf_22 : decode cX3_valueOf 22 = .ok (.iconst (-1), 1) := by decide +kernel
theorem dX3_valueOf_23 : decode cX3_valueOf 23 = .ok (.ireturn, 1) := by decide +kernel
theorem dX3_change_0 : decode cX3_change 0 = .ok (.aload_n 0, 1) := by decide +kernel
theorem dX3_change_1 : decode cX3_change 1 = .ok (.iload_n 1, 1) := by decide +kernel
theorem dX3_change_2 : decode cX3_change 2 = .ok (.invokevirtual 21, 3) := by decide +kernel
theorem dX3_change_5 : decode cX3_change 5 = .ok (.istore_n 3, 1) := by decide +kernel
theorem dX3_change_6 : decode cX3_change 6 = .ok (.iload_n 3, 1) := by decide +kernel
theorem dX3_change_7 : decode cX3_change 7 = .ok (.iconst (-1), 1) := by decide +kernel
theorem dX3_change_8 : decode cX3_change 8 = .ok (.if_icmp .ne 5, 3) := by decide +kernel
theorem dX3_change_11 : decode cX3_change 11 = .ok (.iconst (-1), 1) := by decide +kernel
theorem dX3_change_12 : decode cX3_change 12 = .ok (.ireturn, 1) := by decide +kernel
theorem dX3_change_13 : decode cX3_change 13 = .ok (.iload_n 2, 1) := by decide +kernel
theorem dX3_change_14 : decode cX3_change 14 = .ok (.getstatic 25, 3) := by decide +kernel
theorem dX3_change_17 : decode cX3_change 17 = .ok (.iload_n 1, 1) := by decide +kernel
theorem dX3_change_18 : decode cX3_change 18 = .ok (.iaload, 1) := by decide +kernel
theorem dX3_change_19 : decode cX3_change 19 = .ok (.if_icmp .lt 12, 3) := by decide +kernel
theorem dX3_change_22 : decode cX3_change 22 = .ok (.iload_n 2, 1) := by decide +kernel
theorem dX3_change_23 : decode cX3_change 23 = .ok (.getstatic 28, 3) := by decide +kernel
theorem dX3_change_26 : decode cX3_change 26 = .ok (.iload_n 1, 1) := by decide +kernel
theorem dX3_change_27 : decode cX3_change 27 = .ok (.iaload, 1) := by decide +kernel
theorem dX3_change_28 : decode cX3_change 28 = .ok (.if_icmp .le 6, 3) := by decide +kernel
theorem dX3_change_31 : decode cX3_change 31 = .ok (.bipush (-2), 2) := by decide +kernel
theorem dX3_change_33 : decode cX3_change 33 = .ok (.ireturn, 1) := by decide +kernel
theorem dX3_change_34 : decode cX3_change 34 = .ok (.iload_n 2, 1) := by decide +kernel
theorem dX3_change_35 : decode cX3_change 35 = .ok (.iload_n 3, 1) := by decide +kernel
theorem dX3_change_36 : decode cX3_change 36 = .ok (.if_icmp .ne 6, 3) := by decide +kernel
theorem dX3_change_39 : decode cX3_change 39 = .ok (.bipush (-5), 2) := by decide +kernel
theorem dX3_change_41 : decode cX3_change 41 = .ok (.ireturn, 1) := by decide +kernel
theorem dX3_change_42 : decode cX3_change 42 = .ok (.aload_n 0, 1) := by decide +kernel
theorem dX3_change_43 : decode cX3_change 43 = .ok (.getfield 9, 3) := by decide +kernel
theorem dX3_change_46 : decode cX3_change 46 = .ok (.iload_n 1, 1) := by decide +kernel
theorem dX3_change_47 : decode cX3_change 47 = .ok (.iload_n 2, 1) := by decide +kernel
theorem dX3_change_48 : decode cX3_change 48 = .ok (.iastore, 1) := by decide +kernel
theorem dX3_change_49 : decode cX3_change 49 = .ok (.iload_n 3, 1) := by decide +kernel
theorem dX3_change_50 : decode cX3_change 50 = .ok (.ireturn, 1) := by decide +kernel
theorem dX3_discountDays_0 : decode cX3_discountDays 0 = .ok (.aload_n 0, 1) := by decide +kernel
theorem dX3_discountDays_1 : decode cX3_discountDays 1 = .ok (.getfield 9, 3) := by decide +kernel
theorem dX3_discountDays_4 : decode cX3_discountDays 4 = .ok (.iconst 0, 1) := by decide +kernel
theorem dX3_discountDays_5 : decode cX3_discountDays 5 = .ok (.iaload, 1) := by decide +kernel
theorem dX3_discountDays_6 : decode cX3_discountDays 6 = .ok (.ireturn, 1) := by decide +kernel
theorem dX3_discountPercent_0 : decode cX3_discountPercent 0 = .ok (.aload_n 0, 1) := by decide +kernel
theorem dX3_discountPercent_1 : decode cX3_discountPercent 1 = .ok (.getfield 9, 3) := by decide +kernel
theorem dX3_discountPercent_4 : decode cX3_discountPercent 4 = .ok (.iconst 1, 1) := by decide +kernel
theorem dX3_discountPercent_5 : decode cX3_discountPercent 5 = .ok (.iaload, 1) := by decide +kernel
theorem dX3_discountPercent_6 : decode cX3_discountPercent 6 = .ok (.ireturn, 1) := by decide +kernel
theorem dX3_reminderDays_0 : decode cX3_reminderDays 0 = .ok (.aload_n 0, 1) := by decide +kernel
theorem dX3_reminderDays_1 : decode cX3_reminderDays 1 = .ok (.getfield 9, 3) := by decide +kernel
theorem dX3_reminderDays_4 : decode cX3_reminderDays 4 = .ok (.iconst 2, 1) := by decide +kernel
theorem dX3_reminderDays_5 : decode cX3_reminderDays 5 = .ok (.iaload, 1) := by decide +kernel
theorem dX3_reminderDays_6 : decode cX3_reminderDays 6 = .ok (.ireturn, 1) := by decide +kernel
theorem dX3_reminderFee_0 : decode cX3_reminderFee 0 = .ok (.aload_n 0, 1) := by decide +kernel
theorem dX3_reminderFee_1 : decode cX3_reminderFee 1 = .ok (.getfield 9, 3) := by decide +kernel
theorem dX3_reminderFee_4 : decode cX3_reminderFee 4 = .ok (.iconst 3, 1) := by decide +kernel
theorem dX3_reminderFee_5 : decode cX3_reminderFee 5 = .ok (.iaload, 1) := by decide +kernel
theorem dX3_reminderFee_6 : decode cX3_reminderFee 6 = .ok (.ireturn, 1) := by decide +kernel
theorem dX3_taxWay_0 : decode cX3_taxWay 0 = .ok (.aload_n 0, 1) := by decide +kernel
theorem dX3_taxWay_1 : decode cX3_taxWay 1 = .ok (.getfield 9, 3) := by decide +kernel
theorem dX3_taxWay_4 : decode cX3_taxWay 4 = .ok (.iconst 4, 1) := by decide +kernel
theorem dX3_taxWay_5 : decode cX3_taxWay 5 = .ok (.iaload, 1) := by decide +kernel
theorem dX3_taxWay_6 : decode cX3_taxWay 6 = .ok (.ireturn, 1) := by decide +kernel
theorem dX2_init_0 : decode cX2_init 0 = .ok (.aload_n 0, 1) := by decide +kernel
theorem dX2_init_1 : decode cX2_init 1 = .ok (.invokespecial 3, 3) := by decide +kernel
theorem dX2_init_4 : decode cX2_init 4 = .ok (.aload_n 0, 1) := by decide +kernel
theorem dX2_init_5 : decode cX2_init 5 = .ok (.iconst 4, 1) := by decide +kernel
theorem dX2_init_6 : decode cX2_init 6 = .ok (.anewarray 9, 3) := by decide +kernel
theorem dX2_init_9 : decode cX2_init 9 = .ok (.putfield 11, 3) := by decide +kernel
theorem dX2_init_12 : decode cX2_init 12 = .ok (.iconst 0, 1) := by decide +kernel
theorem dX2_init_13 : decode cX2_init 13 = .ok (.istore_n 1, 1) := by decide +kernel
theorem dX2_init_14 : decode cX2_init 14 = .ok (.iload_n 1, 1) := by decide +kernel
theorem dX2_init_15 : decode cX2_init 15 = .ok (.aload_n 0, 1) := by decide +kernel
theorem dX2_init_16 : decode cX2_init 16 = .ok (.getfield 11, 3) := by decide +kernel
theorem dX2_init_19 : decode cX2_init 19 = .ok (.arraylength, 1) := by decide +kernel
theorem dX2_init_20 : decode cX2_init 20 = .ok (.if_icmp .ge 22, 3) := by decide +kernel
theorem dX2_init_23 : decode cX2_init 23 = .ok (.aload_n 0, 1) := by decide +kernel
theorem dX2_init_24 : decode cX2_init 24 = .ok (.getfield 11, 3) := by decide +kernel
theorem dX2_init_27 : decode cX2_init 27 = .ok (.iload_n 1, 1) := by decide +kernel
theorem dX2_init_28 : decode cX2_init 28 = .ok (.new 9, 3) := by decide +kernel
theorem dX2_init_31 : decode cX2_init 31 = .ok (.dup, 1) := by decide +kernel
theorem dX2_init_32 : decode cX2_init 32 = .ok (.invokespecial 17, 3) := by decide +kernel
theorem dX2_init_35 : decode cX2_init 35 = .ok (.aastore, 1) := by decide +kernel
theorem dX2_init_36 : decode cX2_init 36 = .ok (.iinc 1 1, 3) := by decide +kernel
theorem dX2_init_39 : decode cX2_init 39 = .ok (.goto (-25), 3) := by decide +kernel
theorem dX2_init_42 : decode cX2_init 42 = .ok (.return_, 1) := by decide +kernel
theorem dX2_add_0 : decode cX2_add 0 = .ok (.aload_n 0, 1) := by decide +kernel
theorem dX2_add_1 : decode cX2_add 1 = .ok (.getfield 18, 3) := by decide +kernel
theorem dX2_add_4 : decode cX2_add 4 = .ok (.ifCond .lt 47, 3) := by decide +kernel
theorem dX2_add_7 : decode cX2_add 7 = .ok (.aload_n 0, 1) := by decide +kernel
theorem dX2_add_8 : decode cX2_add 8 = .ok (.getfield 18, 3) := by decide +kernel
theorem dX2_add_11 : decode cX2_add 11 = .ok (.aload_n 0, 1) := by decide +kernel
theorem dX2_add_12 : decode cX2_add 12 = .ok (.getfield 11, 3) := by decide +kernel
theorem dX2_add_15 : decode cX2_add 15 = .ok (.arraylength, 1) := by decide +kernel
theorem dX2_add_16 : decode cX2_add 16 = .ok (.if_icmp .ge 35, 3) := by decide +kernel
theorem dX2_add_19 : decode cX2_add 19 = .ok (.aload_n 0, 1) := by decide +kernel
theorem dX2_add_20 : decode cX2_add 20 = .ok (.getfield 11, 3) := by decide +kernel
theorem dX2_add_23 : decode cX2_add 23 = .ok (.aload_n 0, 1) := by decide +kernel
theorem dX2_add_24 : decode cX2_add 24 = .ok (.getfield 18, 3) := by decide +kernel
theorem dX2_add_27 : decode cX2_add 27 = .ok (.aaload, 1) := by decide +kernel
theorem dX2_add_28 : decode cX2_add 28 = .ok (.astore_n 2, 1) := by decide +kernel
theorem dX2_add_29 : decode cX2_add 29 = .ok (.aload_n 0, 1) := by decide +kernel
theorem dX2_add_30 : decode cX2_add 30 = .ok (.getfield 11, 3) := by decide +kernel
theorem dX2_add_33 : decode cX2_add 33 = .ok (.aload_n 0, 1) := by decide +kernel
theorem dX2_add_34 : decode cX2_add 34 = .ok (.getfield 18, 3) := by decide +kernel
theorem dX2_add_37 : decode cX2_add 37 = .ok (.aload_n 1, 1) := by decide +kernel
theorem dX2_add_38 : decode cX2_add 38 = .ok (.aastore, 1) := by decide +kernel
theorem dX2_add_39 : decode cX2_add 39 = .ok (.aload_n 0, 1) := by decide +kernel
theorem dX2_add_40 : decode cX2_add 40 = .ok (.dup, 1) := by decide +kernel
theorem dX2_add_41 : decode cX2_add 41 = .ok (.getfield 18, 3) := by decide +kernel
theorem dX2_add_44 : decode cX2_add 44 = .ok (.iconst 1, 1) := by decide +kernel
theorem dX2_add_45 : decode cX2_add 45 = .ok (.iadd, 1) := by decide +kernel
theorem dX2_add_46 : decode cX2_add 46 = .ok (.putfield 18, 3) := by decide +kernel
theorem dX2_add_49 : decode cX2_add 49 = .ok (.aload_n 2, 1) := by decide +kernel
theorem dX2_add_50 : decode cX2_add 50 = .ok (.areturn, 1) := by decide +kernel
theorem dX2_add_51 : decode cX2_add 51 = .ok (.aload_n 0, 1) := by decide +kernel
theorem dX2_add_52 : decode cX2_add 52 = .ok (.getfield 11, 3) := by decide +kernel
theorem dX2_add_55 : decode cX2_add 55 = .ok (.iconst 0, 1) := by decide +kernel
theorem dX2_add_56 : decode cX2_add 56 = .ok (.aaload, 1) := by decide +kernel
theorem dX2_add_57 : decode cX2_add 57 = .ok (.astore_n 2, 1) := by decide +kernel
theorem dX2_add_58 : decode cX2_add 58 = .ok (.iconst 1, 1) := by decide +kernel
theorem dX2_add_59 : decode cX2_add 59 = .ok (.istore_n 3, 1) := by decide +kernel
theorem dX2_add_60 : decode cX2_add 60 = .ok (.iload_n 3, 1) := by decide +kernel
theorem dX2_add_61 : decode cX2_add 61 = .ok (.aload_n 0, 1) := by decide +kernel
theorem dX2_add_62 : decode cX2_add 62 = .ok (.getfield 11, 3) := by decide +kernel
theorem dX2_add_65 : decode cX2_add 65 = .ok (.arraylength, 1) := by decide +kernel
theorem dX2_add_66 : decode cX2_add 66 = .ok (.if_icmp .ge 23, 3) := by decide +kernel
theorem dX2_add_69 : decode cX2_add 69 = .ok (.aload_n 0, 1) := by decide +kernel
theorem dX2_add_70 : decode cX2_add 70 = .ok (.getfield 11, 3) := by decide +kernel
theorem dX2_add_73 : decode cX2_add 73 = .ok (.iload_n 3, 1) := by decide +kernel
theorem dX2_add_74 : decode cX2_add 74 = .ok (.iconst 1, 1) := by decide +kernel
theorem dX2_add_75 : decode cX2_add 75 = .ok (.isub, 1) := by decide +kernel
theorem dX2_add_76 : decode cX2_add 76 = .ok (.aload_n 0, 1) := by decide +kernel
theorem dX2_add_77 : decode cX2_add 77 = .ok (.getfield 11, 3) := by decide +kernel
theorem dX2_add_80 : decode cX2_add 80 = .ok (.iload_n 3, 1) := by decide +kernel
theorem dX2_add_81 : decode cX2_add 81 = .ok (.aaload, 1) := by decide +kernel
theorem dX2_add_82 : decode cX2_add 82 = .ok (.aastore, 1) := by decide +kernel
theorem dX2_add_83 : decode cX2_add 83 = .ok (.iinc 3 1, 3) := by decide +kernel
theorem dX2_add_86 : decode cX2_add 86 = .ok (.goto (-26), 3) := by decide +kernel
theorem dX2_add_89 : decode cX2_add 89 = .ok (.aload_n 0, 1) := by decide +kernel
theorem dX2_add_90 : decode cX2_add 90 = .ok (.getfield 11, 3) := by decide +kernel
theorem dX2_add_93 : decode cX2_add 93 = .ok (.aload_n 0, 1) := by decide +kernel
theorem dX2_add_94 : decode cX2_add 94 = .ok (.getfield 11, 3) := by decide +kernel
theorem dX2_add_97 : decode cX2_add 97 = .ok (.arraylength, 1) := by decide +kernel
theorem dX2_add_98 : decode cX2_add 98 = .ok (.iconst 1, 1) := by decide +kernel
theorem dX2_add_99 : decode cX2_add 99 = .ok (.isub, 1) := by decide +kernel
theorem dX2_add_100 : decode cX2_add 100 = .ok (.aload_n 1, 1) := by decide +kernel
theorem dX2_add_101 : decode cX2_add 101 = .ok (.aastore, 1) := by decide +kernel
theorem dX2_add_102 : decode cX2_add 102 = .ok (.aload_n 2, 1) := by decide +kernel
theorem dX2_add_103 : decode cX2_add 103 = .ok (.areturn, 1) := by decide +kernel
theorem dX2_takeLatest_0 : decode cX2_takeLatest 0 = .ok (.aload_n 0, 1) := by decide +kernel
theorem dX2_takeLatest_1 : decode cX2_takeLatest 1 = .ok (.getfield 18, 3) := by decide +kernel
theorem dX2_takeLatest_4 : decode cX2_takeLatest 4 = .ok (.ifCond .le 15, 3) := by decide +kernel
theorem dX2_takeLatest_7 : decode cX2_takeLatest 7 = .ok (.aload_n 0, 1) := by decide +kernel
theorem dX2_takeLatest_8 : decode cX2_takeLatest 8 = .ok (.getfield 18, 3) := by decide +kernel
theorem dX2_takeLatest_11 : decode cX2_takeLatest 11 = .ok (.aload_n 0, 1) := by decide +kernel
theorem dX2_takeLatest_12 : decode cX2_takeLatest 12 = .ok (.getfield 11, 3) := by decide +kernel
theorem dX2_takeLatest_15 : decode cX2_takeLatest 15 = .ok (.arraylength, 1) := by decide +kernel
theorem dX2_takeLatest_16 : decode cX2_takeLatest 16 = .ok (.if_icmp .le 5, 3) := by decide +kernel
theorem dX2_takeLatest_19 : decode cX2_takeLatest 19 = .ok (.aload_n 1, 1) := by decide +kernel
theorem dX2_takeLatest_20 : decode cX2_takeLatest 20 = .ok (.areturn, 1) := by decide +kernel
theorem dX2_takeLatest_21 : decode cX2_takeLatest 21 = .ok (.aload_n 0, 1) := by decide +kernel
theorem dX2_takeLatest_22 : decode cX2_takeLatest 22 = .ok (.dup, 1) := by decide +kernel
theorem dX2_takeLatest_23 : decode cX2_takeLatest 23 = .ok (.getfield 18, 3) := by decide +kernel
theorem dX2_takeLatest_26 : decode cX2_takeLatest 26 = .ok (.iconst 1, 1) := by decide +kernel
theorem dX2_takeLatest_27 : decode cX2_takeLatest 27 = .ok (.isub, 1) := by decide +kernel
theorem dX2_takeLatest_28 : decode cX2_takeLatest 28 = .ok (.putfield 18, 3) := by decide +kernel
theorem dX2_takeLatest_31 : decode cX2_takeLatest 31 = .ok (.aload_n 0, 1) := by decide +kernel
theorem dX2_takeLatest_32 : decode cX2_takeLatest 32 = .ok (.getfield 11, 3) := by decide +kernel
theorem dX2_takeLatest_35 : decode cX2_takeLatest 35 = .ok (.aload_n 0, 1) := by decide +kernel
theorem dX2_takeLatest_36 : decode cX2_takeLatest 36 = .ok (.getfield 18, 3) := by decide +kernel
theorem dX2_takeLatest_39 : decode cX2_takeLatest 39 = .ok (.aaload, 1) := by decide +kernel
theorem dX2_takeLatest_40 : decode cX2_takeLatest 40 = .ok (.astore_n 2, 1) := by decide +kernel
theorem dX2_takeLatest_41 : decode cX2_takeLatest 41 = .ok (.aload_n 0, 1) := by decide +kernel
theorem dX2_takeLatest_42 : decode cX2_takeLatest 42 = .ok (.getfield 11, 3) := by decide +kernel
theorem dX2_takeLatest_45 : decode cX2_takeLatest 45 = .ok (.aload_n 0, 1) := by decide +kernel
theorem dX2_takeLatest_46 : decode cX2_takeLatest 46 = .ok (.getfield 18, 3) := by decide +kernel
theorem dX2_takeLatest_49 : decode cX2_takeLatest 49 = .ok (.aload_n 1, 1) := by decide +kernel
theorem dX2_takeLatest_50 : decode cX2_takeLatest 50 = .ok (.aastore, 1) := by decide +kernel
theorem dX2_takeLatest_51 : decode cX2_takeLatest 51 = .ok (.aload_n 2, 1) := by decide +kernel
theorem dX2_takeLatest_52 : decode cX2_takeLatest 52 = .ok (.areturn, 1) := by decide +kernel
theorem dX5_init_0 : decode cX5_init 0 = .ok (.aload_n 0, 1) := by decide +kernel
theorem dX5_init_1 : decode cX5_init 1 = .ok (.invokespecial 1, 3) := by decide +kernel
theorem dX5_init_4 : decode cX5_init 4 = .ok (.aload_n 0, 1) := by decide +kernel
theorem dX5_init_5 : decode cX5_init 5 = .ok (.new 7, 3) := by decide +kernel
theorem dX5_init_8 : decode cX5_init 8 = .ok (.dup, 1) := by decide +kernel
theorem dX5_init_9 : decode cX5_init 9 = .ok (.invokespecial 9, 3) := by decide +kernel
theorem dX5_init_12 : decode cX5_init 12 = .ok (.putfield 10, 3) := by decide +kernel
theorem dX5_init_15 : decode cX5_init 15 = .ok (.aload_n 0, 1) := by decide +kernel
theorem dX5_init_16 : decode cX5_init 16 = .ok (.new 7, 3) := by decide +kernel
theorem dX5_init_19 : decode cX5_init 19 = .ok (.dup, 1) := by decide +kernel
theorem dX5_init_20 : decode cX5_init 20 = .ok (.invokespecial 9, 3) := by decide +kernel
theorem dX5_init_23 : decode cX5_init 23 = .ok (.putfield 16, 3) := by decide +kernel
theorem dX5_init_26 : decode cX5_init 26 = .ok (.aload_n 0, 1) := by decide +kernel
theorem dX5_init_27 : decode cX5_init 27 = .ok (.new 7, 3) := by decide +kernel
theorem dX5_init_30 : decode cX5_init 30 = .ok (.dup, 1) := by decide +kernel
theorem dX5_init_31 : decode cX5_init 31 = .ok (.invokespecial 9, 3) := by decide +kernel
theorem dX5_init_34 : decode cX5_init 34 = .ok (.putfield 19, 3) := by decide +kernel
theorem dX5_init_37 : decode cX5_init 37 = .ok (.aload_n 0, 1) := by decide +kernel
theorem dX5_init_38 : decode cX5_init 38 = .ok (.new 22, 3) := by decide +kernel
theorem dX5_init_41 : decode cX5_init 41 = .ok (.dup, 1) := by decide +kernel
theorem dX5_init_42 : decode cX5_init 42 = .ok (.invokespecial 24, 3) := by decide +kernel
theorem dX5_init_45 : decode cX5_init 45 = .ok (.putfield 25, 3) := by decide +kernel
theorem dX5_init_48 : decode cX5_init 48 = .ok (.aload_n 0, 1) := by decide +kernel
theorem dX5_init_49 : decode cX5_init 49 = .ok (.new 29, 3) := by decide +kernel
theorem dX5_init_52 : decode cX5_init 52 = .ok (.dup, 1) := by decide +kernel
theorem dX5_init_53 : decode cX5_init 53 = .ok (.invokespecial 31, 3) := by decide +kernel
theorem dX5_init_56 : decode cX5_init 56 = .ok (.putfield 32, 3) := by decide +kernel
theorem dX5_init_59 : decode cX5_init 59 = .ok (.return_, 1) := by decide +kernel
theorem dX5_bill_0 : decode cX5_bill 0 = .ok (.aload_n 0, 1) := by decide +kernel
theorem dX5_bill_1 : decode cX5_bill 1 = .ok (.invokevirtual 36, 3) := by decide +kernel
theorem dX5_bill_4 : decode cX5_bill 4 = .ok (.aload_n 0, 1) := by decide +kernel
theorem dX5_bill_5 : decode cX5_bill 5 = .ok (.aload_n 0, 1) := by decide +kernel
theorem dX5_bill_6 : decode cX5_bill 6 = .ok (.getfield 10, 3) := by decide +kernel
theorem dX5_bill_9 : decode cX5_bill 9 = .ok (.iload_n 1, 1) := by decide +kernel
theorem dX5_bill_10 : decode cX5_bill 10 = .ok (.iload_n 2, 1) := by decide +kernel
theorem dX5_bill_11 : decode cX5_bill 11 = .ok (.iload_n 3, 1) := by decide +kernel
theorem dX5_bill_12 : decode cX5_bill 12 = .ok (.iload 4, 2) := by decide +kernel
theorem dX5_bill_14 : decode cX5_bill 14 = .ok (.invokevirtual 39, 3) := by decide +kernel
theorem dX5_bill_17 : decode cX5_bill 17 = .ok (.invokevirtual 43, 3) := by decide +kernel
theorem dX5_bill_20 : decode cX5_bill 20 = .ok (.ireturn, 1) := by decide +kernel
theorem dX5_pay_0 : decode cX5_pay 0 = .ok (.aload_n 0, 1) := by decide +kernel
theorem dX5_pay_1 : decode cX5_pay 1 = .ok (.invokevirtual 36, 3) := by decide +kernel
theorem dX5_pay_4 : decode cX5_pay 4 = .ok (.aload_n 0, 1) := by decide +kernel
theorem dX5_pay_5 : decode cX5_pay 5 = .ok (.aload_n 0, 1) := by decide +kernel
theorem dX5_pay_6 : decode cX5_pay 6 = .ok (.getfield 10, 3) := by decide +kernel
theorem dX5_pay_9 : decode cX5_pay 9 = .ok (.iload_n 1, 1) := by decide +kernel
theorem dX5_pay_10 : decode cX5_pay 10 = .ok (.iload_n 2, 1) := by decide +kernel
theorem dX5_pay_11 : decode cX5_pay 11 = .ok (.invokevirtual 47, 3) := by decide +kernel
theorem dX5_pay_14 : decode cX5_pay 14 = .ok (.invokevirtual 43, 3) := by decide +kernel
theorem dX5_pay_17 : decode cX5_pay 17 = .ok (.ireturn, 1) := by decide +kernel
theorem dX5_payBill_0 : decode cX5_payBill 0 = .ok (.aload_n 0, 1) := by decide +kernel
theorem dX5_payBill_1 : decode cX5_payBill 1 = .ok (.invokevirtual 36, 3) := by decide +kernel
theorem dX5_payBill_4 : decode cX5_payBill 4 = .ok (.aload_n 0, 1) := by decide +kernel
theorem dX5_payBill_5 : decode cX5_payBill 5 = .ok (.aload_n 0, 1) := by decide +kernel
theorem dX5_payBill_6 : decode cX5_payBill 6 = .ok (.getfield 10, 3) := by decide +kernel
theorem dX5_payBill_9 : decode cX5_payBill 9 = .ok (.iload_n 1, 1) := by decide +kernel
theorem dX5_payBill_10 : decode cX5_payBill 10 = .ok (.iload_n 2, 1) := by decide +kernel
theorem dX5_payBill_11 : decode cX5_payBill 11 = .ok (.invokevirtual 51, 3) := by decide +kernel
theorem dX5_payBill_14 : decode cX5_payBill 14 = .ok (.invokevirtual 43, 3) := by decide +kernel
theorem dX5_payBill_17 : decode cX5_payBill 17 = .ok (.ireturn, 1) := by decide +kernel
theorem dX5_payBack_0 : decode cX5_payBack 0 = .ok (.aload_n 0, 1) := by decide +kernel
theorem dX5_payBack_1 : decode cX5_payBack 1 = .ok (.invokevirtual 36, 3) := by decide +kernel
theorem dX5_payBack_4 : decode cX5_payBack 4 = .ok (.aload_n 0, 1) := by decide +kernel
theorem dX5_payBack_5 : decode cX5_payBack 5 = .ok (.aload_n 0, 1) := by decide +kernel
theorem dX5_payBack_6 : decode cX5_payBack 6 = .ok (.getfield 10, 3) := by decide +kernel
theorem dX5_payBack_9 : decode cX5_payBack 9 = .ok (.iload_n 1, 1) := by decide +kernel
theorem dX5_payBack_10 : decode cX5_payBack 10 = .ok (.invokevirtual 54, 3) := by decide +kernel
theorem dX5_payBack_13 : decode cX5_payBack 13 = .ok (.invokevirtual 43, 3) := by decide +kernel
theorem dX5_payBack_16 : decode cX5_payBack 16 = .ok (.ireturn, 1) := by decide +kernel
theorem dX5_pass_0 : decode cX5_pass 0 = .ok (.aload_n 0, 1) := by decide +kernel
theorem dX5_pass_1 : decode cX5_pass 1 = .ok (.invokevirtual 36, 3) := by decide +kernel
theorem dX5_pass_4 : decode cX5_pass 4 = .ok (.aload_n 0, 1) := by decide +kernel
theorem dX5_pass_5 : decode cX5_pass 5 = .ok (.aload_n 0, 1) := by decide +kernel
theorem dX5_pass_6 : decode cX5_pass 6 = .ok (.getfield 10, 3) := by decide +kernel
theorem dX5_pass_9 : decode cX5_pass 9 = .ok (.iload_n 1, 1) := by decide +kernel
theorem dX5_pass_10 : decode cX5_pass 10 = .ok (.invokevirtual 57, 3) := by decide +kernel
theorem dX5_pass_13 : decode cX5_pass 13 = .ok (.invokevirtual 43, 3) := by decide +kernel
theorem dX5_pass_16 : decode cX5_pass 16 = .ok (.ireturn, 1) := by decide +kernel
theorem dX5_remind_0 : decode cX5_remind 0 = .ok (.aload_n 0, 1) := by decide +kernel
theorem dX5_remind_1 : decode cX5_remind 1 = .ok (.invokevirtual 36, 3) := by decide +kernel
theorem dX5_remind_4 : decode cX5_remind 4 = .ok (.aload_n 0, 1) := by decide +kernel
theorem dX5_remind_5 : decode cX5_remind 5 = .ok (.aload_n 0, 1) := by decide +kernel
theorem dX5_remind_6 : decode cX5_remind 6 = .ok (.getfield 10, 3) := by decide +kernel
theorem dX5_remind_9 : decode cX5_remind 9 = .ok (.invokevirtual 60, 3) := by decide +kernel
theorem dX5_remind_12 : decode cX5_remind 12 = .ok (.invokevirtual 43, 3) := by decide +kernel
theorem dX5_remind_15 : decode cX5_remind 15 = .ok (.ireturn, 1) := by decide +kernel
theorem dX5_writeOff_0 : decode cX5_writeOff 0 = .ok (.aload_n 0, 1) := by decide +kernel
theorem dX5_writeOff_1 : decode cX5_writeOff 1 = .ok (.invokevirtual 36, 3) := by decide +kernel
theorem dX5_writeOff_4 : decode cX5_writeOff 4 = .ok (.aload_n 0, 1) := by decide +kernel
theorem dX5_writeOff_5 : decode cX5_writeOff 5 = .ok (.aload_n 0, 1) := by decide +kernel
theorem dX5_writeOff_6 : decode cX5_writeOff 6 = .ok (.getfield 10, 3) := by decide +kernel
theorem dX5_writeOff_9 : decode cX5_writeOff 9 = .ok (.iload_n 1, 1) := by decide +kernel
theorem dX5_writeOff_10 : decode cX5_writeOff 10 = .ok (.invokevirtual 64, 3) := by decide +kernel
theorem dX5_writeOff_13 : decode cX5_writeOff 13 = .ok (.invokevirtual 43, 3) := by decide +kernel
theorem dX5_writeOff_16 : decode cX5_writeOff 16 = .ok (.ireturn, 1) := by decide +kernel
theorem dX5_closeYear_0 : decode cX5_closeYear 0 = .ok (.aload_n 0, 1) := by decide +kernel
theorem dX5_closeYear_1 : decode cX5_closeYear 1 = .ok (.invokevirtual 36, 3) := by decide +kernel
theorem dX5_closeYear_4 : decode cX5_closeYear 4 = .ok (.aload_n 0, 1) := by decide +kernel
theorem dX5_closeYear_5 : decode cX5_closeYear 5 = .ok (.aload_n 0, 1) := by decide +kernel
theorem dX5_closeYear_6 : decode cX5_closeYear 6 = .ok (.getfield 10, 3) := by decide +kernel
theorem dX5_closeYear_9 : decode cX5_closeYear 9 = .ok (.iload_n 1, 1) := by decide +kernel
theorem dX5_closeYear_10 : decode cX5_closeYear 10 = .ok (.invokevirtual 67, 3) := by decide +kernel
theorem dX5_closeYear_13 : decode cX5_closeYear 13 = .ok (.invokevirtual 43, 3) := by decide +kernel
theorem dX5_closeYear_16 : decode cX5_closeYear 16 = .ok (.ireturn, 1) := by decide +kernel
theorem dX5_set_0 : decode cX5_set 0 = .ok (.aload_n 0, 1) := by decide +kernel
theorem dX5_set_1 : decode cX5_set 1 = .ok (.invokevirtual 36, 3) := by decide +kernel
theorem dX5_set_4 : decode cX5_set 4 = .ok (.aload_n 0, 1) := by decide +kernel
theorem dX5_set_5 : decode cX5_set 5 = .ok (.aload_n 0, 1) := by decide +kernel
theorem dX5_set_6 : decode cX5_set 6 = .ok (.getfield 10, 3) := by decide +kernel
theorem dX5_set_9 : decode cX5_set 9 = .ok (.getfield 70, 3) := by decide +kernel
theorem dX5_set_12 : decode cX5_set 12 = .ok (.iload_n 1, 1) := by decide +kernel
theorem dX5_set_13 : decode cX5_set 13 = .ok (.iload_n 2, 1) := by decide +kernel
theorem dX5_set_14 : decode cX5_set 14 = .ok (.invokevirtual 74, 3) := by decide +kernel
theorem dX5_set_17 : decode cX5_set 17 = .ok (.invokevirtual 43, 3) := by decide +kernel
theorem dX5_set_20 : decode cX5_set 20 = .ok (.ireturn, 1) := by decide +kernel
theorem dX5_type_0 : decode cX5_type 0 = .ok (.aload_n 0, 1) := by decide +kernel
theorem dX5_type_1 : decode cX5_type 1 = .ok (.getfield 32, 3) := by decide +kernel
theorem dX5_type_4 : decode cX5_type 4 = .ok (.iload_n 1, 1) := by decide +kernel
theorem dX5_type_5 : decode cX5_type 5 = .ok (.invokevirtual 79, 3) := by decide +kernel
theorem dX5_type_8 : decode cX5_type 8 = .ok (.ifCond .eq 13, 3) := by decide +kernel
theorem dX5_type_11 : decode cX5_type 11 = .ok (.aload_n 0, 1) := by decide +kernel
theorem dX5_type_12 : decode cX5_type 12 = .ok (.getfield 32, 3) := by decide +kernel
theorem dX5_type_15 : decode cX5_type 15 = .ok (.getfield 83, 3) := by decide +kernel
theorem dX5_type_18 : decode cX5_type 18 = .ok (.goto 5, 3) := by decide +kernel
theorem dX5_type_21 : decode cX5_type 21 = .ok (.bipush (-3), 2) := by decide +kernel
theorem dX5_type_23 : decode cX5_type 23 = .ok (.ireturn, 1) := by decide +kernel
theorem dX5_clearText_0 : decode cX5_clearText 0 = .ok (.aload_n 0, 1) := by decide +kernel
theorem dX5_clearText_1 : decode cX5_clearText 1 = .ok (.getfield 32, 3) := by decide +kernel
theorem dX5_clearText_4 : decode cX5_clearText 4 = .ok (.getfield 83, 3) := by decide +kernel
theorem dX5_clearText_7 : decode cX5_clearText 7 = .ok (.istore_n 1, 1) := by decide +kernel
theorem dX5_clearText_8 : decode cX5_clearText 8 = .ok (.aload_n 0, 1) := by decide +kernel
theorem dX5_clearText_9 : decode cX5_clearText 9 = .ok (.getfield 32, 3) := by decide +kernel
theorem dX5_clearText_12 : decode cX5_clearText 12 = .ok (.iconst 0, 1) := by decide +kernel
theorem dX5_clearText_13 : decode cX5_clearText 13 = .ok (.putfield 83, 3) := by decide +kernel
theorem dX5_clearText_16 : decode cX5_clearText 16 = .ok (.iload_n 1, 1) := by decide +kernel
theorem dX5_clearText_17 : decode cX5_clearText 17 = .ok (.ireturn, 1) := by decide +kernel
theorem dX5_perform_0 : decode cX5_perform 0 = .ok (.aload_n 0, 1) := by decide +kernel
theorem dX5_perform_1 : decode cX5_perform 1 = .ok (.getfield 32, 3) := by decide +kernel
theorem dX5_perform_4 : decode cX5_perform 4 = .ok (.invokevirtual 87, 3) := by decide +kernel
theorem dX5_perform_7 : decode cX5_perform 7 = .ok (.istore_n 1, 1) := by decide +kernel
theorem dX5_perform_8 : decode cX5_perform 8 = .ok (.iload_n 1, 1) := by decide +kernel
theorem dX5_perform_9 : decode cX5_perform 9 = .ok (.iconst (-1), 1) := by decide +kernel
theorem dX5_perform_10 : decode cX5_perform 10 = .ok (.if_icmp .eq 8, 3) := by decide +kernel
theorem dX5_perform_13 : decode cX5_perform 13 = .ok (.bipush (-100), 2) := by decide +kernel
theorem dX5_perform_15 : decode cX5_perform 15 = .ok (.iload_n 1, 1) := by decide +kernel
theorem dX5_perform_16 : decode cX5_perform 16 = .ok (.isub, 1) := by decide +kernel
theorem dX5_perform_17 : decode cX5_perform 17 = .ok (.ireturn, 1) := by decide +kernel
theorem dX5_perform_18 : decode cX5_perform 18 = .ok (.aload_n 0, 1) := by decide +kernel
theorem dX5_perform_19 : decode cX5_perform 19 = .ok (.invokevirtual 36, 3) := by decide +kernel
theorem dX5_perform_22 : decode cX5_perform 22 = .ok (.aload_n 0, 1) := by decide +kernel
theorem dX5_perform_23 : decode cX5_perform 23 = .ok (.aload_n 0, 1) := by decide +kernel
theorem dX5_perform_24 : decode cX5_perform 24 = .ok (.invokevirtual 90, 3) := by decide +kernel
theorem dX5_perform_27 : decode cX5_perform 27 = .ok (.invokevirtual 43, 3) := by decide +kernel
theorem dX5_perform_30 : decode cX5_perform 30 = .ok (.ireturn, 1) := by decide +kernel
theorem dX5_stopped_0 : decode cX5_stopped 0 = .ok (.iload_n 1, 1) := by decide +kernel
theorem dX5_stopped_1 : decode cX5_stopped 1 = .ok (.ifCond .eq 11, 3) := by decide +kernel
theorem dX5_stopped_4 : decode cX5_stopped 4 = .ok (.iload_n 1, 1) := by decide +kernel
theorem dX5_stopped_5 : decode cX5_stopped 5 = .ok (.iconst 1, 1) := by decide +kernel
theorem dX5_stopped_6 : decode cX5_stopped 6 = .ok (.if_icmp .eq 6, 3) := by decide +kernel
theorem dX5_stopped_9 : decode cX5_stopped 9 = .ok (.bipush (-2), 2) := by decide +kernel
theorem dX5_stopped_11 : decode cX5_stopped 11 = .ok (.ireturn, 1) := by decide +kernel
theorem dX5_stopped_12 : decode cX5_stopped 12 = .ok (.aload_n 0, 1) := by decide +kernel
theorem dX5_stopped_13 : decode cX5_stopped 13 = .ok (.getfield 93, 3) := by decide +kernel
theorem dX5_stopped_16 : decode cX5_stopped 16 = .ok (.ifCond .ne 6, 3) := by decide +kernel
theorem dX5_stopped_19 : decode cX5_stopped 19 = .ok (.bipush (-5), 2) := by decide +kernel
theorem dX5_stopped_21 : decode cX5_stopped 21 = .ok (.ireturn, 1) := by decide +kernel
theorem dX5_stopped_22 : decode cX5_stopped 22 = .ok (.iload_n 1, 1) := by decide +kernel
theorem dX5_stopped_23 : decode cX5_stopped 23 = .ok (.ifCond .ne 10, 3) := by decide +kernel
theorem dX5_stopped_26 : decode cX5_stopped 26 = .ok (.aload_n 0, 1) := by decide +kernel
theorem dX5_stopped_27 : decode cX5_stopped 27 = .ok (.getfield 97, 3) := by decide +kernel
theorem dX5_stopped_30 : decode cX5_stopped 30 = .ok (.goto 7, 3) := by decide +kernel
theorem dX5_stopped_33 : decode cX5_stopped 33 = .ok (.aload_n 0, 1) := by decide +kernel
theorem dX5_stopped_34 : decode cX5_stopped 34 = .ok (.getfield 100, 3) := by decide +kernel
theorem dX5_stopped_37 : decode cX5_stopped 37 = .ok (.ireturn, 1) := by decide +kernel
theorem dX5_undo_0 : decode cX5_undo 0 = .ok (.aload_n 0, 1) := by decide +kernel
theorem dX5_undo_1 : decode cX5_undo 1 = .ok (.getfield 25, 3) := by decide +kernel
theorem dX5_undo_4 : decode cX5_undo 4 = .ok (.getfield 103, 3) := by decide +kernel
theorem dX5_undo_7 : decode cX5_undo 7 = .ok (.ifCond .ne 6, 3) := by decide +kernel
theorem dX5_undo_10 : decode cX5_undo 10 = .ok (.bipush (-5), 2) := by decide +kernel
theorem dX5_undo_12 : decode cX5_undo 12 = .ok (.ireturn, 1) := by decide +kernel
theorem dX5_undo_13 : decode cX5_undo 13 = .ok (.aload_n 0, 1) := by decide +kernel
theorem dX5_undo_14 : decode cX5_undo 14 = .ok (.aload_n 0, 1) := by decide +kernel
theorem dX5_undo_15 : decode cX5_undo 15 = .ok (.getfield 25, 3) := by decide +kernel
theorem dX5_undo_18 : decode cX5_undo 18 = .ok (.aload_n 0, 1) := by decide +kernel
theorem dX5_undo_19 : decode cX5_undo 19 = .ok (.getfield 10, 3) := by decide +kernel
theorem dX5_undo_22 : decode cX5_undo 22 = .ok (.invokevirtual 106, 3) := by decide +kernel
theorem dX5_undo_25 : decode cX5_undo 25 = .ok (.putfield 10, 3) := by decide +kernel
theorem dX5_undo_28 : decode cX5_undo 28 = .ok (.aload_n 0, 1) := by decide +kernel
theorem dX5_undo_29 : decode cX5_undo 29 = .ok (.getfield 25, 3) := by decide +kernel
theorem dX5_undo_32 : decode cX5_undo 32 = .ok (.getfield 103, 3) := by decide +kernel
theorem dX5_undo_35 : decode cX5_undo 35 = .ok (.ireturn, 1) := by decide +kernel
theorem dX5_keep_0 : decode cX5_keep 0 = .ok (.aload_n 0, 1) := by decide +kernel
theorem dX5_keep_1 : decode cX5_keep 1 = .ok (.getfield 19, 3) := by decide +kernel
theorem dX5_keep_4 : decode cX5_keep 4 = .ok (.aload_n 0, 1) := by decide +kernel
theorem dX5_keep_5 : decode cX5_keep 5 = .ok (.getfield 10, 3) := by decide +kernel
theorem dX5_keep_8 : decode cX5_keep 8 = .ok (.invokevirtual 110, 3) := by decide +kernel
theorem dX5_keep_11 : decode cX5_keep 11 = .ok (.aload_n 0, 1) := by decide +kernel
theorem dX5_keep_12 : decode cX5_keep 12 = .ok (.iconst 1, 1) := by decide +kernel
theorem dX5_keep_13 : decode cX5_keep 13 = .ok (.putfield 114, 3) := by decide +kernel
theorem dX5_keep_16 : decode cX5_keep 16 = .ok (.aload_n 0, 1) := by decide +kernel
theorem dX5_keep_17 : decode cX5_keep 17 = .ok (.getfield 10, 3) := by decide +kernel
theorem dX5_keep_20 : decode cX5_keep 20 = .ok (.getfield 117, 3) := by decide +kernel
theorem dX5_keep_23 : decode cX5_keep 23 = .ok (.ireturn, 1) := by decide +kernel
theorem dX5_restore_0 : decode cX5_restore 0 = .ok (.aload_n 0, 1) := by decide +kernel
theorem dX5_restore_1 : decode cX5_restore 1 = .ok (.getfield 114, 3) := by decide +kernel
theorem dX5_restore_4 : decode cX5_restore 4 = .ok (.ifCond .ne 6, 3) := by decide +kernel
theorem dX5_restore_7 : decode cX5_restore 7 = .ok (.bipush (-5), 2) := by decide +kernel
theorem dX5_restore_9 : decode cX5_restore 9 = .ok (.ireturn, 1) := by decide +kernel
theorem dX5_restore_10 : decode cX5_restore 10 = .ok (.aload_n 0, 1) := by decide +kernel
theorem dX5_restore_11 : decode cX5_restore 11 = .ok (.invokevirtual 36, 3) := by decide +kernel
theorem dX5_restore_14 : decode cX5_restore 14 = .ok (.aload_n 0, 1) := by decide +kernel
theorem dX5_restore_15 : decode cX5_restore 15 = .ok (.getfield 10, 3) := by decide +kernel
theorem dX5_restore_18 : decode cX5_restore 18 = .ok (.aload_n 0, 1) := by decide +kernel
theorem dX5_restore_19 : decode cX5_restore 19 = .ok (.getfield 19, 3) := by decide +kernel
theorem dX5_restore_22 : decode cX5_restore 22 = .ok (.invokevirtual 110, 3) := by decide +kernel
theorem dX5_restore_25 : decode cX5_restore 25 = .ok (.aload_n 0, 1) := by decide +kernel
theorem dX5_restore_26 : decode cX5_restore 26 = .ok (.aload_n 0, 1) := by decide +kernel
theorem dX5_restore_27 : decode cX5_restore 27 = .ok (.getfield 10, 3) := by decide +kernel
theorem dX5_restore_30 : decode cX5_restore 30 = .ok (.getfield 117, 3) := by decide +kernel
theorem dX5_restore_33 : decode cX5_restore 33 = .ok (.invokevirtual 43, 3) := by decide +kernel
theorem dX5_restore_36 : decode cX5_restore 36 = .ok (.ireturn, 1) := by decide +kernel
theorem dX5_billOf_0 : decode cX5_billOf 0 = .ok (.aload_n 0, 1) := by decide +kernel
theorem dX5_billOf_1 : decode cX5_billOf 1 = .ok (.getfield 10, 3) := by decide +kernel
theorem dX5_billOf_4 : decode cX5_billOf 4 = .ok (.iload_n 1, 1) := by decide +kernel
theorem dX5_billOf_5 : decode cX5_billOf 5 = .ok (.invokevirtual 120, 3) := by decide +kernel
theorem dX5_billOf_8 : decode cX5_billOf 8 = .ok (.astore_n 3, 1) := by decide +kernel
theorem dX5_billOf_9 : decode cX5_billOf 9 = .ok (.aload_n 3, 1) := by decide +kernel
theorem dX5_billOf_10 : decode cX5_billOf 10 = .ok (.ifnonnull 5, 3) := by decide +kernel
theorem dX5_billOf_13 : decode cX5_billOf 13 = .ok (.iconst (-1), 1) := by decide +kernel
theorem dX5_billOf_14 : decode cX5_billOf 14 = .ok (.ireturn, 1) := by decide +kernel
theorem dX5_billOf_15 : decode cX5_billOf 15 = .ok (.iload_n 2, 1) := by decide +kernel
theorem dX5_billOf_16 : decode cX5_billOf 16 = .ok (.tableswitch 157 0 13 #[72, 77, 82, 87, 92, 97, 102, 107, 112, 117, 122, 127, 132, 137], 72) := by decide +kernel
theorem dX5_billOf_88 : decode cX5_billOf 88 = .ok (.aload_n 3, 1) := by decide +kernel
theorem dX5_billOf_89 : decode cX5_billOf 89 = .ok (.getfield 124, 3) := by decide +kernel
theorem dX5_billOf_92 : decode cX5_billOf 92 = .ok (.ireturn, 1) := by decide +kernel
theorem dX5_billOf_93 : decode cX5_billOf 93 = .ok (.aload_n 3, 1) := by decide +kernel
theorem dX5_billOf_94 : decode cX5_billOf 94 = .ok (.getfield 129, 3) := by decide +kernel
theorem dX5_billOf_97 : decode cX5_billOf 97 = .ok (.ireturn, 1) := by decide +kernel
theorem dX5_billOf_98 : decode cX5_billOf 98 = .ok (.aload_n 3, 1) := by decide +kernel
theorem dX5_billOf_99 : decode cX5_billOf 99 = .ok (.getfield 132, 3) := by decide +kernel
theorem dX5_billOf_102 : decode cX5_billOf 102 = .ok (.ireturn, 1) := by decide +kernel
theorem dX5_billOf_103 : decode cX5_billOf 103 = .ok (.aload_n 3, 1) := by decide +kernel
theorem dX5_billOf_104 : decode cX5_billOf 104 = .ok (.getfield 135, 3) := by decide +kernel
theorem dX5_billOf_107 : decode cX5_billOf 107 = .ok (.ireturn, 1) := by decide +kernel
theorem dX5_billOf_108 : decode cX5_billOf 108 = .ok (.aload_n 3, 1) := by decide +kernel
theorem dX5_billOf_109 : decode cX5_billOf 109 = .ok (.getfield 138, 3) := by decide +kernel
theorem dX5_billOf_112 : decode cX5_billOf 112 = .ok (.ireturn, 1) := by decide +kernel
theorem dX5_billOf_113 : decode cX5_billOf 113 = .ok (.aload_n 3, 1) := by decide +kernel
theorem dX5_billOf_114 : decode cX5_billOf 114 = .ok (.invokevirtual 139, 3) := by decide +kernel
theorem dX5_billOf_117 : decode cX5_billOf 117 = .ok (.ireturn, 1) := by decide +kernel
theorem dX5_billOf_118 : decode cX5_billOf 118 = .ok (.aload_n 3, 1) := by decide +kernel
theorem dX5_billOf_119 : decode cX5_billOf 119 = .ok (.getfield 142, 3) := by decide +kernel
theorem dX5_billOf_122 : decode cX5_billOf 122 = .ok (.ireturn, 1) := by decide +kernel
theorem dX5_billOf_123 : decode cX5_billOf 123 = .ok (.aload_n 3, 1) := by decide +kernel
theorem dX5_billOf_124 : decode cX5_billOf 124 = .ok (.getfield 145, 3) := by decide +kernel
theorem dX5_billOf_127 : decode cX5_billOf 127 = .ok (.ireturn, 1) := by decide +kernel
theorem dX5_billOf_128 : decode cX5_billOf 128 = .ok (.aload_n 3, 1) := by decide +kernel
theorem dX5_billOf_129 : decode cX5_billOf 129 = .ok (.getfield 148, 3) := by decide +kernel
theorem dX5_billOf_132 : decode cX5_billOf 132 = .ok (.ireturn, 1) := by decide +kernel
theorem dX5_billOf_133 : decode cX5_billOf 133 = .ok (.aload_n 3, 1) := by decide +kernel
theorem dX5_billOf_134 : decode cX5_billOf 134 = .ok (.getfield 151, 3) := by decide +kernel
theorem dX5_billOf_137 : decode cX5_billOf 137 = .ok (.ireturn, 1) := by decide +kernel
theorem dX5_billOf_138 : decode cX5_billOf 138 = .ok (.aload_n 3, 1) := by decide +kernel
theorem dX5_billOf_139 : decode cX5_billOf 139 = .ok (.invokevirtual 154, 3) := by decide +kernel
theorem dX5_billOf_142 : decode cX5_billOf 142 = .ok (.ireturn, 1) := by decide +kernel
theorem dX5_billOf_143 : decode cX5_billOf 143 = .ok (.aload_n 3, 1) := by decide +kernel
theorem dX5_billOf_144 : decode cX5_billOf 144 = .ok (.getfield 157, 3) := by decide +kernel
theorem dX5_billOf_147 : decode cX5_billOf 147 = .ok (.ireturn, 1) := by decide +kernel
theorem dX5_billOf_148 : decode cX5_billOf 148 = .ok (.aload_n 3, 1) := by decide +kernel
theorem dX5_billOf_149 : decode cX5_billOf 149 = .ok (.getfield 160, 3) := by decide +kernel
theorem dX5_billOf_152 : decode cX5_billOf 152 = .ok (.ireturn, 1) := by decide +kernel
theorem dX5_billOf_153 : decode cX5_billOf 153 = .ok (.aload_n 3, 1) := by decide +kernel
theorem dX5_billOf_154 : decode cX5_billOf 154 = .ok (.aload_n 0, 1) := by decide +kernel
theorem dX5_billOf_155 : decode cX5_billOf 155 = .ok (.getfield 10, 3) := by decide +kernel
theorem dX5_billOf_158 : decode cX5_billOf 158 = .ok (.getfield 117, 3) := by decide +kernel
theorem dX5_billOf_161 : decode cX5_billOf 161 = .ok (.invokevirtual 163, 3) := by decide +kernel
theorem dX5_billOf_164 : decode cX5_billOf 164 = .ok (.ifCond .eq 7, 3) := by decide +kernel
theorem dX5_billOf_167 : decode cX5_billOf 167 = .ok (.iconst 1, 1) := by decide +kernel
theorem dX5_billOf_168 : decode cX5_billOf 168 = .ok (.goto 4, 3) := by decide +kernel
theorem dX5_billOf_171 : decode cX5_billOf 171 = .ok (.iconst 0, 1) := by decide +kernel
theorem dX5_billOf_172 : decode cX5_billOf 172 = .ok (.ireturn, 1) := by decide +kernel
theorem dX5_billOf_173 : decode cX5_billOf 173 = .ok (.bipush (-2), 2) := by decide +kernel
theorem dX5_billOf_175 : decode cX5_billOf 175 = .ok (.ireturn, 1) := by decide +kernel
theorem dX5_customer_0 : decode cX5_customer 0 = .ok (.iload_n 1, 1) := by decide +kernel
theorem dX5_customer_1 : decode cX5_customer 1 = .ok (.invokestatic 167, 3) := by decide +kernel
theorem dX5_customer_4 : decode cX5_customer 4 = .ok (.ifCond .ne 5, 3) := by decide +kernel
theorem dX5_customer_7 : decode cX5_customer 7 = .ok (.iconst (-1), 1) := by decide +kernel
theorem dX5_customer_8 : decode cX5_customer 8 = .ok (.ireturn, 1) := by decide +kernel
theorem dX5_customer_9 : decode cX5_customer 9 = .ok (.iload_n 2, 1) := by decide +kernel
theorem dX5_customer_10 : decode cX5_customer 10 = .ok (.tableswitch 119 0 6 #[42, 53, 63, 73, 82, 100, 110], 42) := by decide +kernel
theorem dX5_customer_52 : decode cX5_customer 52 = .ok (.aload_n 0, 1) := by decide +kernel
theorem dX5_customer_53 : decode cX5_customer 53 = .ok (.getfield 10, 3) := by decide +kernel
theorem dX5_customer_56 : decode cX5_customer 56 = .ok (.iload_n 1, 1) := by decide +kernel
theorem dX5_customer_57 : decode cX5_customer 57 = .ok (.bipush (-9), 2) := by decide +kernel
theorem dX5_customer_59 : decode cX5_customer 59 = .ok (.invokevirtual 170, 3) := by decide +kernel
theorem dX5_customer_62 : decode cX5_customer 62 = .ok (.ireturn, 1) := by decide +kernel
theorem dX5_customer_63 : decode cX5_customer 63 = .ok (.aload_n 0, 1) := by decide +kernel
theorem dX5_customer_64 : decode cX5_customer 64 = .ok (.getfield 10, 3) := by decide +kernel
theorem dX5_customer_67 : decode cX5_customer 67 = .ok (.iload_n 1, 1) := by decide +kernel
theorem dX5_customer_68 : decode cX5_customer 68 = .ok (.iconst 0, 1) := by decide +kernel
theorem dX5_customer_69 : decode cX5_customer 69 = .ok (.invokevirtual 170, 3) := by decide +kernel
theorem dX5_customer_72 : decode cX5_customer 72 = .ok (.ireturn, 1) := by decide +kernel
theorem dX5_customer_73 : decode cX5_customer 73 = .ok (.aload_n 0, 1) := by decide +kernel
theorem dX5_customer_74 : decode cX5_customer 74 = .ok (.getfield 10, 3) := by decide +kernel
theorem dX5_customer_77 : decode cX5_customer 77 = .ok (.iload_n 1, 1) := by decide +kernel
theorem dX5_customer_78 : decode cX5_customer 78 = .ok (.iconst 0, 1) := by decide +kernel
theorem dX5_customer_79 : decode cX5_customer 79 = .ok (.invokevirtual 173, 3) := by decide +kernel
theorem dX5_customer_82 : decode cX5_customer 82 = .ok (.ireturn, 1) := by decide +kernel
theorem dX5_customer_83 : decode cX5_customer 83 = .ok (.aload_n 0, 1) := by decide +kernel
theorem dX5_customer_84 : decode cX5_customer 84 = .ok (.getfield 10, 3) := by decide +kernel
theorem dX5_customer_87 : decode cX5_customer 87 = .ok (.iload_n 1, 1) := by decide +kernel
theorem dX5_customer_88 : decode cX5_customer 88 = .ok (.invokevirtual 176, 3) := by decide +kernel
theorem dX5_customer_91 : decode cX5_customer 91 = .ok (.ireturn, 1) := by decide +kernel
theorem dX5_customer_92 : decode cX5_customer 92 = .ok (.aload_n 0, 1) := by decide +kernel
theorem dX5_customer_93 : decode cX5_customer 93 = .ok (.getfield 10, 3) := by decide +kernel
theorem dX5_customer_96 : decode cX5_customer 96 = .ok (.iload_n 1, 1) := by decide +kernel
theorem dX5_customer_97 : decode cX5_customer 97 = .ok (.invokevirtual 179, 3) := by decide +kernel
theorem dX5_customer_100 : decode cX5_customer 100 = .ok (.aload_n 0, 1) := by decide +kernel
theorem dX5_customer_101 : decode cX5_customer 101 = .ok (.getfield 10, 3) := by decide +kernel
theorem dX5_customer_104 : decode cX5_customer 104 = .ok (.iload_n 1, 1) := by decide +kernel
theorem dX5_customer_105 : decode cX5_customer 105 = .ok (.invokevirtual 176, 3) := by decide +kernel
theorem dX5_customer_108 : decode cX5_customer 108 = .ok (.iadd, 1) := by decide +kernel
theorem dX5_customer_109 : decode cX5_customer 109 = .ok (.ireturn, 1) := by decide +kernel
theorem dX5_customer_110 : decode cX5_customer 110 = .ok (.aload_n 0, 1) := by decide +kernel
theorem dX5_customer_111 : decode cX5_customer 111 = .ok (.getfield 10, 3) := by decide +kernel
theorem dX5_customer_114 : decode cX5_customer 114 = .ok (.iload_n 1, 1) := by decide +kernel
theorem dX5_customer_115 : decode cX5_customer 115 = .ok (.iconst 2, 1) := by decide +kernel
theorem dX5_customer_116 : decode cX5_customer 116 = .ok (.invokevirtual 173, 3) := by decide +kernel
theorem dX5_customer_119 : decode cX5_customer 119 = .ok (.ireturn, 1) := by decide +kernel
theorem dX5_customer_120 : decode cX5_customer 120 = .ok (.aload_n 0, 1) := by decide +kernel
theorem dX5_customer_121 : decode cX5_customer 121 = .ok (.getfield 10, 3) := by decide +kernel
theorem dX5_customer_124 : decode cX5_customer 124 = .ok (.iload_n 1, 1) := by decide +kernel
theorem dX5_customer_125 : decode cX5_customer 125 = .ok (.invokevirtual 182, 3) := by decide +kernel
theorem dX5_customer_128 : decode cX5_customer 128 = .ok (.ireturn, 1) := by decide +kernel
theorem dX5_customer_129 : decode cX5_customer 129 = .ok (.bipush (-2), 2) := by decide +kernel
theorem dX5_customer_131 : decode cX5_customer 131 = .ok (.ireturn, 1) := by decide +kernel
theorem dX5_tax_0 : decode cX5_tax 0 = .ok (.iload_n 1, 1) := by decide +kernel
theorem dX5_tax_1 : decode cX5_tax 1 = .ok (.invokestatic 185, 3) := by decide +kernel
theorem dX5_tax_4 : decode cX5_tax 4 = .ok (.ifCond .ne 5, 3) := by decide +kernel
theorem dX5_tax_7 : decode cX5_tax 7 = .ok (.iconst (-1), 1) := by decide +kernel
theorem dX5_tax_8 : decode cX5_tax 8 = .ok (.ireturn, 1) := by decide +kernel
theorem dX5_tax_9 : decode cX5_tax 9 = .ok (.iload_n 2, 1) := by decide +kernel
theorem dX5_tax_10 : decode cX5_tax 10 = .ok (.ifCond .lt 8, 3) := by decide +kernel
theorem dX5_tax_13 : decode cX5_tax 13 = .ok (.iload_n 2, 1) := by decide +kernel
theorem dX5_tax_14 : decode cX5_tax 14 = .ok (.iconst 2, 1) := by decide +kernel
theorem dX5_tax_15 : decode cX5_tax 15 = .ok (.if_icmp .le 6, 3) := by decide +kernel
theorem dX5_tax_18 : decode cX5_tax 18 = .ok (.bipush (-2), 2) := by decide +kernel
theorem dX5_tax_20 : decode cX5_tax 20 = .ok (.ireturn, 1) := by decide +kernel
theorem dX5_tax_21 : decode cX5_tax 21 = .ok (.iload_n 2, 1) := by decide +kernel
theorem dX5_tax_22 : decode cX5_tax 22 = .ok (.iconst 2, 1) := by decide +kernel
theorem dX5_tax_23 : decode cX5_tax 23 = .ok (.if_icmp .ne 14, 3) := by decide +kernel
theorem dX5_tax_26 : decode cX5_tax 26 = .ok (.aload_n 0, 1) := by decide +kernel
theorem dX5_tax_27 : decode cX5_tax 27 = .ok (.getfield 10, 3) := by decide +kernel
theorem dX5_tax_30 : decode cX5_tax 30 = .ok (.iload_n 1, 1) := by decide +kernel
theorem dX5_tax_31 : decode cX5_tax 31 = .ok (.invokevirtual 188, 3) := by decide +kernel
theorem dX5_tax_34 : decode cX5_tax 34 = .ok (.goto 12, 3) := by decide +kernel
theorem dX5_tax_37 : decode cX5_tax 37 = .ok (.aload_n 0, 1) := by decide +kernel
theorem dX5_tax_38 : decode cX5_tax 38 = .ok (.getfield 10, 3) := by decide +kernel
theorem dX5_tax_41 : decode cX5_tax 41 = .ok (.iload_n 1, 1) := by decide +kernel
theorem dX5_tax_42 : decode cX5_tax 42 = .ok (.iload_n 2, 1) := by decide +kernel
theorem dX5_tax_43 : decode cX5_tax 43 = .ok (.invokevirtual 191, 3) := by decide +kernel
theorem dX5_tax_46 : decode cX5_tax 46 = .ok (.ireturn, 1) := by decide +kernel
theorem dX5_reason_0 : decode cX5_reason 0 = .ok (.aload_n 0, 1) := by decide +kernel
theorem dX5_reason_1 : decode cX5_reason 1 = .ok (.getfield 10, 3) := by decide +kernel
theorem dX5_reason_4 : decode cX5_reason 4 = .ok (.iload_n 1, 1) := by decide +kernel
theorem dX5_reason_5 : decode cX5_reason 5 = .ok (.invokevirtual 120, 3) := by decide +kernel
theorem dX5_reason_8 : decode cX5_reason 8 = .ok (.astore_n 2, 1) := by decide +kernel
theorem dX5_reason_9 : decode cX5_reason 9 = .ok (.aload_n 2, 1) := by decide +kernel
theorem dX5_reason_10 : decode cX5_reason 10 = .ok (.ifnonnull 5, 3) := by decide +kernel
theorem dX5_reason_13 : decode cX5_reason 13 = .ok (.iconst (-1), 1) := by decide +kernel
theorem dX5_reason_14 : decode cX5_reason 14 = .ok (.ireturn, 1) := by decide +kernel
theorem dX5_reason_15 : decode cX5_reason 15 = .ok (.aload_n 2, 1) := by decide +kernel
theorem dX5_reason_16 : decode cX5_reason 16 = .ok (.aload_n 0, 1) := by decide +kernel
theorem dX5_reason_17 : decode cX5_reason 17 = .ok (.getfield 10, 3) := by decide +kernel
theorem dX5_reason_20 : decode cX5_reason 20 = .ok (.getfield 117, 3) := by decide +kernel
theorem dX5_reason_23 : decode cX5_reason 23 = .ok (.aload_n 0, 1) := by decide +kernel
theorem dX5_reason_24 : decode cX5_reason 24 = .ok (.getfield 10, 3) := by decide +kernel
theorem dX5_reason_27 : decode cX5_reason 27 = .ok (.getfield 70, 3) := by decide +kernel
theorem dX5_reason_30 : decode cX5_reason 30 = .ok (.invokevirtual 194, 3) := by decide +kernel
theorem dX5_reason_33 : decode cX5_reason 33 = .ok (.invokevirtual 197, 3) := by decide +kernel
theorem dX5_reason_36 : decode cX5_reason 36 = .ok (.ireturn, 1) := by decide +kernel
theorem dX5_ifPaid_0 : decode cX5_ifPaid 0 = .ok (.iload_n 1, 1) := by decide +kernel
theorem dX5_ifPaid_1 : decode cX5_ifPaid 1 = .ok (.invokestatic 167, 3) := by decide +kernel
theorem dX5_ifPaid_4 : decode cX5_ifPaid 4 = .ok (.ifCond .ne 5, 3) := by decide +kernel
theorem dX5_ifPaid_7 : decode cX5_ifPaid 7 = .ok (.iconst (-1), 1) := by decide +kernel
theorem dX5_ifPaid_8 : decode cX5_ifPaid 8 = .ok (.ireturn, 1) := by decide +kernel
theorem dX5_ifPaid_9 : decode cX5_ifPaid 9 = .ok (.iload_n 2, 1) := by decide +kernel
theorem dX5_ifPaid_10 : decode cX5_ifPaid 10 = .ok (.invokestatic 200, 3) := by decide +kernel
theorem dX5_ifPaid_13 : decode cX5_ifPaid 13 = .ok (.ifCond .eq 12, 3) := by decide +kernel
theorem dX5_ifPaid_16 : decode cX5_ifPaid 16 = .ok (.iload_n 3, 1) := by decide +kernel
theorem dX5_ifPaid_17 : decode cX5_ifPaid 17 = .ok (.ifCond .lt 8, 3) := by decide +kernel
theorem dX5_ifPaid_20 : decode cX5_ifPaid 20 = .ok (.iload_n 3, 1) := by decide +kernel
theorem dX5_ifPaid_21 : decode cX5_ifPaid 21 = .ok (.iconst 3, 1) := by decide +kernel
theorem dX5_ifPaid_22 : decode cX5_ifPaid 22 = .ok (.if_icmp .le 6, 3) := by decide +kernel
theorem dX5_ifPaid_25 : decode cX5_ifPaid 25 = .ok (.bipush (-2), 2) := by decide +kernel
theorem dX5_ifPaid_27 : decode cX5_ifPaid 27 = .ok (.ireturn, 1) := by decide +kernel
theorem dX5_ifPaid_28 : decode cX5_ifPaid 28 = .ok (.aload_n 0, 1) := by decide +kernel
theorem dX5_ifPaid_29 : decode cX5_ifPaid 29 = .ok (.getfield 16, 3) := by decide +kernel
theorem dX5_ifPaid_32 : decode cX5_ifPaid 32 = .ok (.aload_n 0, 1) := by decide +kernel
theorem dX5_ifPaid_33 : decode cX5_ifPaid 33 = .ok (.getfield 10, 3) := by decide +kernel
theorem dX5_ifPaid_36 : decode cX5_ifPaid 36 = .ok (.invokevirtual 110, 3) := by decide +kernel
theorem dX5_ifPaid_39 : decode cX5_ifPaid 39 = .ok (.aload_n 0, 1) := by decide +kernel
theorem dX5_ifPaid_40 : decode cX5_ifPaid 40 = .ok (.getfield 16, 3) := by decide +kernel
theorem dX5_ifPaid_43 : decode cX5_ifPaid 43 = .ok (.iload_n 1, 1) := by decide +kernel
theorem dX5_ifPaid_44 : decode cX5_ifPaid 44 = .ok (.iload_n 2, 1) := by decide +kernel
theorem dX5_ifPaid_45 : decode cX5_ifPaid 45 = .ok (.invokevirtual 47, 3) := by decide +kernel
theorem dX5_ifPaid_48 : decode cX5_ifPaid 48 = .ok (.istore 4, 2) := by decide +kernel
theorem dX5_ifPaid_50 : decode cX5_ifPaid 50 = .ok (.iload 4, 2) := by decide +kernel
theorem dX5_ifPaid_52 : decode cX5_ifPaid 52 = .ok (.ifCond .ge 6, 3) := by decide +kernel
theorem dX5_ifPaid_55 : decode cX5_ifPaid 55 = .ok (.iload 4, 2) := by decide +kernel
theorem dX5_ifPaid_57 : decode cX5_ifPaid 57 = .ok (.ireturn, 1) := by decide +kernel
theorem dX5_ifPaid_58 : decode cX5_ifPaid 58 = .ok (.iload_n 3, 1) := by decide +kernel
theorem dX5_ifPaid_59 : decode cX5_ifPaid 59 = .ok (.tableswitch 53 0 2 #[25, 28, 44], 25) := by decide +kernel
theorem dX5_ifPaid_84 : decode cX5_ifPaid 84 = .ok (.iload 4, 2) := by decide +kernel
theorem dX5_ifPaid_86 : decode cX5_ifPaid 86 = .ok (.ireturn, 1) := by decide +kernel
theorem dX5_ifPaid_87 : decode cX5_ifPaid 87 = .ok (.aload_n 0, 1) := by decide +kernel
theorem dX5_ifPaid_88 : decode cX5_ifPaid 88 = .ok (.getfield 16, 3) := by decide +kernel
theorem dX5_ifPaid_91 : decode cX5_ifPaid 91 = .ok (.invokevirtual 203, 3) := by decide +kernel
theorem dX5_ifPaid_94 : decode cX5_ifPaid 94 = .ok (.aload_n 0, 1) := by decide +kernel
theorem dX5_ifPaid_95 : decode cX5_ifPaid 95 = .ok (.getfield 10, 3) := by decide +kernel
theorem dX5_ifPaid_98 : decode cX5_ifPaid 98 = .ok (.invokevirtual 203, 3) := by decide +kernel
theorem dX5_ifPaid_101 : decode cX5_ifPaid 101 = .ok (.isub, 1) := by decide +kernel
theorem dX5_ifPaid_102 : decode cX5_ifPaid 102 = .ok (.ireturn, 1) := by decide +kernel
theorem dX5_ifPaid_103 : decode cX5_ifPaid 103 = .ok (.aload_n 0, 1) := by decide +kernel
theorem dX5_ifPaid_104 : decode cX5_ifPaid 104 = .ok (.getfield 16, 3) := by decide +kernel
theorem dX5_ifPaid_107 : decode cX5_ifPaid 107 = .ok (.iload_n 1, 1) := by decide +kernel
theorem dX5_ifPaid_108 : decode cX5_ifPaid 108 = .ok (.invokevirtual 176, 3) := by decide +kernel
theorem dX5_ifPaid_111 : decode cX5_ifPaid 111 = .ok (.ireturn, 1) := by decide +kernel
theorem dX5_ifPaid_112 : decode cX5_ifPaid 112 = .ok (.aload_n 0, 1) := by decide +kernel
theorem dX5_ifPaid_113 : decode cX5_ifPaid 113 = .ok (.getfield 16, 3) := by decide +kernel
theorem dX5_ifPaid_116 : decode cX5_ifPaid 116 = .ok (.iload_n 1, 1) := by decide +kernel
theorem dX5_ifPaid_117 : decode cX5_ifPaid 117 = .ok (.iconst 0, 1) := by decide +kernel
theorem dX5_ifPaid_118 : decode cX5_ifPaid 118 = .ok (.invokevirtual 173, 3) := by decide +kernel
theorem dX5_ifPaid_121 : decode cX5_ifPaid 121 = .ok (.ireturn, 1) := by decide +kernel
theorem dX5_settles_0 : decode cX5_settles 0 = .ok (.iload_n 1, 1) := by decide +kernel
theorem dX5_settles_1 : decode cX5_settles 1 = .ok (.invokestatic 167, 3) := by decide +kernel
theorem dX5_settles_4 : decode cX5_settles 4 = .ok (.ifCond .eq 14, 3) := by decide +kernel
theorem dX5_settles_7 : decode cX5_settles 7 = .ok (.aload_n 0, 1) := by decide +kernel
theorem dX5_settles_8 : decode cX5_settles 8 = .ok (.getfield 10, 3) := by decide +kernel
theorem dX5_settles_11 : decode cX5_settles 11 = .ok (.iload_n 1, 1) := by decide +kernel
theorem dX5_settles_12 : decode cX5_settles 12 = .ok (.invokevirtual 206, 3) := by decide +kernel
theorem dX5_settles_15 : decode cX5_settles 15 = .ok (.goto 4, 3) := by decide +kernel
theorem dX5_settles_18 : decode cX5_settles 18 = .ok (.iconst (-1), 1) := by decide +kernel
theorem dX5_settles_19 : decode cX5_settles 19 = .ok (.ireturn, 1) := by decide +kernel
theorem dX5_nextReminder_0 : decode cX5_nextReminder 0 = .ok (.aload_n 0, 1) := by decide +kernel
theorem dX5_nextReminder_1 : decode cX5_nextReminder 1 = .ok (.getfield 10, 3) := by decide +kernel
theorem dX5_nextReminder_4 : decode cX5_nextReminder 4 = .ok (.iload_n 1, 1) := by decide +kernel
theorem dX5_nextReminder_5 : decode cX5_nextReminder 5 = .ok (.invokevirtual 120, 3) := by decide +kernel
theorem dX5_nextReminder_8 : decode cX5_nextReminder 8 = .ok (.astore_n 2, 1) := by decide +kernel
theorem dX5_nextReminder_9 : decode cX5_nextReminder 9 = .ok (.aload_n 2, 1) := by decide +kernel
theorem dX5_nextReminder_10 : decode cX5_nextReminder 10 = .ok (.ifnonnull 5, 3) := by decide +kernel
theorem dX5_nextReminder_13 : decode cX5_nextReminder 13 = .ok (.iconst (-1), 1) := by decide +kernel
theorem dX5_nextReminder_14 : decode cX5_nextReminder 14 = .ok (.ireturn, 1) := by decide +kernel
theorem dX5_nextReminder_15 : decode cX5_nextReminder 15 = .ok (.aload_n 2, 1) := by decide +kernel
theorem dX5_nextReminder_16 : decode cX5_nextReminder 16 = .ok (.invokevirtual 209, 3) := by decide +kernel
theorem dX5_nextReminder_19 : decode cX5_nextReminder 19 = .ok (.ifCond .ne 6, 3) := by decide +kernel
theorem dX5_nextReminder_22 : decode cX5_nextReminder 22 = .ok (.bipush (-5), 2) := by decide +kernel
theorem dX5_nextReminder_24 : decode cX5_nextReminder 24 = .ok (.ireturn, 1) := by decide +kernel
theorem dX5_nextReminder_25 : decode cX5_nextReminder 25 = .ok (.aload_n 0, 1) := by decide +kernel
theorem dX5_nextReminder_26 : decode cX5_nextReminder 26 = .ok (.getfield 10, 3) := by decide +kernel
theorem dX5_nextReminder_29 : decode cX5_nextReminder 29 = .ok (.getfield 117, 3) := by decide +kernel
theorem dX5_nextReminder_32 : decode cX5_nextReminder 32 = .ok (.aload_n 2, 1) := by decide +kernel
theorem dX5_nextReminder_33 : decode cX5_nextReminder 33 = .ok (.aload_n 0, 1) := by decide +kernel
theorem dX5_nextReminder_34 : decode cX5_nextReminder 34 = .ok (.getfield 10, 3) := by decide +kernel
theorem dX5_nextReminder_37 : decode cX5_nextReminder 37 = .ok (.getfield 70, 3) := by decide +kernel
theorem dX5_nextReminder_40 : decode cX5_nextReminder 40 = .ok (.invokevirtual 194, 3) := by decide +kernel
theorem dX5_nextReminder_43 : decode cX5_nextReminder 43 = .ok (.invokevirtual 213, 3) := by decide +kernel
theorem dX5_nextReminder_46 : decode cX5_nextReminder 46 = .ok (.invokestatic 216, 3) := by decide +kernel
theorem dX5_nextReminder_49 : decode cX5_nextReminder 49 = .ok (.istore_n 3, 1) := by decide +kernel
theorem dX5_nextReminder_50 : decode cX5_nextReminder 50 = .ok (.iload_n 3, 1) := by decide +kernel
theorem dX5_nextReminder_51 : decode cX5_nextReminder 51 = .ok (.sipush 9999, 3) := by decide +kernel
theorem dX5_nextReminder_54 : decode cX5_nextReminder 54 = .ok (.if_icmp .gt 7, 3) := by decide +kernel
theorem dX5_nextReminder_57 : decode cX5_nextReminder 57 = .ok (.iload_n 3, 1) := by decide +kernel
theorem dX5_nextReminder_58 : decode cX5_nextReminder 58 = .ok (.goto 5, 3) := by decide +kernel
theorem dX5_nextReminder_61 : decode cX5_nextReminder 61 = .ok (.bipush (-5), 2) := by decide +kernel
theorem dX5_nextReminder_63 : decode cX5_nextReminder 63 = .ok (.ireturn, 1) := by decide +kernel
theorem dX5_worst_0 : decode cX5_worst 0 = .ok (.bipush (-5), 2) := by decide +kernel
theorem dX5_worst_2 : decode cX5_worst 2 = .ok (.istore_n 1, 1) := by decide +kernel
theorem dX5_worst_3 : decode cX5_worst 3 = .ok (.iconst 0, 1) := by decide +kernel
theorem dX5_worst_4 : decode cX5_worst 4 = .ok (.istore_n 2, 1) := by decide +kernel
theorem dX5_worst_5 : decode cX5_worst 5 = .ok (.iconst 0, 1) := by decide +kernel
theorem dX5_worst_6 : decode cX5_worst 6 = .ok (.istore_n 3, 1) := by decide +kernel
theorem dX5_worst_7 : decode cX5_worst 7 = .ok (.iload_n 3, 1) := by decide +kernel
theorem dX5_worst_8 : decode cX5_worst 8 = .ok (.bipush 8, 2) := by decide +kernel
theorem dX5_worst_10 : decode cX5_worst 10 = .ok (.if_icmp .ge 31, 3) := by decide +kernel
theorem dX5_worst_13 : decode cX5_worst 13 = .ok (.aload_n 0, 1) := by decide +kernel
theorem dX5_worst_14 : decode cX5_worst 14 = .ok (.getfield 10, 3) := by decide +kernel
theorem dX5_worst_17 : decode cX5_worst 17 = .ok (.iload_n 3, 1) := by decide +kernel
theorem dX5_worst_18 : decode cX5_worst 18 = .ok (.iconst 0, 1) := by decide +kernel
theorem dX5_worst_19 : decode cX5_worst 19 = .ok (.invokevirtual 173, 3) := by decide +kernel
theorem dX5_worst_22 : decode cX5_worst 22 = .ok (.istore 4, 2) := by decide +kernel
theorem dX5_worst_24 : decode cX5_worst 24 = .ok (.iload 4, 2) := by decide +kernel
theorem dX5_worst_26 : decode cX5_worst 26 = .ok (.iload_n 2, 1) := by decide +kernel
theorem dX5_worst_27 : decode cX5_worst 27 = .ok (.if_icmp .le 8, 3) := by decide +kernel
theorem dX5_worst_30 : decode cX5_worst 30 = .ok (.iload 4, 2) := by decide +kernel
theorem dX5_worst_32 : decode cX5_worst 32 = .ok (.istore_n 2, 1) := by decide +kernel
theorem dX5_worst_33 : decode cX5_worst 33 = .ok (.iload_n 3, 1) := by decide +kernel
theorem dX5_worst_34 : decode cX5_worst 34 = .ok (.istore_n 1, 1) := by decide +kernel
theorem dX5_worst_35 : decode cX5_worst 35 = .ok (.iinc 3 1, 3) := by decide +kernel
theorem dX5_worst_38 : decode cX5_worst 38 = .ok (.goto (-31), 3) := by decide +kernel
theorem dX5_worst_41 : decode cX5_worst 41 = .ok (.iload_n 1, 1) := by decide +kernel
theorem dX5_worst_42 : decode cX5_worst 42 = .ok (.ireturn, 1) := by decide +kernel
theorem dX5_count_0 : decode cX5_count 0 = .ok (.iload_n 1, 1) := by decide +kernel
theorem dX5_count_1 : decode cX5_count 1 = .ok (.tableswitch 331 0 21 #[103, 111, 123, 134, 145, 156, 164, 175, 186, 194, 220, 228, 236, 244, 252, 260, 271, 282, 293, 304, 315, 323], 103) := by decide +kernel
theorem dX5_count_104 : decode cX5_count 104 = .ok (.aload_n 0, 1) := by decide +kernel
theorem dX5_count_105 : decode cX5_count 105 = .ok (.getfield 10, 3) := by decide +kernel
theorem dX5_count_108 : decode cX5_count 108 = .ok (.getfield 117, 3) := by decide +kernel
theorem dX5_count_111 : decode cX5_count 111 = .ok (.ireturn, 1) := by decide +kernel
theorem dX5_count_112 : decode cX5_count 112 = .ok (.aload_n 0, 1) := by decide +kernel
theorem dX5_count_113 : decode cX5_count 113 = .ok (.getfield 10, 3) := by decide +kernel
theorem dX5_count_116 : decode cX5_count 116 = .ok (.bipush (-9), 2) := by decide +kernel
theorem dX5_count_118 : decode cX5_count 118 = .ok (.bipush (-9), 2) := by decide +kernel
theorem dX5_count_120 : decode cX5_count 120 = .ok (.invokevirtual 170, 3) := by decide +kernel
theorem dX5_count_123 : decode cX5_count 123 = .ok (.ireturn, 1) := by decide +kernel
theorem dX5_count_124 : decode cX5_count 124 = .ok (.aload_n 0, 1) := by decide +kernel
theorem dX5_count_125 : decode cX5_count 125 = .ok (.getfield 10, 3) := by decide +kernel
theorem dX5_count_128 : decode cX5_count 128 = .ok (.bipush (-9), 2) := by decide +kernel
theorem dX5_count_130 : decode cX5_count 130 = .ok (.iconst 0, 1) := by decide +kernel
theorem dX5_count_131 : decode cX5_count 131 = .ok (.invokevirtual 170, 3) := by decide +kernel
theorem dX5_count_134 : decode cX5_count 134 = .ok (.ireturn, 1) := by decide +kernel
theorem dX5_count_135 : decode cX5_count 135 = .ok (.aload_n 0, 1) := by decide +kernel
theorem dX5_count_136 : decode cX5_count 136 = .ok (.getfield 10, 3) := by decide +kernel
theorem dX5_count_139 : decode cX5_count 139 = .ok (.bipush (-9), 2) := by decide +kernel
theorem dX5_count_141 : decode cX5_count 141 = .ok (.iconst 1, 1) := by decide +kernel
theorem dX5_count_142 : decode cX5_count 142 = .ok (.invokevirtual 170, 3) := by decide +kernel
theorem dX5_count_145 : decode cX5_count 145 = .ok (.ireturn, 1) := by decide +kernel
theorem dX5_count_146 : decode cX5_count 146 = .ok (.aload_n 0, 1) := by decide +kernel
theorem dX5_count_147 : decode cX5_count 147 = .ok (.getfield 10, 3) := by decide +kernel
theorem dX5_count_150 : decode cX5_count 150 = .ok (.bipush (-9), 2) := by decide +kernel
theorem dX5_count_152 : decode cX5_count 152 = .ok (.iconst 2, 1) := by decide +kernel
theorem dX5_count_153 : decode cX5_count 153 = .ok (.invokevirtual 170, 3) := by decide +kernel
theorem dX5_count_156 : decode cX5_count 156 = .ok (.ireturn, 1) := by decide +kernel
theorem dX5_count_157 : decode cX5_count 157 = .ok (.aload_n 0, 1) := by decide +kernel
theorem dX5_count_158 : decode cX5_count 158 = .ok (.getfield 10, 3) := by decide +kernel
theorem dX5_count_161 : decode cX5_count 161 = .ok (.invokevirtual 221, 3) := by decide +kernel
theorem dX5_count_164 : decode cX5_count 164 = .ok (.ireturn, 1) := by decide +kernel
theorem dX5_count_165 : decode cX5_count 165 = .ok (.aload_n 0, 1) := by decide +kernel
theorem dX5_count_166 : decode cX5_count 166 = .ok (.getfield 10, 3) := by decide +kernel
theorem dX5_count_169 : decode cX5_count 169 = .ok (.bipush (-9), 2) := by decide +kernel
theorem dX5_count_171 : decode cX5_count 171 = .ok (.iconst 0, 1) := by decide +kernel
theorem dX5_count_172 : decode cX5_count 172 = .ok (.invokevirtual 173, 3) := by decide +kernel
theorem dX5_count_175 : decode cX5_count 175 = .ok (.ireturn, 1) := by decide +kernel
theorem dX5_count_176 : decode cX5_count 176 = .ok (.aload_n 0, 1) := by decide +kernel
theorem dX5_count_177 : decode cX5_count 177 = .ok (.getfield 10, 3) := by decide +kernel
theorem dX5_count_180 : decode cX5_count 180 = .ok (.bipush (-9), 2) := by decide +kernel
theorem dX5_count_182 : decode cX5_count 182 = .ok (.iconst 2, 1) := by decide +kernel
theorem dX5_count_183 : decode cX5_count 183 = .ok (.invokevirtual 173, 3) := by decide +kernel
theorem dX5_count_186 : decode cX5_count 186 = .ok (.ireturn, 1) := by decide +kernel
theorem dX5_count_187 : decode cX5_count 187 = .ok (.aload_n 0, 1) := by decide +kernel
theorem dX5_count_188 : decode cX5_count 188 = .ok (.getfield 10, 3) := by decide +kernel
theorem dX5_count_191 : decode cX5_count 191 = .ok (.invokevirtual 224, 3) := by decide +kernel
theorem dX5_count_194 : decode cX5_count 194 = .ok (.ireturn, 1) := by decide +kernel
theorem dX5_count_195 : decode cX5_count 195 = .ok (.aload_n 0, 1) := by decide +kernel
theorem dX5_count_196 : decode cX5_count 196 = .ok (.getfield 10, 3) := by decide +kernel
theorem dX5_count_199 : decode cX5_count 199 = .ok (.bipush (-9), 2) := by decide +kernel
theorem dX5_count_201 : decode cX5_count 201 = .ok (.invokevirtual 179, 3) := by decide +kernel
theorem dX5_count_204 : decode cX5_count 204 = .ok (.aload_n 0, 1) := by decide +kernel
theorem dX5_count_205 : decode cX5_count 205 = .ok (.getfield 10, 3) := by decide +kernel
theorem dX5_count_208 : decode cX5_count 208 = .ok (.invokevirtual 224, 3) := by decide +kernel
theorem dX5_count_211 : decode cX5_count 211 = .ok (.iadd, 1) := by decide +kernel
theorem dX5_count_212 : decode cX5_count 212 = .ok (.aload_n 0, 1) := by decide +kernel
theorem dX5_count_213 : decode cX5_count 213 = .ok (.getfield 10, 3) := by decide +kernel
theorem dX5_count_216 : decode cX5_count 216 = .ok (.getfield 227, 3) := by decide +kernel
theorem dX5_count_219 : decode cX5_count 219 = .ok (.iadd, 1) := by decide +kernel
theorem dX5_count_220 : decode cX5_count 220 = .ok (.ireturn, 1) := by decide +kernel
theorem dX5_count_221 : decode cX5_count 221 = .ok (.aload_n 0, 1) := by decide +kernel
theorem dX5_count_222 : decode cX5_count 222 = .ok (.getfield 10, 3) := by decide +kernel
theorem dX5_count_225 : decode cX5_count 225 = .ok (.getfield 227, 3) := by decide +kernel
theorem dX5_count_228 : decode cX5_count 228 = .ok (.ireturn, 1) := by decide +kernel
theorem dX5_count_229 : decode cX5_count 229 = .ok (.aload_n 0, 1) := by decide +kernel
theorem dX5_count_230 : decode cX5_count 230 = .ok (.getfield 10, 3) := by decide +kernel
theorem dX5_count_233 : decode cX5_count 233 = .ok (.invokevirtual 203, 3) := by decide +kernel
theorem dX5_count_236 : decode cX5_count 236 = .ok (.ireturn, 1) := by decide +kernel
theorem dX5_count_237 : decode cX5_count 237 = .ok (.aload_n 0, 1) := by decide +kernel
theorem dX5_count_238 : decode cX5_count 238 = .ok (.getfield 10, 3) := by decide +kernel
theorem dX5_count_241 : decode cX5_count 241 = .ok (.invokevirtual 230, 3) := by decide +kernel
theorem dX5_count_244 : decode cX5_count 244 = .ok (.ireturn, 1) := by decide +kernel
theorem dX5_count_245 : decode cX5_count 245 = .ok (.aload_n 0, 1) := by decide +kernel
theorem dX5_count_246 : decode cX5_count 246 = .ok (.getfield 10, 3) := by decide +kernel
theorem dX5_count_249 : decode cX5_count 249 = .ok (.invokevirtual 233, 3) := by decide +kernel
theorem dX5_count_252 : decode cX5_count 252 = .ok (.ireturn, 1) := by decide +kernel
theorem dX5_count_253 : decode cX5_count 253 = .ok (.aload_n 0, 1) := by decide +kernel
theorem dX5_count_254 : decode cX5_count 254 = .ok (.getfield 10, 3) := by decide +kernel
theorem dX5_count_257 : decode cX5_count 257 = .ok (.getfield 236, 3) := by decide +kernel
theorem dX5_count_260 : decode cX5_count 260 = .ok (.ireturn, 1) := by decide +kernel
theorem dX5_count_261 : decode cX5_count 261 = .ok (.aload_n 0, 1) := by decide +kernel
theorem dX5_count_262 : decode cX5_count 262 = .ok (.getfield 10, 3) := by decide +kernel
theorem dX5_count_265 : decode cX5_count 265 = .ok (.getfield 70, 3) := by decide +kernel
theorem dX5_count_268 : decode cX5_count 268 = .ok (.invokevirtual 239, 3) := by decide +kernel
theorem dX5_count_271 : decode cX5_count 271 = .ok (.ireturn, 1) := by decide +kernel
theorem dX5_count_272 : decode cX5_count 272 = .ok (.aload_n 0, 1) := by decide +kernel
theorem dX5_count_273 : decode cX5_count 273 = .ok (.getfield 10, 3) := by decide +kernel
theorem dX5_count_276 : decode cX5_count 276 = .ok (.getfield 70, 3) := by decide +kernel
theorem dX5_count_279 : decode cX5_count 279 = .ok (.invokevirtual 242, 3) := by decide +kernel
theorem dX5_count_282 : decode cX5_count 282 = .ok (.ireturn, 1) := by decide +kernel
theorem dX5_count_283 : decode cX5_count 283 = .ok (.aload_n 0, 1) := by decide +kernel
theorem dX5_count_284 : decode cX5_count 284 = .ok (.getfield 10, 3) := by decide +kernel
theorem dX5_count_287 : decode cX5_count 287 = .ok (.getfield 70, 3) := by decide +kernel
theorem dX5_count_290 : decode cX5_count 290 = .ok (.invokevirtual 194, 3) := by decide +kernel
theorem dX5_count_293 : decode cX5_count 293 = .ok (.ireturn, 1) := by decide +kernel
theorem dX5_count_294 : decode cX5_count 294 = .ok (.aload_n 0, 1) := by decide +kernel
theorem dX5_count_295 : decode cX5_count 295 = .ok (.getfield 10, 3) := by decide +kernel
theorem dX5_count_298 : decode cX5_count 298 = .ok (.getfield 70, 3) := by decide +kernel
theorem dX5_count_301 : decode cX5_count 301 = .ok (.invokevirtual 245, 3) := by decide +kernel
theorem dX5_count_304 : decode cX5_count 304 = .ok (.ireturn, 1) := by decide +kernel
theorem dX5_count_305 : decode cX5_count 305 = .ok (.aload_n 0, 1) := by decide +kernel
theorem dX5_count_306 : decode cX5_count 306 = .ok (.getfield 10, 3) := by decide +kernel
theorem dX5_count_309 : decode cX5_count 309 = .ok (.getfield 70, 3) := by decide +kernel
theorem dX5_count_312 : decode cX5_count 312 = .ok (.invokevirtual 248, 3) := by decide +kernel
theorem dX5_count_315 : decode cX5_count 315 = .ok (.ireturn, 1) := by decide +kernel
theorem dX5_count_316 : decode cX5_count 316 = .ok (.aload_n 0, 1) := by decide +kernel
theorem dX5_count_317 : decode cX5_count 317 = .ok (.getfield 25, 3) := by decide +kernel
theorem dX5_count_320 : decode cX5_count 320 = .ok (.getfield 103, 3) := by decide +kernel
theorem dX5_count_323 : decode cX5_count 323 = .ok (.ireturn, 1) := by decide +kernel
theorem dX5_count_324 : decode cX5_count 324 = .ok (.aload_n 0, 1) := by decide +kernel
theorem dX5_count_325 : decode cX5_count 325 = .ok (.getfield 32, 3) := by decide +kernel
theorem dX5_count_328 : decode cX5_count 328 = .ok (.getfield 83, 3) := by decide +kernel
theorem dX5_count_331 : decode cX5_count 331 = .ok (.ireturn, 1) := by decide +kernel
theorem dX5_count_332 : decode cX5_count 332 = .ok (.bipush (-2), 2) := by decide +kernel
theorem dX5_count_334 : decode cX5_count 334 = .ok (.ireturn, 1) := by decide +kernel
theorem dX5_startAct_0 : decode cX5_startAct 0 = .ok (.aload_n 0, 1) := by decide +kernel
theorem dX5_startAct_1 : decode cX5_startAct 1 = .ok (.getfield 16, 3) := by decide +kernel
theorem dX5_startAct_4 : decode cX5_startAct 4 = .ok (.aload_n 0, 1) := by decide +kernel
theorem dX5_startAct_5 : decode cX5_startAct 5 = .ok (.getfield 10, 3) := by decide +kernel
theorem dX5_startAct_8 : decode cX5_startAct 8 = .ok (.invokevirtual 110, 3) := by decide +kernel
theorem dX5_startAct_11 : decode cX5_startAct 11 = .ok (.return_, 1) := by decide +kernel
theorem dX5_endAct_0 : decode cX5_endAct 0 = .ok (.iload_n 1, 1) := by decide +kernel
theorem dX5_endAct_1 : decode cX5_endAct 1 = .ok (.ifCond .lt 21, 3) := by decide +kernel
theorem dX5_endAct_4 : decode cX5_endAct 4 = .ok (.aload_n 0, 1) := by decide +kernel
theorem dX5_endAct_5 : decode cX5_endAct 5 = .ok (.aload_n 0, 1) := by decide +kernel
theorem dX5_endAct_6 : decode cX5_endAct 6 = .ok (.getfield 25, 3) := by decide +kernel
theorem dX5_endAct_9 : decode cX5_endAct 9 = .ok (.aload_n 0, 1) := by decide +kernel
theorem dX5_endAct_10 : decode cX5_endAct 10 = .ok (.getfield 16, 3) := by decide +kernel
theorem dX5_endAct_13 : decode cX5_endAct 13 = .ok (.invokevirtual 251, 3) := by decide +kernel
theorem dX5_endAct_16 : decode cX5_endAct 16 = .ok (.putfield 16, 3) := by decide +kernel
theorem dX5_endAct_19 : decode cX5_endAct 19 = .ok (.goto 21, 3) := by decide +kernel
theorem dX5_endAct_22 : decode cX5_endAct 22 = .ok (.aload_n 0, 1) := by decide +kernel
theorem dX5_endAct_23 : decode cX5_endAct 23 = .ok (.getfield 16, 3) := by decide +kernel
theorem dX5_endAct_26 : decode cX5_endAct 26 = .ok (.astore_n 2, 1) := by decide +kernel
theorem dX5_endAct_27 : decode cX5_endAct 27 = .ok (.aload_n 0, 1) := by decide +kernel
theorem dX5_endAct_28 : decode cX5_endAct 28 = .ok (.aload_n 0, 1) := by decide +kernel
theorem dX5_endAct_29 : decode cX5_endAct 29 = .ok (.getfield 10, 3) := by decide +kernel
theorem dX5_endAct_32 : decode cX5_endAct 32 = .ok (.putfield 16, 3) := by decide +kernel
theorem dX5_endAct_35 : decode cX5_endAct 35 = .ok (.aload_n 0, 1) := by decide +kernel
theorem dX5_endAct_36 : decode cX5_endAct 36 = .ok (.aload_n 2, 1) := by decide +kernel
theorem dX5_endAct_37 : decode cX5_endAct 37 = .ok (.putfield 10, 3) := by decide +kernel
theorem dX5_endAct_40 : decode cX5_endAct 40 = .ok (.iload_n 1, 1) := by decide +kernel
theorem dX5_endAct_41 : decode cX5_endAct 41 = .ok (.ireturn, 1) := by decide +kernel
theorem dX5_doAllThings_0 : decode cX5_doAllThings 0 = .ok (.iconst 0, 1) := by decide +kernel
theorem dX5_doAllThings_1 : decode cX5_doAllThings 1 = .ok (.istore_n 1, 1) := by decide +kernel
theorem dX5_doAllThings_2 : decode cX5_doAllThings 2 = .ok (.aload_n 0, 1) := by decide +kernel
theorem dX5_doAllThings_3 : decode cX5_doAllThings 3 = .ok (.getfield 32, 3) := by decide +kernel
theorem dX5_doAllThings_6 : decode cX5_doAllThings 6 = .ok (.invokevirtual 253, 3) := by decide +kernel
theorem dX5_doAllThings_9 : decode cX5_doAllThings 9 = .ok (.iload_n 1, 1) := by decide +kernel
theorem dX5_doAllThings_10 : decode cX5_doAllThings 10 = .ok (.bipush 60, 2) := by decide +kernel
theorem dX5_doAllThings_12 : decode cX5_doAllThings 12 = .ok (.if_icmp .ge 62, 3) := by decide +kernel
theorem dX5_doAllThings_15 : decode cX5_doAllThings 15 = .ok (.aload_n 0, 1) := by decide +kernel
theorem dX5_doAllThings_16 : decode cX5_doAllThings 16 = .ok (.getfield 32, 3) := by decide +kernel
theorem dX5_doAllThings_19 : decode cX5_doAllThings 19 = .ok (.invokevirtual 256, 3) := by decide +kernel
theorem dX5_doAllThings_22 : decode cX5_doAllThings 22 = .ok (.ifCond .eq 52, 3) := by decide +kernel
theorem dX5_doAllThings_25 : decode cX5_doAllThings 25 = .ok (.aload_n 0, 1) := by decide +kernel
theorem dX5_doAllThings_26 : decode cX5_doAllThings 26 = .ok (.invokevirtual 259, 3) := by decide +kernel
theorem dX5_doAllThings_29 : decode cX5_doAllThings 29 = .ok (.istore_n 2, 1) := by decide +kernel
theorem dX5_doAllThings_30 : decode cX5_doAllThings 30 = .ok (.iload_n 2, 1) := by decide +kernel
theorem dX5_doAllThings_31 : decode cX5_doAllThings 31 = .ok (.ifCond .ge 27, 3) := by decide +kernel
theorem dX5_doAllThings_34 : decode cX5_doAllThings 34 = .ok (.iload_n 2, 1) := by decide +kernel
theorem dX5_doAllThings_35 : decode cX5_doAllThings 35 = .ok (.bipush (-5), 2) := by decide +kernel
theorem dX5_doAllThings_37 : decode cX5_doAllThings 37 = .ok (.if_icmp .eq 21, 3) := by decide +kernel
theorem dX5_doAllThings_40 : decode cX5_doAllThings 40 = .ok (.aload_n 0, 1) := by decide +kernel
theorem dX5_doAllThings_41 : decode cX5_doAllThings 41 = .ok (.iconst 1, 1) := by decide +kernel
theorem dX5_doAllThings_42 : decode cX5_doAllThings 42 = .ok (.putfield 93, 3) := by decide +kernel
theorem dX5_doAllThings_45 : decode cX5_doAllThings 45 = .ok (.aload_n 0, 1) := by decide +kernel
theorem dX5_doAllThings_46 : decode cX5_doAllThings 46 = .ok (.iload_n 1, 1) := by decide +kernel
theorem dX5_doAllThings_47 : decode cX5_doAllThings 47 = .ok (.putfield 97, 3) := by decide +kernel
theorem dX5_doAllThings_50 : decode cX5_doAllThings 50 = .ok (.aload_n 0, 1) := by decide +kernel
theorem dX5_doAllThings_51 : decode cX5_doAllThings 51 = .ok (.iload_n 2, 1) := by decide +kernel
theorem dX5_doAllThings_52 : decode cX5_doAllThings 52 = .ok (.putfield 100, 3) := by decide +kernel
theorem dX5_doAllThings_55 : decode cX5_doAllThings 55 = .ok (.bipush (-4), 2) := by decide +kernel
theorem dX5_doAllThings_57 : decode cX5_doAllThings 57 = .ok (.ireturn, 1) := by decide +kernel
theorem dX5_doAllThings_58 : decode cX5_doAllThings 58 = .ok (.iinc 1 1, 3) := by decide +kernel
theorem dX5_doAllThings_61 : decode cX5_doAllThings 61 = .ok (.aload_n 0, 1) := by decide +kernel
theorem dX5_doAllThings_62 : decode cX5_doAllThings 62 = .ok (.getfield 32, 3) := by decide +kernel
theorem dX5_doAllThings_65 : decode cX5_doAllThings 65 = .ok (.bipush 59, 2) := by decide +kernel
theorem dX5_doAllThings_67 : decode cX5_doAllThings 67 = .ok (.invokevirtual 262, 3) := by decide +kernel
theorem dX5_doAllThings_70 : decode cX5_doAllThings 70 = .ok (.pop, 1) := by decide +kernel
theorem dX5_doAllThings_71 : decode cX5_doAllThings 71 = .ok (.goto (-62), 3) := by decide +kernel
theorem dX5_doAllThings_74 : decode cX5_doAllThings 74 = .ok (.iload_n 1, 1) := by decide +kernel
theorem dX5_doAllThings_75 : decode cX5_doAllThings 75 = .ok (.ireturn, 1) := by decide +kernel
theorem dX5_doThing_0 : decode cX5_doThing 0 = .ok (.aload_n 0, 1) := by decide +kernel
theorem dX5_doThing_1 : decode cX5_doThing 1 = .ok (.getfield 32, 3) := by decide +kernel
theorem dX5_doThing_4 : decode cX5_doThing 4 = .ok (.getfield 265, 3) := by decide +kernel
theorem dX5_doThing_7 : decode cX5_doThing 7 = .ok (.tableswitch 146 0 3 #[29, 65, 87, 138], 29) := by decide +kernel
theorem dX5_doThing_36 : decode cX5_doThing 36 = .ok (.aload_n 0, 1) := by decide +kernel
theorem dX5_doThing_37 : decode cX5_doThing 37 = .ok (.getfield 10, 3) := by decide +kernel
theorem dX5_doThing_40 : decode cX5_doThing 40 = .ok (.aload_n 0, 1) := by decide +kernel
theorem dX5_doThing_41 : decode cX5_doThing 41 = .ok (.getfield 32, 3) := by decide +kernel
theorem dX5_doThing_44 : decode cX5_doThing 44 = .ok (.getfield 268, 3) := by decide +kernel
theorem dX5_doThing_47 : decode cX5_doThing 47 = .ok (.aload_n 0, 1) := by decide +kernel
theorem dX5_doThing_48 : decode cX5_doThing 48 = .ok (.getfield 32, 3) := by decide +kernel
theorem dX5_doThing_51 : decode cX5_doThing 51 = .ok (.getfield 269, 3) := by decide +kernel
theorem dX5_doThing_54 : decode cX5_doThing 54 = .ok (.aload_n 0, 1) := by decide +kernel
theorem dX5_doThing_55 : decode cX5_doThing 55 = .ok (.getfield 32, 3) := by decide +kernel
theorem dX5_doThing_58 : decode cX5_doThing 58 = .ok (.getfield 272, 3) := by decide +kernel
theorem dX5_doThing_61 : decode cX5_doThing 61 = .ok (.aload_n 0, 1) := by decide +kernel
theorem dX5_doThing_62 : decode cX5_doThing 62 = .ok (.getfield 32, 3) := by decide +kernel
theorem dX5_doThing_65 : decode cX5_doThing 65 = .ok (.getfield 275, 3) := by decide +kernel
theorem dX5_doThing_68 : decode cX5_doThing 68 = .ok (.invokevirtual 39, 3) := by decide +kernel
theorem dX5_doThing_71 : decode cX5_doThing 71 = .ok (.ireturn, 1) := by decide +kernel
theorem dX5_doThing_72 : decode cX5_doThing 72 = .ok (.aload_n 0, 1) := by decide +kernel
theorem dX5_doThing_73 : decode cX5_doThing 73 = .ok (.getfield 10, 3) := by decide +kernel
theorem dX5_doThing_76 : decode cX5_doThing 76 = .ok (.aload_n 0, 1) := by decide +kernel
theorem dX5_doThing_77 : decode cX5_doThing 77 = .ok (.getfield 32, 3) := by decide +kernel
theorem dX5_doThing_80 : decode cX5_doThing 80 = .ok (.getfield 268, 3) := by decide +kernel
theorem dX5_doThing_83 : decode cX5_doThing 83 = .ok (.aload_n 0, 1) := by decide +kernel
theorem dX5_doThing_84 : decode cX5_doThing 84 = .ok (.getfield 32, 3) := by decide +kernel
theorem dX5_doThing_87 : decode cX5_doThing 87 = .ok (.getfield 269, 3) := by decide +kernel
theorem dX5_doThing_90 : decode cX5_doThing 90 = .ok (.invokevirtual 47, 3) := by decide +kernel
theorem dX5_doThing_93 : decode cX5_doThing 93 = .ok (.ireturn, 1) := by decide +kernel
theorem dX5_doThing_94 : decode cX5_doThing 94 = .ok (.aload_n 0, 1) := by decide +kernel
theorem dX5_doThing_95 : decode cX5_doThing 95 = .ok (.getfield 10, 3) := by decide +kernel
theorem dX5_doThing_98 : decode cX5_doThing 98 = .ok (.aload_n 0, 1) := by decide +kernel
theorem dX5_doThing_99 : decode cX5_doThing 99 = .ok (.getfield 32, 3) := by decide +kernel
theorem dX5_doThing_102 : decode cX5_doThing 102 = .ok (.getfield 278, 3) := by decide +kernel
theorem dX5_doThing_105 : decode cX5_doThing 105 = .ok (.aload_n 0, 1) := by decide +kernel
theorem dX5_doThing_106 : decode cX5_doThing 106 = .ok (.getfield 32, 3) := by decide +kernel
theorem dX5_doThing_109 : decode cX5_doThing 109 = .ok (.getfield 268, 3) := by decide +kernel
theorem dX5_doThing_112 : decode cX5_doThing 112 = .ok (.invokevirtual 281, 3) := by decide +kernel
theorem dX5_doThing_115 : decode cX5_doThing 115 = .ok (.ifCond .eq 8, 3) := by decide +kernel
theorem dX5_doThing_118 : decode cX5_doThing 118 = .ok (.bipush (-4), 2) := by decide +kernel
theorem dX5_doThing_120 : decode cX5_doThing 120 = .ok (.goto 24, 3) := by decide +kernel
theorem dX5_doThing_123 : decode cX5_doThing 123 = .ok (.aload_n 0, 1) := by decide +kernel
theorem dX5_doThing_124 : decode cX5_doThing 124 = .ok (.getfield 10, 3) := by decide +kernel
theorem dX5_doThing_127 : decode cX5_doThing 127 = .ok (.aload_n 0, 1) := by decide +kernel
theorem dX5_doThing_128 : decode cX5_doThing 128 = .ok (.getfield 32, 3) := by decide +kernel
theorem dX5_doThing_131 : decode cX5_doThing 131 = .ok (.getfield 278, 3) := by decide +kernel
theorem dX5_doThing_134 : decode cX5_doThing 134 = .ok (.aload_n 0, 1) := by decide +kernel
theorem dX5_doThing_135 : decode cX5_doThing 135 = .ok (.getfield 32, 3) := by decide +kernel
theorem dX5_doThing_138 : decode cX5_doThing 138 = .ok (.getfield 269, 3) := by decide +kernel
theorem dX5_doThing_141 : decode cX5_doThing 141 = .ok (.invokevirtual 51, 3) := by decide +kernel
theorem dX5_doThing_144 : decode cX5_doThing 144 = .ok (.ireturn, 1) := by decide +kernel
theorem dX5_doThing_145 : decode cX5_doThing 145 = .ok (.aload_n 0, 1) := by decide +kernel
theorem dX5_doThing_146 : decode cX5_doThing 146 = .ok (.getfield 10, 3) := by decide +kernel
theorem dX5_doThing_149 : decode cX5_doThing 149 = .ok (.invokevirtual 60, 3) := by decide +kernel
theorem dX5_doThing_152 : decode cX5_doThing 152 = .ok (.ireturn, 1) := by decide +kernel
theorem dX5_doThing_153 : decode cX5_doThing 153 = .ok (.aload_n 0, 1) := by decide +kernel
theorem dX5_doThing_154 : decode cX5_doThing 154 = .ok (.getfield 10, 3) := by decide +kernel
theorem dX5_doThing_157 : decode cX5_doThing 157 = .ok (.aload_n 0, 1) := by decide +kernel
theorem dX5_doThing_158 : decode cX5_doThing 158 = .ok (.getfield 32, 3) := by decide +kernel
theorem dX5_doThing_161 : decode cX5_doThing 161 = .ok (.getfield 275, 3) := by decide +kernel
theorem dX5_doThing_164 : decode cX5_doThing 164 = .ok (.invokevirtual 57, 3) := by decide +kernel
theorem dX5_doThing_167 : decode cX5_doThing 167 = .ok (.ireturn, 1) := by decide +kernel
theorem dX5_isCustomer_0 : decode cX5_isCustomer 0 = .ok (.iload_n 0, 1) := by decide +kernel
theorem dX5_isCustomer_1 : decode cX5_isCustomer 1 = .ok (.ifCond .lt 13, 3) := by decide +kernel
theorem dX5_isCustomer_4 : decode cX5_isCustomer 4 = .ok (.iload_n 0, 1) := by decide +kernel
theorem dX5_isCustomer_5 : decode cX5_isCustomer 5 = .ok (.bipush 8, 2) := by decide +kernel
theorem dX5_isCustomer_7 : decode cX5_isCustomer 7 = .ok (.if_icmp .ge 7, 3) := by decide +kernel
theorem dX5_isCustomer_10 : decode cX5_isCustomer 10 = .ok (.iconst 1, 1) := by decide +kernel
theorem dX5_isCustomer_11 : decode cX5_isCustomer 11 = .ok (.goto 4, 3) := by decide +kernel
theorem dX5_isCustomer_14 : decode cX5_isCustomer 14 = .ok (.iconst 0, 1) := by decide +kernel
theorem dX5_isCustomer_15 : decode cX5_isCustomer 15 = .ok (.ireturn, 1) := by decide +kernel
theorem dX5_isYear_0 : decode cX5_isYear 0 = .ok (.iload_n 0, 1) := by decide +kernel
theorem dX5_isYear_1 : decode cX5_isYear 1 = .ok (.ifCond .lt 13, 3) := by decide +kernel
theorem dX5_isYear_4 : decode cX5_isYear 4 = .ok (.iload_n 0, 1) := by decide +kernel
theorem dX5_isYear_5 : decode cX5_isYear 5 = .ok (.bipush 100, 2) := by decide +kernel
theorem dX5_isYear_7 : decode cX5_isYear 7 = .ok (.if_icmp .ge 7, 3) := by decide +kernel
theorem dX5_isYear_10 : decode cX5_isYear 10 = .ok (.iconst 1, 1) := by decide +kernel
theorem dX5_isYear_11 : decode cX5_isYear 11 = .ok (.goto 4, 3) := by decide +kernel
theorem dX5_isYear_14 : decode cX5_isYear 14 = .ok (.iconst 0, 1) := by decide +kernel
theorem dX5_isYear_15 : decode cX5_isYear 15 = .ok (.ireturn, 1) := by decide +kernel
theorem dX5_isAmount_0 : decode cX5_isAmount 0 = .ok (.iload_n 0, 1) := by decide +kernel
theorem dX5_isAmount_1 : decode cX5_isAmount 1 = .ok (.iconst 1, 1) := by decide +kernel
theorem dX5_isAmount_2 : decode cX5_isAmount 2 = .ok (.if_icmp .lt 14, 3) := by decide +kernel
theorem dX5_isAmount_5 : decode cX5_isAmount 5 = .ok (.iload_n 0, 1) := by decide +kernel
theorem dX5_isAmount_6 : decode cX5_isAmount 6 = .ok (.ldc_w 285, 3) := by decide +kernel
theorem dX5_isAmount_9 : decode cX5_isAmount 9 = .ok (.if_icmp .gt 7, 3) := by decide +kernel
theorem dX5_isAmount_12 : decode cX5_isAmount 12 = .ok (.iconst 1, 1) := by decide +kernel
theorem dX5_isAmount_13 : decode cX5_isAmount 13 = .ok (.goto 4, 3) := by decide +kernel
theorem dX5_isAmount_16 : decode cX5_isAmount 16 = .ok (.iconst 0, 1) := by decide +kernel
theorem dX5_isAmount_17 : decode cX5_isAmount 17 = .ok (.ireturn, 1) := by decide +kernel
end
section
def v_X5_isCustomer (p0 : Int32) : Int32 := if p0 < 0 then (0 : Int32) else if (8 : Int32) ≤ p0 then (0 : Int32) else (1 : Int32)
theorem q_X5_isCustomer : yX5_isCustomer.cls ≠ "java/lang/invoke/MethodHandle" ∧ yX5_isCustomer.cls ≠ "java/lang/invoke/VarHandle" ∧ (parseMethodDescriptor yX5_isCustomer.desc).map (fun d => d.parameters.length) = some 1 := ⟨by decide, by decide, by decide +kernel⟩
theorem z_X5_isCustomer (p0 : Int32) : narrow .boolean (.int (v_X5_isCustomer p0)) = .int (v_X5_isCustomer p0) := by
  unfold v_X5_isCustomer
  (repeat' split) <;> first | rfl
set_option maxHeartbeats 4000000 in
set_option maxRecDepth 100000 in
theorem c_X5_isCustomer (l : Launch) (G : kG) (P : Heap → Prop) (A : Nat → Prop) (p0 : Int32) : Met l yX5_isCustomer (Cond.code yX5_isCustomer cX5_isCustomer 1 (some .boolean) :: BIG) (rmK 0) (pcG G P [.int p0]) (qcI G A P (v_X5_isCustomer p0)) 0 0 A := by
  refine m_start (by decide) (Nat.le_of_ble_eq_true rfl) ?_
  intro p e s m args below meth c S hr hlk hnm hP hK ls hl
  have hx := S.1
  have hb := S.2.1
  have hown := S.2.2.2.1
  have hS : va_S A s.heap s.heap [] := va_S.rf
  have hl : lv_has ls 1 [(0, .int p0)] := hl
  refine lv_iload_n hx hb dX5_isCustomer_0 rfl (lv_at hl 0 rfl) ?_
  refine lv_if_lt (tgt := 14) hx hb dX5_isCustomer_1 (by decide) (fun c1 => ?_) (fun c1 => ?_)
  · skip
    refine lv_iconst (v := 0) hx hb dX5_isCustomer_14 (by decide) ?_
    exact e_int S hr hlk rfl hK hS hP (show v_X5_isCustomer p0 = (0 : Int32) from (if_pos c1).trans rfl).symm dX5_isCustomer_15
  · skip
    refine lv_iload_n hx hb dX5_isCustomer_4 rfl (lv_at hl 0 rfl) ?_
    refine lv_bipush (v := 8) hx hb dX5_isCustomer_5 (by decide) ?_
    refine lv_icmp_ge (tgt := 14) hx hb dX5_isCustomer_7 (by decide) (fun c2 => ?_) (fun c2 => ?_)
    · skip
      refine lv_iconst (v := 0) hx hb dX5_isCustomer_14 (by decide) ?_
      exact e_int S hr hlk rfl hK hS hP (show v_X5_isCustomer p0 = (0 : Int32) from (if_neg c1).trans ((if_pos c2).trans rfl)).symm dX5_isCustomer_15
    · skip
      refine lv_iconst (v := 1) hx hb dX5_isCustomer_10 (by decide) ?_
      refine lv_goto (tgt := 15) hx hb dX5_isCustomer_11 (by decide) ?_
      exact e_int S hr hlk rfl hK hS hP (show v_X5_isCustomer p0 = (1 : Int32) from (if_neg c1).trans ((if_neg c2).trans rfl)).symm dX5_isCustomer_15

def v_X5_isYear (p0 : Int32) : Int32 := if p0 < 0 then (0 : Int32) else if (100 : Int32) ≤ p0 then (0 : Int32) else (1 : Int32)
theorem q_X5_isYear : yX5_isYear.cls ≠ "java/lang/invoke/MethodHandle" ∧ yX5_isYear.cls ≠ "java/lang/invoke/VarHandle" ∧ (parseMethodDescriptor yX5_isYear.desc).map (fun d => d.parameters.length) = some 1 := ⟨by decide, by decide, by decide +kernel⟩
theorem z_X5_isYear (p0 : Int32) : narrow .boolean (.int (v_X5_isYear p0)) = .int (v_X5_isYear p0) := by
  unfold v_X5_isYear
  (repeat' split) <;> first | rfl
set_option maxHeartbeats 4000000 in
set_option maxRecDepth 100000 in
theorem c_X5_isYear (l : Launch) (G : kG) (P : Heap → Prop) (A : Nat → Prop) (p0 : Int32) : Met l yX5_isYear (Cond.code yX5_isYear cX5_isYear 1 (some .boolean) :: BIG) (rmK 0) (pcG G P [.int p0]) (qcI G A P (v_X5_isYear p0)) 0 0 A := by
  refine m_start (by decide) (Nat.le_of_ble_eq_true rfl) ?_
  intro p e s m args below meth c S hr hlk hnm hP hK ls hl
  have hx := S.1
  have hb := S.2.1
  have hown := S.2.2.2.1
  have hS : va_S A s.heap s.heap [] := va_S.rf
  have hl : lv_has ls 1 [(0, .int p0)] := hl
  refine lv_iload_n hx hb dX5_isYear_0 rfl (lv_at hl 0 rfl) ?_
  refine lv_if_lt (tgt := 14) hx hb dX5_isYear_1 (by decide) (fun c1 => ?_) (fun c1 => ?_)
  · skip
    refine lv_iconst (v := 0) hx hb dX5_isYear_14 (by decide) ?_
    exact e_int S hr hlk rfl hK hS hP (show v_X5_isYear p0 = (0 : Int32) from (if_pos c1).trans rfl).symm dX5_isYear_15
  · skip
    refine lv_iload_n hx hb dX5_isYear_4 rfl (lv_at hl 0 rfl) ?_
    refine lv_bipush (v := 100) hx hb dX5_isYear_5 (by decide) ?_
    refine lv_icmp_ge (tgt := 14) hx hb dX5_isYear_7 (by decide) (fun c2 => ?_) (fun c2 => ?_)
    · skip
      refine lv_iconst (v := 0) hx hb dX5_isYear_14 (by decide) ?_
      exact e_int S hr hlk rfl hK hS hP (show v_X5_isYear p0 = (0 : Int32) from (if_neg c1).trans ((if_pos c2).trans rfl)).symm dX5_isYear_15
    · skip
      refine lv_iconst (v := 1) hx hb dX5_isYear_10 (by decide) ?_
      refine lv_goto (tgt := 15) hx hb dX5_isYear_11 (by decide) ?_
      exact e_int S hr hlk rfl hK hS hP (show v_X5_isYear p0 = (1 : Int32) from (if_neg c1).trans ((if_neg c2).trans rfl)).symm dX5_isYear_15

def v_X5_isAmount (p0 : Int32) : Int32 := if p0 < (1 : Int32) then (0 : Int32) else if (99999 : Int32) < p0 then (0 : Int32) else (1 : Int32)
theorem q_X5_isAmount : yX5_isAmount.cls ≠ "java/lang/invoke/MethodHandle" ∧ yX5_isAmount.cls ≠ "java/lang/invoke/VarHandle" ∧ (parseMethodDescriptor yX5_isAmount.desc).map (fun d => d.parameters.length) = some 1 := ⟨by decide, by decide, by decide +kernel⟩
theorem z_X5_isAmount (p0 : Int32) : narrow .boolean (.int (v_X5_isAmount p0)) = .int (v_X5_isAmount p0) := by
  unfold v_X5_isAmount
  (repeat' split) <;> first | rfl
set_option maxHeartbeats 4000000 in
set_option maxRecDepth 100000 in
theorem c_X5_isAmount (l : Launch) (G : kG) (P : Heap → Prop) (A : Nat → Prop) (p0 : Int32) : Met l yX5_isAmount (Cond.code yX5_isAmount cX5_isAmount 1 (some .boolean) :: BIG) (rmK 0) (pcG G P [.int p0]) (qcI G A P (v_X5_isAmount p0)) 0 0 A := by
  refine m_start (by decide) (Nat.le_of_ble_eq_true rfl) ?_
  intro p e s m args below meth c S hr hlk hnm hP hK ls hl
  have hx := S.1
  have hb := S.2.1
  have hown := S.2.2.2.1
  have hS : va_S A s.heap s.heap [] := va_S.rf
  have hl : lv_has ls 1 [(0, .int p0)] := hl
  refine lv_iload_n hx hb dX5_isAmount_0 rfl (lv_at hl 0 rfl) ?_
  refine lv_iconst (v := 1) hx hb dX5_isAmount_1 (by decide) ?_
  refine lv_icmp_lt (tgt := 16) hx hb dX5_isAmount_2 (by decide) (fun c1 => ?_) (fun c1 => ?_)
  · skip
    refine lv_iconst (v := 0) hx hb dX5_isAmount_16 (by decide) ?_
    exact e_int S hr hlk rfl hK hS hP (show v_X5_isAmount p0 = (0 : Int32) from (if_pos c1).trans rfl).symm dX5_isAmount_17
  · skip
    refine lv_iload_n hx hb dX5_isAmount_5 rfl (lv_at hl 0 rfl) ?_
    refine lv_ldcw hx hb hown (S.2.2.2.2 _ k_257) dX5_isAmount_6 ?_
    refine lv_icmp_gt (tgt := 16) hx hb dX5_isAmount_9 (by decide) (fun c2 => ?_) (fun c2 => ?_)
    · skip
      refine lv_iconst (v := 0) hx hb dX5_isAmount_16 (by decide) ?_
      exact e_int S hr hlk rfl hK hS hP (show v_X5_isAmount p0 = (0 : Int32) from (if_neg c1).trans ((if_pos c2).trans rfl)).symm dX5_isAmount_17
    · skip
      refine lv_iconst (v := 1) hx hb dX5_isAmount_12 (by decide) ?_
      refine lv_goto (tgt := 17) hx hb dX5_isAmount_13 (by decide) ?_
      exact e_int S hr hlk rfl hK hS hP (show v_X5_isAmount p0 = (1 : Int32) from (if_neg c1).trans ((if_neg c2).trans rfl)).symm dX5_isAmount_17

theorem vp_X5_isCustomer {x : Int32} {n : Nat} (h : ¬ v_X5_isCustomer x = 0) (hn : 8 ≤ n) : vp_in x n := by
  unfold v_X5_isCustomer at h
  by_cases h1 : x < 0
  · exact absurd (if_pos h1) h
  · rw [if_neg h1] at h
    by_cases h2 : (8 : Int32) ≤ x
    · exact absurd (if_pos h2) h
    · exact vp_of (vp_lo1 h1) (vp_hi1 (n := 8) h2 rfl hn)
theorem vp_X5_isYear {x : Int32} {n : Nat} (h : ¬ v_X5_isYear x = 0) (hn : 100 ≤ n) : vp_in x n := by
  unfold v_X5_isYear at h
  by_cases h1 : x < 0
  · exact absurd (if_pos h1) h
  · rw [if_neg h1] at h
    by_cases h2 : (100 : Int32) ≤ x
    · exact absurd (if_pos h2) h
    · exact vp_of (vp_lo1 h1) (vp_hi1 (n := 100) h2 rfl hn)

def v_X0_is (b : Nat → Nat → Int32) (j : Nat) (p1 : Int32) (p2 : Int32) : Int32 := if b (j + 7) 0 = (-1 : Int32) then (0 : Int32) else if p1 = (-9 : Int32) then (if p2 = (-9 : Int32) then (1 : Int32) else if p2 = b (j + 7) 0 then (1 : Int32) else (0 : Int32)) else if p1 = b (j + 7) 1 then (if p2 = (-9 : Int32) then (1 : Int32) else if p2 = b (j + 7) 0 then (1 : Int32) else (0 : Int32)) else (0 : Int32)
theorem q_X0_is : yX0_is.cls ≠ "java/lang/invoke/MethodHandle" ∧ yX0_is.cls ≠ "java/lang/invoke/VarHandle" ∧ (parseMethodDescriptor yX0_is.desc).map (fun d => d.parameters.length) = some 2 := ⟨by decide, by decide, by decide +kernel⟩
theorem z_X0_is (b : Nat → Nat → Int32) (j : Nat) (p1 : Int32) (p2 : Int32) : narrow .boolean (.int (v_X0_is b j p1 p2)) = .int (v_X0_is b j p1 p2) := by
  unfold v_X0_is
  (repeat' split) <;> first | rfl
set_option maxHeartbeats 4000000 in
set_option maxRecDepth 100000 in
theorem c_X0_is (l : Launch) (G : kG) (a : Nat → Nat) (hI : gI 47 a) (b : Nat → Nat → Int32) (j : Nat) (hj : j < 40) (p1 : Int32) (p2 : Int32) : Met l yX0_is (Cond.code yX0_is cX0_is 3 (some .boolean) :: BIG) (rmK 0) (pcG G (bP G a b) [.ref (a (j + 7)), .int p1, .int p2]) (qcI G (gA 47 a) (bP G a b) (v_X0_is b j p1 p2)) 0 0 (gA 47 a) := by
  refine m_start (by decide) (Nat.le_of_ble_eq_true rfl) ?_
  intro p e s m args below meth c S hr hlk hnm hP hK ls hl
  have hx := S.1
  have hb := S.2.1
  have hown := S.2.2.2.1
  have hS : va_S (gA 47 a) s.heap s.heap [] := va_S.rf
  have hl : lv_has ls 3 [(0, .ref (a (j + 7))), (1, .int p1), (2, .int p2)] := hl
  refine lv_aload_n hx hb dX0_is_0 rfl (lv_at hl 0 rfl) ?_
  refine g_get S hK hP (i := j + 7) (by omega) bC7 rfl inlX0 0 (by decide) k_49 (v := .int (b (j + 7) 0)) rfl dX0_is_1 ?_
  refine lv_iconst (v := -1) hx hb dX0_is_4 (by decide) ?_
  refine lv_icmp_eq (tgt := 40) hx hb dX0_is_5 (by decide) (fun c1 => ?_) (fun c1 => ?_)
  · skip
    refine lv_iconst (v := 0) hx hb dX0_is_40 (by decide) ?_
    exact e_int S hr hlk rfl hK hS hP (show v_X0_is b j p1 p2 = (0 : Int32) from (if_pos c1).trans rfl).symm dX0_is_41
  · skip
    refine lv_iload_n hx hb dX0_is_8 rfl (lv_at hl 1 rfl) ?_
    refine lv_bipush (v := -9) hx hb dX0_is_9 (by decide) ?_
    refine lv_icmp_eq (tgt := 22) hx hb dX0_is_11 (by decide) (fun c2 => ?_) (fun c2 => ?_)
    · skip
      refine lv_iload_n hx hb dX0_is_22 rfl (lv_at hl 2 rfl) ?_
      refine lv_bipush (v := -9) hx hb dX0_is_23 (by decide) ?_
      refine lv_icmp_eq (tgt := 36) hx hb dX0_is_25 (by decide) (fun c3 => ?_) (fun c3 => ?_)
      · skip
        refine lv_iconst (v := 1) hx hb dX0_is_36 (by decide) ?_
        refine lv_goto (tgt := 41) hx hb dX0_is_37 (by decide) ?_
        exact e_int S hr hlk rfl hK hS hP (show v_X0_is b j p1 p2 = (1 : Int32) from (if_neg c1).trans ((if_pos c2).trans ((if_pos c3).trans rfl))).symm dX0_is_41
      · skip
        refine lv_iload_n hx hb dX0_is_28 rfl (lv_at hl 2 rfl) ?_
        refine lv_aload_n hx hb dX0_is_29 rfl (lv_at hl 0 rfl) ?_
        refine g_get S hK hP (i := j + 7) (by omega) bC7 rfl inlX0 0 (by decide) k_49 (v := .int (b (j + 7) 0)) rfl dX0_is_30 ?_
        refine lv_icmp_ne (tgt := 40) hx hb dX0_is_33 (by decide) (fun c4 => ?_) (fun c4 => ?_)
        · skip
          refine lv_iconst (v := 0) hx hb dX0_is_40 (by decide) ?_
          exact e_int S hr hlk rfl hK hS hP (show v_X0_is b j p1 p2 = (0 : Int32) from (if_neg c1).trans ((if_pos c2).trans ((if_neg c3).trans ((if_neg c4).trans rfl)))).symm dX0_is_41
        · skip
          refine lv_iconst (v := 1) hx hb dX0_is_36 (by decide) ?_
          refine lv_goto (tgt := 41) hx hb dX0_is_37 (by decide) ?_
          exact e_int S hr hlk rfl hK hS hP (show v_X0_is b j p1 p2 = (1 : Int32) from (if_neg c1).trans ((if_pos c2).trans ((if_neg c3).trans ((if_pos c4).trans rfl)))).symm dX0_is_41
    · skip
      refine lv_iload_n hx hb dX0_is_14 rfl (lv_at hl 1 rfl) ?_
      refine lv_aload_n hx hb dX0_is_15 rfl (lv_at hl 0 rfl) ?_
      refine g_get S hK hP (i := j + 7) (by omega) bC7 rfl inlX0 1 (by decide) k_99 (v := .int (b (j + 7) 1)) rfl dX0_is_16 ?_
      refine lv_icmp_ne (tgt := 40) hx hb dX0_is_19 (by decide) (fun c5 => ?_) (fun c5 => ?_)
      · skip
        refine lv_iconst (v := 0) hx hb dX0_is_40 (by decide) ?_
        exact e_int S hr hlk rfl hK hS hP (show v_X0_is b j p1 p2 = (0 : Int32) from (if_neg c1).trans ((if_neg c2).trans ((if_neg c5).trans rfl))).symm dX0_is_41
      · skip
        refine lv_iload_n hx hb dX0_is_22 rfl (lv_at hl 2 rfl) ?_
        refine lv_bipush (v := -9) hx hb dX0_is_23 (by decide) ?_
        refine lv_icmp_eq (tgt := 36) hx hb dX0_is_25 (by decide) (fun c6 => ?_) (fun c6 => ?_)
        · skip
          refine lv_iconst (v := 1) hx hb dX0_is_36 (by decide) ?_
          refine lv_goto (tgt := 41) hx hb dX0_is_37 (by decide) ?_
          exact e_int S hr hlk rfl hK hS hP (show v_X0_is b j p1 p2 = (1 : Int32) from (if_neg c1).trans ((if_neg c2).trans ((if_pos c5).trans ((if_pos c6).trans rfl)))).symm dX0_is_41
        · skip
          refine lv_iload_n hx hb dX0_is_28 rfl (lv_at hl 2 rfl) ?_
          refine lv_aload_n hx hb dX0_is_29 rfl (lv_at hl 0 rfl) ?_
          refine g_get S hK hP (i := j + 7) (by omega) bC7 rfl inlX0 0 (by decide) k_49 (v := .int (b (j + 7) 0)) rfl dX0_is_30 ?_
          refine lv_icmp_ne (tgt := 40) hx hb dX0_is_33 (by decide) (fun c7 => ?_) (fun c7 => ?_)
          · skip
            refine lv_iconst (v := 0) hx hb dX0_is_40 (by decide) ?_
            exact e_int S hr hlk rfl hK hS hP (show v_X0_is b j p1 p2 = (0 : Int32) from (if_neg c1).trans ((if_neg c2).trans ((if_pos c5).trans ((if_neg c6).trans ((if_neg c7).trans rfl))))).symm dX0_is_41
          · skip
            refine lv_iconst (v := 1) hx hb dX0_is_36 (by decide) ?_
            refine lv_goto (tgt := 41) hx hb dX0_is_37 (by decide) ?_
            exact e_int S hr hlk rfl hK hS hP (show v_X0_is b j p1 p2 = (1 : Int32) from (if_neg c1).trans ((if_neg c2).trans ((if_pos c5).trans ((if_neg c6).trans ((if_pos c7).trans rfl))))).symm dX0_is_41

def v_X0_owed (b : Nat → Nat → Int32) (j : Nat) : Int32 := (((b (j + 7) 5) + (b (j + 7) 10)) - (b (j + 7) 8)) - (b (j + 7) 9)
theorem q_X0_owed : yX0_owed.cls ≠ "java/lang/invoke/MethodHandle" ∧ yX0_owed.cls ≠ "java/lang/invoke/VarHandle" ∧ (parseMethodDescriptor yX0_owed.desc).map (fun d => d.parameters.length) = some 0 := ⟨by decide, by decide, by decide +kernel⟩
set_option maxHeartbeats 4000000 in
set_option maxRecDepth 100000 in
theorem c_X0_owed (l : Launch) (G : kG) (a : Nat → Nat) (hI : gI 47 a) (b : Nat → Nat → Int32) (j : Nat) (hj : j < 40) : Met l yX0_owed (Cond.code yX0_owed cX0_owed 1 (some .int) :: BIG) (rmK 0) (pcG G (bP G a b) [.ref (a (j + 7))]) (qcI G (gA 47 a) (bP G a b) (v_X0_owed b j)) 0 0 (gA 47 a) := by
  refine m_start (by decide) (Nat.le_of_ble_eq_true rfl) ?_
  intro p e s m args below meth c S hr hlk hnm hP hK ls hl
  have hx := S.1
  have hb := S.2.1
  have hown := S.2.2.2.1
  have hS : va_S (gA 47 a) s.heap s.heap [] := va_S.rf
  have hl : lv_has ls 1 [(0, .ref (a (j + 7)))] := hl
  refine lv_aload_n hx hb dX0_owed_0 rfl (lv_at hl 0 rfl) ?_
  refine g_get S hK hP (i := j + 7) (by omega) bC7 rfl inlX0 5 (by decide) k_103 (v := .int (b (j + 7) 5)) rfl dX0_owed_1 ?_
  refine lv_aload_n hx hb dX0_owed_4 rfl (lv_at hl 0 rfl) ?_
  refine g_get S hK hP (i := j + 7) (by omega) bC7 rfl inlX0 10 (by decide) k_108 (v := .int (b (j + 7) 10)) rfl dX0_owed_5 ?_
  refine lv_iadd hx hb dX0_owed_8 ?_
  refine lv_aload_n hx hb dX0_owed_9 rfl (lv_at hl 0 rfl) ?_
  refine g_get S hK hP (i := j + 7) (by omega) bC7 rfl inlX0 8 (by decide) k_106 (v := .int (b (j + 7) 8)) rfl dX0_owed_10 ?_
  refine lv_isub hx hb dX0_owed_13 ?_
  refine lv_aload_n hx hb dX0_owed_14 rfl (lv_at hl 0 rfl) ?_
  refine g_get S hK hP (i := j + 7) (by omega) bC7 rfl inlX0 9 (by decide) k_107 (v := .int (b (j + 7) 9)) rfl dX0_owed_15 ?_
  refine lv_isub hx hb dX0_owed_18 ?_
  exact e_int S hr hlk rfl hK hS hP (show v_X0_owed b j = (((b (j + 7) 5) + (b (j + 7) 10)) - (b (j + 7) 8)) - (b (j + 7) 9) from rfl).symm dX0_owed_19

def v_X0_dueDay (b : Nat → Nat → Int32) (j : Nat) : Int32 := (b (j + 7) 6) + (b (j + 7) 7)
theorem q_X0_dueDay : yX0_dueDay.cls ≠ "java/lang/invoke/MethodHandle" ∧ yX0_dueDay.cls ≠ "java/lang/invoke/VarHandle" ∧ (parseMethodDescriptor yX0_dueDay.desc).map (fun d => d.parameters.length) = some 0 := ⟨by decide, by decide, by decide +kernel⟩
set_option maxHeartbeats 4000000 in
set_option maxRecDepth 100000 in
theorem c_X0_dueDay (l : Launch) (G : kG) (a : Nat → Nat) (hI : gI 47 a) (b : Nat → Nat → Int32) (j : Nat) (hj : j < 40) : Met l yX0_dueDay (Cond.code yX0_dueDay cX0_dueDay 1 (some .int) :: BIG) (rmK 0) (pcG G (bP G a b) [.ref (a (j + 7))]) (qcI G (gA 47 a) (bP G a b) (v_X0_dueDay b j)) 0 0 (gA 47 a) := by
  refine m_start (by decide) (Nat.le_of_ble_eq_true rfl) ?_
  intro p e s m args below meth c S hr hlk hnm hP hK ls hl
  have hx := S.1
  have hb := S.2.1
  have hown := S.2.2.2.1
  have hS : va_S (gA 47 a) s.heap s.heap [] := va_S.rf
  have hl : lv_has ls 1 [(0, .ref (a (j + 7)))] := hl
  refine lv_aload_n hx hb dX0_dueDay_0 rfl (lv_at hl 0 rfl) ?_
  refine g_get S hK hP (i := j + 7) (by omega) bC7 rfl inlX0 6 (by decide) k_104 (v := .int (b (j + 7) 6)) rfl dX0_dueDay_1 ?_
  refine lv_aload_n hx hb dX0_dueDay_4 rfl (lv_at hl 0 rfl) ?_
  refine g_get S hK hP (i := j + 7) (by omega) bC7 rfl inlX0 7 (by decide) k_105 (v := .int (b (j + 7) 7)) rfl dX0_dueDay_5 ?_
  refine lv_iadd hx hb dX0_dueDay_8 ?_
  exact e_int S hr hlk rfl hK hS hP (show v_X0_dueDay b j = (b (j + 7) 6) + (b (j + 7) 7) from rfl).symm dX0_dueDay_9

def v_X0_isOverdue (b : Nat → Nat → Int32) (j : Nat) (p1 : Int32) : Int32 := if b (j + 7) 0 = 0 then (if p1 - (b (j + 7) 6) ≤ b (j + 7) 7 then (0 : Int32) else (1 : Int32)) else (0 : Int32)
theorem q_X0_isOverdue : yX0_isOverdue.cls ≠ "java/lang/invoke/MethodHandle" ∧ yX0_isOverdue.cls ≠ "java/lang/invoke/VarHandle" ∧ (parseMethodDescriptor yX0_isOverdue.desc).map (fun d => d.parameters.length) = some 1 := ⟨by decide, by decide, by decide +kernel⟩
theorem z_X0_isOverdue (b : Nat → Nat → Int32) (j : Nat) (p1 : Int32) : narrow .boolean (.int (v_X0_isOverdue b j p1)) = .int (v_X0_isOverdue b j p1) := by
  unfold v_X0_isOverdue
  (repeat' split) <;> first | rfl
set_option maxHeartbeats 4000000 in
set_option maxRecDepth 100000 in
theorem c_X0_isOverdue (l : Launch) (G : kG) (a : Nat → Nat) (hI : gI 47 a) (b : Nat → Nat → Int32) (j : Nat) (hj : j < 40) (p1 : Int32) : Met l yX0_isOverdue (Cond.code yX0_isOverdue cX0_isOverdue 2 (some .boolean) :: BIG) (rmK 0) (pcG G (bP G a b) [.ref (a (j + 7)), .int p1]) (qcI G (gA 47 a) (bP G a b) (v_X0_isOverdue b j p1)) 0 0 (gA 47 a) := by
  refine m_start (by decide) (Nat.le_of_ble_eq_true rfl) ?_
  intro p e s m args below meth c S hr hlk hnm hP hK ls hl
  have hx := S.1
  have hb := S.2.1
  have hown := S.2.2.2.1
  have hS : va_S (gA 47 a) s.heap s.heap [] := va_S.rf
  have hl : lv_has ls 2 [(0, .ref (a (j + 7))), (1, .int p1)] := hl
  refine lv_aload_n hx hb dX0_isOverdue_0 rfl (lv_at hl 0 rfl) ?_
  refine g_get S hK hP (i := j + 7) (by omega) bC7 rfl inlX0 0 (by decide) k_49 (v := .int (b (j + 7) 0)) rfl dX0_isOverdue_1 ?_
  refine lv_if_ne (tgt := 24) hx hb dX0_isOverdue_4 (by decide) (fun c1 => ?_) (fun c1 => ?_)
  · skip
    refine lv_iconst (v := 0) hx hb dX0_isOverdue_24 (by decide) ?_
    exact e_int S hr hlk rfl hK hS hP (show v_X0_isOverdue b j p1 = (0 : Int32) from (if_neg c1).trans rfl).symm dX0_isOverdue_25
  · skip
    refine lv_iload_n hx hb dX0_isOverdue_7 rfl (lv_at hl 1 rfl) ?_
    refine lv_aload_n hx hb dX0_isOverdue_8 rfl (lv_at hl 0 rfl) ?_
    refine g_get S hK hP (i := j + 7) (by omega) bC7 rfl inlX0 6 (by decide) k_104 (v := .int (b (j + 7) 6)) rfl dX0_isOverdue_9 ?_
    refine lv_isub hx hb dX0_isOverdue_12 ?_
    refine lv_aload_n hx hb dX0_isOverdue_13 rfl (lv_at hl 0 rfl) ?_
    refine g_get S hK hP (i := j + 7) (by omega) bC7 rfl inlX0 7 (by decide) k_105 (v := .int (b (j + 7) 7)) rfl dX0_isOverdue_14 ?_
    refine lv_icmp_le (tgt := 24) hx hb dX0_isOverdue_17 (by decide) (fun c2 => ?_) (fun c2 => ?_)
    · skip
      refine lv_iconst (v := 0) hx hb dX0_isOverdue_24 (by decide) ?_
      exact e_int S hr hlk rfl hK hS hP (show v_X0_isOverdue b j p1 = (0 : Int32) from (if_pos c1).trans ((if_pos c2).trans rfl)).symm dX0_isOverdue_25
    · skip
      refine lv_iconst (v := 1) hx hb dX0_isOverdue_20 (by decide) ?_
      refine lv_goto (tgt := 25) hx hb dX0_isOverdue_21 (by decide) ?_
      exact e_int S hr hlk rfl hK hS hP (show v_X0_isOverdue b j p1 = (1 : Int32) from (if_pos c1).trans ((if_neg c2).trans rfl)).symm dX0_isOverdue_25

def v_X0_reminderDay (b : Nat → Nat → Int32) (j : Nat) (p1 : Int32) : Int32 := if b (j + 7) 11 = 0 then ((v_X0_dueDay b j) + p1) else (b (j + 7) 12) + p1
theorem q_X0_reminderDay : yX0_reminderDay.cls ≠ "java/lang/invoke/MethodHandle" ∧ yX0_reminderDay.cls ≠ "java/lang/invoke/VarHandle" ∧ (parseMethodDescriptor yX0_reminderDay.desc).map (fun d => d.parameters.length) = some 1 := ⟨by decide, by decide, by decide +kernel⟩
set_option maxHeartbeats 4000000 in
set_option maxRecDepth 100000 in
theorem c_X0_reminderDay (l : Launch) (G : kG) (a : Nat → Nat) (hI : gI 47 a) (b : Nat → Nat → Int32) (j : Nat) (hj : j < 40) (p1 : Int32) : Met l yX0_reminderDay (Cond.code yX0_reminderDay cX0_reminderDay 2 (some .int) :: BIG) (rmK 1) (pcG G (bP G a b) [.ref (a (j + 7)), .int p1]) (qcI G (gA 47 a) (bP G a b) (v_X0_reminderDay b j p1)) 0 0 (gA 47 a) := by
  refine m_start (by decide) (Nat.le_of_ble_eq_true rfl) ?_
  intro p e s m args below meth c S hr hlk hnm hP hK ls hl
  have hx := S.1
  have hb := S.2.1
  have hown := S.2.2.2.1
  have hS : va_S (gA 47 a) s.heap s.heap [] := va_S.rf
  have hl : lv_has ls 2 [(0, .ref (a (j + 7))), (1, .int p1)] := hl
  refine lv_aload_n hx hb dX0_reminderDay_0 rfl (lv_at hl 0 rfl) ?_
  refine g_get S hK hP (i := j + 7) (by omega) bC7 rfl inlX0 11 (by decide) k_109 (v := .int (b (j + 7) 11)) rfl dX0_reminderDay_1 ?_
  refine lv_if_ne (tgt := 14) hx hb dX0_reminderDay_4 (by decide) (fun c1 => ?_) (fun c1 => ?_)
  · skip
    refine lv_aload_n hx hb dX0_reminderDay_14 rfl (lv_at hl 0 rfl) ?_
    refine g_get S hK hP (i := j + 7) (by omega) bC7 rfl inlX0 12 (by decide) k_110 (v := .int (b (j + 7) 12)) rfl dX0_reminderDay_15 ?_
    refine lv_iload_n hx hb dX0_reminderDay_18 rfl (lv_at hl 1 rfl) ?_
    refine lv_iadd hx hb dX0_reminderDay_19 ?_
    exact e_int S hr hlk rfl hK hS hP (show v_X0_reminderDay b j p1 = (b (j + 7) 12) + p1 from (if_neg c1).trans rfl).symm dX0_reminderDay_20
  · skip
    refine lv_aload_n hx hb dX0_reminderDay_7 rfl (lv_at hl 0 rfl) ?_
    refine r_callI S hK hP (c_X0_dueDay l G a hI b j (by omega) ) (r_cw S k_393 k_390 k_391 k_392 k_41 q_X0_dueDay ⟨Nat.le_of_ble_eq_true rfl, Nat.le_of_ble_eq_true rfl⟩ rfl rfl) (g_recv hK hP (i := j + 7) (by omega) bC7 rfl) rfl hl.1 rfl (Nat.le_of_ble_eq_true rfl) dX0_reminderDay_8 ⟨Nat.zero_le _, Nat.zero_le _⟩ hS (fun _ h => h) (fun H locs hP _ _ hS => ?_)
    have hP : bP G a b H := hP
    refine lv_goto (tgt := 18) hx hb dX0_reminderDay_11 (by decide) ?_
    refine lv_iload_n hx hb dX0_reminderDay_18 rfl (lv_at hl 1 rfl) ?_
    refine lv_iadd hx hb dX0_reminderDay_19 ?_
    exact e_int S hr hlk rfl hK hS hP (show v_X0_reminderDay b j p1 = (v_X0_dueDay b j) + p1 from (if_pos c1).trans rfl).symm dX0_reminderDay_20

def v_X0_whyNoReminder (b : Nat → Nat → Int32) (j : Nat) (p1 : Int32) (p2 : Int32) : Int32 := if b (j + 7) 0 = (1 : Int32) then (1 : Int32) else if b (j + 7) 0 = (2 : Int32) then (2 : Int32) else if v_X0_isOverdue b j p1 = 0 then (3 : Int32) else if b (j + 7) 11 < (3 : Int32) then (if v_X0_reminderDay b j p2 ≤ p1 then (0 : Int32) else (5 : Int32)) else (4 : Int32)
theorem q_X0_whyNoReminder : yX0_whyNoReminder.cls ≠ "java/lang/invoke/MethodHandle" ∧ yX0_whyNoReminder.cls ≠ "java/lang/invoke/VarHandle" ∧ (parseMethodDescriptor yX0_whyNoReminder.desc).map (fun d => d.parameters.length) = some 2 := ⟨by decide, by decide, by decide +kernel⟩
set_option maxHeartbeats 4000000 in
set_option maxRecDepth 100000 in
theorem c_X0_whyNoReminder (l : Launch) (G : kG) (a : Nat → Nat) (hI : gI 47 a) (b : Nat → Nat → Int32) (j : Nat) (hj : j < 40) (p1 : Int32) (p2 : Int32) : Met l yX0_whyNoReminder (Cond.code yX0_whyNoReminder cX0_whyNoReminder 3 (some .int) :: BIG) (rmK 2) (pcG G (bP G a b) [.ref (a (j + 7)), .int p1, .int p2]) (qcI G (gA 47 a) (bP G a b) (v_X0_whyNoReminder b j p1 p2)) 0 0 (gA 47 a) := by
  refine m_start (by decide) (Nat.le_of_ble_eq_true rfl) ?_
  intro p e s m args below meth c S hr hlk hnm hP hK ls hl
  have hx := S.1
  have hb := S.2.1
  have hown := S.2.2.2.1
  have hS : va_S (gA 47 a) s.heap s.heap [] := va_S.rf
  have hl : lv_has ls 3 [(0, .ref (a (j + 7))), (1, .int p1), (2, .int p2)] := hl
  refine lv_aload_n hx hb dX0_whyNoReminder_0 rfl (lv_at hl 0 rfl) ?_
  refine g_get S hK hP (i := j + 7) (by omega) bC7 rfl inlX0 0 (by decide) k_49 (v := .int (b (j + 7) 0)) rfl dX0_whyNoReminder_1 ?_
  refine lv_iconst (v := 1) hx hb dX0_whyNoReminder_4 (by decide) ?_
  refine lv_icmp_ne (tgt := 10) hx hb dX0_whyNoReminder_5 (by decide) (fun c1 => ?_) (fun c1 => ?_)
  · skip
    refine lv_aload_n hx hb dX0_whyNoReminder_10 rfl (lv_at hl 0 rfl) ?_
    refine g_get S hK hP (i := j + 7) (by omega) bC7 rfl inlX0 0 (by decide) k_49 (v := .int (b (j + 7) 0)) rfl dX0_whyNoReminder_11 ?_
    refine lv_iconst (v := 2) hx hb dX0_whyNoReminder_14 (by decide) ?_
    refine lv_icmp_ne (tgt := 20) hx hb dX0_whyNoReminder_15 (by decide) (fun c2 => ?_) (fun c2 => ?_)
    · skip
      refine lv_aload_n hx hb dX0_whyNoReminder_20 rfl (lv_at hl 0 rfl) ?_
      refine lv_iload_n hx hb dX0_whyNoReminder_21 rfl (lv_at hl 1 rfl) ?_
      refine r_callI S hK hP (c_X0_isOverdue l G a hI b j (by omega) _) (r_cw S k_356 k_385 k_354 k_355 k_41 q_X0_isOverdue ⟨Nat.le_of_ble_eq_true rfl, Nat.le_of_ble_eq_true rfl⟩ rfl rfl) (g_recv hK hP (i := j + 7) (by omega) bC7 rfl) rfl hl.1 rfl (Nat.le_of_ble_eq_true rfl) dX0_whyNoReminder_22 ⟨Nat.zero_le _, Nat.zero_le _⟩ hS (fun _ h => h) (fun H locs hP _ _ hS => ?_)
      have hP : bP G a b H := hP
      refine lv_if_ne (tgt := 30) hx hb dX0_whyNoReminder_25 (by decide) (fun c3 => ?_) (fun c3 => ?_)
      · skip
        refine lv_aload_n hx hb dX0_whyNoReminder_30 rfl (lv_at hl 0 rfl) ?_
        refine g_get S hK hP (i := j + 7) (by omega) bC7 rfl inlX0 11 (by decide) k_109 (v := .int (b (j + 7) 11)) rfl dX0_whyNoReminder_31 ?_
        refine lv_iconst (v := 3) hx hb dX0_whyNoReminder_34 (by decide) ?_
        refine lv_icmp_lt (tgt := 40) hx hb dX0_whyNoReminder_35 (by decide) (fun c4 => ?_) (fun c4 => ?_)
        · skip
          refine lv_iload_n hx hb dX0_whyNoReminder_40 rfl (lv_at hl 1 rfl) ?_
          refine lv_aload_n hx hb dX0_whyNoReminder_41 rfl (lv_at hl 0 rfl) ?_
          refine lv_iload_n hx hb dX0_whyNoReminder_42 rfl (lv_at hl 2 rfl) ?_
          refine r_callI S hK hP (c_X0_reminderDay l G a hI b j (by omega) _) (r_cw S k_389 k_386 k_387 k_388 k_41 q_X0_reminderDay ⟨Nat.le_of_ble_eq_true rfl, Nat.le_of_ble_eq_true rfl⟩ rfl rfl) (g_recv hK hP (i := j + 7) (by omega) bC7 rfl) rfl hl.1 rfl (Nat.le_of_ble_eq_true rfl) dX0_whyNoReminder_43 ⟨Nat.zero_le _, Nat.zero_le _⟩ hS (fun _ h => h) (fun H locs hP _ _ hS => ?_)
          have hP : bP G a b H := hP
          refine lv_icmp_ge (tgt := 53) hx hb dX0_whyNoReminder_46 (by decide) (fun c5 => ?_) (fun c5 => ?_)
          · skip
            refine lv_iconst (v := 0) hx hb dX0_whyNoReminder_53 (by decide) ?_
            exact e_int S hr hlk rfl hK hS hP (show v_X0_whyNoReminder b j p1 p2 = (0 : Int32) from (if_neg c1).trans ((if_neg c2).trans ((if_neg c3).trans ((if_pos c4).trans ((if_pos c5).trans rfl))))).symm dX0_whyNoReminder_54
          · skip
            refine lv_iconst (v := 5) hx hb dX0_whyNoReminder_49 (by decide) ?_
            refine lv_goto (tgt := 54) hx hb dX0_whyNoReminder_50 (by decide) ?_
            exact e_int S hr hlk rfl hK hS hP (show v_X0_whyNoReminder b j p1 p2 = (5 : Int32) from (if_neg c1).trans ((if_neg c2).trans ((if_neg c3).trans ((if_pos c4).trans ((if_neg c5).trans rfl))))).symm dX0_whyNoReminder_54
        · skip
          refine lv_iconst (v := 4) hx hb dX0_whyNoReminder_38 (by decide) ?_
          exact e_int S hr hlk rfl hK hS hP (show v_X0_whyNoReminder b j p1 p2 = (4 : Int32) from (if_neg c1).trans ((if_neg c2).trans ((if_neg c3).trans ((if_neg c4).trans rfl)))).symm dX0_whyNoReminder_39
      · skip
        refine lv_iconst (v := 3) hx hb dX0_whyNoReminder_28 (by decide) ?_
        exact e_int S hr hlk rfl hK hS hP (show v_X0_whyNoReminder b j p1 p2 = (3 : Int32) from (if_neg c1).trans ((if_neg c2).trans ((if_pos c3).trans rfl))).symm dX0_whyNoReminder_29
    · skip
      refine lv_iconst (v := 2) hx hb dX0_whyNoReminder_18 (by decide) ?_
      exact e_int S hr hlk rfl hK hS hP (show v_X0_whyNoReminder b j p1 p2 = (2 : Int32) from (if_neg c1).trans ((if_pos c2).trans rfl)).symm dX0_whyNoReminder_19
  · skip
    refine lv_iconst (v := 1) hx hb dX0_whyNoReminder_8 (by decide) ?_
    exact e_int S hr hlk rfl hK hS hP (show v_X0_whyNoReminder b j p1 p2 = (1 : Int32) from (if_pos c1).trans rfl).symm dX0_whyNoReminder_9

def v_X0_awaitsReminder (b : Nat → Nat → Int32) (j : Nat) : Int32 := if b (j + 7) 0 = 0 then (if (3 : Int32) ≤ b (j + 7) 11 then (0 : Int32) else (1 : Int32)) else (0 : Int32)
theorem q_X0_awaitsReminder : yX0_awaitsReminder.cls ≠ "java/lang/invoke/MethodHandle" ∧ yX0_awaitsReminder.cls ≠ "java/lang/invoke/VarHandle" ∧ (parseMethodDescriptor yX0_awaitsReminder.desc).map (fun d => d.parameters.length) = some 0 := ⟨by decide, by decide, by decide +kernel⟩
theorem z_X0_awaitsReminder (b : Nat → Nat → Int32) (j : Nat) : narrow .boolean (.int (v_X0_awaitsReminder b j)) = .int (v_X0_awaitsReminder b j) := by
  unfold v_X0_awaitsReminder
  (repeat' split) <;> first | rfl
set_option maxHeartbeats 4000000 in
set_option maxRecDepth 100000 in
theorem c_X0_awaitsReminder (l : Launch) (G : kG) (a : Nat → Nat) (hI : gI 47 a) (b : Nat → Nat → Int32) (j : Nat) (hj : j < 40) : Met l yX0_awaitsReminder (Cond.code yX0_awaitsReminder cX0_awaitsReminder 1 (some .boolean) :: BIG) (rmK 0) (pcG G (bP G a b) [.ref (a (j + 7))]) (qcI G (gA 47 a) (bP G a b) (v_X0_awaitsReminder b j)) 0 0 (gA 47 a) := by
  refine m_start (by decide) (Nat.le_of_ble_eq_true rfl) ?_
  intro p e s m args below meth c S hr hlk hnm hP hK ls hl
  have hx := S.1
  have hb := S.2.1
  have hown := S.2.2.2.1
  have hS : va_S (gA 47 a) s.heap s.heap [] := va_S.rf
  have hl : lv_has ls 1 [(0, .ref (a (j + 7)))] := hl
  refine lv_aload_n hx hb dX0_awaitsReminder_0 rfl (lv_at hl 0 rfl) ?_
  refine g_get S hK hP (i := j + 7) (by omega) bC7 rfl inlX0 0 (by decide) k_49 (v := .int (b (j + 7) 0)) rfl dX0_awaitsReminder_1 ?_
  refine lv_if_ne (tgt := 19) hx hb dX0_awaitsReminder_4 (by decide) (fun c1 => ?_) (fun c1 => ?_)
  · skip
    refine lv_iconst (v := 0) hx hb dX0_awaitsReminder_19 (by decide) ?_
    exact e_int S hr hlk rfl hK hS hP (show v_X0_awaitsReminder b j = (0 : Int32) from (if_neg c1).trans rfl).symm dX0_awaitsReminder_20
  · skip
    refine lv_aload_n hx hb dX0_awaitsReminder_7 rfl (lv_at hl 0 rfl) ?_
    refine g_get S hK hP (i := j + 7) (by omega) bC7 rfl inlX0 11 (by decide) k_109 (v := .int (b (j + 7) 11)) rfl dX0_awaitsReminder_8 ?_
    refine lv_iconst (v := 3) hx hb dX0_awaitsReminder_11 (by decide) ?_
    refine lv_icmp_ge (tgt := 19) hx hb dX0_awaitsReminder_12 (by decide) (fun c2 => ?_) (fun c2 => ?_)
    · skip
      refine lv_iconst (v := 0) hx hb dX0_awaitsReminder_19 (by decide) ?_
      exact e_int S hr hlk rfl hK hS hP (show v_X0_awaitsReminder b j = (0 : Int32) from (if_pos c1).trans ((if_pos c2).trans rfl)).symm dX0_awaitsReminder_20
    · skip
      refine lv_iconst (v := 1) hx hb dX0_awaitsReminder_15 (by decide) ?_
      refine lv_goto (tgt := 20) hx hb dX0_awaitsReminder_16 (by decide) ?_
      exact e_int S hr hlk rfl hK hS hP (show v_X0_awaitsReminder b j = (1 : Int32) from (if_pos c1).trans ((if_neg c2).trans rfl)).symm dX0_awaitsReminder_20

def v_X0_canBeWrittenOff (b : Nat → Nat → Int32) (j : Nat) (p1 : Int32) (p2 : Int32) : Int32 := if b (j + 7) 0 = 0 then (if b (j + 7) 11 < (3 : Int32) then (0 : Int32) else if p1 - (b (j + 7) 12) < p2 then (0 : Int32) else (1 : Int32)) else (0 : Int32)
theorem q_X0_canBeWrittenOff : yX0_canBeWrittenOff.cls ≠ "java/lang/invoke/MethodHandle" ∧ yX0_canBeWrittenOff.cls ≠ "java/lang/invoke/VarHandle" ∧ (parseMethodDescriptor yX0_canBeWrittenOff.desc).map (fun d => d.parameters.length) = some 2 := ⟨by decide, by decide, by decide +kernel⟩
theorem z_X0_canBeWrittenOff (b : Nat → Nat → Int32) (j : Nat) (p1 : Int32) (p2 : Int32) : narrow .boolean (.int (v_X0_canBeWrittenOff b j p1 p2)) = .int (v_X0_canBeWrittenOff b j p1 p2) := by
  unfold v_X0_canBeWrittenOff
  (repeat' split) <;> first | rfl
set_option maxHeartbeats 4000000 in
set_option maxRecDepth 100000 in
theorem c_X0_canBeWrittenOff (l : Launch) (G : kG) (a : Nat → Nat) (hI : gI 47 a) (b : Nat → Nat → Int32) (j : Nat) (hj : j < 40) (p1 : Int32) (p2 : Int32) : Met l yX0_canBeWrittenOff (Cond.code yX0_canBeWrittenOff cX0_canBeWrittenOff 3 (some .boolean) :: BIG) (rmK 0) (pcG G (bP G a b) [.ref (a (j + 7)), .int p1, .int p2]) (qcI G (gA 47 a) (bP G a b) (v_X0_canBeWrittenOff b j p1 p2)) 0 0 (gA 47 a) := by
  refine m_start (by decide) (Nat.le_of_ble_eq_true rfl) ?_
  intro p e s m args below meth c S hr hlk hnm hP hK ls hl
  have hx := S.1
  have hb := S.2.1
  have hown := S.2.2.2.1
  have hS : va_S (gA 47 a) s.heap s.heap [] := va_S.rf
  have hl : lv_has ls 3 [(0, .ref (a (j + 7))), (1, .int p1), (2, .int p2)] := hl
  refine lv_aload_n hx hb dX0_canBeWrittenOff_0 rfl (lv_at hl 0 rfl) ?_
  refine g_get S hK hP (i := j + 7) (by omega) bC7 rfl inlX0 0 (by decide) k_49 (v := .int (b (j + 7) 0)) rfl dX0_canBeWrittenOff_1 ?_
  refine lv_if_ne (tgt := 29) hx hb dX0_canBeWrittenOff_4 (by decide) (fun c1 => ?_) (fun c1 => ?_)
  · skip
    refine lv_iconst (v := 0) hx hb dX0_canBeWrittenOff_29 (by decide) ?_
    exact e_int S hr hlk rfl hK hS hP (show v_X0_canBeWrittenOff b j p1 p2 = (0 : Int32) from (if_neg c1).trans rfl).symm dX0_canBeWrittenOff_30
  · skip
    refine lv_aload_n hx hb dX0_canBeWrittenOff_7 rfl (lv_at hl 0 rfl) ?_
    refine g_get S hK hP (i := j + 7) (by omega) bC7 rfl inlX0 11 (by decide) k_109 (v := .int (b (j + 7) 11)) rfl dX0_canBeWrittenOff_8 ?_
    refine lv_iconst (v := 3) hx hb dX0_canBeWrittenOff_11 (by decide) ?_
    refine lv_icmp_lt (tgt := 29) hx hb dX0_canBeWrittenOff_12 (by decide) (fun c2 => ?_) (fun c2 => ?_)
    · skip
      refine lv_iconst (v := 0) hx hb dX0_canBeWrittenOff_29 (by decide) ?_
      exact e_int S hr hlk rfl hK hS hP (show v_X0_canBeWrittenOff b j p1 p2 = (0 : Int32) from (if_pos c1).trans ((if_pos c2).trans rfl)).symm dX0_canBeWrittenOff_30
    · skip
      refine lv_iload_n hx hb dX0_canBeWrittenOff_15 rfl (lv_at hl 1 rfl) ?_
      refine lv_aload_n hx hb dX0_canBeWrittenOff_16 rfl (lv_at hl 0 rfl) ?_
      refine g_get S hK hP (i := j + 7) (by omega) bC7 rfl inlX0 12 (by decide) k_110 (v := .int (b (j + 7) 12)) rfl dX0_canBeWrittenOff_17 ?_
      refine lv_isub hx hb dX0_canBeWrittenOff_20 ?_
      refine lv_iload_n hx hb dX0_canBeWrittenOff_21 rfl (lv_at hl 2 rfl) ?_
      refine lv_icmp_lt (tgt := 29) hx hb dX0_canBeWrittenOff_22 (by decide) (fun c3 => ?_) (fun c3 => ?_)
      · skip
        refine lv_iconst (v := 0) hx hb dX0_canBeWrittenOff_29 (by decide) ?_
        exact e_int S hr hlk rfl hK hS hP (show v_X0_canBeWrittenOff b j p1 p2 = (0 : Int32) from (if_pos c1).trans ((if_neg c2).trans ((if_pos c3).trans rfl))).symm dX0_canBeWrittenOff_30
      · skip
        refine lv_iconst (v := 1) hx hb dX0_canBeWrittenOff_25 (by decide) ?_
        refine lv_goto (tgt := 30) hx hb dX0_canBeWrittenOff_26 (by decide) ?_
        exact e_int S hr hlk rfl hK hS hP (show v_X0_canBeWrittenOff b j p1 p2 = (1 : Int32) from (if_pos c1).trans ((if_neg c2).trans ((if_neg c3).trans rfl))).symm dX0_canBeWrittenOff_30

def w_X0_addReminder (b : Nat → Nat → Int32) (j : Nat) (p1 : Int32) (p2 : Int32) : Nat → Nat → Int32 := up (up (up b (j + 7) 10 ((b (j + 7) 10) + ((b (j + 7) 11) * p2))) (j + 7) 11 ((b (j + 7) 11) + (1 : Int32))) (j + 7) 12 p1
theorem q_X0_addReminder : yX0_addReminder.cls ≠ "java/lang/invoke/MethodHandle" ∧ yX0_addReminder.cls ≠ "java/lang/invoke/VarHandle" ∧ (parseMethodDescriptor yX0_addReminder.desc).map (fun d => d.parameters.length) = some 2 := ⟨by decide, by decide, by decide +kernel⟩
set_option maxHeartbeats 4000000 in
set_option maxRecDepth 100000 in
theorem c_X0_addReminder (l : Launch) (G : kG) (a : Nat → Nat) (hI : gI 47 a) (b : Nat → Nat → Int32) (j : Nat) (hj : j < 40) (p1 : Int32) (p2 : Int32) : Met l yX0_addReminder (Cond.code yX0_addReminder cX0_addReminder 3 none :: BIG) (rmK 0) (pcG G (bP G a b) [.ref (a (j + 7)), .int p1, .int p2]) (qcV G (gA 47 a) (bP G a (w_X0_addReminder b j p1 p2))) 0 0 (gA 47 a) := by
  refine m_start (by decide) (Nat.le_of_ble_eq_true rfl) ?_
  intro p e s m args below meth c S hr hlk hnm hP hK ls hl
  have hx := S.1
  have hb := S.2.1
  have hown := S.2.2.2.1
  have hS : va_S (gA 47 a) s.heap s.heap [] := va_S.rf
  have hl : lv_has ls 3 [(0, .ref (a (j + 7))), (1, .int p1), (2, .int p2)] := hl
  refine lv_aload_n hx hb dX0_addReminder_0 rfl (lv_at hl 0 rfl) ?_
  refine lv_dup hx hb dX0_addReminder_1 rfl ?_
  refine g_get S hK hP (i := j + 7) (by omega) bC7 rfl inlX0 10 (by decide) k_108 (v := .int (b (j + 7) 10)) rfl dX0_addReminder_2 ?_
  refine lv_aload_n hx hb dX0_addReminder_5 rfl (lv_at hl 0 rfl) ?_
  refine g_get S hK hP (i := j + 7) (by omega) bC7 rfl inlX0 11 (by decide) k_109 (v := .int (b (j + 7) 11)) rfl dX0_addReminder_6 ?_
  refine lv_iload_n hx hb dX0_addReminder_9 rfl (lv_at hl 2 rfl) ?_
  refine lv_imul hx hb dX0_addReminder_10 ?_
  refine lv_iadd hx hb dX0_addReminder_11 ?_
  refine g_put S hK hP hI hS (i := j + 7) (by omega) bC7 rfl inlX0 tyX0 tyX0_ok nmX0 iF_n 10 (by decide) k_108 rfl pI rfl rfl (fun _ => rfl) dX0_addReminder_12 (fun H locs hP hS => ?_)
  have hP : bP G a (up b (j + 7) 10 ((b (j + 7) 10) + ((b (j + 7) 11) * p2))) H := hP
  refine lv_aload_n hx hb dX0_addReminder_15 rfl (lv_at hl 0 rfl) ?_
  refine lv_dup hx hb dX0_addReminder_16 rfl ?_
  refine g_get S hK hP (i := j + 7) (by omega) bC7 rfl inlX0 11 (by decide) k_109 (v := .int (b (j + 7) 11)) (congrArg Value.int ((up_nk (by omega)).trans rfl)) dX0_addReminder_17 ?_
  refine lv_iconst (v := 1) hx hb dX0_addReminder_20 (by decide) ?_
  refine lv_iadd hx hb dX0_addReminder_21 ?_
  refine g_put S hK hP hI hS (i := j + 7) (by omega) bC7 rfl inlX0 tyX0 tyX0_ok nmX0 iF_n 11 (by decide) k_109 rfl pI rfl rfl (fun _ => rfl) dX0_addReminder_22 (fun H locs hP hS => ?_)
  have hP : bP G a (up (up b (j + 7) 10 ((b (j + 7) 10) + ((b (j + 7) 11) * p2))) (j + 7) 11 ((b (j + 7) 11) + (1 : Int32))) H := hP
  refine lv_aload_n hx hb dX0_addReminder_25 rfl (lv_at hl 0 rfl) ?_
  refine lv_iload_n hx hb dX0_addReminder_26 rfl (lv_at hl 1 rfl) ?_
  refine g_put S hK hP hI hS (i := j + 7) (by omega) bC7 rfl inlX0 tyX0 tyX0_ok nmX0 iF_n 12 (by decide) k_110 rfl pI rfl rfl (fun _ => rfl) dX0_addReminder_27 (fun H locs hP hS => ?_)
  have hP : bP G a (up (up (up b (j + 7) 10 ((b (j + 7) 10) + ((b (j + 7) 11) * p2))) (j + 7) 11 ((b (j + 7) 11) + (1 : Int32))) (j + 7) 12 p1) H := hP
  exact e_void S hr hlk hK hS (gP_eq (show w_X0_addReminder b j p1 p2 = up (up (up b (j + 7) 10 ((b (j + 7) 10) + ((b (j + 7) 11) * p2))) (j + 7) 11 ((b (j + 7) 11) + (1 : Int32))) (j + 7) 12 p1 from rfl) hP) dX0_addReminder_30

def w_X0_takeMoney (b : Nat → Nat → Int32) (j : Nat) (p1 : Int32) (p2 : Int32) (p3 : Int32) : Nat → Nat → Int32 := if 0 < v_X0_owed (up (up (up b (j + 7) 8 ((b (j + 7) 8) + p1)) (j + 7) 9 ((b (j + 7) 9) + p2)) (j + 7) 13 p3) j then (up (up (up b (j + 7) 8 ((b (j + 7) 8) + p1)) (j + 7) 9 ((b (j + 7) 9) + p2)) (j + 7) 13 p3) else up (up (up (up b (j + 7) 8 ((b (j + 7) 8) + p1)) (j + 7) 9 ((b (j + 7) 9) + p2)) (j + 7) 13 p3) (j + 7) 0 (1 : Int32)
theorem q_X0_takeMoney : yX0_takeMoney.cls ≠ "java/lang/invoke/MethodHandle" ∧ yX0_takeMoney.cls ≠ "java/lang/invoke/VarHandle" ∧ (parseMethodDescriptor yX0_takeMoney.desc).map (fun d => d.parameters.length) = some 3 := ⟨by decide, by decide, by decide +kernel⟩
set_option maxHeartbeats 4000000 in
set_option maxRecDepth 100000 in
theorem c_X0_takeMoney (l : Launch) (G : kG) (a : Nat → Nat) (hI : gI 47 a) (b : Nat → Nat → Int32) (j : Nat) (hj : j < 40) (p1 : Int32) (p2 : Int32) (p3 : Int32) : Met l yX0_takeMoney (Cond.code yX0_takeMoney cX0_takeMoney 4 none :: BIG) (rmK 1) (pcG G (bP G a b) [.ref (a (j + 7)), .int p1, .int p2, .int p3]) (qcV G (gA 47 a) (bP G a (w_X0_takeMoney b j p1 p2 p3))) 0 0 (gA 47 a) := by
  refine m_start (by decide) (Nat.le_of_ble_eq_true rfl) ?_
  intro p e s m args below meth c S hr hlk hnm hP hK ls hl
  have hx := S.1
  have hb := S.2.1
  have hown := S.2.2.2.1
  have hS : va_S (gA 47 a) s.heap s.heap [] := va_S.rf
  have hl : lv_has ls 4 [(0, .ref (a (j + 7))), (1, .int p1), (2, .int p2), (3, .int p3)] := hl
  refine lv_aload_n hx hb dX0_takeMoney_0 rfl (lv_at hl 0 rfl) ?_
  refine lv_dup hx hb dX0_takeMoney_1 rfl ?_
  refine g_get S hK hP (i := j + 7) (by omega) bC7 rfl inlX0 8 (by decide) k_106 (v := .int (b (j + 7) 8)) rfl dX0_takeMoney_2 ?_
  refine lv_iload_n hx hb dX0_takeMoney_5 rfl (lv_at hl 1 rfl) ?_
  refine lv_iadd hx hb dX0_takeMoney_6 ?_
  refine g_put S hK hP hI hS (i := j + 7) (by omega) bC7 rfl inlX0 tyX0 tyX0_ok nmX0 iF_n 8 (by decide) k_106 rfl pI rfl rfl (fun _ => rfl) dX0_takeMoney_7 (fun H locs hP hS => ?_)
  have hP : bP G a (up b (j + 7) 8 ((b (j + 7) 8) + p1)) H := hP
  refine lv_aload_n hx hb dX0_takeMoney_10 rfl (lv_at hl 0 rfl) ?_
  refine lv_dup hx hb dX0_takeMoney_11 rfl ?_
  refine g_get S hK hP (i := j + 7) (by omega) bC7 rfl inlX0 9 (by decide) k_107 (v := .int (b (j + 7) 9)) (congrArg Value.int ((up_nk (by omega)).trans rfl)) dX0_takeMoney_12 ?_
  refine lv_iload_n hx hb dX0_takeMoney_15 rfl (lv_at hl 2 rfl) ?_
  refine lv_iadd hx hb dX0_takeMoney_16 ?_
  refine g_put S hK hP hI hS (i := j + 7) (by omega) bC7 rfl inlX0 tyX0 tyX0_ok nmX0 iF_n 9 (by decide) k_107 rfl pI rfl rfl (fun _ => rfl) dX0_takeMoney_17 (fun H locs hP hS => ?_)
  have hP : bP G a (up (up b (j + 7) 8 ((b (j + 7) 8) + p1)) (j + 7) 9 ((b (j + 7) 9) + p2)) H := hP
  refine lv_aload_n hx hb dX0_takeMoney_20 rfl (lv_at hl 0 rfl) ?_
  refine lv_iload_n hx hb dX0_takeMoney_21 rfl (lv_at hl 3 rfl) ?_
  refine g_put S hK hP hI hS (i := j + 7) (by omega) bC7 rfl inlX0 tyX0 tyX0_ok nmX0 iF_n 13 (by decide) k_50 rfl pI rfl rfl (fun _ => rfl) dX0_takeMoney_22 (fun H locs hP hS => ?_)
  have hP : bP G a (up (up (up b (j + 7) 8 ((b (j + 7) 8) + p1)) (j + 7) 9 ((b (j + 7) 9) + p2)) (j + 7) 13 p3) H := hP
  refine lv_aload_n hx hb dX0_takeMoney_25 rfl (lv_at hl 0 rfl) ?_
  refine r_callI S hK hP (c_X0_owed l G a hI (up (up (up b (j + 7) 8 ((b (j + 7) 8) + p1)) (j + 7) 9 ((b (j + 7) 9) + p2)) (j + 7) 13 p3) j (by omega) ) (r_cw S k_164 k_169 k_162 k_163 k_41 q_X0_owed ⟨Nat.le_of_ble_eq_true rfl, Nat.le_of_ble_eq_true rfl⟩ rfl rfl) (g_recv hK hP (i := j + 7) (by omega) bC7 rfl) rfl hl.1 rfl (Nat.le_of_ble_eq_true rfl) dX0_takeMoney_26 ⟨Nat.zero_le _, Nat.zero_le _⟩ hS (fun _ h => h) (fun H locs hP _ _ hS => ?_)
  have hP : bP G a (up (up (up b (j + 7) 8 ((b (j + 7) 8) + p1)) (j + 7) 9 ((b (j + 7) 9) + p2)) (j + 7) 13 p3) H := hP
  refine lv_if_gt (tgt := 37) hx hb dX0_takeMoney_29 (by decide) (fun c1 => ?_) (fun c1 => ?_)
  · skip
    exact e_void S hr hlk hK hS (gP_eq (show w_X0_takeMoney b j p1 p2 p3 = up (up (up b (j + 7) 8 ((b (j + 7) 8) + p1)) (j + 7) 9 ((b (j + 7) 9) + p2)) (j + 7) 13 p3 from (if_pos c1).trans rfl) hP) dX0_takeMoney_37
  · skip
    refine lv_aload_n hx hb dX0_takeMoney_32 rfl (lv_at hl 0 rfl) ?_
    refine lv_iconst (v := 1) hx hb dX0_takeMoney_33 (by decide) ?_
    refine g_put S hK hP hI hS (i := j + 7) (by omega) bC7 rfl inlX0 tyX0 tyX0_ok nmX0 iF_n 0 (by decide) k_49 rfl pI rfl rfl (fun _ => rfl) dX0_takeMoney_34 (fun H locs hP hS => ?_)
    have hP : bP G a (up (up (up (up b (j + 7) 8 ((b (j + 7) 8) + p1)) (j + 7) 9 ((b (j + 7) 9) + p2)) (j + 7) 13 p3) (j + 7) 0 (1 : Int32)) H := hP
    exact e_void S hr hlk hK hS (gP_eq (show w_X0_takeMoney b j p1 p2 p3 = up (up (up (up b (j + 7) 8 ((b (j + 7) 8) + p1)) (j + 7) 9 ((b (j + 7) 9) + p2)) (j + 7) 13 p3) (j + 7) 0 (1 : Int32) from (if_neg c1).trans rfl) hP) dX0_takeMoney_37

def v_X0_taxIn (b : Nat → Nat → Int32) (j : Nat) (p1 : Int32) : Int32 := if (100 : Int32) + (b (j + 7) 3) ≤ 0 then (0 : Int32) else (p1 * (b (j + 7) 3)) / ((100 : Int32) + (b (j + 7) 3))
theorem q_X0_taxIn : yX0_taxIn.cls ≠ "java/lang/invoke/MethodHandle" ∧ yX0_taxIn.cls ≠ "java/lang/invoke/VarHandle" ∧ (parseMethodDescriptor yX0_taxIn.desc).map (fun d => d.parameters.length) = some 1 := ⟨by decide, by decide, by decide +kernel⟩
set_option maxHeartbeats 4000000 in
set_option maxRecDepth 100000 in
theorem c_X0_taxIn (l : Launch) (G : kG) (a : Nat → Nat) (hI : gI 47 a) (b : Nat → Nat → Int32) (j : Nat) (hj : j < 40) (p1 : Int32) : Met l yX0_taxIn (Cond.code yX0_taxIn cX0_taxIn 3 (some .int) :: BIG) (rmK 0) (pcG G (bP G a b) [.ref (a (j + 7)), .int p1]) (qcI G (gA 47 a) (bP G a b) (v_X0_taxIn b j p1)) 0 0 (gA 47 a) := by
  refine m_start (by decide) (Nat.le_of_ble_eq_true rfl) ?_
  intro p e s m args below meth c S hr hlk hnm hP hK ls hl
  have hx := S.1
  have hb := S.2.1
  have hown := S.2.2.2.1
  have hS : va_S (gA 47 a) s.heap s.heap [] := va_S.rf
  have hl : lv_has ls 3 [(0, .ref (a (j + 7))), (1, .int p1)] := hl
  refine lv_bipush (v := 100) hx hb dX0_taxIn_0 (by decide) ?_
  refine lv_aload_n hx hb dX0_taxIn_2 rfl (lv_at hl 0 rfl) ?_
  refine g_get S hK hP (i := j + 7) (by omega) bC7 rfl inlX0 3 (by decide) k_101 (v := .int (b (j + 7) 3)) rfl dX0_taxIn_3 ?_
  refine lv_iadd hx hb dX0_taxIn_6 ?_
  refine lv_istore_n (lv' := [(2, .int ((100 : Int32) + (b (j + 7) 3))), (0, .ref (a (j + 7))), (1, .int p1)]) hx hb dX0_taxIn_7 rfl hl (by decide) rfl (fun ls hl => ?_)
  refine lv_iload_n hx hb dX0_taxIn_8 rfl (lv_at hl 0 rfl) ?_
  refine lv_if_le (tgt := 23) hx hb dX0_taxIn_9 (by decide) (fun c1 => ?_) (fun c1 => ?_)
  · skip
    refine lv_iconst (v := 0) hx hb dX0_taxIn_23 (by decide) ?_
    exact e_int S hr hlk rfl hK hS hP (show v_X0_taxIn b j p1 = (0 : Int32) from (if_pos c1).trans rfl).symm dX0_taxIn_24
  · skip
    refine lv_iload_n hx hb dX0_taxIn_12 rfl (lv_at hl 2 rfl) ?_
    refine lv_aload_n hx hb dX0_taxIn_13 rfl (lv_at hl 1 rfl) ?_
    refine g_get S hK hP (i := j + 7) (by omega) bC7 rfl inlX0 3 (by decide) k_101 (v := .int (b (j + 7) 3)) rfl dX0_taxIn_14 ?_
    refine lv_imul hx hb dX0_taxIn_17 ?_
    refine lv_iload_n hx hb dX0_taxIn_18 rfl (lv_at hl 0 rfl) ?_
    refine lv_idiv hx hb dX0_taxIn_19 (vp_pos2 c1) ?_
    refine lv_goto (tgt := 24) hx hb dX0_taxIn_20 (by decide) ?_
    exact e_int S hr hlk rfl hK hS hP (show v_X0_taxIn b j p1 = (p1 * (b (j + 7) 3)) / ((100 : Int32) + (b (j + 7) 3)) from (if_neg c1).trans rfl).symm dX0_taxIn_24

def w_X0_write (b : Nat → Nat → Int32) (j : Nat) (p1 : Int32) (p2 : Int32) (p3 : Int32) (p4 : Int32) (p5 : Int32) : Nat → Nat → Int32 := up (up (up (up (up (up (up (up b (j + 7) 0 (0 : Int32)) (j + 7) 1 p1) (j + 7) 2 p2) (j + 7) 3 p3) (j + 7) 4 (((p2 * p3) + (50 : Int32)) / (100 : Int32))) (j + 7) 5 (p2 + (((p2 * p3) + (50 : Int32)) / (100 : Int32)))) (j + 7) 6 p4) (j + 7) 7 p5
theorem q_X0_write : yX0_write.cls ≠ "java/lang/invoke/MethodHandle" ∧ yX0_write.cls ≠ "java/lang/invoke/VarHandle" ∧ (parseMethodDescriptor yX0_write.desc).map (fun d => d.parameters.length) = some 5 := ⟨by decide, by decide, by decide +kernel⟩
set_option maxHeartbeats 4000000 in
set_option maxRecDepth 100000 in
theorem c_X0_write (l : Launch) (G : kG) (a : Nat → Nat) (hI : gI 47 a) (b : Nat → Nat → Int32) (j : Nat) (hj : j < 40) (p1 : Int32) (p2 : Int32) (p3 : Int32) (p4 : Int32) (p5 : Int32) : Met l yX0_write (Cond.code yX0_write cX0_write 6 none :: BIG) (rmK 0) (pcG G (bP G a b) [.ref (a (j + 7)), .int p1, .int p2, .int p3, .int p4, .int p5]) (qcV G (gA 47 a) (bP G a (w_X0_write b j p1 p2 p3 p4 p5))) 0 0 (gA 47 a) := by
  refine m_start (by decide) (Nat.le_of_ble_eq_true rfl) ?_
  intro p e s m args below meth c S hr hlk hnm hP hK ls hl
  have hx := S.1
  have hb := S.2.1
  have hown := S.2.2.2.1
  have hS : va_S (gA 47 a) s.heap s.heap [] := va_S.rf
  have hl : lv_has ls 6 [(0, .ref (a (j + 7))), (1, .int p1), (2, .int p2), (3, .int p3), (4, .int p4), (5, .int p5)] := hl
  refine lv_aload_n hx hb dX0_write_0 rfl (lv_at hl 0 rfl) ?_
  refine lv_iconst (v := 0) hx hb dX0_write_1 (by decide) ?_
  refine g_put S hK hP hI hS (i := j + 7) (by omega) bC7 rfl inlX0 tyX0 tyX0_ok nmX0 iF_n 0 (by decide) k_49 rfl pI rfl rfl (fun _ => rfl) dX0_write_2 (fun H locs hP hS => ?_)
  have hP : bP G a (up b (j + 7) 0 (0 : Int32)) H := hP
  refine lv_aload_n hx hb dX0_write_5 rfl (lv_at hl 0 rfl) ?_
  refine lv_iload_n hx hb dX0_write_6 rfl (lv_at hl 1 rfl) ?_
  refine g_put S hK hP hI hS (i := j + 7) (by omega) bC7 rfl inlX0 tyX0 tyX0_ok nmX0 iF_n 1 (by decide) k_99 rfl pI rfl rfl (fun _ => rfl) dX0_write_7 (fun H locs hP hS => ?_)
  have hP : bP G a (up (up b (j + 7) 0 (0 : Int32)) (j + 7) 1 p1) H := hP
  refine lv_aload_n hx hb dX0_write_10 rfl (lv_at hl 0 rfl) ?_
  refine lv_iload_n hx hb dX0_write_11 rfl (lv_at hl 2 rfl) ?_
  refine g_put S hK hP hI hS (i := j + 7) (by omega) bC7 rfl inlX0 tyX0 tyX0_ok nmX0 iF_n 2 (by decide) k_100 rfl pI rfl rfl (fun _ => rfl) dX0_write_12 (fun H locs hP hS => ?_)
  have hP : bP G a (up (up (up b (j + 7) 0 (0 : Int32)) (j + 7) 1 p1) (j + 7) 2 p2) H := hP
  refine lv_aload_n hx hb dX0_write_15 rfl (lv_at hl 0 rfl) ?_
  refine lv_iload_n hx hb dX0_write_16 rfl (lv_at hl 3 rfl) ?_
  refine g_put S hK hP hI hS (i := j + 7) (by omega) bC7 rfl inlX0 tyX0 tyX0_ok nmX0 iF_n 3 (by decide) k_101 rfl pI rfl rfl (fun _ => rfl) dX0_write_17 (fun H locs hP hS => ?_)
  have hP : bP G a (up (up (up (up b (j + 7) 0 (0 : Int32)) (j + 7) 1 p1) (j + 7) 2 p2) (j + 7) 3 p3) H := hP
  refine lv_aload_n hx hb dX0_write_20 rfl (lv_at hl 0 rfl) ?_
  refine lv_iload_n hx hb dX0_write_21 rfl (lv_at hl 2 rfl) ?_
  refine lv_iload_n hx hb dX0_write_22 rfl (lv_at hl 3 rfl) ?_
  refine lv_imul hx hb dX0_write_23 ?_
  refine lv_bipush (v := 50) hx hb dX0_write_24 (by decide) ?_
  refine lv_iadd hx hb dX0_write_26 ?_
  refine lv_bipush (v := 100) hx hb dX0_write_27 (by decide) ?_
  refine lv_idiv hx hb dX0_write_29 (by decide) ?_
  refine g_put S hK hP hI hS (i := j + 7) (by omega) bC7 rfl inlX0 tyX0 tyX0_ok nmX0 iF_n 4 (by decide) k_102 rfl pI rfl rfl (fun _ => rfl) dX0_write_30 (fun H locs hP hS => ?_)
  have hP : bP G a (up (up (up (up (up b (j + 7) 0 (0 : Int32)) (j + 7) 1 p1) (j + 7) 2 p2) (j + 7) 3 p3) (j + 7) 4 (((p2 * p3) + (50 : Int32)) / (100 : Int32))) H := hP
  refine lv_aload_n hx hb dX0_write_33 rfl (lv_at hl 0 rfl) ?_
  refine lv_iload_n hx hb dX0_write_34 rfl (lv_at hl 2 rfl) ?_
  refine lv_aload_n hx hb dX0_write_35 rfl (lv_at hl 0 rfl) ?_
  refine g_get S hK hP (i := j + 7) (by omega) bC7 rfl inlX0 4 (by decide) k_102 (v := .int (((p2 * p3) + (50 : Int32)) / (100 : Int32))) (congrArg Value.int (up_same)) dX0_write_36 ?_
  refine lv_iadd hx hb dX0_write_39 ?_
  refine g_put S hK hP hI hS (i := j + 7) (by omega) bC7 rfl inlX0 tyX0 tyX0_ok nmX0 iF_n 5 (by decide) k_103 rfl pI rfl rfl (fun _ => rfl) dX0_write_40 (fun H locs hP hS => ?_)
  have hP : bP G a (up (up (up (up (up (up b (j + 7) 0 (0 : Int32)) (j + 7) 1 p1) (j + 7) 2 p2) (j + 7) 3 p3) (j + 7) 4 (((p2 * p3) + (50 : Int32)) / (100 : Int32))) (j + 7) 5 (p2 + (((p2 * p3) + (50 : Int32)) / (100 : Int32)))) H := hP
  refine lv_aload_n hx hb dX0_write_43 rfl (lv_at hl 0 rfl) ?_
  refine lv_iload hx hb dX0_write_44 (lv_at hl 4 rfl) ?_
  refine g_put S hK hP hI hS (i := j + 7) (by omega) bC7 rfl inlX0 tyX0 tyX0_ok nmX0 iF_n 6 (by decide) k_104 rfl pI rfl rfl (fun _ => rfl) dX0_write_46 (fun H locs hP hS => ?_)
  have hP : bP G a (up (up (up (up (up (up (up b (j + 7) 0 (0 : Int32)) (j + 7) 1 p1) (j + 7) 2 p2) (j + 7) 3 p3) (j + 7) 4 (((p2 * p3) + (50 : Int32)) / (100 : Int32))) (j + 7) 5 (p2 + (((p2 * p3) + (50 : Int32)) / (100 : Int32)))) (j + 7) 6 p4) H := hP
  refine lv_aload_n hx hb dX0_write_49 rfl (lv_at hl 0 rfl) ?_
  refine lv_iload hx hb dX0_write_50 (lv_at hl 5 rfl) ?_
  refine g_put S hK hP hI hS (i := j + 7) (by omega) bC7 rfl inlX0 tyX0 tyX0_ok nmX0 iF_n 7 (by decide) k_105 rfl pI rfl rfl (fun _ => rfl) dX0_write_52 (fun H locs hP hS => ?_)
  have hP : bP G a (up (up (up (up (up (up (up (up b (j + 7) 0 (0 : Int32)) (j + 7) 1 p1) (j + 7) 2 p2) (j + 7) 3 p3) (j + 7) 4 (((p2 * p3) + (50 : Int32)) / (100 : Int32))) (j + 7) 5 (p2 + (((p2 * p3) + (50 : Int32)) / (100 : Int32)))) (j + 7) 6 p4) (j + 7) 7 p5) H := hP
  exact e_void S hr hlk hK hS (gP_eq (show w_X0_write b j p1 p2 p3 p4 p5 = up (up (up (up (up (up (up (up b (j + 7) 0 (0 : Int32)) (j + 7) 1 p1) (j + 7) 2 p2) (j + 7) 3 p3) (j + 7) 4 (((p2 * p3) + (50 : Int32)) / (100 : Int32))) (j + 7) 5 (p2 + (((p2 * p3) + (50 : Int32)) / (100 : Int32)))) (j + 7) 6 p4) (j + 7) 7 p5 from rfl) hP) dX0_write_55
end
section
def v_X3_valueOf (b : Nat → Nat → Int32) (p1 : Int32) : Int32 := if p1 < 0 then (-1 : Int32) else if (5 : Int32) ≤ p1 then (-1 : Int32) else b 6 p1.toNatClampNeg
theorem q_X3_valueOf : yX3_valueOf.cls ≠ "java/lang/invoke/MethodHandle" ∧ yX3_valueOf.cls ≠ "java/lang/invoke/VarHandle" ∧ (parseMethodDescriptor yX3_valueOf.desc).map (fun d => d.parameters.length) = some 1 := ⟨by decide, by decide, by decide +kernel⟩
set_option maxHeartbeats 4000000 in
set_option maxRecDepth 100000 in
theorem c_X3_valueOf (l : Launch) (G : kG) (a : Nat → Nat) (hI : gI 47 a) (b : Nat → Nat → Int32) (p1 : Int32) : Met l yX3_valueOf (Cond.code yX3_valueOf cX3_valueOf 2 (some .int) :: BIG) (rmK 0) (pcG G (bP G a b) [.ref (a 5), .int p1]) (qcI G (gA 47 a) (bP G a b) (v_X3_valueOf b p1)) 0 0 (gA 47 a) := by
  refine m_start (by decide) (Nat.le_of_ble_eq_true rfl) ?_
  intro p e s m args below meth c S hr hlk hnm hP hK ls hl
  have hx := S.1
  have hb := S.2.1
  have hown := S.2.2.2.1
  have hS : va_S (gA 47 a) s.heap s.heap [] := va_S.rf
  have hl : lv_has ls 2 [(0, .ref (a 5)), (1, .int p1)] := hl
  refine lv_iload_n hx hb dX3_valueOf_0 rfl (lv_at hl 1 rfl) ?_
  refine lv_if_lt (tgt := 22) hx hb dX3_valueOf_1 (by decide) (fun c1 => ?_) (fun c1 => ?_)
  · skip
    refine lv_iconst (v := -1) hx hb dX3_valueOf_22 (by decide) ?_
    exact e_int S hr hlk rfl hK hS hP (show v_X3_valueOf b p1 = (-1 : Int32) from (if_pos c1).trans rfl).symm dX3_valueOf_23
  · skip
    refine lv_iload_n hx hb dX3_valueOf_4 rfl (lv_at hl 1 rfl) ?_
    refine lv_aload_n hx hb dX3_valueOf_5 rfl (lv_at hl 0 rfl) ?_
    refine g_get S hK hP (i := 5) (by omega) bC5 rfl inlX3 0 (by decide) k_45 (v := .ref (a 6)) rfl dX3_valueOf_6 ?_
    refine g_alen S hK hP (i := 6) (by omega) (bC6 _) 0 rfl (v := 5) rfl dX3_valueOf_9 ?_
    refine lv_icmp_ge (tgt := 22) hx hb dX3_valueOf_10 (by decide) (fun c2 => ?_) (fun c2 => ?_)
    · skip
      refine lv_iconst (v := -1) hx hb dX3_valueOf_22 (by decide) ?_
      exact e_int S hr hlk rfl hK hS hP (show v_X3_valueOf b p1 = (-1 : Int32) from (if_neg c1).trans ((if_pos c2).trans rfl)).symm dX3_valueOf_23
    · skip
      refine lv_aload_n hx hb dX3_valueOf_13 rfl (lv_at hl 0 rfl) ?_
      refine g_get S hK hP (i := 5) (by omega) bC5 rfl inlX3 0 (by decide) k_45 (v := .ref (a 6)) rfl dX3_valueOf_14 ?_
      refine lv_iload_n hx hb dX3_valueOf_17 rfl (lv_at hl 1 rfl) ?_
      refine g_ald S hK hP (i := 6) (by omega) bC6 (vp_of (vp_lo1 c1) (vp_hi1 (n := 5) c2 rfl (by decide))) (v := b 6 p1.toNatClampNeg) (rfl) dX3_valueOf_18 ?_
      refine lv_goto (tgt := 23) hx hb dX3_valueOf_19 (by decide) ?_
      exact e_int S hr hlk rfl hK hS hP (show v_X3_valueOf b p1 = b 6 p1.toNatClampNeg from (if_neg c1).trans ((if_neg c2).trans rfl)).symm dX3_valueOf_23

def v_X3_discountDays (b : Nat → Nat → Int32) : Int32 := b 6 0
theorem q_X3_discountDays : yX3_discountDays.cls ≠ "java/lang/invoke/MethodHandle" ∧ yX3_discountDays.cls ≠ "java/lang/invoke/VarHandle" ∧ (parseMethodDescriptor yX3_discountDays.desc).map (fun d => d.parameters.length) = some 0 := ⟨by decide, by decide, by decide +kernel⟩
set_option maxHeartbeats 4000000 in
set_option maxRecDepth 100000 in
theorem c_X3_discountDays (l : Launch) (G : kG) (a : Nat → Nat) (hI : gI 47 a) (b : Nat → Nat → Int32) : Met l yX3_discountDays (Cond.code yX3_discountDays cX3_discountDays 1 (some .int) :: BIG) (rmK 0) (pcG G (bP G a b) [.ref (a 5)]) (qcI G (gA 47 a) (bP G a b) (v_X3_discountDays b)) 0 0 (gA 47 a) := by
  refine m_start (by decide) (Nat.le_of_ble_eq_true rfl) ?_
  intro p e s m args below meth c S hr hlk hnm hP hK ls hl
  have hx := S.1
  have hb := S.2.1
  have hown := S.2.2.2.1
  have hS : va_S (gA 47 a) s.heap s.heap [] := va_S.rf
  have hl : lv_has ls 1 [(0, .ref (a 5))] := hl
  refine lv_aload_n hx hb dX3_discountDays_0 rfl (lv_at hl 0 rfl) ?_
  refine g_get S hK hP (i := 5) (by omega) bC5 rfl inlX3 0 (by decide) k_45 (v := .ref (a 6)) rfl dX3_discountDays_1 ?_
  refine lv_iconst (v := 0) hx hb dX3_discountDays_4 (by decide) ?_
  refine g_aldN S hK hP (i := 6) (by omega) bC6 (k := 0) (by omega) (by decide) (v := b 6 0) (rfl) dX3_discountDays_5 ?_
  exact e_int S hr hlk rfl hK hS hP (show v_X3_discountDays b  = b 6 0 from rfl).symm dX3_discountDays_6

def v_X3_discountPercent (b : Nat → Nat → Int32) : Int32 := b 6 1
theorem q_X3_discountPercent : yX3_discountPercent.cls ≠ "java/lang/invoke/MethodHandle" ∧ yX3_discountPercent.cls ≠ "java/lang/invoke/VarHandle" ∧ (parseMethodDescriptor yX3_discountPercent.desc).map (fun d => d.parameters.length) = some 0 := ⟨by decide, by decide, by decide +kernel⟩
set_option maxHeartbeats 4000000 in
set_option maxRecDepth 100000 in
theorem c_X3_discountPercent (l : Launch) (G : kG) (a : Nat → Nat) (hI : gI 47 a) (b : Nat → Nat → Int32) : Met l yX3_discountPercent (Cond.code yX3_discountPercent cX3_discountPercent 1 (some .int) :: BIG) (rmK 0) (pcG G (bP G a b) [.ref (a 5)]) (qcI G (gA 47 a) (bP G a b) (v_X3_discountPercent b)) 0 0 (gA 47 a) := by
  refine m_start (by decide) (Nat.le_of_ble_eq_true rfl) ?_
  intro p e s m args below meth c S hr hlk hnm hP hK ls hl
  have hx := S.1
  have hb := S.2.1
  have hown := S.2.2.2.1
  have hS : va_S (gA 47 a) s.heap s.heap [] := va_S.rf
  have hl : lv_has ls 1 [(0, .ref (a 5))] := hl
  refine lv_aload_n hx hb dX3_discountPercent_0 rfl (lv_at hl 0 rfl) ?_
  refine g_get S hK hP (i := 5) (by omega) bC5 rfl inlX3 0 (by decide) k_45 (v := .ref (a 6)) rfl dX3_discountPercent_1 ?_
  refine lv_iconst (v := 1) hx hb dX3_discountPercent_4 (by decide) ?_
  refine g_aldN S hK hP (i := 6) (by omega) bC6 (k := 1) (by omega) (by decide) (v := b 6 1) (rfl) dX3_discountPercent_5 ?_
  exact e_int S hr hlk rfl hK hS hP (show v_X3_discountPercent b  = b 6 1 from rfl).symm dX3_discountPercent_6

def v_X3_reminderDays (b : Nat → Nat → Int32) : Int32 := b 6 2
theorem q_X3_reminderDays : yX3_reminderDays.cls ≠ "java/lang/invoke/MethodHandle" ∧ yX3_reminderDays.cls ≠ "java/lang/invoke/VarHandle" ∧ (parseMethodDescriptor yX3_reminderDays.desc).map (fun d => d.parameters.length) = some 0 := ⟨by decide, by decide, by decide +kernel⟩
set_option maxHeartbeats 4000000 in
set_option maxRecDepth 100000 in
theorem c_X3_reminderDays (l : Launch) (G : kG) (a : Nat → Nat) (hI : gI 47 a) (b : Nat → Nat → Int32) : Met l yX3_reminderDays (Cond.code yX3_reminderDays cX3_reminderDays 1 (some .int) :: BIG) (rmK 0) (pcG G (bP G a b) [.ref (a 5)]) (qcI G (gA 47 a) (bP G a b) (v_X3_reminderDays b)) 0 0 (gA 47 a) := by
  refine m_start (by decide) (Nat.le_of_ble_eq_true rfl) ?_
  intro p e s m args below meth c S hr hlk hnm hP hK ls hl
  have hx := S.1
  have hb := S.2.1
  have hown := S.2.2.2.1
  have hS : va_S (gA 47 a) s.heap s.heap [] := va_S.rf
  have hl : lv_has ls 1 [(0, .ref (a 5))] := hl
  refine lv_aload_n hx hb dX3_reminderDays_0 rfl (lv_at hl 0 rfl) ?_
  refine g_get S hK hP (i := 5) (by omega) bC5 rfl inlX3 0 (by decide) k_45 (v := .ref (a 6)) rfl dX3_reminderDays_1 ?_
  refine lv_iconst (v := 2) hx hb dX3_reminderDays_4 (by decide) ?_
  refine g_aldN S hK hP (i := 6) (by omega) bC6 (k := 2) (by omega) (by decide) (v := b 6 2) (rfl) dX3_reminderDays_5 ?_
  exact e_int S hr hlk rfl hK hS hP (show v_X3_reminderDays b  = b 6 2 from rfl).symm dX3_reminderDays_6

def v_X3_reminderFee (b : Nat → Nat → Int32) : Int32 := b 6 3
theorem q_X3_reminderFee : yX3_reminderFee.cls ≠ "java/lang/invoke/MethodHandle" ∧ yX3_reminderFee.cls ≠ "java/lang/invoke/VarHandle" ∧ (parseMethodDescriptor yX3_reminderFee.desc).map (fun d => d.parameters.length) = some 0 := ⟨by decide, by decide, by decide +kernel⟩
set_option maxHeartbeats 4000000 in
set_option maxRecDepth 100000 in
theorem c_X3_reminderFee (l : Launch) (G : kG) (a : Nat → Nat) (hI : gI 47 a) (b : Nat → Nat → Int32) : Met l yX3_reminderFee (Cond.code yX3_reminderFee cX3_reminderFee 1 (some .int) :: BIG) (rmK 0) (pcG G (bP G a b) [.ref (a 5)]) (qcI G (gA 47 a) (bP G a b) (v_X3_reminderFee b)) 0 0 (gA 47 a) := by
  refine m_start (by decide) (Nat.le_of_ble_eq_true rfl) ?_
  intro p e s m args below meth c S hr hlk hnm hP hK ls hl
  have hx := S.1
  have hb := S.2.1
  have hown := S.2.2.2.1
  have hS : va_S (gA 47 a) s.heap s.heap [] := va_S.rf
  have hl : lv_has ls 1 [(0, .ref (a 5))] := hl
  refine lv_aload_n hx hb dX3_reminderFee_0 rfl (lv_at hl 0 rfl) ?_
  refine g_get S hK hP (i := 5) (by omega) bC5 rfl inlX3 0 (by decide) k_45 (v := .ref (a 6)) rfl dX3_reminderFee_1 ?_
  refine lv_iconst (v := 3) hx hb dX3_reminderFee_4 (by decide) ?_
  refine g_aldN S hK hP (i := 6) (by omega) bC6 (k := 3) (by omega) (by decide) (v := b 6 3) (rfl) dX3_reminderFee_5 ?_
  exact e_int S hr hlk rfl hK hS hP (show v_X3_reminderFee b  = b 6 3 from rfl).symm dX3_reminderFee_6

def v_X3_taxWay (b : Nat → Nat → Int32) : Int32 := b 6 4
theorem q_X3_taxWay : yX3_taxWay.cls ≠ "java/lang/invoke/MethodHandle" ∧ yX3_taxWay.cls ≠ "java/lang/invoke/VarHandle" ∧ (parseMethodDescriptor yX3_taxWay.desc).map (fun d => d.parameters.length) = some 0 := ⟨by decide, by decide, by decide +kernel⟩
set_option maxHeartbeats 4000000 in
set_option maxRecDepth 100000 in
theorem c_X3_taxWay (l : Launch) (G : kG) (a : Nat → Nat) (hI : gI 47 a) (b : Nat → Nat → Int32) : Met l yX3_taxWay (Cond.code yX3_taxWay cX3_taxWay 1 (some .int) :: BIG) (rmK 0) (pcG G (bP G a b) [.ref (a 5)]) (qcI G (gA 47 a) (bP G a b) (v_X3_taxWay b)) 0 0 (gA 47 a) := by
  refine m_start (by decide) (Nat.le_of_ble_eq_true rfl) ?_
  intro p e s m args below meth c S hr hlk hnm hP hK ls hl
  have hx := S.1
  have hb := S.2.1
  have hown := S.2.2.2.1
  have hS : va_S (gA 47 a) s.heap s.heap [] := va_S.rf
  have hl : lv_has ls 1 [(0, .ref (a 5))] := hl
  refine lv_aload_n hx hb dX3_taxWay_0 rfl (lv_at hl 0 rfl) ?_
  refine g_get S hK hP (i := 5) (by omega) bC5 rfl inlX3 0 (by decide) k_45 (v := .ref (a 6)) rfl dX3_taxWay_1 ?_
  refine lv_iconst (v := 4) hx hb dX3_taxWay_4 (by decide) ?_
  refine g_aldN S hK hP (i := 6) (by omega) bC6 (k := 4) (by omega) (by decide) (v := b 6 4) (rfl) dX3_taxWay_5 ?_
  exact e_int S hr hlk rfl hK hS hP (show v_X3_taxWay b  = b 6 4 from rfl).symm dX3_taxWay_6

def v_X1_billAt (b : Nat → Nat → Int32) (p1 : Int32) : Option Nat := if p1 < 0 then none else if (40 : Int32) ≤ p1 then none else if b (p1.toNatClampNeg + 7) 0 = (-1 : Int32) then none else some p1.toNatClampNeg
theorem q_X1_billAt : yX1_billAt.cls ≠ "java/lang/invoke/MethodHandle" ∧ yX1_billAt.cls ≠ "java/lang/invoke/VarHandle" ∧ (parseMethodDescriptor yX1_billAt.desc).map (fun d => d.parameters.length) = some 1 := ⟨by decide, by decide, by decide +kernel⟩
set_option maxHeartbeats 4000000 in
set_option maxRecDepth 100000 in
theorem c_X1_billAt (l : Launch) (G : kG) (a : Nat → Nat) (hI : gI 47 a) (b : Nat → Nat → Int32) (p1 : Int32) : Met l yX1_billAt (Cond.code yX1_billAt cX1_billAt 2 (some (.object "InvoiceBook$Bill")) :: BIG) (rmK 0) (pcG G (bP G a b) [.ref (a 0), .int p1]) (qcQ G (gA 47 a) (bP G a b) ((v_X1_billAt b p1).map (fun j => a (j + 7)))) 0 0 (gA 47 a) := by
  refine m_start (by decide) (Nat.le_of_ble_eq_true rfl) ?_
  intro p e s m args below meth c S hr hlk hnm hP hK ls hl
  have hx := S.1
  have hb := S.2.1
  have hown := S.2.2.2.1
  have hS : va_S (gA 47 a) s.heap s.heap [] := va_S.rf
  have hl : lv_has ls 2 [(0, .ref (a 0)), (1, .int p1)] := hl
  refine lv_iload_n hx hb dX1_billAt_0 rfl (lv_at hl 1 rfl) ?_
  refine lv_if_lt (tgt := 26) hx hb dX1_billAt_1 (by decide) (fun c1 => ?_) (fun c1 => ?_)
  · skip
    refine lv_null hx hb dX1_billAt_26 ?_
    exact e_ref (v := (none).map (fun j => a (j + 7))) S hr (Or.inl ⟨_, rfl⟩) hlk hK hS hP (congrArg (fun o : Option Nat => o.map (fun j => a (j + 7))) (show v_X1_billAt b p1 = none from (if_pos c1).trans rfl).symm) dX1_billAt_27
  · skip
    refine lv_iload_n hx hb dX1_billAt_4 rfl (lv_at hl 1 rfl) ?_
    refine lv_aload_n hx hb dX1_billAt_5 rfl (lv_at hl 0 rfl) ?_
    refine g_get S hK hP (i := 0) (by omega) bC0 rfl inlX1 0 (by decide) k_31 (v := .ref (a 1)) rfl dX1_billAt_6 ?_
    refine g_alen S hK hP (i := 1) (by omega) (bC1 _) 2 rfl (v := 40) rfl dX1_billAt_9 ?_
    refine lv_icmp_ge (tgt := 26) hx hb dX1_billAt_10 (by decide) (fun c2 => ?_) (fun c2 => ?_)
    · skip
      refine lv_null hx hb dX1_billAt_26 ?_
      exact e_ref (v := (none).map (fun j => a (j + 7))) S hr (Or.inl ⟨_, rfl⟩) hlk hK hS hP (congrArg (fun o : Option Nat => o.map (fun j => a (j + 7))) (show v_X1_billAt b p1 = none from (if_neg c1).trans ((if_pos c2).trans rfl)).symm) dX1_billAt_27
    · skip
      refine lv_aload_n hx hb dX1_billAt_13 rfl (lv_at hl 0 rfl) ?_
      refine g_get S hK hP (i := 0) (by omega) bC0 rfl inlX1 0 (by decide) k_31 (v := .ref (a 1)) rfl dX1_billAt_14 ?_
      refine lv_iload_n hx hb dX1_billAt_17 rfl (lv_at hl 1 rfl) ?_
      have hb3 : p1.toNatClampNeg < 40 := vp_lt (vp_of (vp_lo1 c1) (vp_hi1 (n := 40) c2 rfl (by decide)))
      refine g_baldI S hK hP (i := 1) (by omega) bC1 (vp_of (vp_lo1 c1) (vp_hi1 (n := 40) c2 rfl (by decide))) (v := .ref (a (p1.toNatClampNeg + 7))) rfl dX1_billAt_18 ?_
      refine g_get S hK hP (i := p1.toNatClampNeg + 7) (by omega) bC7 rfl inlX0 0 (by decide) k_254 (v := .int (b (p1.toNatClampNeg + 7) 0)) rfl dX1_billAt_19 ?_
      refine lv_iconst (v := -1) hx hb dX1_billAt_22 (by decide) ?_
      refine lv_icmp_ne (tgt := 28) hx hb dX1_billAt_23 (by decide) (fun c4 => ?_) (fun c4 => ?_)
      · skip
        refine lv_aload_n hx hb dX1_billAt_28 rfl (lv_at hl 0 rfl) ?_
        refine g_get S hK hP (i := 0) (by omega) bC0 rfl inlX1 0 (by decide) k_31 (v := .ref (a 1)) rfl dX1_billAt_29 ?_
        refine lv_iload_n hx hb dX1_billAt_32 rfl (lv_at hl 1 rfl) ?_
        have hb5 : p1.toNatClampNeg < 40 := vp_lt (vp_of (vp_lo1 c1) (vp_hi1 (n := 40) c2 rfl (by decide)))
        refine g_baldI S hK hP (i := 1) (by omega) bC1 (vp_of (vp_lo1 c1) (vp_hi1 (n := 40) c2 rfl (by decide))) (v := .ref (a (p1.toNatClampNeg + 7))) rfl dX1_billAt_33 ?_
        exact e_ref (v := (some p1.toNatClampNeg).map (fun j => a (j + 7))) S hr (Or.inl ⟨_, rfl⟩) hlk hK hS hP (congrArg (fun o : Option Nat => o.map (fun j => a (j + 7))) (show v_X1_billAt b p1 = some p1.toNatClampNeg from (if_neg c1).trans ((if_neg c2).trans ((if_neg c4).trans rfl))).symm) dX1_billAt_34
      · skip
        refine lv_null hx hb dX1_billAt_26 ?_
        exact e_ref (v := (none).map (fun j => a (j + 7))) S hr (Or.inl ⟨_, rfl⟩) hlk hK hS hP (congrArg (fun o : Option Nat => o.map (fun j => a (j + 7))) (show v_X1_billAt b p1 = none from (if_neg c1).trans ((if_neg c2).trans ((if_pos c4).trans rfl))).symm) dX1_billAt_27

def v_X1_creditOf (b : Nat → Nat → Int32) (p1 : Int32) : Int32 := if v_X5_isCustomer p1 = 0 then (0 : Int32) else b 2 p1.toNatClampNeg
theorem q_X1_creditOf : yX1_creditOf.cls ≠ "java/lang/invoke/MethodHandle" ∧ yX1_creditOf.cls ≠ "java/lang/invoke/VarHandle" ∧ (parseMethodDescriptor yX1_creditOf.desc).map (fun d => d.parameters.length) = some 1 := ⟨by decide, by decide, by decide +kernel⟩
set_option maxHeartbeats 4000000 in
set_option maxRecDepth 100000 in
theorem c_X1_creditOf (l : Launch) (G : kG) (a : Nat → Nat) (hI : gI 47 a) (b : Nat → Nat → Int32) (p1 : Int32) : Met l yX1_creditOf (Cond.code yX1_creditOf cX1_creditOf 2 (some .int) :: BIG) (rmK 1) (pcG G (bP G a b) [.ref (a 0), .int p1]) (qcI G (gA 47 a) (bP G a b) (v_X1_creditOf b p1)) 0 0 (gA 47 a) := by
  refine m_start (by decide) (Nat.le_of_ble_eq_true rfl) ?_
  intro p e s m args below meth c S hr hlk hnm hP hK ls hl
  have hx := S.1
  have hb := S.2.1
  have hown := S.2.2.2.1
  have hS : va_S (gA 47 a) s.heap s.heap [] := va_S.rf
  have hl : lv_has ls 2 [(0, .ref (a 0)), (1, .int p1)] := hl
  refine lv_iload_n hx hb dX1_creditOf_0 rfl (lv_at hl 1 rfl) ?_
  refine r_callSN S hK hP (c_X5_isCustomer l G (bP G a b) (gA 47 a) _) k_121 hK.2.2.2.2.1 k_120 k_2 q_X5_isCustomer ⟨Nat.le_of_ble_eq_true rfl, Nat.le_of_ble_eq_true rfl⟩ rfl rfl rfl hl.1 rfl (Nat.le_of_ble_eq_true rfl) dX1_creditOf_1 ⟨Nat.zero_le _, Nat.zero_le _⟩ hS (fun _ h => h) (fun H locs hP _ _ hS => ?_)
  have hP : bP G a b H := hP
  refine lv_if_eq (tgt := 16) hx hb dX1_creditOf_4 (by decide) (fun c1 => ?_) (fun c1 => ?_)
  · skip
    refine lv_iconst (v := 0) hx hb dX1_creditOf_16 (by decide) ?_
    exact e_int S hr hlk rfl hK hS hP (show v_X1_creditOf b p1 = (0 : Int32) from (if_pos c1).trans rfl).symm dX1_creditOf_17
  · skip
    refine lv_aload_n hx hb dX1_creditOf_7 rfl (lv_at hl 0 rfl) ?_
    refine g_get S hK hP (i := 0) (by omega) bC0 rfl inlX1 1 (by decide) k_33 (v := .ref (a 2)) rfl dX1_creditOf_8 ?_
    refine lv_iload_n hx hb dX1_creditOf_11 rfl (lv_at hl 1 rfl) ?_
    refine g_ald S hK hP (i := 2) (by omega) bC2 (vp_X5_isCustomer c1 (by decide)) (v := b 2 p1.toNatClampNeg) (rfl) dX1_creditOf_12 ?_
    refine lv_goto (tgt := 17) hx hb dX1_creditOf_13 (by decide) ?_
    exact e_int S hr hlk rfl hK hS hP (show v_X1_creditOf b p1 = b 2 p1.toNatClampNeg from (if_neg c1).trans rfl).symm dX1_creditOf_17

def w_X1_setCredit (b : Nat → Nat → Int32) (p1 : Int32) (p2 : Int32) : Nat → Nat → Int32 := if v_X5_isCustomer p1 = 0 then b else up b 2 p1.toNatClampNeg p2
theorem q_X1_setCredit : yX1_setCredit.cls ≠ "java/lang/invoke/MethodHandle" ∧ yX1_setCredit.cls ≠ "java/lang/invoke/VarHandle" ∧ (parseMethodDescriptor yX1_setCredit.desc).map (fun d => d.parameters.length) = some 2 := ⟨by decide, by decide, by decide +kernel⟩
set_option maxHeartbeats 4000000 in
set_option maxRecDepth 100000 in
theorem c_X1_setCredit (l : Launch) (G : kG) (a : Nat → Nat) (hI : gI 47 a) (b : Nat → Nat → Int32) (p1 : Int32) (p2 : Int32) : Met l yX1_setCredit (Cond.code yX1_setCredit cX1_setCredit 3 none :: BIG) (rmK 1) (pcG G (bP G a b) [.ref (a 0), .int p1, .int p2]) (qcV G (gA 47 a) (bP G a (w_X1_setCredit b p1 p2))) 0 0 (gA 47 a) := by
  refine m_start (by decide) (Nat.le_of_ble_eq_true rfl) ?_
  intro p e s m args below meth c S hr hlk hnm hP hK ls hl
  have hx := S.1
  have hb := S.2.1
  have hown := S.2.2.2.1
  have hS : va_S (gA 47 a) s.heap s.heap [] := va_S.rf
  have hl : lv_has ls 3 [(0, .ref (a 0)), (1, .int p1), (2, .int p2)] := hl
  refine lv_iload_n hx hb dX1_setCredit_0 rfl (lv_at hl 1 rfl) ?_
  refine r_callSN S hK hP (c_X5_isCustomer l G (bP G a b) (gA 47 a) _) k_121 hK.2.2.2.2.1 k_120 k_2 q_X5_isCustomer ⟨Nat.le_of_ble_eq_true rfl, Nat.le_of_ble_eq_true rfl⟩ rfl rfl rfl hl.1 rfl (Nat.le_of_ble_eq_true rfl) dX1_setCredit_1 ⟨Nat.zero_le _, Nat.zero_le _⟩ hS (fun _ h => h) (fun H locs hP _ _ hS => ?_)
  have hP : bP G a b H := hP
  refine lv_if_eq (tgt := 14) hx hb dX1_setCredit_4 (by decide) (fun c1 => ?_) (fun c1 => ?_)
  · skip
    exact e_void S hr hlk hK hS (gP_eq (show w_X1_setCredit b p1 p2 = b from (if_pos c1).trans rfl) hP) dX1_setCredit_14
  · skip
    refine lv_aload_n hx hb dX1_setCredit_7 rfl (lv_at hl 0 rfl) ?_
    refine g_get S hK hP (i := 0) (by omega) bC0 rfl inlX1 1 (by decide) k_33 (v := .ref (a 2)) rfl dX1_setCredit_8 ?_
    refine lv_iload_n hx hb dX1_setCredit_11 rfl (lv_at hl 1 rfl) ?_
    refine lv_iload_n hx hb dX1_setCredit_12 rfl (lv_at hl 2 rfl) ?_
    refine g_ast S hK hP hI hS (i := 2) (by omega) bC2 (vp_X5_isCustomer c1 (by decide)) dX1_setCredit_13 (fun H locs hP hS => ?_)
    have hP : bP G a (up b 2 p1.toNatClampNeg p2) H := hP
    exact e_void S hr hlk hK hS (gP_eq (show w_X1_setCredit b p1 p2 = up b 2 p1.toNatClampNeg p2 from (if_neg c1).trans rfl) hP) dX1_setCredit_14

def v_X1_countBills_loop (b : Nat → Nat → Int32) (p1 : Int32) (p2 : Int32) : Nat → Nat → Int32 → Int32
  | 0, k, x3 => x3
  | n + 1, k, x3 => if v_X0_is b k p1 p2 = 0 then (v_X1_countBills_loop b p1 p2 n (k + 1) (x3 + (0 : Int32))) else v_X1_countBills_loop b p1 p2 n (k + 1) (x3 + (1 : Int32))
def v_X1_countBills (b : Nat → Nat → Int32) (p1 : Int32) (p2 : Int32) : Int32 := v_X1_countBills_loop b p1 p2 40 0 (0 : Int32)
theorem q_X1_countBills : yX1_countBills.cls ≠ "java/lang/invoke/MethodHandle" ∧ yX1_countBills.cls ≠ "java/lang/invoke/VarHandle" ∧ (parseMethodDescriptor yX1_countBills.desc).map (fun d => d.parameters.length) = some 2 := ⟨by decide, by decide, by decide +kernel⟩
set_option maxHeartbeats 4000000 in
set_option maxRecDepth 100000 in
theorem c_X1_countBills (l : Launch) (G : kG) (a : Nat → Nat) (hI : gI 47 a) (b : Nat → Nat → Int32) (p1 : Int32) (p2 : Int32) : Met l yX1_countBills (Cond.code yX1_countBills cX1_countBills 8 (some .int) :: BIG) (rmK 1) (pcG G (bP G a b) [.ref (a 0), .int p1, .int p2]) (qcI G (gA 47 a) (bP G a b) (v_X1_countBills b p1 p2)) 0 0 (gA 47 a) := by
  refine m_start (by decide) (Nat.le_of_ble_eq_true rfl) ?_
  intro p e s m args below meth c S hr hlk hnm hP hK ls hl
  have hx := S.1
  have hb := S.2.1
  have hown := S.2.2.2.1
  have hS : va_S (gA 47 a) s.heap s.heap [] := va_S.rf
  have hl : lv_has ls 8 [(0, .ref (a 0)), (1, .int p1), (2, .int p2)] := hl
  refine lv_iconst (v := 0) hx hb dX1_countBills_0 (by decide) ?_
  refine lv_istore_n (lv' := [(3, .int (0 : Int32)), (0, .ref (a 0)), (1, .int p1), (2, .int p2)]) hx hb dX1_countBills_1 rfl hl (by decide) rfl (fun ls hl => ?_)
  refine lv_aload_n hx hb dX1_countBills_2 rfl (lv_at hl 1 rfl) ?_
  refine g_get S hK hP (i := 0) (by omega) bC0 rfl inlX1 0 (by decide) k_31 (v := .ref (a 1)) rfl dX1_countBills_3 ?_
  refine lv_astore (lv' := [(4, .ref (a 1)), (3, .int (0 : Int32)), (0, .ref (a 0)), (1, .int p1), (2, .int p2)]) hx hb dX1_countBills_6 hl (by decide) rfl (fun ls hl => ?_)
  refine lv_aload hx hb dX1_countBills_8 (lv_at hl 0 rfl) ?_
  refine g_alen S hK hP (i := 1) (by omega) (bC1 _) 2 rfl (v := 40) rfl dX1_countBills_10 ?_
  refine lv_istore (lv' := [(5, .int (40 : Int32)), (4, .ref (a 1)), (3, .int (0 : Int32)), (0, .ref (a 0)), (1, .int p1), (2, .int p2)]) hx hb dX1_countBills_11 hl (by decide) rfl (fun ls hl => ?_)
  refine lv_iconst (v := 0) hx hb dX1_countBills_13 (by decide) ?_
  refine lv_istore (lv' := [(6, .int (0 : Int32)), (5, .int (40 : Int32)), (4, .ref (a 1)), (3, .int (0 : Int32)), (0, .ref (a 0)), (1, .int p1), (2, .int p2)]) hx hb dX1_countBills_14 hl (by decide) rfl (fun ls hl => ?_)
  have LP_loop : ∀ (n : Nat) (k : Nat), k + n = 40 → ∀ (x3 : Int32) (H : Heap) (locs : List Loc), bP G a b H → va_S (gA 47 a) s.heap H locs → ∀ ls : Array Slot, lv_has ls 8 [(6, .int (nI k)), (5, .int (40 : Int32)), (4, .ref (a 1)), (3, .int x3), (0, .ref (a 0)), (1, .int p1), (2, .int p2)] → W p l e (rmK 1) s m args below meth c H locs 0 0 (MQ below (qcI G (gA 47 a) (bP G a b) (v_X1_countBills_loop b p1 p2 n k x3)) args s 0 0 (gA 47 a)) (F0 m 16 ls []) := by
    intro n
    induction n with
    | zero =>
      intro k hk_LP_loop x3 H locs hP hS ls hl
      refine lv_iload hx hb dX1_countBills_16 (lv_at hl 0 rfl) ?_
      refine lv_iload hx hb dX1_countBills_18 (lv_at hl 1 rfl) ?_
      refine lv_icmp_ge (tgt := 54) hx hb dX1_countBills_20 (by decide) (fun _ => ?_) (fun c => absurd ((nI_leI (a := 40) (b := k) (by omega) (by omega)).mpr (by omega)) c)
      refine lv_iload_n hx hb dX1_countBills_54 rfl (lv_at hl 3 rfl) ?_
      exact e_int S hr hlk rfl hK hS hP (show v_X1_countBills_loop b p1 p2 0 k x3 = x3 from rfl).symm dX1_countBills_55
    | succ n ih_LP_loop =>
      intro k hk_LP_loop x3 H locs hP hS ls hl
      refine lv_iload hx hb dX1_countBills_16 (lv_at hl 0 rfl) ?_
      refine lv_iload hx hb dX1_countBills_18 (lv_at hl 1 rfl) ?_
      refine lv_icmp_ge (tgt := 54) hx hb dX1_countBills_20 (by decide) (fun c => absurd c (fun z => absurd ((nI_leI (a := 40) (b := k) (by omega) (by omega)).mp z) (by omega))) (fun _ => ?_)
      refine lv_aload hx hb dX1_countBills_23 (lv_at hl 2 rfl) ?_
      refine lv_iload hx hb dX1_countBills_25 (lv_at hl 0 rfl) ?_
      refine g_bald S hK hP (i := 1) (by omega) bC1 (k := k) (by omega) (by decide) (v := .ref (a (k + 7))) rfl dX1_countBills_27 ?_
      refine lv_astore (lv' := [(7, .ref (a (k + 7))), (6, .int (nI k)), (5, .int (40 : Int32)), (4, .ref (a 1)), (3, .int x3), (0, .ref (a 0)), (1, .int p1), (2, .int p2)]) hx hb dX1_countBills_28 hl (by decide) rfl (fun ls hl => ?_)
      refine lv_iload_n hx hb dX1_countBills_30 rfl (lv_at hl 4 rfl) ?_
      refine lv_aload hx hb dX1_countBills_31 (lv_at hl 0 rfl) ?_
      refine lv_iload_n hx hb dX1_countBills_33 rfl (lv_at hl 6 rfl) ?_
      refine lv_iload_n hx hb dX1_countBills_34 rfl (lv_at hl 7 rfl) ?_
      refine r_callI S hK hP (c_X0_is l G a hI b k (by omega) _ _) (r_cw S k_129 k_126 k_127 k_128 k_41 q_X0_is ⟨Nat.le_of_ble_eq_true rfl, Nat.le_of_ble_eq_true rfl⟩ rfl rfl) (g_recv hK hP (i := k + 7) (by omega) bC7 rfl) rfl hl.1 rfl (Nat.le_of_ble_eq_true rfl) dX1_countBills_35 ⟨Nat.zero_le _, Nat.zero_le _⟩ hS (fun _ h => h) (fun H locs hP _ _ hS => ?_)
      have hP : bP G a b H := hP
      refine lv_if_eq (tgt := 45) hx hb dX1_countBills_38 (by decide) (fun c1 => ?_) (fun c1 => ?_)
      · skip
        refine lv_iconst (v := 0) hx hb dX1_countBills_45 (by decide) ?_
        refine lv_iadd hx hb dX1_countBills_46 ?_
        refine lv_istore_n (lv' := [(3, .int (x3 + (0 : Int32))), (7, .ref (a (k + 7))), (6, .int (nI k)), (5, .int (40 : Int32)), (4, .ref (a 1)), (0, .ref (a 0)), (1, .int p1), (2, .int p2)]) hx hb dX1_countBills_47 rfl hl (by decide) rfl (fun ls hl => ?_)
        refine lv_iinc (v := nI (k + 1)) (lv' := [(6, .int (nI (k + 1))), (3, .int (x3 + (0 : Int32))), (7, .ref (a (k + 7))), (5, .int (40 : Int32)), (4, .ref (a 1)), (0, .ref (a 0)), (1, .int p1), (2, .int p2)]) hx hb dX1_countBills_48 hl (k := 2) rfl (nI_1 _) (by decide) rfl (fun ls hl => ?_)
        refine lv_goto (tgt := 16) hx hb dX1_countBills_51 (by decide) ?_
        refine q_eqI (show v_X1_countBills_loop b p1 p2 (n + 1) k x3 = v_X1_countBills_loop b p1 p2 n (k + 1) (x3 + (0 : Int32)) from (if_pos c1).trans rfl) rfl ?_
        exact ih_LP_loop (k + 1) (by omega) _ _ _ hP hS ls (lv_sub hl [0, 3, 4, 1, 5, 6, 7] rfl)
      · skip
        refine lv_iconst (v := 1) hx hb dX1_countBills_41 (by decide) ?_
        refine lv_goto (tgt := 46) hx hb dX1_countBills_42 (by decide) ?_
        refine lv_iadd hx hb dX1_countBills_46 ?_
        refine lv_istore_n (lv' := [(3, .int (x3 + (1 : Int32))), (7, .ref (a (k + 7))), (6, .int (nI k)), (5, .int (40 : Int32)), (4, .ref (a 1)), (0, .ref (a 0)), (1, .int p1), (2, .int p2)]) hx hb dX1_countBills_47 rfl hl (by decide) rfl (fun ls hl => ?_)
        refine lv_iinc (v := nI (k + 1)) (lv' := [(6, .int (nI (k + 1))), (3, .int (x3 + (1 : Int32))), (7, .ref (a (k + 7))), (5, .int (40 : Int32)), (4, .ref (a 1)), (0, .ref (a 0)), (1, .int p1), (2, .int p2)]) hx hb dX1_countBills_48 hl (k := 2) rfl (nI_1 _) (by decide) rfl (fun ls hl => ?_)
        refine lv_goto (tgt := 16) hx hb dX1_countBills_51 (by decide) ?_
        refine q_eqI (show v_X1_countBills_loop b p1 p2 (n + 1) k x3 = v_X1_countBills_loop b p1 p2 n (k + 1) (x3 + (1 : Int32)) from (if_neg c1).trans rfl) rfl ?_
        exact ih_LP_loop (k + 1) (by omega) _ _ _ hP hS ls (lv_sub hl [0, 3, 4, 1, 5, 6, 7] rfl)
  refine q_eqI (show v_X1_countBills b p1 p2 = v_X1_countBills_loop b p1 p2 40 0 (0 : Int32) from rfl) rfl ?_
  exact LP_loop 40 0 (by omega) _ _ _ hP hS ls (lv_sub hl [0, 1, 2, 3, 4, 5, 6] rfl)

def v_X1_countOverdue_loop (b : Nat → Nat → Int32) : Nat → Nat → Int32 → Int32
  | 0, k, x1 => x1
  | n + 1, k, x1 => if v_X0_isOverdue b k (b 0 5) = 0 then (v_X1_countOverdue_loop b n (k + 1) (x1 + (0 : Int32))) else v_X1_countOverdue_loop b n (k + 1) (x1 + (1 : Int32))
def v_X1_countOverdue (b : Nat → Nat → Int32) : Int32 := v_X1_countOverdue_loop b 40 0 (0 : Int32)
theorem q_X1_countOverdue : yX1_countOverdue.cls ≠ "java/lang/invoke/MethodHandle" ∧ yX1_countOverdue.cls ≠ "java/lang/invoke/VarHandle" ∧ (parseMethodDescriptor yX1_countOverdue.desc).map (fun d => d.parameters.length) = some 0 := ⟨by decide, by decide, by decide +kernel⟩
set_option maxHeartbeats 4000000 in
set_option maxRecDepth 100000 in
theorem c_X1_countOverdue (l : Launch) (G : kG) (a : Nat → Nat) (hI : gI 47 a) (b : Nat → Nat → Int32) : Met l yX1_countOverdue (Cond.code yX1_countOverdue cX1_countOverdue 6 (some .int) :: BIG) (rmK 1) (pcG G (bP G a b) [.ref (a 0)]) (qcI G (gA 47 a) (bP G a b) (v_X1_countOverdue b)) 0 0 (gA 47 a) := by
  refine m_start (by decide) (Nat.le_of_ble_eq_true rfl) ?_
  intro p e s m args below meth c S hr hlk hnm hP hK ls hl
  have hx := S.1
  have hb := S.2.1
  have hown := S.2.2.2.1
  have hS : va_S (gA 47 a) s.heap s.heap [] := va_S.rf
  have hl : lv_has ls 6 [(0, .ref (a 0))] := hl
  refine lv_iconst (v := 0) hx hb dX1_countOverdue_0 (by decide) ?_
  refine lv_istore_n (lv' := [(1, .int (0 : Int32)), (0, .ref (a 0))]) hx hb dX1_countOverdue_1 rfl hl (by decide) rfl (fun ls hl => ?_)
  refine lv_aload_n hx hb dX1_countOverdue_2 rfl (lv_at hl 1 rfl) ?_
  refine g_get S hK hP (i := 0) (by omega) bC0 rfl inlX1 0 (by decide) k_31 (v := .ref (a 1)) rfl dX1_countOverdue_3 ?_
  refine lv_astore_n (lv' := [(2, .ref (a 1)), (1, .int (0 : Int32)), (0, .ref (a 0))]) hx hb dX1_countOverdue_6 rfl hl (by decide) rfl (fun ls hl => ?_)
  refine lv_aload_n hx hb dX1_countOverdue_7 rfl (lv_at hl 0 rfl) ?_
  refine g_alen S hK hP (i := 1) (by omega) (bC1 _) 2 rfl (v := 40) rfl dX1_countOverdue_8 ?_
  refine lv_istore_n (lv' := [(3, .int (40 : Int32)), (2, .ref (a 1)), (1, .int (0 : Int32)), (0, .ref (a 0))]) hx hb dX1_countOverdue_9 rfl hl (by decide) rfl (fun ls hl => ?_)
  refine lv_iconst (v := 0) hx hb dX1_countOverdue_10 (by decide) ?_
  refine lv_istore (lv' := [(4, .int (0 : Int32)), (3, .int (40 : Int32)), (2, .ref (a 1)), (1, .int (0 : Int32)), (0, .ref (a 0))]) hx hb dX1_countOverdue_11 hl (by decide) rfl (fun ls hl => ?_)
  have LP_loop : ∀ (n : Nat) (k : Nat), k + n = 40 → ∀ (x1 : Int32) (H : Heap) (locs : List Loc), bP G a b H → va_S (gA 47 a) s.heap H locs → ∀ ls : Array Slot, lv_has ls 6 [(4, .int (nI k)), (3, .int (40 : Int32)), (2, .ref (a 1)), (1, .int x1), (0, .ref (a 0))] → W p l e (rmK 1) s m args below meth c H locs 0 0 (MQ below (qcI G (gA 47 a) (bP G a b) (v_X1_countOverdue_loop b n k x1)) args s 0 0 (gA 47 a)) (F0 m 13 ls []) := by
    intro n
    induction n with
    | zero =>
      intro k hk_LP_loop x1 H locs hP hS ls hl
      refine lv_iload hx hb dX1_countOverdue_13 (lv_at hl 0 rfl) ?_
      refine lv_iload_n hx hb dX1_countOverdue_15 rfl (lv_at hl 1 rfl) ?_
      refine lv_icmp_ge (tgt := 51) hx hb dX1_countOverdue_16 (by decide) (fun _ => ?_) (fun c => absurd ((nI_leI (a := 40) (b := k) (by omega) (by omega)).mpr (by omega)) c)
      refine lv_iload_n hx hb dX1_countOverdue_51 rfl (lv_at hl 3 rfl) ?_
      exact e_int S hr hlk rfl hK hS hP (show v_X1_countOverdue_loop b 0 k x1 = x1 from rfl).symm dX1_countOverdue_52
    | succ n ih_LP_loop =>
      intro k hk_LP_loop x1 H locs hP hS ls hl
      refine lv_iload hx hb dX1_countOverdue_13 (lv_at hl 0 rfl) ?_
      refine lv_iload_n hx hb dX1_countOverdue_15 rfl (lv_at hl 1 rfl) ?_
      refine lv_icmp_ge (tgt := 51) hx hb dX1_countOverdue_16 (by decide) (fun c => absurd c (fun z => absurd ((nI_leI (a := 40) (b := k) (by omega) (by omega)).mp z) (by omega))) (fun _ => ?_)
      refine lv_aload_n hx hb dX1_countOverdue_19 rfl (lv_at hl 2 rfl) ?_
      refine lv_iload hx hb dX1_countOverdue_20 (lv_at hl 0 rfl) ?_
      refine g_bald S hK hP (i := 1) (by omega) bC1 (k := k) (by omega) (by decide) (v := .ref (a (k + 7))) rfl dX1_countOverdue_22 ?_
      refine lv_astore (lv' := [(5, .ref (a (k + 7))), (4, .int (nI k)), (3, .int (40 : Int32)), (2, .ref (a 1)), (1, .int x1), (0, .ref (a 0))]) hx hb dX1_countOverdue_23 hl (by decide) rfl (fun ls hl => ?_)
      refine lv_iload_n hx hb dX1_countOverdue_25 rfl (lv_at hl 4 rfl) ?_
      refine lv_aload hx hb dX1_countOverdue_26 (lv_at hl 0 rfl) ?_
      refine lv_aload_n hx hb dX1_countOverdue_28 rfl (lv_at hl 5 rfl) ?_
      refine g_get S hK hP (i := 0) (by omega) bC0 rfl inlX1 5 (by decide) k_92 (v := .int (b 0 5)) rfl dX1_countOverdue_29 ?_
      refine r_callI S hK hP (c_X0_isOverdue l G a hI b k (by omega) _) (r_cw S k_356 k_353 k_354 k_355 k_41 q_X0_isOverdue ⟨Nat.le_of_ble_eq_true rfl, Nat.le_of_ble_eq_true rfl⟩ rfl rfl) (g_recv hK hP (i := k + 7) (by omega) bC7 rfl) rfl hl.1 rfl (Nat.le_of_ble_eq_true rfl) dX1_countOverdue_32 ⟨Nat.zero_le _, Nat.zero_le _⟩ hS (fun _ h => h) (fun H locs hP _ _ hS => ?_)
      have hP : bP G a b H := hP
      refine lv_if_eq (tgt := 42) hx hb dX1_countOverdue_35 (by decide) (fun c1 => ?_) (fun c1 => ?_)
      · skip
        refine lv_iconst (v := 0) hx hb dX1_countOverdue_42 (by decide) ?_
        refine lv_iadd hx hb dX1_countOverdue_43 ?_
        refine lv_istore_n (lv' := [(1, .int (x1 + (0 : Int32))), (5, .ref (a (k + 7))), (4, .int (nI k)), (3, .int (40 : Int32)), (2, .ref (a 1)), (0, .ref (a 0))]) hx hb dX1_countOverdue_44 rfl hl (by decide) rfl (fun ls hl => ?_)
        refine lv_iinc (v := nI (k + 1)) (lv' := [(4, .int (nI (k + 1))), (1, .int (x1 + (0 : Int32))), (5, .ref (a (k + 7))), (3, .int (40 : Int32)), (2, .ref (a 1)), (0, .ref (a 0))]) hx hb dX1_countOverdue_45 hl (k := 2) rfl (nI_1 _) (by decide) rfl (fun ls hl => ?_)
        refine lv_goto (tgt := 13) hx hb dX1_countOverdue_48 (by decide) ?_
        refine q_eqI (show v_X1_countOverdue_loop b (n + 1) k x1 = v_X1_countOverdue_loop b n (k + 1) (x1 + (0 : Int32)) from (if_pos c1).trans rfl) rfl ?_
        exact ih_LP_loop (k + 1) (by omega) _ _ _ hP hS ls (lv_sub hl [0, 3, 4, 1, 5] rfl)
      · skip
        refine lv_iconst (v := 1) hx hb dX1_countOverdue_38 (by decide) ?_
        refine lv_goto (tgt := 43) hx hb dX1_countOverdue_39 (by decide) ?_
        refine lv_iadd hx hb dX1_countOverdue_43 ?_
        refine lv_istore_n (lv' := [(1, .int (x1 + (1 : Int32))), (5, .ref (a (k + 7))), (4, .int (nI k)), (3, .int (40 : Int32)), (2, .ref (a 1)), (0, .ref (a 0))]) hx hb dX1_countOverdue_44 rfl hl (by decide) rfl (fun ls hl => ?_)
        refine lv_iinc (v := nI (k + 1)) (lv' := [(4, .int (nI (k + 1))), (1, .int (x1 + (1 : Int32))), (5, .ref (a (k + 7))), (3, .int (40 : Int32)), (2, .ref (a 1)), (0, .ref (a 0))]) hx hb dX1_countOverdue_45 hl (k := 2) rfl (nI_1 _) (by decide) rfl (fun ls hl => ?_)
        refine lv_goto (tgt := 13) hx hb dX1_countOverdue_48 (by decide) ?_
        refine q_eqI (show v_X1_countOverdue_loop b (n + 1) k x1 = v_X1_countOverdue_loop b n (k + 1) (x1 + (1 : Int32)) from (if_neg c1).trans rfl) rfl ?_
        exact ih_LP_loop (k + 1) (by omega) _ _ _ hP hS ls (lv_sub hl [0, 3, 4, 1, 5] rfl)
  refine q_eqI (show v_X1_countOverdue b  = v_X1_countOverdue_loop b 40 0 (0 : Int32) from rfl) rfl ?_
  exact LP_loop 40 0 (by omega) _ _ _ hP hS ls (lv_sub hl [0, 1, 2, 3, 4] rfl)

def v_X1_owedOn_loop (b : Nat → Nat → Int32) (p1 : Int32) (p2 : Int32) : Nat → Nat → Int32 → Int32
  | 0, k, x3 => x3
  | n + 1, k, x3 => if v_X0_is b k p1 p2 = 0 then (v_X1_owedOn_loop b p1 p2 n (k + 1) (x3 + (0 : Int32))) else v_X1_owedOn_loop b p1 p2 n (k + 1) (x3 + (v_X0_owed b k))
def v_X1_owedOn (b : Nat → Nat → Int32) (p1 : Int32) (p2 : Int32) : Int32 := v_X1_owedOn_loop b p1 p2 40 0 (0 : Int32)
theorem q_X1_owedOn : yX1_owedOn.cls ≠ "java/lang/invoke/MethodHandle" ∧ yX1_owedOn.cls ≠ "java/lang/invoke/VarHandle" ∧ (parseMethodDescriptor yX1_owedOn.desc).map (fun d => d.parameters.length) = some 2 := ⟨by decide, by decide, by decide +kernel⟩
set_option maxHeartbeats 4000000 in
set_option maxRecDepth 100000 in
theorem c_X1_owedOn (l : Launch) (G : kG) (a : Nat → Nat) (hI : gI 47 a) (b : Nat → Nat → Int32) (p1 : Int32) (p2 : Int32) : Met l yX1_owedOn (Cond.code yX1_owedOn cX1_owedOn 8 (some .int) :: BIG) (rmK 1) (pcG G (bP G a b) [.ref (a 0), .int p1, .int p2]) (qcI G (gA 47 a) (bP G a b) (v_X1_owedOn b p1 p2)) 0 0 (gA 47 a) := by
  refine m_start (by decide) (Nat.le_of_ble_eq_true rfl) ?_
  intro p e s m args below meth c S hr hlk hnm hP hK ls hl
  have hx := S.1
  have hb := S.2.1
  have hown := S.2.2.2.1
  have hS : va_S (gA 47 a) s.heap s.heap [] := va_S.rf
  have hl : lv_has ls 8 [(0, .ref (a 0)), (1, .int p1), (2, .int p2)] := hl
  refine lv_iconst (v := 0) hx hb dX1_owedOn_0 (by decide) ?_
  refine lv_istore_n (lv' := [(3, .int (0 : Int32)), (0, .ref (a 0)), (1, .int p1), (2, .int p2)]) hx hb dX1_owedOn_1 rfl hl (by decide) rfl (fun ls hl => ?_)
  refine lv_aload_n hx hb dX1_owedOn_2 rfl (lv_at hl 1 rfl) ?_
  refine g_get S hK hP (i := 0) (by omega) bC0 rfl inlX1 0 (by decide) k_31 (v := .ref (a 1)) rfl dX1_owedOn_3 ?_
  refine lv_astore (lv' := [(4, .ref (a 1)), (3, .int (0 : Int32)), (0, .ref (a 0)), (1, .int p1), (2, .int p2)]) hx hb dX1_owedOn_6 hl (by decide) rfl (fun ls hl => ?_)
  refine lv_aload hx hb dX1_owedOn_8 (lv_at hl 0 rfl) ?_
  refine g_alen S hK hP (i := 1) (by omega) (bC1 _) 2 rfl (v := 40) rfl dX1_owedOn_10 ?_
  refine lv_istore (lv' := [(5, .int (40 : Int32)), (4, .ref (a 1)), (3, .int (0 : Int32)), (0, .ref (a 0)), (1, .int p1), (2, .int p2)]) hx hb dX1_owedOn_11 hl (by decide) rfl (fun ls hl => ?_)
  refine lv_iconst (v := 0) hx hb dX1_owedOn_13 (by decide) ?_
  refine lv_istore (lv' := [(6, .int (0 : Int32)), (5, .int (40 : Int32)), (4, .ref (a 1)), (3, .int (0 : Int32)), (0, .ref (a 0)), (1, .int p1), (2, .int p2)]) hx hb dX1_owedOn_14 hl (by decide) rfl (fun ls hl => ?_)
  have LP_loop : ∀ (n : Nat) (k : Nat), k + n = 40 → ∀ (x3 : Int32) (H : Heap) (locs : List Loc), bP G a b H → va_S (gA 47 a) s.heap H locs → ∀ ls : Array Slot, lv_has ls 8 [(6, .int (nI k)), (5, .int (40 : Int32)), (4, .ref (a 1)), (3, .int x3), (0, .ref (a 0)), (1, .int p1), (2, .int p2)] → W p l e (rmK 1) s m args below meth c H locs 0 0 (MQ below (qcI G (gA 47 a) (bP G a b) (v_X1_owedOn_loop b p1 p2 n k x3)) args s 0 0 (gA 47 a)) (F0 m 16 ls []) := by
    intro n
    induction n with
    | zero =>
      intro k hk_LP_loop x3 H locs hP hS ls hl
      refine lv_iload hx hb dX1_owedOn_16 (lv_at hl 0 rfl) ?_
      refine lv_iload hx hb dX1_owedOn_18 (lv_at hl 1 rfl) ?_
      refine lv_icmp_ge (tgt := 58) hx hb dX1_owedOn_20 (by decide) (fun _ => ?_) (fun c => absurd ((nI_leI (a := 40) (b := k) (by omega) (by omega)).mpr (by omega)) c)
      refine lv_iload_n hx hb dX1_owedOn_58 rfl (lv_at hl 3 rfl) ?_
      exact e_int S hr hlk rfl hK hS hP (show v_X1_owedOn_loop b p1 p2 0 k x3 = x3 from rfl).symm dX1_owedOn_59
    | succ n ih_LP_loop =>
      intro k hk_LP_loop x3 H locs hP hS ls hl
      refine lv_iload hx hb dX1_owedOn_16 (lv_at hl 0 rfl) ?_
      refine lv_iload hx hb dX1_owedOn_18 (lv_at hl 1 rfl) ?_
      refine lv_icmp_ge (tgt := 58) hx hb dX1_owedOn_20 (by decide) (fun c => absurd c (fun z => absurd ((nI_leI (a := 40) (b := k) (by omega) (by omega)).mp z) (by omega))) (fun _ => ?_)
      refine lv_aload hx hb dX1_owedOn_23 (lv_at hl 2 rfl) ?_
      refine lv_iload hx hb dX1_owedOn_25 (lv_at hl 0 rfl) ?_
      refine g_bald S hK hP (i := 1) (by omega) bC1 (k := k) (by omega) (by decide) (v := .ref (a (k + 7))) rfl dX1_owedOn_27 ?_
      refine lv_astore (lv' := [(7, .ref (a (k + 7))), (6, .int (nI k)), (5, .int (40 : Int32)), (4, .ref (a 1)), (3, .int x3), (0, .ref (a 0)), (1, .int p1), (2, .int p2)]) hx hb dX1_owedOn_28 hl (by decide) rfl (fun ls hl => ?_)
      refine lv_iload_n hx hb dX1_owedOn_30 rfl (lv_at hl 4 rfl) ?_
      refine lv_aload hx hb dX1_owedOn_31 (lv_at hl 0 rfl) ?_
      refine lv_iload_n hx hb dX1_owedOn_33 rfl (lv_at hl 6 rfl) ?_
      refine lv_iload_n hx hb dX1_owedOn_34 rfl (lv_at hl 7 rfl) ?_
      refine r_callI S hK hP (c_X0_is l G a hI b k (by omega) _ _) (r_cw S k_129 k_126 k_127 k_128 k_41 q_X0_is ⟨Nat.le_of_ble_eq_true rfl, Nat.le_of_ble_eq_true rfl⟩ rfl rfl) (g_recv hK hP (i := k + 7) (by omega) bC7 rfl) rfl hl.1 rfl (Nat.le_of_ble_eq_true rfl) dX1_owedOn_35 ⟨Nat.zero_le _, Nat.zero_le _⟩ hS (fun _ h => h) (fun H locs hP _ _ hS => ?_)
      have hP : bP G a b H := hP
      refine lv_if_eq (tgt := 49) hx hb dX1_owedOn_38 (by decide) (fun c1 => ?_) (fun c1 => ?_)
      · skip
        refine lv_iconst (v := 0) hx hb dX1_owedOn_49 (by decide) ?_
        refine lv_iadd hx hb dX1_owedOn_50 ?_
        refine lv_istore_n (lv' := [(3, .int (x3 + (0 : Int32))), (7, .ref (a (k + 7))), (6, .int (nI k)), (5, .int (40 : Int32)), (4, .ref (a 1)), (0, .ref (a 0)), (1, .int p1), (2, .int p2)]) hx hb dX1_owedOn_51 rfl hl (by decide) rfl (fun ls hl => ?_)
        refine lv_iinc (v := nI (k + 1)) (lv' := [(6, .int (nI (k + 1))), (3, .int (x3 + (0 : Int32))), (7, .ref (a (k + 7))), (5, .int (40 : Int32)), (4, .ref (a 1)), (0, .ref (a 0)), (1, .int p1), (2, .int p2)]) hx hb dX1_owedOn_52 hl (k := 2) rfl (nI_1 _) (by decide) rfl (fun ls hl => ?_)
        refine lv_goto (tgt := 16) hx hb dX1_owedOn_55 (by decide) ?_
        refine q_eqI (show v_X1_owedOn_loop b p1 p2 (n + 1) k x3 = v_X1_owedOn_loop b p1 p2 n (k + 1) (x3 + (0 : Int32)) from (if_pos c1).trans rfl) rfl ?_
        exact ih_LP_loop (k + 1) (by omega) _ _ _ hP hS ls (lv_sub hl [0, 3, 4, 1, 5, 6, 7] rfl)
      · skip
        refine lv_aload hx hb dX1_owedOn_41 (lv_at hl 0 rfl) ?_
        refine r_callI S hK hP (c_X0_owed l G a hI b k (by omega) ) (r_cw S k_164 k_161 k_162 k_163 k_41 q_X0_owed ⟨Nat.le_of_ble_eq_true rfl, Nat.le_of_ble_eq_true rfl⟩ rfl rfl) (g_recv hK hP (i := k + 7) (by omega) bC7 rfl) rfl hl.1 rfl (Nat.le_of_ble_eq_true rfl) dX1_owedOn_43 ⟨Nat.zero_le _, Nat.zero_le _⟩ hS (fun _ h => h) (fun H locs hP _ _ hS => ?_)
        have hP : bP G a b H := hP
        refine lv_goto (tgt := 50) hx hb dX1_owedOn_46 (by decide) ?_
        refine lv_iadd hx hb dX1_owedOn_50 ?_
        refine lv_istore_n (lv' := [(3, .int (x3 + (v_X0_owed b k))), (7, .ref (a (k + 7))), (6, .int (nI k)), (5, .int (40 : Int32)), (4, .ref (a 1)), (0, .ref (a 0)), (1, .int p1), (2, .int p2)]) hx hb dX1_owedOn_51 rfl hl (by decide) rfl (fun ls hl => ?_)
        refine lv_iinc (v := nI (k + 1)) (lv' := [(6, .int (nI (k + 1))), (3, .int (x3 + (v_X0_owed b k))), (7, .ref (a (k + 7))), (5, .int (40 : Int32)), (4, .ref (a 1)), (0, .ref (a 0)), (1, .int p1), (2, .int p2)]) hx hb dX1_owedOn_52 hl (k := 2) rfl (nI_1 _) (by decide) rfl (fun ls hl => ?_)
        refine lv_goto (tgt := 16) hx hb dX1_owedOn_55 (by decide) ?_
        refine q_eqI (show v_X1_owedOn_loop b p1 p2 (n + 1) k x3 = v_X1_owedOn_loop b p1 p2 n (k + 1) (x3 + (v_X0_owed b k)) from (if_neg c1).trans rfl) rfl ?_
        exact ih_LP_loop (k + 1) (by omega) _ _ _ hP hS ls (lv_sub hl [0, 3, 4, 1, 5, 6, 7] rfl)
  refine q_eqI (show v_X1_owedOn b p1 p2 = v_X1_owedOn_loop b p1 p2 40 0 (0 : Int32) from rfl) rfl ?_
  exact LP_loop 40 0 (by omega) _ _ _ hP hS ls (lv_sub hl [0, 1, 2, 3, 4, 5, 6] rfl)

def v_X1_oldestOpenBill_loop (b : Nat → Nat → Int32) (p1 : Int32) : Nat → Nat → Int32
  | 0, k => (-5 : Int32)
  | n + 1, k => if v_X0_is b k p1 (0 : Int32) = 0 then (v_X1_oldestOpenBill_loop b p1 n (k + 1)) else nI k
def v_X1_oldestOpenBill (b : Nat → Nat → Int32) (p1 : Int32) : Int32 := v_X1_oldestOpenBill_loop b p1 40 0
theorem q_X1_oldestOpenBill : yX1_oldestOpenBill.cls ≠ "java/lang/invoke/MethodHandle" ∧ yX1_oldestOpenBill.cls ≠ "java/lang/invoke/VarHandle" ∧ (parseMethodDescriptor yX1_oldestOpenBill.desc).map (fun d => d.parameters.length) = some 1 := ⟨by decide, by decide, by decide +kernel⟩
set_option maxHeartbeats 4000000 in
set_option maxRecDepth 100000 in
theorem c_X1_oldestOpenBill (l : Launch) (G : kG) (a : Nat → Nat) (hI : gI 47 a) (b : Nat → Nat → Int32) (p1 : Int32) : Met l yX1_oldestOpenBill (Cond.code yX1_oldestOpenBill cX1_oldestOpenBill 3 (some .int) :: BIG) (rmK 1) (pcG G (bP G a b) [.ref (a 0), .int p1]) (qcI G (gA 47 a) (bP G a b) (v_X1_oldestOpenBill b p1)) 0 0 (gA 47 a) := by
  refine m_start (by decide) (Nat.le_of_ble_eq_true rfl) ?_
  intro p e s m args below meth c S hr hlk hnm hP hK ls hl
  have hx := S.1
  have hb := S.2.1
  have hown := S.2.2.2.1
  have hS : va_S (gA 47 a) s.heap s.heap [] := va_S.rf
  have hl : lv_has ls 3 [(0, .ref (a 0)), (1, .int p1)] := hl
  refine lv_iconst (v := 0) hx hb dX1_oldestOpenBill_0 (by decide) ?_
  refine lv_istore_n (lv' := [(2, .int (0 : Int32)), (0, .ref (a 0)), (1, .int p1)]) hx hb dX1_oldestOpenBill_1 rfl hl (by decide) rfl (fun ls hl => ?_)
  have LP_loop : ∀ (n : Nat) (k : Nat), k + n = 40 → ∀ (H : Heap) (locs : List Loc), bP G a b H → va_S (gA 47 a) s.heap H locs → ∀ ls : Array Slot, lv_has ls 3 [(2, .int (nI k)), (0, .ref (a 0)), (1, .int p1)] → W p l e (rmK 1) s m args below meth c H locs 0 0 (MQ below (qcI G (gA 47 a) (bP G a b) (v_X1_oldestOpenBill_loop b p1 n k)) args s 0 0 (gA 47 a)) (F0 m 2 ls []) := by
    intro n
    induction n with
    | zero =>
      intro k hk_LP_loop H locs hP hS ls hl
      refine lv_iload_n hx hb dX1_oldestOpenBill_2 rfl (lv_at hl 0 rfl) ?_
      refine lv_aload_n hx hb dX1_oldestOpenBill_3 rfl (lv_at hl 1 rfl) ?_
      refine g_get S hK hP (i := 0) (by omega) bC0 rfl inlX1 0 (by decide) k_31 (v := .ref (a 1)) rfl dX1_oldestOpenBill_4 ?_
      refine g_alen S hK hP (i := 1) (by omega) (bC1 _) 2 rfl (v := 40) rfl dX1_oldestOpenBill_7 ?_
      refine lv_icmp_ge (tgt := 33) hx hb dX1_oldestOpenBill_8 (by decide) (fun _ => ?_) (fun c => absurd ((nI_leI (a := 40) (b := k) (by omega) (by omega)).mpr (by omega)) c)
      refine lv_bipush (v := -5) hx hb dX1_oldestOpenBill_33 (by decide) ?_
      exact e_int S hr hlk rfl hK hS hP (show v_X1_oldestOpenBill_loop b p1 0 k = (-5 : Int32) from rfl).symm dX1_oldestOpenBill_35
    | succ n ih_LP_loop =>
      intro k hk_LP_loop H locs hP hS ls hl
      refine lv_iload_n hx hb dX1_oldestOpenBill_2 rfl (lv_at hl 0 rfl) ?_
      refine lv_aload_n hx hb dX1_oldestOpenBill_3 rfl (lv_at hl 1 rfl) ?_
      refine g_get S hK hP (i := 0) (by omega) bC0 rfl inlX1 0 (by decide) k_31 (v := .ref (a 1)) rfl dX1_oldestOpenBill_4 ?_
      refine g_alen S hK hP (i := 1) (by omega) (bC1 _) 2 rfl (v := 40) rfl dX1_oldestOpenBill_7 ?_
      refine lv_icmp_ge (tgt := 33) hx hb dX1_oldestOpenBill_8 (by decide) (fun c => absurd c (fun z => absurd ((nI_leI (a := 40) (b := k) (by omega) (by omega)).mp z) (by omega))) (fun _ => ?_)
      refine lv_aload_n hx hb dX1_oldestOpenBill_11 rfl (lv_at hl 1 rfl) ?_
      refine g_get S hK hP (i := 0) (by omega) bC0 rfl inlX1 0 (by decide) k_31 (v := .ref (a 1)) rfl dX1_oldestOpenBill_12 ?_
      refine lv_iload_n hx hb dX1_oldestOpenBill_15 rfl (lv_at hl 0 rfl) ?_
      refine g_bald S hK hP (i := 1) (by omega) bC1 (k := k) (by omega) (by decide) (v := .ref (a (k + 7))) rfl dX1_oldestOpenBill_16 ?_
      refine lv_iload_n hx hb dX1_oldestOpenBill_17 rfl (lv_at hl 2 rfl) ?_
      refine lv_iconst (v := 0) hx hb dX1_oldestOpenBill_18 (by decide) ?_
      refine r_callI S hK hP (c_X0_is l G a hI b k (by omega) _ _) (r_cw S k_129 k_126 k_127 k_128 k_41 q_X0_is ⟨Nat.le_of_ble_eq_true rfl, Nat.le_of_ble_eq_true rfl⟩ rfl rfl) (g_recv hK hP (i := k + 7) (by omega) bC7 rfl) rfl hl.1 rfl (Nat.le_of_ble_eq_true rfl) dX1_oldestOpenBill_19 ⟨Nat.zero_le _, Nat.zero_le _⟩ hS (fun _ h => h) (fun H locs hP _ _ hS => ?_)
      have hP : bP G a b H := hP
      refine lv_if_eq (tgt := 27) hx hb dX1_oldestOpenBill_22 (by decide) (fun c1 => ?_) (fun c1 => ?_)
      · skip
        refine lv_iinc (v := nI (k + 1)) (lv' := [(2, .int (nI (k + 1))), (0, .ref (a 0)), (1, .int p1)]) hx hb dX1_oldestOpenBill_27 hl (k := 0) rfl (nI_1 _) (by decide) rfl (fun ls hl => ?_)
        refine lv_goto (tgt := 2) hx hb dX1_oldestOpenBill_30 (by decide) ?_
        refine q_eqI (show v_X1_oldestOpenBill_loop b p1 (n + 1) k = v_X1_oldestOpenBill_loop b p1 n (k + 1) from (if_pos c1).trans rfl) rfl ?_
        exact ih_LP_loop (k + 1) (by omega) _ _ hP hS ls (lv_sub hl [0, 1, 2] rfl)
      · skip
        refine lv_iload_n hx hb dX1_oldestOpenBill_25 rfl (lv_at hl 0 rfl) ?_
        exact e_int S hr hlk rfl hK hS hP (show v_X1_oldestOpenBill_loop b p1 (n + 1) k = nI k from (if_neg c1).trans rfl).symm dX1_oldestOpenBill_26
  refine q_eqI (show v_X1_oldestOpenBill b p1 = v_X1_oldestOpenBill_loop b p1 40 0 from rfl) rfl ?_
  exact LP_loop 40 0 (by omega) _ _ hP hS ls (lv_sub hl [0, 1, 2] rfl)

def v_X1_paidOn_loop (b : Nat → Nat → Int32) (p1 : Int32) : Nat → Nat → Int32 → Int32
  | 0, k, x2 => x2
  | n + 1, k, x2 => if v_X0_is b k p1 (-9 : Int32) = 0 then (v_X1_paidOn_loop b p1 n (k + 1) (x2 + (0 : Int32))) else v_X1_paidOn_loop b p1 n (k + 1) (x2 + (b (k + 7) 8))
def v_X1_paidOn (b : Nat → Nat → Int32) (p1 : Int32) : Int32 := v_X1_paidOn_loop b p1 40 0 (0 : Int32)
theorem q_X1_paidOn : yX1_paidOn.cls ≠ "java/lang/invoke/MethodHandle" ∧ yX1_paidOn.cls ≠ "java/lang/invoke/VarHandle" ∧ (parseMethodDescriptor yX1_paidOn.desc).map (fun d => d.parameters.length) = some 1 := ⟨by decide, by decide, by decide +kernel⟩
set_option maxHeartbeats 4000000 in
set_option maxRecDepth 100000 in
theorem c_X1_paidOn (l : Launch) (G : kG) (a : Nat → Nat) (hI : gI 47 a) (b : Nat → Nat → Int32) (p1 : Int32) : Met l yX1_paidOn (Cond.code yX1_paidOn cX1_paidOn 7 (some .int) :: BIG) (rmK 1) (pcG G (bP G a b) [.ref (a 0), .int p1]) (qcI G (gA 47 a) (bP G a b) (v_X1_paidOn b p1)) 0 0 (gA 47 a) := by
  refine m_start (by decide) (Nat.le_of_ble_eq_true rfl) ?_
  intro p e s m args below meth c S hr hlk hnm hP hK ls hl
  have hx := S.1
  have hb := S.2.1
  have hown := S.2.2.2.1
  have hS : va_S (gA 47 a) s.heap s.heap [] := va_S.rf
  have hl : lv_has ls 7 [(0, .ref (a 0)), (1, .int p1)] := hl
  refine lv_iconst (v := 0) hx hb dX1_paidOn_0 (by decide) ?_
  refine lv_istore_n (lv' := [(2, .int (0 : Int32)), (0, .ref (a 0)), (1, .int p1)]) hx hb dX1_paidOn_1 rfl hl (by decide) rfl (fun ls hl => ?_)
  refine lv_aload_n hx hb dX1_paidOn_2 rfl (lv_at hl 1 rfl) ?_
  refine g_get S hK hP (i := 0) (by omega) bC0 rfl inlX1 0 (by decide) k_31 (v := .ref (a 1)) rfl dX1_paidOn_3 ?_
  refine lv_astore_n (lv' := [(3, .ref (a 1)), (2, .int (0 : Int32)), (0, .ref (a 0)), (1, .int p1)]) hx hb dX1_paidOn_6 rfl hl (by decide) rfl (fun ls hl => ?_)
  refine lv_aload_n hx hb dX1_paidOn_7 rfl (lv_at hl 0 rfl) ?_
  refine g_alen S hK hP (i := 1) (by omega) (bC1 _) 2 rfl (v := 40) rfl dX1_paidOn_8 ?_
  refine lv_istore (lv' := [(4, .int (40 : Int32)), (3, .ref (a 1)), (2, .int (0 : Int32)), (0, .ref (a 0)), (1, .int p1)]) hx hb dX1_paidOn_9 hl (by decide) rfl (fun ls hl => ?_)
  refine lv_iconst (v := 0) hx hb dX1_paidOn_11 (by decide) ?_
  refine lv_istore (lv' := [(5, .int (0 : Int32)), (4, .int (40 : Int32)), (3, .ref (a 1)), (2, .int (0 : Int32)), (0, .ref (a 0)), (1, .int p1)]) hx hb dX1_paidOn_12 hl (by decide) rfl (fun ls hl => ?_)
  have LP_loop : ∀ (n : Nat) (k : Nat), k + n = 40 → ∀ (x2 : Int32) (H : Heap) (locs : List Loc), bP G a b H → va_S (gA 47 a) s.heap H locs → ∀ ls : Array Slot, lv_has ls 7 [(5, .int (nI k)), (4, .int (40 : Int32)), (3, .ref (a 1)), (2, .int x2), (0, .ref (a 0)), (1, .int p1)] → W p l e (rmK 1) s m args below meth c H locs 0 0 (MQ below (qcI G (gA 47 a) (bP G a b) (v_X1_paidOn_loop b p1 n k x2)) args s 0 0 (gA 47 a)) (F0 m 14 ls []) := by
    intro n
    induction n with
    | zero =>
      intro k hk_LP_loop x2 H locs hP hS ls hl
      refine lv_iload hx hb dX1_paidOn_14 (lv_at hl 0 rfl) ?_
      refine lv_iload hx hb dX1_paidOn_16 (lv_at hl 1 rfl) ?_
      refine lv_icmp_ge (tgt := 56) hx hb dX1_paidOn_18 (by decide) (fun _ => ?_) (fun c => absurd ((nI_leI (a := 40) (b := k) (by omega) (by omega)).mpr (by omega)) c)
      refine lv_iload_n hx hb dX1_paidOn_56 rfl (lv_at hl 3 rfl) ?_
      exact e_int S hr hlk rfl hK hS hP (show v_X1_paidOn_loop b p1 0 k x2 = x2 from rfl).symm dX1_paidOn_57
    | succ n ih_LP_loop =>
      intro k hk_LP_loop x2 H locs hP hS ls hl
      refine lv_iload hx hb dX1_paidOn_14 (lv_at hl 0 rfl) ?_
      refine lv_iload hx hb dX1_paidOn_16 (lv_at hl 1 rfl) ?_
      refine lv_icmp_ge (tgt := 56) hx hb dX1_paidOn_18 (by decide) (fun c => absurd c (fun z => absurd ((nI_leI (a := 40) (b := k) (by omega) (by omega)).mp z) (by omega))) (fun _ => ?_)
      refine lv_aload_n hx hb dX1_paidOn_21 rfl (lv_at hl 2 rfl) ?_
      refine lv_iload hx hb dX1_paidOn_22 (lv_at hl 0 rfl) ?_
      refine g_bald S hK hP (i := 1) (by omega) bC1 (k := k) (by omega) (by decide) (v := .ref (a (k + 7))) rfl dX1_paidOn_24 ?_
      refine lv_astore (lv' := [(6, .ref (a (k + 7))), (5, .int (nI k)), (4, .int (40 : Int32)), (3, .ref (a 1)), (2, .int x2), (0, .ref (a 0)), (1, .int p1)]) hx hb dX1_paidOn_25 hl (by decide) rfl (fun ls hl => ?_)
      refine lv_iload_n hx hb dX1_paidOn_27 rfl (lv_at hl 4 rfl) ?_
      refine lv_aload hx hb dX1_paidOn_28 (lv_at hl 0 rfl) ?_
      refine lv_iload_n hx hb dX1_paidOn_30 rfl (lv_at hl 6 rfl) ?_
      refine lv_bipush (v := -9) hx hb dX1_paidOn_31 (by decide) ?_
      refine r_callI S hK hP (c_X0_is l G a hI b k (by omega) _ _) (r_cw S k_129 k_126 k_127 k_128 k_41 q_X0_is ⟨Nat.le_of_ble_eq_true rfl, Nat.le_of_ble_eq_true rfl⟩ rfl rfl) (g_recv hK hP (i := k + 7) (by omega) bC7 rfl) rfl hl.1 rfl (Nat.le_of_ble_eq_true rfl) dX1_paidOn_33 ⟨Nat.zero_le _, Nat.zero_le _⟩ hS (fun _ h => h) (fun H locs hP _ _ hS => ?_)
      have hP : bP G a b H := hP
      refine lv_if_eq (tgt := 47) hx hb dX1_paidOn_36 (by decide) (fun c1 => ?_) (fun c1 => ?_)
      · skip
        refine lv_iconst (v := 0) hx hb dX1_paidOn_47 (by decide) ?_
        refine lv_iadd hx hb dX1_paidOn_48 ?_
        refine lv_istore_n (lv' := [(2, .int (x2 + (0 : Int32))), (6, .ref (a (k + 7))), (5, .int (nI k)), (4, .int (40 : Int32)), (3, .ref (a 1)), (0, .ref (a 0)), (1, .int p1)]) hx hb dX1_paidOn_49 rfl hl (by decide) rfl (fun ls hl => ?_)
        refine lv_iinc (v := nI (k + 1)) (lv' := [(5, .int (nI (k + 1))), (2, .int (x2 + (0 : Int32))), (6, .ref (a (k + 7))), (4, .int (40 : Int32)), (3, .ref (a 1)), (0, .ref (a 0)), (1, .int p1)]) hx hb dX1_paidOn_50 hl (k := 2) rfl (nI_1 _) (by decide) rfl (fun ls hl => ?_)
        refine lv_goto (tgt := 14) hx hb dX1_paidOn_53 (by decide) ?_
        refine q_eqI (show v_X1_paidOn_loop b p1 (n + 1) k x2 = v_X1_paidOn_loop b p1 n (k + 1) (x2 + (0 : Int32)) from (if_pos c1).trans rfl) rfl ?_
        exact ih_LP_loop (k + 1) (by omega) _ _ _ hP hS ls (lv_sub hl [0, 3, 4, 1, 5, 6] rfl)
      · skip
        refine lv_aload hx hb dX1_paidOn_39 (lv_at hl 0 rfl) ?_
        refine g_get S hK hP (i := k + 7) (by omega) bC7 rfl inlX0 8 (by decide) k_704 (v := .int (b (k + 7) 8)) rfl dX1_paidOn_41 ?_
        refine lv_goto (tgt := 48) hx hb dX1_paidOn_44 (by decide) ?_
        refine lv_iadd hx hb dX1_paidOn_48 ?_
        refine lv_istore_n (lv' := [(2, .int (x2 + (b (k + 7) 8))), (6, .ref (a (k + 7))), (5, .int (nI k)), (4, .int (40 : Int32)), (3, .ref (a 1)), (0, .ref (a 0)), (1, .int p1)]) hx hb dX1_paidOn_49 rfl hl (by decide) rfl (fun ls hl => ?_)
        refine lv_iinc (v := nI (k + 1)) (lv' := [(5, .int (nI (k + 1))), (2, .int (x2 + (b (k + 7) 8))), (6, .ref (a (k + 7))), (4, .int (40 : Int32)), (3, .ref (a 1)), (0, .ref (a 0)), (1, .int p1)]) hx hb dX1_paidOn_50 hl (k := 2) rfl (nI_1 _) (by decide) rfl (fun ls hl => ?_)
        refine lv_goto (tgt := 14) hx hb dX1_paidOn_53 (by decide) ?_
        refine q_eqI (show v_X1_paidOn_loop b p1 (n + 1) k x2 = v_X1_paidOn_loop b p1 n (k + 1) (x2 + (b (k + 7) 8)) from (if_neg c1).trans rfl) rfl ?_
        exact ih_LP_loop (k + 1) (by omega) _ _ _ hP hS ls (lv_sub hl [0, 3, 4, 1, 5, 6] rfl)
  refine q_eqI (show v_X1_paidOn b p1 = v_X1_paidOn_loop b p1 40 0 (0 : Int32) from rfl) rfl ?_
  exact LP_loop 40 0 (by omega) _ _ _ hP hS ls (lv_sub hl [0, 1, 2, 3, 4, 5] rfl)

def v_X1_allCredit_loop (b : Nat → Nat → Int32) : Nat → Nat → Int32 → Int32
  | 0, k, x1 => x1
  | n + 1, k, x1 => v_X1_allCredit_loop b n (k + 1) (x1 + (b 2 k))
def v_X1_allCredit (b : Nat → Nat → Int32) : Int32 := v_X1_allCredit_loop b 8 0 (0 : Int32)
theorem q_X1_allCredit : yX1_allCredit.cls ≠ "java/lang/invoke/MethodHandle" ∧ yX1_allCredit.cls ≠ "java/lang/invoke/VarHandle" ∧ (parseMethodDescriptor yX1_allCredit.desc).map (fun d => d.parameters.length) = some 0 := ⟨by decide, by decide, by decide +kernel⟩
set_option maxHeartbeats 4000000 in
set_option maxRecDepth 100000 in
theorem c_X1_allCredit (l : Launch) (G : kG) (a : Nat → Nat) (hI : gI 47 a) (b : Nat → Nat → Int32) : Met l yX1_allCredit (Cond.code yX1_allCredit cX1_allCredit 6 (some .int) :: BIG) (rmK 0) (pcG G (bP G a b) [.ref (a 0)]) (qcI G (gA 47 a) (bP G a b) (v_X1_allCredit b)) 0 0 (gA 47 a) := by
  refine m_start (by decide) (Nat.le_of_ble_eq_true rfl) ?_
  intro p e s m args below meth c S hr hlk hnm hP hK ls hl
  have hx := S.1
  have hb := S.2.1
  have hown := S.2.2.2.1
  have hS : va_S (gA 47 a) s.heap s.heap [] := va_S.rf
  have hl : lv_has ls 6 [(0, .ref (a 0))] := hl
  refine lv_iconst (v := 0) hx hb dX1_allCredit_0 (by decide) ?_
  refine lv_istore_n (lv' := [(1, .int (0 : Int32)), (0, .ref (a 0))]) hx hb dX1_allCredit_1 rfl hl (by decide) rfl (fun ls hl => ?_)
  refine lv_aload_n hx hb dX1_allCredit_2 rfl (lv_at hl 1 rfl) ?_
  refine g_get S hK hP (i := 0) (by omega) bC0 rfl inlX1 1 (by decide) k_33 (v := .ref (a 2)) rfl dX1_allCredit_3 ?_
  refine lv_astore_n (lv' := [(2, .ref (a 2)), (1, .int (0 : Int32)), (0, .ref (a 0))]) hx hb dX1_allCredit_6 rfl hl (by decide) rfl (fun ls hl => ?_)
  refine lv_aload_n hx hb dX1_allCredit_7 rfl (lv_at hl 0 rfl) ?_
  refine g_alen S hK hP (i := 2) (by omega) (bC2 _) 0 rfl (v := 8) rfl dX1_allCredit_8 ?_
  refine lv_istore_n (lv' := [(3, .int (8 : Int32)), (2, .ref (a 2)), (1, .int (0 : Int32)), (0, .ref (a 0))]) hx hb dX1_allCredit_9 rfl hl (by decide) rfl (fun ls hl => ?_)
  refine lv_iconst (v := 0) hx hb dX1_allCredit_10 (by decide) ?_
  refine lv_istore (lv' := [(4, .int (0 : Int32)), (3, .int (8 : Int32)), (2, .ref (a 2)), (1, .int (0 : Int32)), (0, .ref (a 0))]) hx hb dX1_allCredit_11 hl (by decide) rfl (fun ls hl => ?_)
  have LP_loop : ∀ (n : Nat) (k : Nat), k + n = 8 → ∀ (x1 : Int32) (H : Heap) (locs : List Loc), bP G a b H → va_S (gA 47 a) s.heap H locs → ∀ ls : Array Slot, lv_has ls 6 [(4, .int (nI k)), (3, .int (8 : Int32)), (2, .ref (a 2)), (1, .int x1), (0, .ref (a 0))] → W p l e (rmK 0) s m args below meth c H locs 0 0 (MQ below (qcI G (gA 47 a) (bP G a b) (v_X1_allCredit_loop b n k x1)) args s 0 0 (gA 47 a)) (F0 m 13 ls []) := by
    intro n
    induction n with
    | zero =>
      intro k hk_LP_loop x1 H locs hP hS ls hl
      refine lv_iload hx hb dX1_allCredit_13 (lv_at hl 0 rfl) ?_
      refine lv_iload_n hx hb dX1_allCredit_15 rfl (lv_at hl 1 rfl) ?_
      refine lv_icmp_ge (tgt := 36) hx hb dX1_allCredit_16 (by decide) (fun _ => ?_) (fun c => absurd ((nI_leI (a := 8) (b := k) (by omega) (by omega)).mpr (by omega)) c)
      refine lv_iload_n hx hb dX1_allCredit_36 rfl (lv_at hl 3 rfl) ?_
      exact e_int S hr hlk rfl hK hS hP (show v_X1_allCredit_loop b 0 k x1 = x1 from rfl).symm dX1_allCredit_37
    | succ n ih_LP_loop =>
      intro k hk_LP_loop x1 H locs hP hS ls hl
      refine lv_iload hx hb dX1_allCredit_13 (lv_at hl 0 rfl) ?_
      refine lv_iload_n hx hb dX1_allCredit_15 rfl (lv_at hl 1 rfl) ?_
      refine lv_icmp_ge (tgt := 36) hx hb dX1_allCredit_16 (by decide) (fun c => absurd c (fun z => absurd ((nI_leI (a := 8) (b := k) (by omega) (by omega)).mp z) (by omega))) (fun _ => ?_)
      refine lv_aload_n hx hb dX1_allCredit_19 rfl (lv_at hl 2 rfl) ?_
      refine lv_iload hx hb dX1_allCredit_20 (lv_at hl 0 rfl) ?_
      refine g_aldN S hK hP (i := 2) (by omega) bC2 (k := k) (by omega) (by decide) (v := b 2 k) (rfl) dX1_allCredit_22 ?_
      refine lv_istore (lv' := [(5, .int (b 2 k)), (4, .int (nI k)), (3, .int (8 : Int32)), (2, .ref (a 2)), (1, .int x1), (0, .ref (a 0))]) hx hb dX1_allCredit_23 hl (by decide) rfl (fun ls hl => ?_)
      refine lv_iload_n hx hb dX1_allCredit_25 rfl (lv_at hl 4 rfl) ?_
      refine lv_iload hx hb dX1_allCredit_26 (lv_at hl 0 rfl) ?_
      refine lv_iadd hx hb dX1_allCredit_28 ?_
      refine lv_istore_n (lv' := [(1, .int (x1 + (b 2 k))), (5, .int (b 2 k)), (4, .int (nI k)), (3, .int (8 : Int32)), (2, .ref (a 2)), (0, .ref (a 0))]) hx hb dX1_allCredit_29 rfl hl (by decide) rfl (fun ls hl => ?_)
      refine lv_iinc (v := nI (k + 1)) (lv' := [(4, .int (nI (k + 1))), (1, .int (x1 + (b 2 k))), (5, .int (b 2 k)), (3, .int (8 : Int32)), (2, .ref (a 2)), (0, .ref (a 0))]) hx hb dX1_allCredit_30 hl (k := 2) rfl (nI_1 _) (by decide) rfl (fun ls hl => ?_)
      refine lv_goto (tgt := 13) hx hb dX1_allCredit_33 (by decide) ?_
      refine q_eqI (show v_X1_allCredit_loop b (n + 1) k x1 = v_X1_allCredit_loop b n (k + 1) (x1 + (b 2 k)) from rfl) rfl ?_
      exact ih_LP_loop (k + 1) (by omega) _ _ _ hP hS ls (lv_sub hl [0, 3, 4, 1, 5] rfl)
  refine q_eqI (show v_X1_allCredit b  = v_X1_allCredit_loop b 8 0 (0 : Int32) from rfl) rfl ?_
  exact LP_loop 8 0 (by omega) _ _ _ hP hS ls (lv_sub hl [0, 1, 2, 3, 4] rfl)

def v_X1_allDiscounts_loop (b : Nat → Nat → Int32) : Nat → Nat → Int32 → Int32
  | 0, k, x1 => x1
  | n + 1, k, x1 => v_X1_allDiscounts_loop b n (k + 1) (x1 + (b (k + 7) 9))
def v_X1_allDiscounts (b : Nat → Nat → Int32) : Int32 := v_X1_allDiscounts_loop b 40 0 (0 : Int32)
theorem q_X1_allDiscounts : yX1_allDiscounts.cls ≠ "java/lang/invoke/MethodHandle" ∧ yX1_allDiscounts.cls ≠ "java/lang/invoke/VarHandle" ∧ (parseMethodDescriptor yX1_allDiscounts.desc).map (fun d => d.parameters.length) = some 0 := ⟨by decide, by decide, by decide +kernel⟩
set_option maxHeartbeats 4000000 in
set_option maxRecDepth 100000 in
theorem c_X1_allDiscounts (l : Launch) (G : kG) (a : Nat → Nat) (hI : gI 47 a) (b : Nat → Nat → Int32) : Met l yX1_allDiscounts (Cond.code yX1_allDiscounts cX1_allDiscounts 6 (some .int) :: BIG) (rmK 0) (pcG G (bP G a b) [.ref (a 0)]) (qcI G (gA 47 a) (bP G a b) (v_X1_allDiscounts b)) 0 0 (gA 47 a) := by
  refine m_start (by decide) (Nat.le_of_ble_eq_true rfl) ?_
  intro p e s m args below meth c S hr hlk hnm hP hK ls hl
  have hx := S.1
  have hb := S.2.1
  have hown := S.2.2.2.1
  have hS : va_S (gA 47 a) s.heap s.heap [] := va_S.rf
  have hl : lv_has ls 6 [(0, .ref (a 0))] := hl
  refine lv_iconst (v := 0) hx hb dX1_allDiscounts_0 (by decide) ?_
  refine lv_istore_n (lv' := [(1, .int (0 : Int32)), (0, .ref (a 0))]) hx hb dX1_allDiscounts_1 rfl hl (by decide) rfl (fun ls hl => ?_)
  refine lv_aload_n hx hb dX1_allDiscounts_2 rfl (lv_at hl 1 rfl) ?_
  refine g_get S hK hP (i := 0) (by omega) bC0 rfl inlX1 0 (by decide) k_31 (v := .ref (a 1)) rfl dX1_allDiscounts_3 ?_
  refine lv_astore_n (lv' := [(2, .ref (a 1)), (1, .int (0 : Int32)), (0, .ref (a 0))]) hx hb dX1_allDiscounts_6 rfl hl (by decide) rfl (fun ls hl => ?_)
  refine lv_aload_n hx hb dX1_allDiscounts_7 rfl (lv_at hl 0 rfl) ?_
  refine g_alen S hK hP (i := 1) (by omega) (bC1 _) 2 rfl (v := 40) rfl dX1_allDiscounts_8 ?_
  refine lv_istore_n (lv' := [(3, .int (40 : Int32)), (2, .ref (a 1)), (1, .int (0 : Int32)), (0, .ref (a 0))]) hx hb dX1_allDiscounts_9 rfl hl (by decide) rfl (fun ls hl => ?_)
  refine lv_iconst (v := 0) hx hb dX1_allDiscounts_10 (by decide) ?_
  refine lv_istore (lv' := [(4, .int (0 : Int32)), (3, .int (40 : Int32)), (2, .ref (a 1)), (1, .int (0 : Int32)), (0, .ref (a 0))]) hx hb dX1_allDiscounts_11 hl (by decide) rfl (fun ls hl => ?_)
  have LP_loop : ∀ (n : Nat) (k : Nat), k + n = 40 → ∀ (x1 : Int32) (H : Heap) (locs : List Loc), bP G a b H → va_S (gA 47 a) s.heap H locs → ∀ ls : Array Slot, lv_has ls 6 [(4, .int (nI k)), (3, .int (40 : Int32)), (2, .ref (a 1)), (1, .int x1), (0, .ref (a 0))] → W p l e (rmK 0) s m args below meth c H locs 0 0 (MQ below (qcI G (gA 47 a) (bP G a b) (v_X1_allDiscounts_loop b n k x1)) args s 0 0 (gA 47 a)) (F0 m 13 ls []) := by
    intro n
    induction n with
    | zero =>
      intro k hk_LP_loop x1 H locs hP hS ls hl
      refine lv_iload hx hb dX1_allDiscounts_13 (lv_at hl 0 rfl) ?_
      refine lv_iload_n hx hb dX1_allDiscounts_15 rfl (lv_at hl 1 rfl) ?_
      refine lv_icmp_ge (tgt := 39) hx hb dX1_allDiscounts_16 (by decide) (fun _ => ?_) (fun c => absurd ((nI_leI (a := 40) (b := k) (by omega) (by omega)).mpr (by omega)) c)
      refine lv_iload_n hx hb dX1_allDiscounts_39 rfl (lv_at hl 3 rfl) ?_
      exact e_int S hr hlk rfl hK hS hP (show v_X1_allDiscounts_loop b 0 k x1 = x1 from rfl).symm dX1_allDiscounts_40
    | succ n ih_LP_loop =>
      intro k hk_LP_loop x1 H locs hP hS ls hl
      refine lv_iload hx hb dX1_allDiscounts_13 (lv_at hl 0 rfl) ?_
      refine lv_iload_n hx hb dX1_allDiscounts_15 rfl (lv_at hl 1 rfl) ?_
      refine lv_icmp_ge (tgt := 39) hx hb dX1_allDiscounts_16 (by decide) (fun c => absurd c (fun z => absurd ((nI_leI (a := 40) (b := k) (by omega) (by omega)).mp z) (by omega))) (fun _ => ?_)
      refine lv_aload_n hx hb dX1_allDiscounts_19 rfl (lv_at hl 2 rfl) ?_
      refine lv_iload hx hb dX1_allDiscounts_20 (lv_at hl 0 rfl) ?_
      refine g_bald S hK hP (i := 1) (by omega) bC1 (k := k) (by omega) (by decide) (v := .ref (a (k + 7))) rfl dX1_allDiscounts_22 ?_
      refine lv_astore (lv' := [(5, .ref (a (k + 7))), (4, .int (nI k)), (3, .int (40 : Int32)), (2, .ref (a 1)), (1, .int x1), (0, .ref (a 0))]) hx hb dX1_allDiscounts_23 hl (by decide) rfl (fun ls hl => ?_)
      refine lv_iload_n hx hb dX1_allDiscounts_25 rfl (lv_at hl 4 rfl) ?_
      refine lv_aload hx hb dX1_allDiscounts_26 (lv_at hl 0 rfl) ?_
      refine g_get S hK hP (i := k + 7) (by omega) bC7 rfl inlX0 9 (by decide) k_758 (v := .int (b (k + 7) 9)) rfl dX1_allDiscounts_28 ?_
      refine lv_iadd hx hb dX1_allDiscounts_31 ?_
      refine lv_istore_n (lv' := [(1, .int (x1 + (b (k + 7) 9))), (5, .ref (a (k + 7))), (4, .int (nI k)), (3, .int (40 : Int32)), (2, .ref (a 1)), (0, .ref (a 0))]) hx hb dX1_allDiscounts_32 rfl hl (by decide) rfl (fun ls hl => ?_)
      refine lv_iinc (v := nI (k + 1)) (lv' := [(4, .int (nI (k + 1))), (1, .int (x1 + (b (k + 7) 9))), (5, .ref (a (k + 7))), (3, .int (40 : Int32)), (2, .ref (a 1)), (0, .ref (a 0))]) hx hb dX1_allDiscounts_33 hl (k := 2) rfl (nI_1 _) (by decide) rfl (fun ls hl => ?_)
      refine lv_goto (tgt := 13) hx hb dX1_allDiscounts_36 (by decide) ?_
      refine q_eqI (show v_X1_allDiscounts_loop b (n + 1) k x1 = v_X1_allDiscounts_loop b n (k + 1) (x1 + (b (k + 7) 9)) from rfl) rfl ?_
      exact ih_LP_loop (k + 1) (by omega) _ _ _ hP hS ls (lv_sub hl [0, 3, 4, 1, 5] rfl)
  refine q_eqI (show v_X1_allDiscounts b  = v_X1_allDiscounts_loop b 40 0 (0 : Int32) from rfl) rfl ?_
  exact LP_loop 40 0 (by omega) _ _ _ hP hS ls (lv_sub hl [0, 1, 2, 3, 4] rfl)

def v_X1_allFees_loop (b : Nat → Nat → Int32) : Nat → Nat → Int32 → Int32
  | 0, k, x1 => x1
  | n + 1, k, x1 => v_X1_allFees_loop b n (k + 1) (x1 + (b (k + 7) 10))
def v_X1_allFees (b : Nat → Nat → Int32) : Int32 := v_X1_allFees_loop b 40 0 (0 : Int32)
theorem q_X1_allFees : yX1_allFees.cls ≠ "java/lang/invoke/MethodHandle" ∧ yX1_allFees.cls ≠ "java/lang/invoke/VarHandle" ∧ (parseMethodDescriptor yX1_allFees.desc).map (fun d => d.parameters.length) = some 0 := ⟨by decide, by decide, by decide +kernel⟩
set_option maxHeartbeats 4000000 in
set_option maxRecDepth 100000 in
theorem c_X1_allFees (l : Launch) (G : kG) (a : Nat → Nat) (hI : gI 47 a) (b : Nat → Nat → Int32) : Met l yX1_allFees (Cond.code yX1_allFees cX1_allFees 6 (some .int) :: BIG) (rmK 0) (pcG G (bP G a b) [.ref (a 0)]) (qcI G (gA 47 a) (bP G a b) (v_X1_allFees b)) 0 0 (gA 47 a) := by
  refine m_start (by decide) (Nat.le_of_ble_eq_true rfl) ?_
  intro p e s m args below meth c S hr hlk hnm hP hK ls hl
  have hx := S.1
  have hb := S.2.1
  have hown := S.2.2.2.1
  have hS : va_S (gA 47 a) s.heap s.heap [] := va_S.rf
  have hl : lv_has ls 6 [(0, .ref (a 0))] := hl
  refine lv_iconst (v := 0) hx hb dX1_allFees_0 (by decide) ?_
  refine lv_istore_n (lv' := [(1, .int (0 : Int32)), (0, .ref (a 0))]) hx hb dX1_allFees_1 rfl hl (by decide) rfl (fun ls hl => ?_)
  refine lv_aload_n hx hb dX1_allFees_2 rfl (lv_at hl 1 rfl) ?_
  refine g_get S hK hP (i := 0) (by omega) bC0 rfl inlX1 0 (by decide) k_31 (v := .ref (a 1)) rfl dX1_allFees_3 ?_
  refine lv_astore_n (lv' := [(2, .ref (a 1)), (1, .int (0 : Int32)), (0, .ref (a 0))]) hx hb dX1_allFees_6 rfl hl (by decide) rfl (fun ls hl => ?_)
  refine lv_aload_n hx hb dX1_allFees_7 rfl (lv_at hl 0 rfl) ?_
  refine g_alen S hK hP (i := 1) (by omega) (bC1 _) 2 rfl (v := 40) rfl dX1_allFees_8 ?_
  refine lv_istore_n (lv' := [(3, .int (40 : Int32)), (2, .ref (a 1)), (1, .int (0 : Int32)), (0, .ref (a 0))]) hx hb dX1_allFees_9 rfl hl (by decide) rfl (fun ls hl => ?_)
  refine lv_iconst (v := 0) hx hb dX1_allFees_10 (by decide) ?_
  refine lv_istore (lv' := [(4, .int (0 : Int32)), (3, .int (40 : Int32)), (2, .ref (a 1)), (1, .int (0 : Int32)), (0, .ref (a 0))]) hx hb dX1_allFees_11 hl (by decide) rfl (fun ls hl => ?_)
  have LP_loop : ∀ (n : Nat) (k : Nat), k + n = 40 → ∀ (x1 : Int32) (H : Heap) (locs : List Loc), bP G a b H → va_S (gA 47 a) s.heap H locs → ∀ ls : Array Slot, lv_has ls 6 [(4, .int (nI k)), (3, .int (40 : Int32)), (2, .ref (a 1)), (1, .int x1), (0, .ref (a 0))] → W p l e (rmK 0) s m args below meth c H locs 0 0 (MQ below (qcI G (gA 47 a) (bP G a b) (v_X1_allFees_loop b n k x1)) args s 0 0 (gA 47 a)) (F0 m 13 ls []) := by
    intro n
    induction n with
    | zero =>
      intro k hk_LP_loop x1 H locs hP hS ls hl
      refine lv_iload hx hb dX1_allFees_13 (lv_at hl 0 rfl) ?_
      refine lv_iload_n hx hb dX1_allFees_15 rfl (lv_at hl 1 rfl) ?_
      refine lv_icmp_ge (tgt := 39) hx hb dX1_allFees_16 (by decide) (fun _ => ?_) (fun c => absurd ((nI_leI (a := 40) (b := k) (by omega) (by omega)).mpr (by omega)) c)
      refine lv_iload_n hx hb dX1_allFees_39 rfl (lv_at hl 3 rfl) ?_
      exact e_int S hr hlk rfl hK hS hP (show v_X1_allFees_loop b 0 k x1 = x1 from rfl).symm dX1_allFees_40
    | succ n ih_LP_loop =>
      intro k hk_LP_loop x1 H locs hP hS ls hl
      refine lv_iload hx hb dX1_allFees_13 (lv_at hl 0 rfl) ?_
      refine lv_iload_n hx hb dX1_allFees_15 rfl (lv_at hl 1 rfl) ?_
      refine lv_icmp_ge (tgt := 39) hx hb dX1_allFees_16 (by decide) (fun c => absurd c (fun z => absurd ((nI_leI (a := 40) (b := k) (by omega) (by omega)).mp z) (by omega))) (fun _ => ?_)
      refine lv_aload_n hx hb dX1_allFees_19 rfl (lv_at hl 2 rfl) ?_
      refine lv_iload hx hb dX1_allFees_20 (lv_at hl 0 rfl) ?_
      refine g_bald S hK hP (i := 1) (by omega) bC1 (k := k) (by omega) (by decide) (v := .ref (a (k + 7))) rfl dX1_allFees_22 ?_
      refine lv_astore (lv' := [(5, .ref (a (k + 7))), (4, .int (nI k)), (3, .int (40 : Int32)), (2, .ref (a 1)), (1, .int x1), (0, .ref (a 0))]) hx hb dX1_allFees_23 hl (by decide) rfl (fun ls hl => ?_)
      refine lv_iload_n hx hb dX1_allFees_25 rfl (lv_at hl 4 rfl) ?_
      refine lv_aload hx hb dX1_allFees_26 (lv_at hl 0 rfl) ?_
      refine g_get S hK hP (i := k + 7) (by omega) bC7 rfl inlX0 10 (by decide) k_818 (v := .int (b (k + 7) 10)) rfl dX1_allFees_28 ?_
      refine lv_iadd hx hb dX1_allFees_31 ?_
      refine lv_istore_n (lv' := [(1, .int (x1 + (b (k + 7) 10))), (5, .ref (a (k + 7))), (4, .int (nI k)), (3, .int (40 : Int32)), (2, .ref (a 1)), (0, .ref (a 0))]) hx hb dX1_allFees_32 rfl hl (by decide) rfl (fun ls hl => ?_)
      refine lv_iinc (v := nI (k + 1)) (lv' := [(4, .int (nI (k + 1))), (1, .int (x1 + (b (k + 7) 10))), (5, .ref (a (k + 7))), (3, .int (40 : Int32)), (2, .ref (a 1)), (0, .ref (a 0))]) hx hb dX1_allFees_33 hl (k := 2) rfl (nI_1 _) (by decide) rfl (fun ls hl => ?_)
      refine lv_goto (tgt := 13) hx hb dX1_allFees_36 (by decide) ?_
      refine q_eqI (show v_X1_allFees_loop b (n + 1) k x1 = v_X1_allFees_loop b n (k + 1) (x1 + (b (k + 7) 10)) from rfl) rfl ?_
      exact ih_LP_loop (k + 1) (by omega) _ _ _ hP hS ls (lv_sub hl [0, 3, 4, 1, 5] rfl)
  refine q_eqI (show v_X1_allFees b  = v_X1_allFees_loop b 40 0 (0 : Int32) from rfl) rfl ?_
  exact LP_loop 40 0 (by omega) _ _ _ hP hS ls (lv_sub hl [0, 1, 2, 3, 4] rfl)

def v_X1_allReminders_loop (b : Nat → Nat → Int32) : Nat → Nat → Int32 → Int32
  | 0, k, x1 => x1
  | n + 1, k, x1 => v_X1_allReminders_loop b n (k + 1) (x1 + (b (k + 7) 11))
def v_X1_allReminders (b : Nat → Nat → Int32) : Int32 := v_X1_allReminders_loop b 40 0 (0 : Int32)
theorem q_X1_allReminders : yX1_allReminders.cls ≠ "java/lang/invoke/MethodHandle" ∧ yX1_allReminders.cls ≠ "java/lang/invoke/VarHandle" ∧ (parseMethodDescriptor yX1_allReminders.desc).map (fun d => d.parameters.length) = some 0 := ⟨by decide, by decide, by decide +kernel⟩
set_option maxHeartbeats 4000000 in
set_option maxRecDepth 100000 in
theorem c_X1_allReminders (l : Launch) (G : kG) (a : Nat → Nat) (hI : gI 47 a) (b : Nat → Nat → Int32) : Met l yX1_allReminders (Cond.code yX1_allReminders cX1_allReminders 6 (some .int) :: BIG) (rmK 0) (pcG G (bP G a b) [.ref (a 0)]) (qcI G (gA 47 a) (bP G a b) (v_X1_allReminders b)) 0 0 (gA 47 a) := by
  refine m_start (by decide) (Nat.le_of_ble_eq_true rfl) ?_
  intro p e s m args below meth c S hr hlk hnm hP hK ls hl
  have hx := S.1
  have hb := S.2.1
  have hown := S.2.2.2.1
  have hS : va_S (gA 47 a) s.heap s.heap [] := va_S.rf
  have hl : lv_has ls 6 [(0, .ref (a 0))] := hl
  refine lv_iconst (v := 0) hx hb dX1_allReminders_0 (by decide) ?_
  refine lv_istore_n (lv' := [(1, .int (0 : Int32)), (0, .ref (a 0))]) hx hb dX1_allReminders_1 rfl hl (by decide) rfl (fun ls hl => ?_)
  refine lv_aload_n hx hb dX1_allReminders_2 rfl (lv_at hl 1 rfl) ?_
  refine g_get S hK hP (i := 0) (by omega) bC0 rfl inlX1 0 (by decide) k_31 (v := .ref (a 1)) rfl dX1_allReminders_3 ?_
  refine lv_astore_n (lv' := [(2, .ref (a 1)), (1, .int (0 : Int32)), (0, .ref (a 0))]) hx hb dX1_allReminders_6 rfl hl (by decide) rfl (fun ls hl => ?_)
  refine lv_aload_n hx hb dX1_allReminders_7 rfl (lv_at hl 0 rfl) ?_
  refine g_alen S hK hP (i := 1) (by omega) (bC1 _) 2 rfl (v := 40) rfl dX1_allReminders_8 ?_
  refine lv_istore_n (lv' := [(3, .int (40 : Int32)), (2, .ref (a 1)), (1, .int (0 : Int32)), (0, .ref (a 0))]) hx hb dX1_allReminders_9 rfl hl (by decide) rfl (fun ls hl => ?_)
  refine lv_iconst (v := 0) hx hb dX1_allReminders_10 (by decide) ?_
  refine lv_istore (lv' := [(4, .int (0 : Int32)), (3, .int (40 : Int32)), (2, .ref (a 1)), (1, .int (0 : Int32)), (0, .ref (a 0))]) hx hb dX1_allReminders_11 hl (by decide) rfl (fun ls hl => ?_)
  have LP_loop : ∀ (n : Nat) (k : Nat), k + n = 40 → ∀ (x1 : Int32) (H : Heap) (locs : List Loc), bP G a b H → va_S (gA 47 a) s.heap H locs → ∀ ls : Array Slot, lv_has ls 6 [(4, .int (nI k)), (3, .int (40 : Int32)), (2, .ref (a 1)), (1, .int x1), (0, .ref (a 0))] → W p l e (rmK 0) s m args below meth c H locs 0 0 (MQ below (qcI G (gA 47 a) (bP G a b) (v_X1_allReminders_loop b n k x1)) args s 0 0 (gA 47 a)) (F0 m 13 ls []) := by
    intro n
    induction n with
    | zero =>
      intro k hk_LP_loop x1 H locs hP hS ls hl
      refine lv_iload hx hb dX1_allReminders_13 (lv_at hl 0 rfl) ?_
      refine lv_iload_n hx hb dX1_allReminders_15 rfl (lv_at hl 1 rfl) ?_
      refine lv_icmp_ge (tgt := 39) hx hb dX1_allReminders_16 (by decide) (fun _ => ?_) (fun c => absurd ((nI_leI (a := 40) (b := k) (by omega) (by omega)).mpr (by omega)) c)
      refine lv_iload_n hx hb dX1_allReminders_39 rfl (lv_at hl 3 rfl) ?_
      exact e_int S hr hlk rfl hK hS hP (show v_X1_allReminders_loop b 0 k x1 = x1 from rfl).symm dX1_allReminders_40
    | succ n ih_LP_loop =>
      intro k hk_LP_loop x1 H locs hP hS ls hl
      refine lv_iload hx hb dX1_allReminders_13 (lv_at hl 0 rfl) ?_
      refine lv_iload_n hx hb dX1_allReminders_15 rfl (lv_at hl 1 rfl) ?_
      refine lv_icmp_ge (tgt := 39) hx hb dX1_allReminders_16 (by decide) (fun c => absurd c (fun z => absurd ((nI_leI (a := 40) (b := k) (by omega) (by omega)).mp z) (by omega))) (fun _ => ?_)
      refine lv_aload_n hx hb dX1_allReminders_19 rfl (lv_at hl 2 rfl) ?_
      refine lv_iload hx hb dX1_allReminders_20 (lv_at hl 0 rfl) ?_
      refine g_bald S hK hP (i := 1) (by omega) bC1 (k := k) (by omega) (by decide) (v := .ref (a (k + 7))) rfl dX1_allReminders_22 ?_
      refine lv_astore (lv' := [(5, .ref (a (k + 7))), (4, .int (nI k)), (3, .int (40 : Int32)), (2, .ref (a 1)), (1, .int x1), (0, .ref (a 0))]) hx hb dX1_allReminders_23 hl (by decide) rfl (fun ls hl => ?_)
      refine lv_iload_n hx hb dX1_allReminders_25 rfl (lv_at hl 4 rfl) ?_
      refine lv_aload hx hb dX1_allReminders_26 (lv_at hl 0 rfl) ?_
      refine g_get S hK hP (i := k + 7) (by omega) bC7 rfl inlX0 11 (by decide) k_146 (v := .int (b (k + 7) 11)) rfl dX1_allReminders_28 ?_
      refine lv_iadd hx hb dX1_allReminders_31 ?_
      refine lv_istore_n (lv' := [(1, .int (x1 + (b (k + 7) 11))), (5, .ref (a (k + 7))), (4, .int (nI k)), (3, .int (40 : Int32)), (2, .ref (a 1)), (0, .ref (a 0))]) hx hb dX1_allReminders_32 rfl hl (by decide) rfl (fun ls hl => ?_)
      refine lv_iinc (v := nI (k + 1)) (lv' := [(4, .int (nI (k + 1))), (1, .int (x1 + (b (k + 7) 11))), (5, .ref (a (k + 7))), (3, .int (40 : Int32)), (2, .ref (a 1)), (0, .ref (a 0))]) hx hb dX1_allReminders_33 hl (k := 2) rfl (nI_1 _) (by decide) rfl (fun ls hl => ?_)
      refine lv_goto (tgt := 13) hx hb dX1_allReminders_36 (by decide) ?_
      refine q_eqI (show v_X1_allReminders_loop b (n + 1) k x1 = v_X1_allReminders_loop b n (k + 1) (x1 + (b (k + 7) 11)) from rfl) rfl ?_
      exact ih_LP_loop (k + 1) (by omega) _ _ _ hP hS ls (lv_sub hl [0, 3, 4, 1, 5] rfl)
  refine q_eqI (show v_X1_allReminders b  = v_X1_allReminders_loop b 40 0 (0 : Int32) from rfl) rfl ?_
  exact LP_loop 40 0 (by omega) _ _ _ hP hS ls (lv_sub hl [0, 1, 2, 3, 4] rfl)

def v_X1_discountOn (b : Nat → Nat → Int32) (j1 : Nat) : Int32 := if 0 < b (j1 + 7) 11 then (0 : Int32) else if (b 0 5) - (b (j1 + 7) 6) ≤ v_X3_discountDays b then (if (v_X0_owed b j1) - (1 : Int32) < ((b (j1 + 7) 5) * (v_X3_discountPercent b)) / (100 : Int32) then (v_X0_owed b j1) - (1 : Int32) else ((b (j1 + 7) 5) * (v_X3_discountPercent b)) / (100 : Int32)) else (0 : Int32)
theorem q_X1_discountOn : yX1_discountOn.cls ≠ "java/lang/invoke/MethodHandle" ∧ yX1_discountOn.cls ≠ "java/lang/invoke/VarHandle" ∧ (parseMethodDescriptor yX1_discountOn.desc).map (fun d => d.parameters.length) = some 1 := ⟨by decide, by decide, by decide +kernel⟩
set_option maxHeartbeats 4000000 in
set_option maxRecDepth 100000 in
theorem c_X1_discountOn (l : Launch) (G : kG) (a : Nat → Nat) (hI : gI 47 a) (b : Nat → Nat → Int32) (j1 : Nat) (hj1 : j1 < 40) : Met l yX1_discountOn (Cond.code yX1_discountOn cX1_discountOn 2 (some .int) :: BIG) (rmK 1) (pcG G (bP G a b) [.ref (a 0), .ref (a (j1 + 7))]) (qcI G (gA 47 a) (bP G a b) (v_X1_discountOn b j1)) 0 0 (gA 47 a) := by
  refine m_start (by decide) (Nat.le_of_ble_eq_true rfl) ?_
  intro p e s m args below meth c S hr hlk hnm hP hK ls hl
  have hx := S.1
  have hb := S.2.1
  have hown := S.2.2.2.1
  have hS : va_S (gA 47 a) s.heap s.heap [] := va_S.rf
  have hl : lv_has ls 2 [(0, .ref (a 0)), (1, .ref (a (j1 + 7)))] := hl
  refine lv_aload_n hx hb dX1_discountOn_0 rfl (lv_at hl 1 rfl) ?_
  refine g_get S hK hP (i := j1 + 7) (by omega) bC7 rfl inlX0 11 (by decide) k_146 (v := .int (b (j1 + 7) 11)) rfl dX1_discountOn_1 ?_
  refine lv_if_gt (tgt := 26) hx hb dX1_discountOn_4 (by decide) (fun c1 => ?_) (fun c1 => ?_)
  · skip
    refine lv_iconst (v := 0) hx hb dX1_discountOn_26 (by decide) ?_
    exact e_int S hr hlk rfl hK hS hP (show v_X1_discountOn b j1 = (0 : Int32) from (if_pos c1).trans rfl).symm dX1_discountOn_27
  · skip
    refine lv_aload_n hx hb dX1_discountOn_7 rfl (lv_at hl 0 rfl) ?_
    refine g_get S hK hP (i := 0) (by omega) bC0 rfl inlX1 5 (by decide) k_92 (v := .int (b 0 5)) rfl dX1_discountOn_8 ?_
    refine lv_aload_n hx hb dX1_discountOn_11 rfl (lv_at hl 1 rfl) ?_
    refine g_get S hK hP (i := j1 + 7) (by omega) bC7 rfl inlX0 6 (by decide) k_147 (v := .int (b (j1 + 7) 6)) rfl dX1_discountOn_12 ?_
    refine lv_isub hx hb dX1_discountOn_15 ?_
    refine lv_aload_n hx hb dX1_discountOn_16 rfl (lv_at hl 0 rfl) ?_
    refine g_get S hK hP (i := 0) (by omega) bC0 rfl inlX1 4 (by decide) k_39 (v := .ref (a 5)) rfl dX1_discountOn_17 ?_
    refine r_callI S hK hP (c_X3_discountDays l G a hI b ) (r_cw S k_156 k_153 k_154 k_155 k_38 q_X3_discountDays ⟨Nat.le_of_ble_eq_true rfl, Nat.le_of_ble_eq_true rfl⟩ rfl rfl) (g_recv hK hP (i := 5) (by omega) bC5 rfl) rfl hl.1 rfl (Nat.le_of_ble_eq_true rfl) dX1_discountOn_20 ⟨Nat.zero_le _, Nat.zero_le _⟩ hS (fun _ h => h) (fun H locs hP _ _ hS => ?_)
    have hP : bP G a b H := hP
    refine lv_icmp_le (tgt := 28) hx hb dX1_discountOn_23 (by decide) (fun c2 => ?_) (fun c2 => ?_)
    · skip
      refine lv_aload_n hx hb dX1_discountOn_28 rfl (lv_at hl 1 rfl) ?_
      refine g_get S hK hP (i := j1 + 7) (by omega) bC7 rfl inlX0 5 (by decide) k_148 (v := .int (b (j1 + 7) 5)) rfl dX1_discountOn_29 ?_
      refine lv_aload_n hx hb dX1_discountOn_32 rfl (lv_at hl 0 rfl) ?_
      refine g_get S hK hP (i := 0) (by omega) bC0 rfl inlX1 4 (by decide) k_39 (v := .ref (a 5)) rfl dX1_discountOn_33 ?_
      refine r_callI S hK hP (c_X3_discountPercent l G a hI b ) (r_cw S k_160 k_157 k_158 k_159 k_38 q_X3_discountPercent ⟨Nat.le_of_ble_eq_true rfl, Nat.le_of_ble_eq_true rfl⟩ rfl rfl) (g_recv hK hP (i := 5) (by omega) bC5 rfl) rfl hl.1 rfl (Nat.le_of_ble_eq_true rfl) dX1_discountOn_36 ⟨Nat.zero_le _, Nat.zero_le _⟩ hS (fun _ h => h) (fun H locs hP _ _ hS => ?_)
      have hP : bP G a b H := hP
      refine lv_imul hx hb dX1_discountOn_39 ?_
      refine lv_bipush (v := 100) hx hb dX1_discountOn_40 (by decide) ?_
      refine lv_idiv hx hb dX1_discountOn_42 (by decide) ?_
      refine lv_aload_n hx hb dX1_discountOn_43 rfl (lv_at hl 1 rfl) ?_
      refine r_callI S hK hP (c_X0_owed l G a hI b j1 (by omega) ) (r_cw S k_164 k_161 k_162 k_163 k_41 q_X0_owed ⟨Nat.le_of_ble_eq_true rfl, Nat.le_of_ble_eq_true rfl⟩ rfl rfl) (g_recv hK hP (i := j1 + 7) (by omega) bC7 rfl) rfl hl.1 rfl (Nat.le_of_ble_eq_true rfl) dX1_discountOn_44 ⟨Nat.zero_le _, Nat.zero_le _⟩ hS (fun _ h => h) (fun H locs hP _ _ hS => ?_)
      have hP : bP G a b H := hP
      refine lv_iconst (v := 1) hx hb dX1_discountOn_47 (by decide) ?_
      refine lv_isub hx hb dX1_discountOn_48 ?_
      refine va_mmin hx hb (by rw [S.2.2.1]; exact hl.1.symm) hown (S.2.2.2.2 _ k_149) (S.2.2.2.2 _ k_150) (S.2.2.2.2 _ k_151) (S.2.2.2.2 _ k_152) (Nat.le_of_ble_eq_true rfl) (Nat.le_of_ble_eq_true rfl) (Nat.zero_le _) (Nat.zero_le _) dX1_discountOn_49 ?_
      exact e_int S hr hlk rfl hK hS hP (show v_X1_discountOn b j1 = if (v_X0_owed b j1) - (1 : Int32) < ((b (j1 + 7) 5) * (v_X3_discountPercent b)) / (100 : Int32) then (v_X0_owed b j1) - (1 : Int32) else ((b (j1 + 7) 5) * (v_X3_discountPercent b)) / (100 : Int32) from (if_neg c1).trans ((if_pos c2).trans rfl)).symm dX1_discountOn_52
    · skip
      refine lv_iconst (v := 0) hx hb dX1_discountOn_26 (by decide) ?_
      exact e_int S hr hlk rfl hK hS hP (show v_X1_discountOn b j1 = (0 : Int32) from (if_neg c1).trans ((if_neg c2).trans rfl)).symm dX1_discountOn_27

def v_X1_payOn (b : Nat → Nat → Int32) (j1 : Nat) (p2 : Int32) : Int32 := if 0 < p2 then (if p2 < (v_X0_owed b j1) - (v_X1_discountOn b j1) then (if v_X5_isYear (((w_X0_takeMoney b j1 p2 (0 : Int32) (b 0 5)) 0 5) / (100 : Int32)) = 0 then p2 else p2) else if v_X5_isYear (((w_X0_takeMoney b j1 ((v_X0_owed b j1) - (v_X1_discountOn b j1)) (v_X1_discountOn b j1) (b 0 5)) 0 5) / (100 : Int32)) = 0 then ((v_X0_owed b j1) - (v_X1_discountOn b j1)) else (v_X0_owed b j1) - (v_X1_discountOn b j1)) else (0 : Int32)
def w_X1_payOn (b : Nat → Nat → Int32) (j1 : Nat) (p2 : Int32) : Nat → Nat → Int32 := if 0 < p2 then (if p2 < (v_X0_owed b j1) - (v_X1_discountOn b j1) then (if v_X5_isYear (((w_X0_takeMoney b j1 p2 (0 : Int32) (b 0 5)) 0 5) / (100 : Int32)) = 0 then (w_X0_takeMoney b j1 p2 (0 : Int32) (b 0 5)) else up (w_X0_takeMoney b j1 p2 (0 : Int32) (b 0 5)) 3 ((((w_X0_takeMoney b j1 p2 (0 : Int32) (b 0 5)) 0 5) / (100 : Int32)).toNatClampNeg) (((w_X0_takeMoney b j1 p2 (0 : Int32) (b 0 5)) 3 ((((w_X0_takeMoney b j1 p2 (0 : Int32) (b 0 5)) 0 5) / (100 : Int32)).toNatClampNeg)) + (v_X0_taxIn (w_X0_takeMoney b j1 p2 (0 : Int32) (b 0 5)) j1 p2))) else if v_X5_isYear (((w_X0_takeMoney b j1 ((v_X0_owed b j1) - (v_X1_discountOn b j1)) (v_X1_discountOn b j1) (b 0 5)) 0 5) / (100 : Int32)) = 0 then (w_X0_takeMoney b j1 ((v_X0_owed b j1) - (v_X1_discountOn b j1)) (v_X1_discountOn b j1) (b 0 5)) else up (w_X0_takeMoney b j1 ((v_X0_owed b j1) - (v_X1_discountOn b j1)) (v_X1_discountOn b j1) (b 0 5)) 3 ((((w_X0_takeMoney b j1 ((v_X0_owed b j1) - (v_X1_discountOn b j1)) (v_X1_discountOn b j1) (b 0 5)) 0 5) / (100 : Int32)).toNatClampNeg) (((w_X0_takeMoney b j1 ((v_X0_owed b j1) - (v_X1_discountOn b j1)) (v_X1_discountOn b j1) (b 0 5)) 3 ((((w_X0_takeMoney b j1 ((v_X0_owed b j1) - (v_X1_discountOn b j1)) (v_X1_discountOn b j1) (b 0 5)) 0 5) / (100 : Int32)).toNatClampNeg)) + (v_X0_taxIn (w_X0_takeMoney b j1 ((v_X0_owed b j1) - (v_X1_discountOn b j1)) (v_X1_discountOn b j1) (b 0 5)) j1 ((v_X0_owed b j1) - (v_X1_discountOn b j1))))) else b
theorem q_X1_payOn : yX1_payOn.cls ≠ "java/lang/invoke/MethodHandle" ∧ yX1_payOn.cls ≠ "java/lang/invoke/VarHandle" ∧ (parseMethodDescriptor yX1_payOn.desc).map (fun d => d.parameters.length) = some 2 := ⟨by decide, by decide, by decide +kernel⟩
set_option maxHeartbeats 4000000 in
set_option maxRecDepth 100000 in
theorem c_X1_payOn (l : Launch) (G : kG) (a : Nat → Nat) (hI : gI 47 a) (b : Nat → Nat → Int32) (j1 : Nat) (hj1 : j1 < 40) (p2 : Int32) : Met l yX1_payOn (Cond.code yX1_payOn cX1_payOn 8 (some .int) :: BIG) (rmK 2) (pcG G (bP G a b) [.ref (a 0), .ref (a (j1 + 7)), .int p2]) (qcI G (gA 47 a) (bP G a (w_X1_payOn b j1 p2)) (v_X1_payOn b j1 p2)) 0 0 (gA 47 a) := by
  refine m_start (by decide) (Nat.le_of_ble_eq_true rfl) ?_
  intro p e s m args below meth c S hr hlk hnm hP hK ls hl
  have hx := S.1
  have hb := S.2.1
  have hown := S.2.2.2.1
  have hS : va_S (gA 47 a) s.heap s.heap [] := va_S.rf
  have hl : lv_has ls 8 [(0, .ref (a 0)), (1, .ref (a (j1 + 7))), (2, .int p2)] := hl
  refine lv_iload_n hx hb dX1_payOn_0 rfl (lv_at hl 2 rfl) ?_
  refine lv_if_gt (tgt := 6) hx hb dX1_payOn_1 (by decide) (fun c1 => ?_) (fun c1 => ?_)
  · skip
    refine lv_aload_n hx hb dX1_payOn_6 rfl (lv_at hl 0 rfl) ?_
    refine lv_aload_n hx hb dX1_payOn_7 rfl (lv_at hl 1 rfl) ?_
    refine r_callI S hK hP (c_X1_discountOn l G a hI b j1 (by omega) ) (r_cw S k_145 k_142 k_143 k_144 k_14 q_X1_discountOn ⟨Nat.le_of_ble_eq_true rfl, Nat.le_of_ble_eq_true rfl⟩ rfl rfl) (g_recv hK hP (i := 0) (by omega) bC0 rfl) rfl hl.1 rfl (Nat.le_of_ble_eq_true rfl) dX1_payOn_8 ⟨Nat.zero_le _, Nat.zero_le _⟩ hS (fun _ h => h) (fun H locs hP _ _ hS => ?_)
    have hP : bP G a b H := hP
    refine lv_istore_n (lv' := [(3, .int (v_X1_discountOn b j1)), (0, .ref (a 0)), (1, .ref (a (j1 + 7))), (2, .int p2)]) hx hb dX1_payOn_11 rfl hl (by decide) rfl (fun ls hl => ?_)
    refine lv_aload_n hx hb dX1_payOn_12 rfl (lv_at hl 2 rfl) ?_
    refine r_callI S hK hP (c_X0_owed l G a hI b j1 (by omega) ) (r_cw S k_164 k_161 k_162 k_163 k_41 q_X0_owed ⟨Nat.le_of_ble_eq_true rfl, Nat.le_of_ble_eq_true rfl⟩ rfl rfl) (g_recv hK hP (i := j1 + 7) (by omega) bC7 rfl) rfl hl.1 rfl (Nat.le_of_ble_eq_true rfl) dX1_payOn_13 ⟨Nat.zero_le _, Nat.zero_le _⟩ hS (fun _ h => h) (fun H locs hP _ _ hS => ?_)
    have hP : bP G a b H := hP
    refine lv_iload_n hx hb dX1_payOn_16 rfl (lv_at hl 0 rfl) ?_
    refine lv_isub hx hb dX1_payOn_17 ?_
    refine lv_istore (lv' := [(4, .int ((v_X0_owed b j1) - (v_X1_discountOn b j1))), (3, .int (v_X1_discountOn b j1)), (0, .ref (a 0)), (1, .ref (a (j1 + 7))), (2, .int p2)]) hx hb dX1_payOn_18 hl (by decide) rfl (fun ls hl => ?_)
    refine lv_iload_n hx hb dX1_payOn_20 rfl (lv_at hl 4 rfl) ?_
    refine lv_iload hx hb dX1_payOn_21 (lv_at hl 0 rfl) ?_
    refine lv_icmp_lt (tgt := 30) hx hb dX1_payOn_23 (by decide) (fun c2 => ?_) (fun c2 => ?_)
    · skip
      refine lv_iconst (v := 0) hx hb dX1_payOn_30 (by decide) ?_
      refine lv_istore (lv' := [(5, .int (0 : Int32)), (4, .int ((v_X0_owed b j1) - (v_X1_discountOn b j1))), (3, .int (v_X1_discountOn b j1)), (0, .ref (a 0)), (1, .ref (a (j1 + 7))), (2, .int p2)]) hx hb dX1_payOn_31 hl (by decide) rfl (fun ls hl => ?_)
      refine lv_iload hx hb dX1_payOn_33 (lv_at hl 0 rfl) ?_
      refine lv_if_eq (tgt := 43) hx hb dX1_payOn_35 (by decide) (fun _ => ?_) (fun c => absurd (by decide) c)
      refine lv_iload_n hx hb dX1_payOn_43 rfl (lv_at hl 5 rfl) ?_
      refine lv_istore (lv' := [(6, .int p2), (5, .int (0 : Int32)), (4, .int ((v_X0_owed b j1) - (v_X1_discountOn b j1))), (3, .int (v_X1_discountOn b j1)), (0, .ref (a 0)), (1, .ref (a (j1 + 7))), (2, .int p2)]) hx hb dX1_payOn_44 hl (by decide) rfl (fun ls hl => ?_)
      refine lv_aload_n hx hb dX1_payOn_46 rfl (lv_at hl 5 rfl) ?_
      refine lv_iload hx hb dX1_payOn_47 (lv_at hl 0 rfl) ?_
      refine lv_iload hx hb dX1_payOn_49 (lv_at hl 1 rfl) ?_
      refine lv_if_eq (tgt := 58) hx hb dX1_payOn_51 (by decide) (fun _ => ?_) (fun c => absurd (by decide) c)
      refine lv_iconst (v := 0) hx hb dX1_payOn_58 (by decide) ?_
      refine lv_aload_n hx hb dX1_payOn_59 rfl (lv_at hl 4 rfl) ?_
      refine g_get S hK hP (i := 0) (by omega) bC0 rfl inlX1 5 (by decide) k_92 (v := .int (b 0 5)) rfl dX1_payOn_60 ?_
      refine r_callV S hK hP (c_X0_takeMoney l G a hI b j1 (by omega) _ _ _) (r_cw S k_168 k_165 k_166 k_167 k_41 q_X0_takeMoney ⟨Nat.le_of_ble_eq_true rfl, Nat.le_of_ble_eq_true rfl⟩ rfl rfl) (g_recv hK hP (i := j1 + 7) (by omega) bC7 rfl) rfl hl.1 rfl (Nat.le_of_ble_eq_true rfl) dX1_payOn_63 ⟨Nat.zero_le _, Nat.zero_le _⟩ hS (fun _ h => h) (fun H locs hP _ _ hS => ?_)
      have hP : bP G a (w_X0_takeMoney b j1 p2 (0 : Int32) (b 0 5)) H := hP
      refine lv_aload_n hx hb dX1_payOn_66 rfl (lv_at hl 4 rfl) ?_
      refine g_get S hK hP (i := 0) (by omega) bC0 rfl inlX1 5 (by decide) k_92 (v := .int ((w_X0_takeMoney b j1 p2 (0 : Int32) (b 0 5)) 0 5)) rfl dX1_payOn_67 ?_
      refine lv_bipush (v := 100) hx hb dX1_payOn_70 (by decide) ?_
      refine lv_idiv hx hb dX1_payOn_72 (by decide) ?_
      refine lv_istore (lv' := [(7, .int (((w_X0_takeMoney b j1 p2 (0 : Int32) (b 0 5)) 0 5) / (100 : Int32))), (6, .int p2), (5, .int (0 : Int32)), (4, .int ((v_X0_owed b j1) - (v_X1_discountOn b j1))), (3, .int (v_X1_discountOn b j1)), (0, .ref (a 0)), (1, .ref (a (j1 + 7))), (2, .int p2)]) hx hb dX1_payOn_73 hl (by decide) rfl (fun ls hl => ?_)
      refine lv_iload hx hb dX1_payOn_75 (lv_at hl 0 rfl) ?_
      refine r_callSN S hK hP (c_X5_isYear l G (bP G a (w_X0_takeMoney b j1 p2 (0 : Int32) (b 0 5))) (gA 47 a) _) k_171 hK.2.2.2.2.2.1 k_170 k_2 q_X5_isYear ⟨Nat.le_of_ble_eq_true rfl, Nat.le_of_ble_eq_true rfl⟩ rfl rfl rfl hl.1 rfl (Nat.le_of_ble_eq_true rfl) dX1_payOn_77 ⟨Nat.zero_le _, Nat.zero_le _⟩ hS (fun _ h => h) (fun H locs hP _ _ hS => ?_)
      have hP : bP G a (w_X0_takeMoney b j1 p2 (0 : Int32) (b 0 5)) H := hP
      refine lv_if_eq (tgt := 99) hx hb dX1_payOn_80 (by decide) (fun c3 => ?_) (fun c3 => ?_)
      · skip
        refine lv_iload hx hb dX1_payOn_99 (lv_at hl 1 rfl) ?_
        exact e_int S hr hlk rfl hK hS (gP_eq (show w_X1_payOn b j1 p2 = w_X0_takeMoney b j1 p2 (0 : Int32) (b 0 5) from (if_pos c1).trans ((if_pos c2).trans ((if_pos c3).trans rfl))) hP) (show v_X1_payOn b j1 p2 = p2 from (if_pos c1).trans ((if_pos c2).trans ((if_pos c3).trans rfl))).symm dX1_payOn_101
      · skip
        refine lv_aload_n hx hb dX1_payOn_83 rfl (lv_at hl 5 rfl) ?_
        refine g_get S hK hP (i := 0) (by omega) bC0 rfl inlX1 2 (by decide) k_34 (v := .ref (a 3)) rfl dX1_payOn_84 ?_
        refine lv_iload hx hb dX1_payOn_87 (lv_at hl 0 rfl) ?_
        refine lv_dup2_11 hx hb dX1_payOn_89 rfl rfl ?_
        refine g_ald S hK hP (i := 3) (by omega) bC3 (vp_X5_isYear c3 (by decide)) (v := (w_X0_takeMoney b j1 p2 (0 : Int32) (b 0 5)) 3 ((((w_X0_takeMoney b j1 p2 (0 : Int32) (b 0 5)) 0 5) / (100 : Int32)).toNatClampNeg)) (rfl) dX1_payOn_90 ?_
        refine lv_aload_n hx hb dX1_payOn_91 rfl (lv_at hl 6 rfl) ?_
        refine lv_iload hx hb dX1_payOn_92 (lv_at hl 1 rfl) ?_
        refine r_callI S hK hP (c_X0_taxIn l G a hI (w_X0_takeMoney b j1 p2 (0 : Int32) (b 0 5)) j1 (by omega) _) (r_cw S k_175 k_172 k_173 k_174 k_41 q_X0_taxIn ⟨Nat.le_of_ble_eq_true rfl, Nat.le_of_ble_eq_true rfl⟩ rfl rfl) (g_recv hK hP (i := j1 + 7) (by omega) bC7 rfl) rfl hl.1 rfl (Nat.le_of_ble_eq_true rfl) dX1_payOn_94 ⟨Nat.zero_le _, Nat.zero_le _⟩ hS (fun _ h => h) (fun H locs hP _ _ hS => ?_)
        have hP : bP G a (w_X0_takeMoney b j1 p2 (0 : Int32) (b 0 5)) H := hP
        refine lv_iadd hx hb dX1_payOn_97 ?_
        refine g_ast S hK hP hI hS (i := 3) (by omega) bC3 (vp_X5_isYear c3 (by decide)) dX1_payOn_98 (fun H locs hP hS => ?_)
        have hP : bP G a (up (w_X0_takeMoney b j1 p2 (0 : Int32) (b 0 5)) 3 ((((w_X0_takeMoney b j1 p2 (0 : Int32) (b 0 5)) 0 5) / (100 : Int32)).toNatClampNeg) (((w_X0_takeMoney b j1 p2 (0 : Int32) (b 0 5)) 3 ((((w_X0_takeMoney b j1 p2 (0 : Int32) (b 0 5)) 0 5) / (100 : Int32)).toNatClampNeg)) + (v_X0_taxIn (w_X0_takeMoney b j1 p2 (0 : Int32) (b 0 5)) j1 p2))) H := hP
        refine lv_iload hx hb dX1_payOn_99 (lv_at hl 1 rfl) ?_
        exact e_int S hr hlk rfl hK hS (gP_eq (show w_X1_payOn b j1 p2 = up (w_X0_takeMoney b j1 p2 (0 : Int32) (b 0 5)) 3 ((((w_X0_takeMoney b j1 p2 (0 : Int32) (b 0 5)) 0 5) / (100 : Int32)).toNatClampNeg) (((w_X0_takeMoney b j1 p2 (0 : Int32) (b 0 5)) 3 ((((w_X0_takeMoney b j1 p2 (0 : Int32) (b 0 5)) 0 5) / (100 : Int32)).toNatClampNeg)) + (v_X0_taxIn (w_X0_takeMoney b j1 p2 (0 : Int32) (b 0 5)) j1 p2)) from (if_pos c1).trans ((if_pos c2).trans ((if_neg c3).trans rfl))) hP) (show v_X1_payOn b j1 p2 = p2 from (if_pos c1).trans ((if_pos c2).trans ((if_neg c3).trans rfl))).symm dX1_payOn_101
    · skip
      refine lv_iconst (v := 1) hx hb dX1_payOn_26 (by decide) ?_
      refine lv_goto (tgt := 31) hx hb dX1_payOn_27 (by decide) ?_
      refine lv_istore (lv' := [(5, .int (1 : Int32)), (4, .int ((v_X0_owed b j1) - (v_X1_discountOn b j1))), (3, .int (v_X1_discountOn b j1)), (0, .ref (a 0)), (1, .ref (a (j1 + 7))), (2, .int p2)]) hx hb dX1_payOn_31 hl (by decide) rfl (fun ls hl => ?_)
      refine lv_iload hx hb dX1_payOn_33 (lv_at hl 0 rfl) ?_
      refine lv_if_eq (tgt := 43) hx hb dX1_payOn_35 (by decide) (fun c => absurd c (by decide)) (fun _ => ?_)
      refine lv_iload hx hb dX1_payOn_38 (lv_at hl 1 rfl) ?_
      refine lv_goto (tgt := 44) hx hb dX1_payOn_40 (by decide) ?_
      refine lv_istore (lv' := [(6, .int ((v_X0_owed b j1) - (v_X1_discountOn b j1))), (5, .int (1 : Int32)), (4, .int ((v_X0_owed b j1) - (v_X1_discountOn b j1))), (3, .int (v_X1_discountOn b j1)), (0, .ref (a 0)), (1, .ref (a (j1 + 7))), (2, .int p2)]) hx hb dX1_payOn_44 hl (by decide) rfl (fun ls hl => ?_)
      refine lv_aload_n hx hb dX1_payOn_46 rfl (lv_at hl 5 rfl) ?_
      refine lv_iload hx hb dX1_payOn_47 (lv_at hl 0 rfl) ?_
      refine lv_iload hx hb dX1_payOn_49 (lv_at hl 1 rfl) ?_
      refine lv_if_eq (tgt := 58) hx hb dX1_payOn_51 (by decide) (fun c => absurd c (by decide)) (fun _ => ?_)
      refine lv_iload_n hx hb dX1_payOn_54 rfl (lv_at hl 3 rfl) ?_
      refine lv_goto (tgt := 59) hx hb dX1_payOn_55 (by decide) ?_
      refine lv_aload_n hx hb dX1_payOn_59 rfl (lv_at hl 4 rfl) ?_
      refine g_get S hK hP (i := 0) (by omega) bC0 rfl inlX1 5 (by decide) k_92 (v := .int (b 0 5)) rfl dX1_payOn_60 ?_
      refine r_callV S hK hP (c_X0_takeMoney l G a hI b j1 (by omega) _ _ _) (r_cw S k_168 k_165 k_166 k_167 k_41 q_X0_takeMoney ⟨Nat.le_of_ble_eq_true rfl, Nat.le_of_ble_eq_true rfl⟩ rfl rfl) (g_recv hK hP (i := j1 + 7) (by omega) bC7 rfl) rfl hl.1 rfl (Nat.le_of_ble_eq_true rfl) dX1_payOn_63 ⟨Nat.zero_le _, Nat.zero_le _⟩ hS (fun _ h => h) (fun H locs hP _ _ hS => ?_)
      have hP : bP G a (w_X0_takeMoney b j1 ((v_X0_owed b j1) - (v_X1_discountOn b j1)) (v_X1_discountOn b j1) (b 0 5)) H := hP
      refine lv_aload_n hx hb dX1_payOn_66 rfl (lv_at hl 4 rfl) ?_
      refine g_get S hK hP (i := 0) (by omega) bC0 rfl inlX1 5 (by decide) k_92 (v := .int ((w_X0_takeMoney b j1 ((v_X0_owed b j1) - (v_X1_discountOn b j1)) (v_X1_discountOn b j1) (b 0 5)) 0 5)) rfl dX1_payOn_67 ?_
      refine lv_bipush (v := 100) hx hb dX1_payOn_70 (by decide) ?_
      refine lv_idiv hx hb dX1_payOn_72 (by decide) ?_
      refine lv_istore (lv' := [(7, .int (((w_X0_takeMoney b j1 ((v_X0_owed b j1) - (v_X1_discountOn b j1)) (v_X1_discountOn b j1) (b 0 5)) 0 5) / (100 : Int32))), (6, .int ((v_X0_owed b j1) - (v_X1_discountOn b j1))), (5, .int (1 : Int32)), (4, .int ((v_X0_owed b j1) - (v_X1_discountOn b j1))), (3, .int (v_X1_discountOn b j1)), (0, .ref (a 0)), (1, .ref (a (j1 + 7))), (2, .int p2)]) hx hb dX1_payOn_73 hl (by decide) rfl (fun ls hl => ?_)
      refine lv_iload hx hb dX1_payOn_75 (lv_at hl 0 rfl) ?_
      refine r_callSN S hK hP (c_X5_isYear l G (bP G a (w_X0_takeMoney b j1 ((v_X0_owed b j1) - (v_X1_discountOn b j1)) (v_X1_discountOn b j1) (b 0 5))) (gA 47 a) _) k_171 hK.2.2.2.2.2.1 k_170 k_2 q_X5_isYear ⟨Nat.le_of_ble_eq_true rfl, Nat.le_of_ble_eq_true rfl⟩ rfl rfl rfl hl.1 rfl (Nat.le_of_ble_eq_true rfl) dX1_payOn_77 ⟨Nat.zero_le _, Nat.zero_le _⟩ hS (fun _ h => h) (fun H locs hP _ _ hS => ?_)
      have hP : bP G a (w_X0_takeMoney b j1 ((v_X0_owed b j1) - (v_X1_discountOn b j1)) (v_X1_discountOn b j1) (b 0 5)) H := hP
      refine lv_if_eq (tgt := 99) hx hb dX1_payOn_80 (by decide) (fun c4 => ?_) (fun c4 => ?_)
      · skip
        refine lv_iload hx hb dX1_payOn_99 (lv_at hl 1 rfl) ?_
        exact e_int S hr hlk rfl hK hS (gP_eq (show w_X1_payOn b j1 p2 = w_X0_takeMoney b j1 ((v_X0_owed b j1) - (v_X1_discountOn b j1)) (v_X1_discountOn b j1) (b 0 5) from (if_pos c1).trans ((if_neg c2).trans ((if_pos c4).trans rfl))) hP) (show v_X1_payOn b j1 p2 = (v_X0_owed b j1) - (v_X1_discountOn b j1) from (if_pos c1).trans ((if_neg c2).trans ((if_pos c4).trans rfl))).symm dX1_payOn_101
      · skip
        refine lv_aload_n hx hb dX1_payOn_83 rfl (lv_at hl 5 rfl) ?_
        refine g_get S hK hP (i := 0) (by omega) bC0 rfl inlX1 2 (by decide) k_34 (v := .ref (a 3)) rfl dX1_payOn_84 ?_
        refine lv_iload hx hb dX1_payOn_87 (lv_at hl 0 rfl) ?_
        refine lv_dup2_11 hx hb dX1_payOn_89 rfl rfl ?_
        refine g_ald S hK hP (i := 3) (by omega) bC3 (vp_X5_isYear c4 (by decide)) (v := (w_X0_takeMoney b j1 ((v_X0_owed b j1) - (v_X1_discountOn b j1)) (v_X1_discountOn b j1) (b 0 5)) 3 ((((w_X0_takeMoney b j1 ((v_X0_owed b j1) - (v_X1_discountOn b j1)) (v_X1_discountOn b j1) (b 0 5)) 0 5) / (100 : Int32)).toNatClampNeg)) (rfl) dX1_payOn_90 ?_
        refine lv_aload_n hx hb dX1_payOn_91 rfl (lv_at hl 6 rfl) ?_
        refine lv_iload hx hb dX1_payOn_92 (lv_at hl 1 rfl) ?_
        refine r_callI S hK hP (c_X0_taxIn l G a hI (w_X0_takeMoney b j1 ((v_X0_owed b j1) - (v_X1_discountOn b j1)) (v_X1_discountOn b j1) (b 0 5)) j1 (by omega) _) (r_cw S k_175 k_172 k_173 k_174 k_41 q_X0_taxIn ⟨Nat.le_of_ble_eq_true rfl, Nat.le_of_ble_eq_true rfl⟩ rfl rfl) (g_recv hK hP (i := j1 + 7) (by omega) bC7 rfl) rfl hl.1 rfl (Nat.le_of_ble_eq_true rfl) dX1_payOn_94 ⟨Nat.zero_le _, Nat.zero_le _⟩ hS (fun _ h => h) (fun H locs hP _ _ hS => ?_)
        have hP : bP G a (w_X0_takeMoney b j1 ((v_X0_owed b j1) - (v_X1_discountOn b j1)) (v_X1_discountOn b j1) (b 0 5)) H := hP
        refine lv_iadd hx hb dX1_payOn_97 ?_
        refine g_ast S hK hP hI hS (i := 3) (by omega) bC3 (vp_X5_isYear c4 (by decide)) dX1_payOn_98 (fun H locs hP hS => ?_)
        have hP : bP G a (up (w_X0_takeMoney b j1 ((v_X0_owed b j1) - (v_X1_discountOn b j1)) (v_X1_discountOn b j1) (b 0 5)) 3 ((((w_X0_takeMoney b j1 ((v_X0_owed b j1) - (v_X1_discountOn b j1)) (v_X1_discountOn b j1) (b 0 5)) 0 5) / (100 : Int32)).toNatClampNeg) (((w_X0_takeMoney b j1 ((v_X0_owed b j1) - (v_X1_discountOn b j1)) (v_X1_discountOn b j1) (b 0 5)) 3 ((((w_X0_takeMoney b j1 ((v_X0_owed b j1) - (v_X1_discountOn b j1)) (v_X1_discountOn b j1) (b 0 5)) 0 5) / (100 : Int32)).toNatClampNeg)) + (v_X0_taxIn (w_X0_takeMoney b j1 ((v_X0_owed b j1) - (v_X1_discountOn b j1)) (v_X1_discountOn b j1) (b 0 5)) j1 ((v_X0_owed b j1) - (v_X1_discountOn b j1))))) H := hP
        refine lv_iload hx hb dX1_payOn_99 (lv_at hl 1 rfl) ?_
        exact e_int S hr hlk rfl hK hS (gP_eq (show w_X1_payOn b j1 p2 = up (w_X0_takeMoney b j1 ((v_X0_owed b j1) - (v_X1_discountOn b j1)) (v_X1_discountOn b j1) (b 0 5)) 3 ((((w_X0_takeMoney b j1 ((v_X0_owed b j1) - (v_X1_discountOn b j1)) (v_X1_discountOn b j1) (b 0 5)) 0 5) / (100 : Int32)).toNatClampNeg) (((w_X0_takeMoney b j1 ((v_X0_owed b j1) - (v_X1_discountOn b j1)) (v_X1_discountOn b j1) (b 0 5)) 3 ((((w_X0_takeMoney b j1 ((v_X0_owed b j1) - (v_X1_discountOn b j1)) (v_X1_discountOn b j1) (b 0 5)) 0 5) / (100 : Int32)).toNatClampNeg)) + (v_X0_taxIn (w_X0_takeMoney b j1 ((v_X0_owed b j1) - (v_X1_discountOn b j1)) (v_X1_discountOn b j1) (b 0 5)) j1 ((v_X0_owed b j1) - (v_X1_discountOn b j1)))) from (if_pos c1).trans ((if_neg c2).trans ((if_neg c4).trans rfl))) hP) (show v_X1_payOn b j1 p2 = (v_X0_owed b j1) - (v_X1_discountOn b j1) from (if_pos c1).trans ((if_neg c2).trans ((if_neg c4).trans rfl))).symm dX1_payOn_101
  · skip
    refine lv_iconst (v := 0) hx hb dX1_payOn_4 (by decide) ?_
    exact e_int S hr hlk rfl hK hS (gP_eq (show w_X1_payOn b j1 p2 = b from (if_neg c1).trans rfl) hP) (show v_X1_payOn b j1 p2 = (0 : Int32) from (if_neg c1).trans rfl).symm dX1_payOn_5

def v_X1_addCredit (b : Nat → Nat → Int32) (p1 : Int32) (p2 : Int32) : Int32 := if (999999 : Int32) < (v_X1_creditOf b p1) + p2 then (0 : Int32) else (1 : Int32)
def w_X1_addCredit (b : Nat → Nat → Int32) (p1 : Int32) (p2 : Int32) : Nat → Nat → Int32 := if (999999 : Int32) < (v_X1_creditOf b p1) + p2 then (w_X1_setCredit b p1 ((v_X1_creditOf b p1) + p2)) else w_X1_setCredit b p1 ((v_X1_creditOf b p1) + p2)
theorem q_X1_addCredit : yX1_addCredit.cls ≠ "java/lang/invoke/MethodHandle" ∧ yX1_addCredit.cls ≠ "java/lang/invoke/VarHandle" ∧ (parseMethodDescriptor yX1_addCredit.desc).map (fun d => d.parameters.length) = some 2 := ⟨by decide, by decide, by decide +kernel⟩
theorem z_X1_addCredit (b : Nat → Nat → Int32) (p1 : Int32) (p2 : Int32) : narrow .boolean (.int (v_X1_addCredit b p1 p2)) = .int (v_X1_addCredit b p1 p2) := by
  unfold v_X1_addCredit
  (repeat' split) <;> first | rfl
set_option maxHeartbeats 4000000 in
set_option maxRecDepth 100000 in
theorem c_X1_addCredit (l : Launch) (G : kG) (a : Nat → Nat) (hI : gI 47 a) (b : Nat → Nat → Int32) (p1 : Int32) (p2 : Int32) : Met l yX1_addCredit (Cond.code yX1_addCredit cX1_addCredit 4 (some .boolean) :: BIG) (rmK 2) (pcG G (bP G a b) [.ref (a 0), .int p1, .int p2]) (qcI G (gA 47 a) (bP G a (w_X1_addCredit b p1 p2)) (v_X1_addCredit b p1 p2)) 0 0 (gA 47 a) := by
  refine m_start (by decide) (Nat.le_of_ble_eq_true rfl) ?_
  intro p e s m args below meth c S hr hlk hnm hP hK ls hl
  have hx := S.1
  have hb := S.2.1
  have hown := S.2.2.2.1
  have hS : va_S (gA 47 a) s.heap s.heap [] := va_S.rf
  have hl : lv_has ls 4 [(0, .ref (a 0)), (1, .int p1), (2, .int p2)] := hl
  refine lv_aload_n hx hb dX1_addCredit_0 rfl (lv_at hl 0 rfl) ?_
  refine lv_iload_n hx hb dX1_addCredit_1 rfl (lv_at hl 1 rfl) ?_
  refine r_callI S hK hP (c_X1_creditOf l G a hI b _) (r_cw S k_137 k_134 k_135 k_136 k_14 q_X1_creditOf ⟨Nat.le_of_ble_eq_true rfl, Nat.le_of_ble_eq_true rfl⟩ rfl rfl) (g_recv hK hP (i := 0) (by omega) bC0 rfl) rfl hl.1 rfl (Nat.le_of_ble_eq_true rfl) dX1_addCredit_2 ⟨Nat.zero_le _, Nat.zero_le _⟩ hS (fun _ h => h) (fun H locs hP _ _ hS => ?_)
  have hP : bP G a b H := hP
  refine lv_iload_n hx hb dX1_addCredit_5 rfl (lv_at hl 2 rfl) ?_
  refine lv_iadd hx hb dX1_addCredit_6 ?_
  refine lv_istore_n (lv' := [(3, .int ((v_X1_creditOf b p1) + p2)), (0, .ref (a 0)), (1, .int p1), (2, .int p2)]) hx hb dX1_addCredit_7 rfl hl (by decide) rfl (fun ls hl => ?_)
  refine lv_aload_n hx hb dX1_addCredit_8 rfl (lv_at hl 1 rfl) ?_
  refine lv_iload_n hx hb dX1_addCredit_9 rfl (lv_at hl 2 rfl) ?_
  refine lv_iload_n hx hb dX1_addCredit_10 rfl (lv_at hl 0 rfl) ?_
  refine r_callV S hK hP (c_X1_setCredit l G a hI b _ _) (r_cw S k_179 k_176 k_177 k_178 k_14 q_X1_setCredit ⟨Nat.le_of_ble_eq_true rfl, Nat.le_of_ble_eq_true rfl⟩ rfl rfl) (g_recv hK hP (i := 0) (by omega) bC0 rfl) rfl hl.1 rfl (Nat.le_of_ble_eq_true rfl) dX1_addCredit_11 ⟨Nat.zero_le _, Nat.zero_le _⟩ hS (fun _ h => h) (fun H locs hP _ _ hS => ?_)
  have hP : bP G a (w_X1_setCredit b p1 ((v_X1_creditOf b p1) + p2)) H := hP
  refine lv_iload_n hx hb dX1_addCredit_14 rfl (lv_at hl 0 rfl) ?_
  refine lv_ldc hx hb hown (S.2.2.2.2 _ k_262) dX1_addCredit_15 ?_
  refine lv_icmp_gt (tgt := 24) hx hb dX1_addCredit_17 (by decide) (fun c1 => ?_) (fun c1 => ?_)
  · skip
    refine lv_iconst (v := 0) hx hb dX1_addCredit_24 (by decide) ?_
    exact e_int S hr hlk rfl hK hS (gP_eq (show w_X1_addCredit b p1 p2 = w_X1_setCredit b p1 ((v_X1_creditOf b p1) + p2) from (if_pos c1).trans rfl) hP) (show v_X1_addCredit b p1 p2 = (0 : Int32) from (if_pos c1).trans rfl).symm dX1_addCredit_25
  · skip
    refine lv_iconst (v := 1) hx hb dX1_addCredit_20 (by decide) ?_
    refine lv_goto (tgt := 25) hx hb dX1_addCredit_21 (by decide) ?_
    exact e_int S hr hlk rfl hK hS (gP_eq (show w_X1_addCredit b p1 p2 = w_X1_setCredit b p1 ((v_X1_creditOf b p1) + p2) from (if_neg c1).trans rfl) hP) (show v_X1_addCredit b p1 p2 = (1 : Int32) from (if_neg c1).trans rfl).symm dX1_addCredit_25

def v_X1_leastToPayAll_loop (b : Nat → Nat → Int32) (p1 : Int32) : Nat → Nat → Int32 → Int32
  | 0, k, x2 => x2
  | n + 1, k, x2 => if v_X0_is b k p1 (0 : Int32) = 0 then (v_X1_leastToPayAll_loop b p1 n (k + 1) (x2 + (0 : Int32))) else v_X1_leastToPayAll_loop b p1 n (k + 1) (x2 + ((v_X0_owed b k) - (v_X1_discountOn b k)))
def v_X1_leastToPayAll (b : Nat → Nat → Int32) (p1 : Int32) : Int32 := v_X1_leastToPayAll_loop b p1 40 0 (0 : Int32)
theorem q_X1_leastToPayAll : yX1_leastToPayAll.cls ≠ "java/lang/invoke/MethodHandle" ∧ yX1_leastToPayAll.cls ≠ "java/lang/invoke/VarHandle" ∧ (parseMethodDescriptor yX1_leastToPayAll.desc).map (fun d => d.parameters.length) = some 1 := ⟨by decide, by decide, by decide +kernel⟩
set_option maxHeartbeats 4000000 in
set_option maxRecDepth 100000 in
theorem c_X1_leastToPayAll (l : Launch) (G : kG) (a : Nat → Nat) (hI : gI 47 a) (b : Nat → Nat → Int32) (p1 : Int32) : Met l yX1_leastToPayAll (Cond.code yX1_leastToPayAll cX1_leastToPayAll 7 (some .int) :: BIG) (rmK 2) (pcG G (bP G a b) [.ref (a 0), .int p1]) (qcI G (gA 47 a) (bP G a b) (v_X1_leastToPayAll b p1)) 0 0 (gA 47 a) := by
  refine m_start (by decide) (Nat.le_of_ble_eq_true rfl) ?_
  intro p e s m args below meth c S hr hlk hnm hP hK ls hl
  have hx := S.1
  have hb := S.2.1
  have hown := S.2.2.2.1
  have hS : va_S (gA 47 a) s.heap s.heap [] := va_S.rf
  have hl : lv_has ls 7 [(0, .ref (a 0)), (1, .int p1)] := hl
  refine lv_iconst (v := 0) hx hb dX1_leastToPayAll_0 (by decide) ?_
  refine lv_istore_n (lv' := [(2, .int (0 : Int32)), (0, .ref (a 0)), (1, .int p1)]) hx hb dX1_leastToPayAll_1 rfl hl (by decide) rfl (fun ls hl => ?_)
  refine lv_aload_n hx hb dX1_leastToPayAll_2 rfl (lv_at hl 1 rfl) ?_
  refine g_get S hK hP (i := 0) (by omega) bC0 rfl inlX1 0 (by decide) k_31 (v := .ref (a 1)) rfl dX1_leastToPayAll_3 ?_
  refine lv_astore_n (lv' := [(3, .ref (a 1)), (2, .int (0 : Int32)), (0, .ref (a 0)), (1, .int p1)]) hx hb dX1_leastToPayAll_6 rfl hl (by decide) rfl (fun ls hl => ?_)
  refine lv_aload_n hx hb dX1_leastToPayAll_7 rfl (lv_at hl 0 rfl) ?_
  refine g_alen S hK hP (i := 1) (by omega) (bC1 _) 2 rfl (v := 40) rfl dX1_leastToPayAll_8 ?_
  refine lv_istore (lv' := [(4, .int (40 : Int32)), (3, .ref (a 1)), (2, .int (0 : Int32)), (0, .ref (a 0)), (1, .int p1)]) hx hb dX1_leastToPayAll_9 hl (by decide) rfl (fun ls hl => ?_)
  refine lv_iconst (v := 0) hx hb dX1_leastToPayAll_11 (by decide) ?_
  refine lv_istore (lv' := [(5, .int (0 : Int32)), (4, .int (40 : Int32)), (3, .ref (a 1)), (2, .int (0 : Int32)), (0, .ref (a 0)), (1, .int p1)]) hx hb dX1_leastToPayAll_12 hl (by decide) rfl (fun ls hl => ?_)
  have LP_loop : ∀ (n : Nat) (k : Nat), k + n = 40 → ∀ (x2 : Int32) (H : Heap) (locs : List Loc), bP G a b H → va_S (gA 47 a) s.heap H locs → ∀ ls : Array Slot, lv_has ls 7 [(5, .int (nI k)), (4, .int (40 : Int32)), (3, .ref (a 1)), (2, .int x2), (0, .ref (a 0)), (1, .int p1)] → W p l e (rmK 2) s m args below meth c H locs 0 0 (MQ below (qcI G (gA 47 a) (bP G a b) (v_X1_leastToPayAll_loop b p1 n k x2)) args s 0 0 (gA 47 a)) (F0 m 14 ls []) := by
    intro n
    induction n with
    | zero =>
      intro k hk_LP_loop x2 H locs hP hS ls hl
      refine lv_iload hx hb dX1_leastToPayAll_14 (lv_at hl 0 rfl) ?_
      refine lv_iload hx hb dX1_leastToPayAll_16 (lv_at hl 1 rfl) ?_
      refine lv_icmp_ge (tgt := 62) hx hb dX1_leastToPayAll_18 (by decide) (fun _ => ?_) (fun c => absurd ((nI_leI (a := 40) (b := k) (by omega) (by omega)).mpr (by omega)) c)
      refine lv_iload_n hx hb dX1_leastToPayAll_62 rfl (lv_at hl 3 rfl) ?_
      exact e_int S hr hlk rfl hK hS hP (show v_X1_leastToPayAll_loop b p1 0 k x2 = x2 from rfl).symm dX1_leastToPayAll_63
    | succ n ih_LP_loop =>
      intro k hk_LP_loop x2 H locs hP hS ls hl
      refine lv_iload hx hb dX1_leastToPayAll_14 (lv_at hl 0 rfl) ?_
      refine lv_iload hx hb dX1_leastToPayAll_16 (lv_at hl 1 rfl) ?_
      refine lv_icmp_ge (tgt := 62) hx hb dX1_leastToPayAll_18 (by decide) (fun c => absurd c (fun z => absurd ((nI_leI (a := 40) (b := k) (by omega) (by omega)).mp z) (by omega))) (fun _ => ?_)
      refine lv_aload_n hx hb dX1_leastToPayAll_21 rfl (lv_at hl 2 rfl) ?_
      refine lv_iload hx hb dX1_leastToPayAll_22 (lv_at hl 0 rfl) ?_
      refine g_bald S hK hP (i := 1) (by omega) bC1 (k := k) (by omega) (by decide) (v := .ref (a (k + 7))) rfl dX1_leastToPayAll_24 ?_
      refine lv_astore (lv' := [(6, .ref (a (k + 7))), (5, .int (nI k)), (4, .int (40 : Int32)), (3, .ref (a 1)), (2, .int x2), (0, .ref (a 0)), (1, .int p1)]) hx hb dX1_leastToPayAll_25 hl (by decide) rfl (fun ls hl => ?_)
      refine lv_iload_n hx hb dX1_leastToPayAll_27 rfl (lv_at hl 4 rfl) ?_
      refine lv_aload hx hb dX1_leastToPayAll_28 (lv_at hl 0 rfl) ?_
      refine lv_iload_n hx hb dX1_leastToPayAll_30 rfl (lv_at hl 6 rfl) ?_
      refine lv_iconst (v := 0) hx hb dX1_leastToPayAll_31 (by decide) ?_
      refine r_callI S hK hP (c_X0_is l G a hI b k (by omega) _ _) (r_cw S k_129 k_126 k_127 k_128 k_41 q_X0_is ⟨Nat.le_of_ble_eq_true rfl, Nat.le_of_ble_eq_true rfl⟩ rfl rfl) (g_recv hK hP (i := k + 7) (by omega) bC7 rfl) rfl hl.1 rfl (Nat.le_of_ble_eq_true rfl) dX1_leastToPayAll_32 ⟨Nat.zero_le _, Nat.zero_le _⟩ hS (fun _ h => h) (fun H locs hP _ _ hS => ?_)
      have hP : bP G a b H := hP
      refine lv_if_eq (tgt := 53) hx hb dX1_leastToPayAll_35 (by decide) (fun c1 => ?_) (fun c1 => ?_)
      · skip
        refine lv_iconst (v := 0) hx hb dX1_leastToPayAll_53 (by decide) ?_
        refine lv_iadd hx hb dX1_leastToPayAll_54 ?_
        refine lv_istore_n (lv' := [(2, .int (x2 + (0 : Int32))), (6, .ref (a (k + 7))), (5, .int (nI k)), (4, .int (40 : Int32)), (3, .ref (a 1)), (0, .ref (a 0)), (1, .int p1)]) hx hb dX1_leastToPayAll_55 rfl hl (by decide) rfl (fun ls hl => ?_)
        refine lv_iinc (v := nI (k + 1)) (lv' := [(5, .int (nI (k + 1))), (2, .int (x2 + (0 : Int32))), (6, .ref (a (k + 7))), (4, .int (40 : Int32)), (3, .ref (a 1)), (0, .ref (a 0)), (1, .int p1)]) hx hb dX1_leastToPayAll_56 hl (k := 2) rfl (nI_1 _) (by decide) rfl (fun ls hl => ?_)
        refine lv_goto (tgt := 14) hx hb dX1_leastToPayAll_59 (by decide) ?_
        refine q_eqI (show v_X1_leastToPayAll_loop b p1 (n + 1) k x2 = v_X1_leastToPayAll_loop b p1 n (k + 1) (x2 + (0 : Int32)) from (if_pos c1).trans rfl) rfl ?_
        exact ih_LP_loop (k + 1) (by omega) _ _ _ hP hS ls (lv_sub hl [0, 3, 4, 1, 5, 6] rfl)
      · skip
        refine lv_aload hx hb dX1_leastToPayAll_38 (lv_at hl 0 rfl) ?_
        refine r_callI S hK hP (c_X0_owed l G a hI b k (by omega) ) (r_cw S k_164 k_161 k_162 k_163 k_41 q_X0_owed ⟨Nat.le_of_ble_eq_true rfl, Nat.le_of_ble_eq_true rfl⟩ rfl rfl) (g_recv hK hP (i := k + 7) (by omega) bC7 rfl) rfl hl.1 rfl (Nat.le_of_ble_eq_true rfl) dX1_leastToPayAll_40 ⟨Nat.zero_le _, Nat.zero_le _⟩ hS (fun _ h => h) (fun H locs hP _ _ hS => ?_)
        have hP : bP G a b H := hP
        refine lv_aload_n hx hb dX1_leastToPayAll_43 rfl (lv_at hl 5 rfl) ?_
        refine lv_aload hx hb dX1_leastToPayAll_44 (lv_at hl 0 rfl) ?_
        refine r_callI S hK hP (c_X1_discountOn l G a hI b k (by omega) ) (r_cw S k_145 k_142 k_143 k_144 k_14 q_X1_discountOn ⟨Nat.le_of_ble_eq_true rfl, Nat.le_of_ble_eq_true rfl⟩ rfl rfl) (g_recv hK hP (i := 0) (by omega) bC0 rfl) rfl hl.1 rfl (Nat.le_of_ble_eq_true rfl) dX1_leastToPayAll_46 ⟨Nat.zero_le _, Nat.zero_le _⟩ hS (fun _ h => h) (fun H locs hP _ _ hS => ?_)
        have hP : bP G a b H := hP
        refine lv_isub hx hb dX1_leastToPayAll_49 ?_
        refine lv_goto (tgt := 54) hx hb dX1_leastToPayAll_50 (by decide) ?_
        refine lv_iadd hx hb dX1_leastToPayAll_54 ?_
        refine lv_istore_n (lv' := [(2, .int (x2 + ((v_X0_owed b k) - (v_X1_discountOn b k)))), (6, .ref (a (k + 7))), (5, .int (nI k)), (4, .int (40 : Int32)), (3, .ref (a 1)), (0, .ref (a 0)), (1, .int p1)]) hx hb dX1_leastToPayAll_55 rfl hl (by decide) rfl (fun ls hl => ?_)
        refine lv_iinc (v := nI (k + 1)) (lv' := [(5, .int (nI (k + 1))), (2, .int (x2 + ((v_X0_owed b k) - (v_X1_discountOn b k)))), (6, .ref (a (k + 7))), (4, .int (40 : Int32)), (3, .ref (a 1)), (0, .ref (a 0)), (1, .int p1)]) hx hb dX1_leastToPayAll_56 hl (k := 2) rfl (nI_1 _) (by decide) rfl (fun ls hl => ?_)
        refine lv_goto (tgt := 14) hx hb dX1_leastToPayAll_59 (by decide) ?_
        refine q_eqI (show v_X1_leastToPayAll_loop b p1 (n + 1) k x2 = v_X1_leastToPayAll_loop b p1 n (k + 1) (x2 + ((v_X0_owed b k) - (v_X1_discountOn b k))) from (if_neg c1).trans rfl) rfl ?_
        exact ih_LP_loop (k + 1) (by omega) _ _ _ hP hS ls (lv_sub hl [0, 3, 4, 1, 5, 6] rfl)
  refine q_eqI (show v_X1_leastToPayAll b p1 = v_X1_leastToPayAll_loop b p1 40 0 (0 : Int32) from rfl) rfl ?_
  exact LP_loop 40 0 (by omega) _ _ _ hP hS ls (lv_sub hl [0, 1, 2, 3, 4, 5] rfl)

def v_X1_taxOf_loop (b : Nat → Nat → Int32) (p1 : Int32) (p2 : Int32) : Nat → Nat → Int32 → Int32
  | 0, k, x3 => x3
  | n + 1, k, x3 => if v_X0_is b k (-9 : Int32) (-9 : Int32) = 0 then (v_X1_taxOf_loop b p1 p2 n (k + 1) x3) else if (b (k + 7) 6) / (100 : Int32) = p1 then (v_X1_taxOf_loop b p1 p2 n (k + 1) (x3 + (b (k + 7) 4))) else v_X1_taxOf_loop b p1 p2 n (k + 1) x3
def v_X1_taxOf (b : Nat → Nat → Int32) (p1 : Int32) (p2 : Int32) : Int32 := if p2 = (1 : Int32) then (if v_X5_isYear p1 = 0 then (0 : Int32) else b 3 p1.toNatClampNeg) else v_X1_taxOf_loop b p1 p2 40 0 (0 : Int32)
theorem q_X1_taxOf : yX1_taxOf.cls ≠ "java/lang/invoke/MethodHandle" ∧ yX1_taxOf.cls ≠ "java/lang/invoke/VarHandle" ∧ (parseMethodDescriptor yX1_taxOf.desc).map (fun d => d.parameters.length) = some 2 := ⟨by decide, by decide, by decide +kernel⟩
set_option maxHeartbeats 4000000 in
set_option maxRecDepth 100000 in
theorem c_X1_taxOf (l : Launch) (G : kG) (a : Nat → Nat) (hI : gI 47 a) (b : Nat → Nat → Int32) (p1 : Int32) (p2 : Int32) : Met l yX1_taxOf (Cond.code yX1_taxOf cX1_taxOf 8 (some .int) :: BIG) (rmK 1) (pcG G (bP G a b) [.ref (a 0), .int p1, .int p2]) (qcI G (gA 47 a) (bP G a b) (v_X1_taxOf b p1 p2)) 0 0 (gA 47 a) := by
  refine m_start (by decide) (Nat.le_of_ble_eq_true rfl) ?_
  intro p e s m args below meth c S hr hlk hnm hP hK ls hl
  have hx := S.1
  have hb := S.2.1
  have hown := S.2.2.2.1
  have hS : va_S (gA 47 a) s.heap s.heap [] := va_S.rf
  have hl : lv_has ls 8 [(0, .ref (a 0)), (1, .int p1), (2, .int p2)] := hl
  refine lv_iload_n hx hb dX1_taxOf_0 rfl (lv_at hl 2 rfl) ?_
  refine lv_iconst (v := 1) hx hb dX1_taxOf_1 (by decide) ?_
  refine lv_icmp_ne (tgt := 23) hx hb dX1_taxOf_2 (by decide) (fun c1 => ?_) (fun c1 => ?_)
  · skip
    refine lv_iconst (v := 0) hx hb dX1_taxOf_23 (by decide) ?_
    refine lv_istore_n (lv' := [(3, .int (0 : Int32)), (0, .ref (a 0)), (1, .int p1), (2, .int p2)]) hx hb dX1_taxOf_24 rfl hl (by decide) rfl (fun ls hl => ?_)
    refine lv_aload_n hx hb dX1_taxOf_25 rfl (lv_at hl 1 rfl) ?_
    refine g_get S hK hP (i := 0) (by omega) bC0 rfl inlX1 0 (by decide) k_31 (v := .ref (a 1)) rfl dX1_taxOf_26 ?_
    refine lv_astore (lv' := [(4, .ref (a 1)), (3, .int (0 : Int32)), (0, .ref (a 0)), (1, .int p1), (2, .int p2)]) hx hb dX1_taxOf_29 hl (by decide) rfl (fun ls hl => ?_)
    refine lv_aload hx hb dX1_taxOf_31 (lv_at hl 0 rfl) ?_
    refine g_alen S hK hP (i := 1) (by omega) (bC1 _) 2 rfl (v := 40) rfl dX1_taxOf_33 ?_
    refine lv_istore (lv' := [(5, .int (40 : Int32)), (4, .ref (a 1)), (3, .int (0 : Int32)), (0, .ref (a 0)), (1, .int p1), (2, .int p2)]) hx hb dX1_taxOf_34 hl (by decide) rfl (fun ls hl => ?_)
    refine lv_iconst (v := 0) hx hb dX1_taxOf_36 (by decide) ?_
    refine lv_istore (lv' := [(6, .int (0 : Int32)), (5, .int (40 : Int32)), (4, .ref (a 1)), (3, .int (0 : Int32)), (0, .ref (a 0)), (1, .int p1), (2, .int p2)]) hx hb dX1_taxOf_37 hl (by decide) rfl (fun ls hl => ?_)
    have LP_loop : ∀ (n : Nat) (k : Nat), k + n = 40 → ∀ (x3 : Int32) (H : Heap) (locs : List Loc), bP G a b H → va_S (gA 47 a) s.heap H locs → ∀ ls : Array Slot, lv_has ls 8 [(6, .int (nI k)), (5, .int (40 : Int32)), (4, .ref (a 1)), (3, .int x3), (0, .ref (a 0)), (1, .int p1), (2, .int p2)] → W p l e (rmK 1) s m args below meth c H locs 0 0 (MQ below (qcI G (gA 47 a) (bP G a b) (v_X1_taxOf_loop b p1 p2 n k x3)) args s 0 0 (gA 47 a)) (F0 m 39 ls []) := by
      intro n
      induction n with
      | zero =>
        intro k hk_LP_loop x3 H locs hP hS ls hl
        refine lv_iload hx hb dX1_taxOf_39 (lv_at hl 0 rfl) ?_
        refine lv_iload hx hb dX1_taxOf_41 (lv_at hl 1 rfl) ?_
        refine lv_icmp_ge (tgt := 91) hx hb dX1_taxOf_43 (by decide) (fun _ => ?_) (fun c => absurd ((nI_leI (a := 40) (b := k) (by omega) (by omega)).mpr (by omega)) c)
        refine lv_iload_n hx hb dX1_taxOf_91 rfl (lv_at hl 3 rfl) ?_
        exact e_int S hr hlk rfl hK hS hP (show v_X1_taxOf_loop b p1 p2 0 k x3 = x3 from rfl).symm dX1_taxOf_92
      | succ n ih_LP_loop =>
        intro k hk_LP_loop x3 H locs hP hS ls hl
        refine lv_iload hx hb dX1_taxOf_39 (lv_at hl 0 rfl) ?_
        refine lv_iload hx hb dX1_taxOf_41 (lv_at hl 1 rfl) ?_
        refine lv_icmp_ge (tgt := 91) hx hb dX1_taxOf_43 (by decide) (fun c => absurd c (fun z => absurd ((nI_leI (a := 40) (b := k) (by omega) (by omega)).mp z) (by omega))) (fun _ => ?_)
        refine lv_aload hx hb dX1_taxOf_46 (lv_at hl 2 rfl) ?_
        refine lv_iload hx hb dX1_taxOf_48 (lv_at hl 0 rfl) ?_
        refine g_bald S hK hP (i := 1) (by omega) bC1 (k := k) (by omega) (by decide) (v := .ref (a (k + 7))) rfl dX1_taxOf_50 ?_
        refine lv_astore (lv' := [(7, .ref (a (k + 7))), (6, .int (nI k)), (5, .int (40 : Int32)), (4, .ref (a 1)), (3, .int x3), (0, .ref (a 0)), (1, .int p1), (2, .int p2)]) hx hb dX1_taxOf_51 hl (by decide) rfl (fun ls hl => ?_)
        refine lv_aload hx hb dX1_taxOf_53 (lv_at hl 0 rfl) ?_
        refine lv_bipush (v := -9) hx hb dX1_taxOf_55 (by decide) ?_
        refine lv_bipush (v := -9) hx hb dX1_taxOf_57 (by decide) ?_
        refine r_callI S hK hP (c_X0_is l G a hI b k (by omega) _ _) (r_cw S k_129 k_126 k_127 k_128 k_41 q_X0_is ⟨Nat.le_of_ble_eq_true rfl, Nat.le_of_ble_eq_true rfl⟩ rfl rfl) (g_recv hK hP (i := k + 7) (by omega) bC7 rfl) rfl hl.1 rfl (Nat.le_of_ble_eq_true rfl) dX1_taxOf_59 ⟨Nat.zero_le _, Nat.zero_le _⟩ hS (fun _ h => h) (fun H locs hP _ _ hS => ?_)
        have hP : bP G a b H := hP
        refine lv_if_eq (tgt := 85) hx hb dX1_taxOf_62 (by decide) (fun c2 => ?_) (fun c2 => ?_)
        · skip
          refine lv_iinc (v := nI (k + 1)) (lv' := [(6, .int (nI (k + 1))), (7, .ref (a (k + 7))), (5, .int (40 : Int32)), (4, .ref (a 1)), (3, .int x3), (0, .ref (a 0)), (1, .int p1), (2, .int p2)]) hx hb dX1_taxOf_85 hl (k := 1) rfl (nI_1 _) (by decide) rfl (fun ls hl => ?_)
          refine lv_goto (tgt := 39) hx hb dX1_taxOf_88 (by decide) ?_
          refine q_eqI (show v_X1_taxOf_loop b p1 p2 (n + 1) k x3 = v_X1_taxOf_loop b p1 p2 n (k + 1) x3 from (if_pos c2).trans rfl) rfl ?_
          exact ih_LP_loop (k + 1) (by omega) _ _ _ hP hS ls (lv_sub hl [0, 2, 3, 4, 5, 6, 7] rfl)
        · skip
          refine lv_aload hx hb dX1_taxOf_65 (lv_at hl 0 rfl) ?_
          refine g_get S hK hP (i := k + 7) (by omega) bC7 rfl inlX0 6 (by decide) k_147 (v := .int (b (k + 7) 6)) rfl dX1_taxOf_67 ?_
          refine lv_bipush (v := 100) hx hb dX1_taxOf_70 (by decide) ?_
          refine lv_idiv hx hb dX1_taxOf_72 (by decide) ?_
          refine lv_iload_n hx hb dX1_taxOf_73 rfl (lv_at hl 6 rfl) ?_
          refine lv_icmp_ne (tgt := 85) hx hb dX1_taxOf_74 (by decide) (fun c3 => ?_) (fun c3 => ?_)
          · skip
            refine lv_iinc (v := nI (k + 1)) (lv' := [(6, .int (nI (k + 1))), (7, .ref (a (k + 7))), (5, .int (40 : Int32)), (4, .ref (a 1)), (3, .int x3), (0, .ref (a 0)), (1, .int p1), (2, .int p2)]) hx hb dX1_taxOf_85 hl (k := 1) rfl (nI_1 _) (by decide) rfl (fun ls hl => ?_)
            refine lv_goto (tgt := 39) hx hb dX1_taxOf_88 (by decide) ?_
            refine q_eqI (show v_X1_taxOf_loop b p1 p2 (n + 1) k x3 = v_X1_taxOf_loop b p1 p2 n (k + 1) x3 from (if_neg c2).trans ((if_neg c3).trans rfl)) rfl ?_
            exact ih_LP_loop (k + 1) (by omega) _ _ _ hP hS ls (lv_sub hl [0, 2, 3, 4, 5, 6, 7] rfl)
          · skip
            refine lv_iload_n hx hb dX1_taxOf_77 rfl (lv_at hl 4 rfl) ?_
            refine lv_aload hx hb dX1_taxOf_78 (lv_at hl 0 rfl) ?_
            refine g_get S hK hP (i := k + 7) (by omega) bC7 rfl inlX0 4 (by decide) k_458 (v := .int (b (k + 7) 4)) rfl dX1_taxOf_80 ?_
            refine lv_iadd hx hb dX1_taxOf_83 ?_
            refine lv_istore_n (lv' := [(3, .int (x3 + (b (k + 7) 4))), (7, .ref (a (k + 7))), (6, .int (nI k)), (5, .int (40 : Int32)), (4, .ref (a 1)), (0, .ref (a 0)), (1, .int p1), (2, .int p2)]) hx hb dX1_taxOf_84 rfl hl (by decide) rfl (fun ls hl => ?_)
            refine lv_iinc (v := nI (k + 1)) (lv' := [(6, .int (nI (k + 1))), (3, .int (x3 + (b (k + 7) 4))), (7, .ref (a (k + 7))), (5, .int (40 : Int32)), (4, .ref (a 1)), (0, .ref (a 0)), (1, .int p1), (2, .int p2)]) hx hb dX1_taxOf_85 hl (k := 2) rfl (nI_1 _) (by decide) rfl (fun ls hl => ?_)
            refine lv_goto (tgt := 39) hx hb dX1_taxOf_88 (by decide) ?_
            refine q_eqI (show v_X1_taxOf_loop b p1 p2 (n + 1) k x3 = v_X1_taxOf_loop b p1 p2 n (k + 1) (x3 + (b (k + 7) 4)) from (if_neg c2).trans ((if_pos c3).trans rfl)) rfl ?_
            exact ih_LP_loop (k + 1) (by omega) _ _ _ hP hS ls (lv_sub hl [0, 3, 4, 1, 5, 6, 7] rfl)
    refine q_eqI (show v_X1_taxOf b p1 p2 = v_X1_taxOf_loop b p1 p2 40 0 (0 : Int32) from (if_neg c1).trans rfl) rfl ?_
    exact LP_loop 40 0 (by omega) _ _ _ hP hS ls (lv_sub hl [0, 1, 2, 3, 4, 5, 6] rfl)
  · skip
    refine lv_iload_n hx hb dX1_taxOf_5 rfl (lv_at hl 1 rfl) ?_
    refine r_callSN S hK hP (c_X5_isYear l G (bP G a b) (gA 47 a) _) k_171 hK.2.2.2.2.2.1 k_170 k_2 q_X5_isYear ⟨Nat.le_of_ble_eq_true rfl, Nat.le_of_ble_eq_true rfl⟩ rfl rfl rfl hl.1 rfl (Nat.le_of_ble_eq_true rfl) dX1_taxOf_6 ⟨Nat.zero_le _, Nat.zero_le _⟩ hS (fun _ h => h) (fun H locs hP _ _ hS => ?_)
    have hP : bP G a b H := hP
    refine lv_if_eq (tgt := 21) hx hb dX1_taxOf_9 (by decide) (fun c4 => ?_) (fun c4 => ?_)
    · skip
      refine lv_iconst (v := 0) hx hb dX1_taxOf_21 (by decide) ?_
      exact e_int S hr hlk rfl hK hS hP (show v_X1_taxOf b p1 p2 = (0 : Int32) from (if_pos c1).trans ((if_pos c4).trans rfl)).symm dX1_taxOf_22
    · skip
      refine lv_aload_n hx hb dX1_taxOf_12 rfl (lv_at hl 0 rfl) ?_
      refine g_get S hK hP (i := 0) (by omega) bC0 rfl inlX1 2 (by decide) k_34 (v := .ref (a 3)) rfl dX1_taxOf_13 ?_
      refine lv_iload_n hx hb dX1_taxOf_16 rfl (lv_at hl 1 rfl) ?_
      refine g_ald S hK hP (i := 3) (by omega) bC3 (vp_X5_isYear c4 (by decide)) (v := b 3 p1.toNatClampNeg) (rfl) dX1_taxOf_17 ?_
      refine lv_goto (tgt := 22) hx hb dX1_taxOf_18 (by decide) ?_
      exact e_int S hr hlk rfl hK hS hP (show v_X1_taxOf b p1 p2 = b 3 p1.toNatClampNeg from (if_pos c1).trans ((if_neg c4).trans rfl)).symm dX1_taxOf_22

def v_X1_taxTold (b : Nat → Nat → Int32) (p1 : Int32) : Int32 := if v_X5_isYear p1 = 0 then (-5 : Int32) else if b 0 6 ≤ p1 then (-5 : Int32) else b 4 p1.toNatClampNeg
theorem q_X1_taxTold : yX1_taxTold.cls ≠ "java/lang/invoke/MethodHandle" ∧ yX1_taxTold.cls ≠ "java/lang/invoke/VarHandle" ∧ (parseMethodDescriptor yX1_taxTold.desc).map (fun d => d.parameters.length) = some 1 := ⟨by decide, by decide, by decide +kernel⟩
set_option maxHeartbeats 4000000 in
set_option maxRecDepth 100000 in
theorem c_X1_taxTold (l : Launch) (G : kG) (a : Nat → Nat) (hI : gI 47 a) (b : Nat → Nat → Int32) (p1 : Int32) : Met l yX1_taxTold (Cond.code yX1_taxTold cX1_taxTold 2 (some .int) :: BIG) (rmK 1) (pcG G (bP G a b) [.ref (a 0), .int p1]) (qcI G (gA 47 a) (bP G a b) (v_X1_taxTold b p1)) 0 0 (gA 47 a) := by
  refine m_start (by decide) (Nat.le_of_ble_eq_true rfl) ?_
  intro p e s m args below meth c S hr hlk hnm hP hK ls hl
  have hx := S.1
  have hb := S.2.1
  have hown := S.2.2.2.1
  have hS : va_S (gA 47 a) s.heap s.heap [] := va_S.rf
  have hl : lv_has ls 2 [(0, .ref (a 0)), (1, .int p1)] := hl
  refine lv_iload_n hx hb dX1_taxTold_0 rfl (lv_at hl 1 rfl) ?_
  refine r_callSN S hK hP (c_X5_isYear l G (bP G a b) (gA 47 a) _) k_171 hK.2.2.2.2.2.1 k_170 k_2 q_X5_isYear ⟨Nat.le_of_ble_eq_true rfl, Nat.le_of_ble_eq_true rfl⟩ rfl rfl rfl hl.1 rfl (Nat.le_of_ble_eq_true rfl) dX1_taxTold_1 ⟨Nat.zero_le _, Nat.zero_le _⟩ hS (fun _ h => h) (fun H locs hP _ _ hS => ?_)
  have hP : bP G a b H := hP
  refine lv_if_eq (tgt := 24) hx hb dX1_taxTold_4 (by decide) (fun c1 => ?_) (fun c1 => ?_)
  · skip
    refine lv_bipush (v := -5) hx hb dX1_taxTold_24 (by decide) ?_
    exact e_int S hr hlk rfl hK hS hP (show v_X1_taxTold b p1 = (-5 : Int32) from (if_pos c1).trans rfl).symm dX1_taxTold_26
  · skip
    refine lv_iload_n hx hb dX1_taxTold_7 rfl (lv_at hl 1 rfl) ?_
    refine lv_aload_n hx hb dX1_taxTold_8 rfl (lv_at hl 0 rfl) ?_
    refine g_get S hK hP (i := 0) (by omega) bC0 rfl inlX1 6 (by decide) k_93 (v := .int (b 0 6)) rfl dX1_taxTold_9 ?_
    refine lv_icmp_ge (tgt := 24) hx hb dX1_taxTold_12 (by decide) (fun c2 => ?_) (fun c2 => ?_)
    · skip
      refine lv_bipush (v := -5) hx hb dX1_taxTold_24 (by decide) ?_
      exact e_int S hr hlk rfl hK hS hP (show v_X1_taxTold b p1 = (-5 : Int32) from (if_neg c1).trans ((if_pos c2).trans rfl)).symm dX1_taxTold_26
    · skip
      refine lv_aload_n hx hb dX1_taxTold_15 rfl (lv_at hl 0 rfl) ?_
      refine g_get S hK hP (i := 0) (by omega) bC0 rfl inlX1 3 (by decide) k_35 (v := .ref (a 4)) rfl dX1_taxTold_16 ?_
      refine lv_iload_n hx hb dX1_taxTold_19 rfl (lv_at hl 1 rfl) ?_
      refine g_ald S hK hP (i := 4) (by omega) bC4 (vp_X5_isYear c1 (by decide)) (v := b 4 p1.toNatClampNeg) (rfl) dX1_taxTold_20 ?_
      refine lv_goto (tgt := 26) hx hb dX1_taxTold_21 (by decide) ?_
      exact e_int S hr hlk rfl hK hS hP (show v_X1_taxTold b p1 = b 4 p1.toNatClampNeg from (if_neg c1).trans ((if_neg c2).trans rfl)).symm dX1_taxTold_26
end
section
theorem countBills_lp (b : Nat → Nat → Int32) (p1 p2 : Int32) : ∀ (n k c : Nat), ∃ c' : Nat, c' ≤ c + n ∧ v_X1_countBills_loop b p1 p2 n k (nI c) = nI c' := by
  intro n
  induction n with
  | zero => intro k c; exact ⟨c, Nat.le_refl _, rfl⟩
  | succ n ih =>
    intro k c
    by_cases h : v_X0_is b k p1 p2 = 0
    · obtain ⟨c', h1, h2⟩ := ih (k + 1) c
      exact ⟨c', by omega, (if_pos h).trans ((congrArg _ (nI_add c 0)).trans h2)⟩
    · obtain ⟨c', h1, h2⟩ := ih (k + 1) (c + 1)
      exact ⟨c', by omega, (if_neg h).trans ((congrArg _ (nI_add c 1)).trans h2)⟩
theorem countBills_nat (b : Nat → Nat → Int32) (p1 p2 : Int32) : ∃ c : Nat, c ≤ 40 ∧ v_X1_countBills b p1 p2 = nI c := by
  obtain ⟨c, h1, h2⟩ := countBills_lp b p1 p2 40 0 0
  exact ⟨c, by omega, h2⟩
theorem countBills_nn (b : Nat → Nat → Int32) (p1 p2 : Int32) : 0 ≤ (v_X1_countBills b p1 p2).toInt := by
  obtain ⟨c, h1, h2⟩ := countBills_nat b p1 p2
  rw [h2, nI_toInt (by omega)]
  omega
theorem billAt_lt {b : Nat → Nat → Int32} {x : Int32} {j : Nat} (h : v_X1_billAt b x = some j) : j < 40 := by
  unfold v_X1_billAt at h
  by_cases h1 : x < 0
  · rw [if_pos h1] at h; cases h
  · rw [if_neg h1] at h
    by_cases h2 : (40 : Int32) ≤ x
    · rw [if_pos h2] at h; cases h
    · rw [if_neg h2] at h
      have h3 := vp_lt (vp_of (vp_lo1 h1) (vp_hi1 (n := 40) (n' := 40) h2 rfl (by decide)))
      split at h
      · cases h
      · cases h; exact h3
end
section
def v_X1_writeBill (b : Nat → Nat → Int32) (p1 : Int32) (p2 : Int32) (p3 : Int32) (p4 : Int32) : Int32 := if v_X5_isCustomer p1 = 0 then (-1 : Int32) else if p2 < (1 : Int32) then (-2 : Int32) else if (9999 : Int32) < p2 then (-2 : Int32) else if p3 < 0 then (-2 : Int32) else if (40 : Int32) < p3 then (-2 : Int32) else if p4 < 0 then (-2 : Int32) else if p4 ≤ (99 : Int32) then (if v_X1_countBills b (-9 : Int32) (-9 : Int32) < (40 : Int32) then (v_X1_countBills b (-9 : Int32) (-9 : Int32)) else (-3 : Int32)) else (-2 : Int32)
def w_X1_writeBill (b : Nat → Nat → Int32) (p1 : Int32) (p2 : Int32) (p3 : Int32) (p4 : Int32) : Nat → Nat → Int32 := if v_X5_isCustomer p1 = 0 then b else if p2 < (1 : Int32) then b else if (9999 : Int32) < p2 then b else if p3 < 0 then b else if (40 : Int32) < p3 then b else if p4 < 0 then b else if p4 ≤ (99 : Int32) then (if v_X1_countBills b (-9 : Int32) (-9 : Int32) < (40 : Int32) then (w_X1_setCredit (w_X1_payOn (w_X0_write b ((v_X1_countBills b (-9 : Int32) (-9 : Int32)).toNatClampNeg) p1 p2 p3 (b 0 5) p4) ((v_X1_countBills b (-9 : Int32) (-9 : Int32)).toNatClampNeg) (v_X1_creditOf (w_X0_write b ((v_X1_countBills b (-9 : Int32) (-9 : Int32)).toNatClampNeg) p1 p2 p3 (b 0 5) p4) p1)) p1 ((v_X1_creditOf (w_X0_write b ((v_X1_countBills b (-9 : Int32) (-9 : Int32)).toNatClampNeg) p1 p2 p3 (b 0 5) p4) p1) - (v_X1_payOn (w_X0_write b ((v_X1_countBills b (-9 : Int32) (-9 : Int32)).toNatClampNeg) p1 p2 p3 (b 0 5) p4) ((v_X1_countBills b (-9 : Int32) (-9 : Int32)).toNatClampNeg) (v_X1_creditOf (w_X0_write b ((v_X1_countBills b (-9 : Int32) (-9 : Int32)).toNatClampNeg) p1 p2 p3 (b 0 5) p4) p1)))) else b) else b
theorem q_X1_writeBill : yX1_writeBill.cls ≠ "java/lang/invoke/MethodHandle" ∧ yX1_writeBill.cls ≠ "java/lang/invoke/VarHandle" ∧ (parseMethodDescriptor yX1_writeBill.desc).map (fun d => d.parameters.length) = some 4 := ⟨by decide, by decide, by decide +kernel⟩
set_option maxHeartbeats 4000000 in
set_option maxRecDepth 100000 in
theorem c_X1_writeBill (l : Launch) (G : kG) (a : Nat → Nat) (hI : gI 47 a) (b : Nat → Nat → Int32) (p1 : Int32) (p2 : Int32) (p3 : Int32) (p4 : Int32) : Met l yX1_writeBill (Cond.code yX1_writeBill cX1_writeBill 8 (some .int) :: BIG) (rmK 3) (pcG G (bP G a b) [.ref (a 0), .int p1, .int p2, .int p3, .int p4]) (qcI G (gA 47 a) (bP G a (w_X1_writeBill b p1 p2 p3 p4)) (v_X1_writeBill b p1 p2 p3 p4)) 0 0 (gA 47 a) := by
  refine m_start (by decide) (Nat.le_of_ble_eq_true rfl) ?_
  intro p e s m args below meth c S hr hlk hnm hP hK ls hl
  have hx := S.1
  have hb := S.2.1
  have hown := S.2.2.2.1
  have hS : va_S (gA 47 a) s.heap s.heap [] := va_S.rf
  have hl : lv_has ls 8 [(0, .ref (a 0)), (1, .int p1), (2, .int p2), (3, .int p3), (4, .int p4)] := hl
  refine lv_iload_n hx hb dX1_writeBill_0 rfl (lv_at hl 1 rfl) ?_
  refine r_callSN S hK hP (c_X5_isCustomer l G (bP G a b) (gA 47 a) _ ) k_121 hK.2.2.2.2.1 k_120 k_2 q_X5_isCustomer ⟨Nat.le_of_ble_eq_true rfl, Nat.le_of_ble_eq_true rfl⟩ rfl rfl rfl hl.1 rfl (Nat.le_of_ble_eq_true rfl) dX1_writeBill_1 ⟨Nat.zero_le _, Nat.zero_le _⟩ hS (fun _ h => h) (fun H locs hP _ _ hS => ?_)
  have hP : bP G a b H := hP
  refine lv_if_ne (tgt := 9) hx hb dX1_writeBill_4 (by decide) (fun c1 => ?_) (fun c1 => ?_)
  · skip
    refine lv_iload_n hx hb dX1_writeBill_9 rfl (lv_at hl 2 rfl) ?_
    refine lv_iconst (v := 1) hx hb dX1_writeBill_10 (by decide) ?_
    refine lv_icmp_lt (tgt := 43) hx hb dX1_writeBill_11 (by decide) (fun c2 => ?_) (fun c2 => ?_)
    · skip
      refine lv_bipush (v := -2) hx hb dX1_writeBill_43 (by decide) ?_
      exact e_int S hr hlk rfl hK hS (gP_eq (show w_X1_writeBill b p1 p2 p3 p4 = b from (if_neg c1).trans ((if_pos c2).trans rfl)) hP) (show v_X1_writeBill b p1 p2 p3 p4 = (-2 : Int32) from (if_neg c1).trans ((if_pos c2).trans rfl)).symm dX1_writeBill_45
    · skip
      refine lv_iload_n hx hb dX1_writeBill_14 rfl (lv_at hl 2 rfl) ?_
      refine lv_sipush (v := 9999) hx hb dX1_writeBill_15 (by decide) ?_
      refine lv_icmp_gt (tgt := 43) hx hb dX1_writeBill_18 (by decide) (fun c3 => ?_) (fun c3 => ?_)
      · skip
        refine lv_bipush (v := -2) hx hb dX1_writeBill_43 (by decide) ?_
        exact e_int S hr hlk rfl hK hS (gP_eq (show w_X1_writeBill b p1 p2 p3 p4 = b from (if_neg c1).trans ((if_neg c2).trans ((if_pos c3).trans rfl))) hP) (show v_X1_writeBill b p1 p2 p3 p4 = (-2 : Int32) from (if_neg c1).trans ((if_neg c2).trans ((if_pos c3).trans rfl))).symm dX1_writeBill_45
      · skip
        refine lv_iload_n hx hb dX1_writeBill_21 rfl (lv_at hl 3 rfl) ?_
        refine lv_if_lt (tgt := 43) hx hb dX1_writeBill_22 (by decide) (fun c4 => ?_) (fun c4 => ?_)
        · skip
          refine lv_bipush (v := -2) hx hb dX1_writeBill_43 (by decide) ?_
          exact e_int S hr hlk rfl hK hS (gP_eq (show w_X1_writeBill b p1 p2 p3 p4 = b from (if_neg c1).trans ((if_neg c2).trans ((if_neg c3).trans ((if_pos c4).trans rfl)))) hP) (show v_X1_writeBill b p1 p2 p3 p4 = (-2 : Int32) from (if_neg c1).trans ((if_neg c2).trans ((if_neg c3).trans ((if_pos c4).trans rfl)))).symm dX1_writeBill_45
        · skip
          refine lv_iload_n hx hb dX1_writeBill_25 rfl (lv_at hl 3 rfl) ?_
          refine lv_bipush (v := 40) hx hb dX1_writeBill_26 (by decide) ?_
          refine lv_icmp_gt (tgt := 43) hx hb dX1_writeBill_28 (by decide) (fun c5 => ?_) (fun c5 => ?_)
          · skip
            refine lv_bipush (v := -2) hx hb dX1_writeBill_43 (by decide) ?_
            exact e_int S hr hlk rfl hK hS (gP_eq (show w_X1_writeBill b p1 p2 p3 p4 = b from (if_neg c1).trans ((if_neg c2).trans ((if_neg c3).trans ((if_neg c4).trans ((if_pos c5).trans rfl))))) hP) (show v_X1_writeBill b p1 p2 p3 p4 = (-2 : Int32) from (if_neg c1).trans ((if_neg c2).trans ((if_neg c3).trans ((if_neg c4).trans ((if_pos c5).trans rfl))))).symm dX1_writeBill_45
          · skip
            refine lv_iload hx hb dX1_writeBill_31 (lv_at hl 4 rfl) ?_
            refine lv_if_lt (tgt := 43) hx hb dX1_writeBill_33 (by decide) (fun c6 => ?_) (fun c6 => ?_)
            · skip
              refine lv_bipush (v := -2) hx hb dX1_writeBill_43 (by decide) ?_
              exact e_int S hr hlk rfl hK hS (gP_eq (show w_X1_writeBill b p1 p2 p3 p4 = b from (if_neg c1).trans ((if_neg c2).trans ((if_neg c3).trans ((if_neg c4).trans ((if_neg c5).trans ((if_pos c6).trans rfl)))))) hP) (show v_X1_writeBill b p1 p2 p3 p4 = (-2 : Int32) from (if_neg c1).trans ((if_neg c2).trans ((if_neg c3).trans ((if_neg c4).trans ((if_neg c5).trans ((if_pos c6).trans rfl)))))).symm dX1_writeBill_45
            · skip
              refine lv_iload hx hb dX1_writeBill_36 (lv_at hl 4 rfl) ?_
              refine lv_bipush (v := 99) hx hb dX1_writeBill_38 (by decide) ?_
              refine lv_icmp_le (tgt := 46) hx hb dX1_writeBill_40 (by decide) (fun c7 => ?_) (fun c7 => ?_)
              · skip
                refine lv_aload_n hx hb dX1_writeBill_46 rfl (lv_at hl 0 rfl) ?_
                refine lv_bipush (v := -9) hx hb dX1_writeBill_47 (by decide) ?_
                refine lv_bipush (v := -9) hx hb dX1_writeBill_49 (by decide) ?_
                refine r_callI S hK hP (c_X1_countBills l G a hI b _ _ ) (r_cw S k_125 k_122 k_123 k_124 k_14 q_X1_countBills ⟨Nat.le_of_ble_eq_true rfl, Nat.le_of_ble_eq_true rfl⟩ rfl rfl) (g_recv hK hP (i := 0) (by omega) bC0 rfl) rfl hl.1 rfl (Nat.le_of_ble_eq_true rfl) dX1_writeBill_51 ⟨Nat.zero_le _, Nat.zero_le _⟩ hS (fun _ h => h) (fun H locs hP _ _ hS => ?_)
                have hP : bP G a b H := hP
                refine lv_istore (lv' := [(5, .int (v_X1_countBills b (-9 : Int32) (-9 : Int32))), (0, .ref (a 0)), (1, .int p1), (2, .int p2), (3, .int p3), (4, .int p4)]) hx hb dX1_writeBill_54 hl (by decide) rfl (fun ls hl => ?_)
                refine lv_iload hx hb dX1_writeBill_56 (lv_at hl 0 rfl) ?_
                refine lv_aload_n hx hb dX1_writeBill_58 rfl (lv_at hl 1 rfl) ?_
                refine g_get S hK hP (i := 0) (by omega) bC0 rfl inlX1 0 (by decide) k_31 (v := .ref (a 1)) rfl dX1_writeBill_59 ?_
                refine g_alen S hK hP (i := 1) (by omega) (bC1 _) 2 rfl (v := 40) rfl dX1_writeBill_62 ?_
                refine lv_icmp_lt (tgt := 69) hx hb dX1_writeBill_63 (by decide) (fun c8 => ?_) (fun c8 => ?_)
                · skip
                  refine lv_aload_n hx hb dX1_writeBill_69 rfl (lv_at hl 1 rfl) ?_
                  refine g_get S hK hP (i := 0) (by omega) bC0 rfl inlX1 0 (by decide) k_31 (v := .ref (a 1)) rfl dX1_writeBill_70 ?_
                  refine lv_iload hx hb dX1_writeBill_73 (lv_at hl 0 rfl) ?_
                  have hb9 : (v_X1_countBills b (-9 : Int32) (-9 : Int32)).toNatClampNeg < 40 := vp_lt (vp_of (countBills_nn b (-9 : Int32) (-9 : Int32)) (vp_hi2 (n := 40) c8 rfl (by decide)))
                  refine g_baldI S hK hP (i := 1) (by omega) bC1 (vp_of (countBills_nn b (-9 : Int32) (-9 : Int32)) (vp_hi2 (n := 40) c8 rfl (by decide))) (v := .ref (a ((v_X1_countBills b (-9 : Int32) (-9 : Int32)).toNatClampNeg + 7))) rfl dX1_writeBill_75 ?_
                  refine lv_astore (lv' := [(6, .ref (a ((v_X1_countBills b (-9 : Int32) (-9 : Int32)).toNatClampNeg + 7))), (5, .int (v_X1_countBills b (-9 : Int32) (-9 : Int32))), (0, .ref (a 0)), (1, .int p1), (2, .int p2), (3, .int p3), (4, .int p4)]) hx hb dX1_writeBill_76 hl (by decide) rfl (fun ls hl => ?_)
                  refine lv_aload hx hb dX1_writeBill_78 (lv_at hl 0 rfl) ?_
                  refine lv_iload_n hx hb dX1_writeBill_80 rfl (lv_at hl 3 rfl) ?_
                  refine lv_iload_n hx hb dX1_writeBill_81 rfl (lv_at hl 4 rfl) ?_
                  refine lv_iload_n hx hb dX1_writeBill_82 rfl (lv_at hl 5 rfl) ?_
                  refine lv_aload_n hx hb dX1_writeBill_83 rfl (lv_at hl 2 rfl) ?_
                  refine g_get S hK hP (i := 0) (by omega) bC0 rfl inlX1 5 (by decide) k_92 (v := .int (b 0 5)) rfl dX1_writeBill_84 ?_
                  refine lv_iload hx hb dX1_writeBill_87 (lv_at hl 6 rfl) ?_
                  refine r_callV S hK hP (c_X0_write l G a hI b ((v_X1_countBills b (-9 : Int32) (-9 : Int32)).toNatClampNeg) (by omega) _ _ _ _ _ ) (r_cw S k_133 k_130 k_131 k_132 k_41 q_X0_write ⟨Nat.le_of_ble_eq_true rfl, Nat.le_of_ble_eq_true rfl⟩ rfl rfl) (g_recv hK hP (i := (v_X1_countBills b (-9 : Int32) (-9 : Int32)).toNatClampNeg + 7) (by omega) bC7 rfl) rfl hl.1 rfl (Nat.le_of_ble_eq_true rfl) dX1_writeBill_89 ⟨Nat.zero_le _, Nat.zero_le _⟩ hS (fun _ h => h) (fun H locs hP _ _ hS => ?_)
                  have hP : bP G a (w_X0_write b ((v_X1_countBills b (-9 : Int32) (-9 : Int32)).toNatClampNeg) p1 p2 p3 (b 0 5) p4) H := hP
                  refine lv_aload_n hx hb dX1_writeBill_92 rfl (lv_at hl 2 rfl) ?_
                  refine lv_iload_n hx hb dX1_writeBill_93 rfl (lv_at hl 3 rfl) ?_
                  refine r_callI S hK hP (c_X1_creditOf l G a hI (w_X0_write b ((v_X1_countBills b (-9 : Int32) (-9 : Int32)).toNatClampNeg) p1 p2 p3 (b 0 5) p4) _ ) (r_cw S k_137 k_134 k_135 k_136 k_14 q_X1_creditOf ⟨Nat.le_of_ble_eq_true rfl, Nat.le_of_ble_eq_true rfl⟩ rfl rfl) (g_recv hK hP (i := 0) (by omega) bC0 rfl) rfl hl.1 rfl (Nat.le_of_ble_eq_true rfl) dX1_writeBill_94 ⟨Nat.zero_le _, Nat.zero_le _⟩ hS (fun _ h => h) (fun H locs hP _ _ hS => ?_)
                  have hP : bP G a (w_X0_write b ((v_X1_countBills b (-9 : Int32) (-9 : Int32)).toNatClampNeg) p1 p2 p3 (b 0 5) p4) H := hP
                  refine lv_istore (lv' := [(7, .int (v_X1_creditOf (w_X0_write b ((v_X1_countBills b (-9 : Int32) (-9 : Int32)).toNatClampNeg) p1 p2 p3 (b 0 5) p4) p1)), (6, .ref (a ((v_X1_countBills b (-9 : Int32) (-9 : Int32)).toNatClampNeg + 7))), (5, .int (v_X1_countBills b (-9 : Int32) (-9 : Int32))), (0, .ref (a 0)), (1, .int p1), (2, .int p2), (3, .int p3), (4, .int p4)]) hx hb dX1_writeBill_97 hl (by decide) rfl (fun ls hl => ?_)
                  refine lv_aload_n hx hb dX1_writeBill_99 rfl (lv_at hl 3 rfl) ?_
                  refine lv_iload_n hx hb dX1_writeBill_100 rfl (lv_at hl 4 rfl) ?_
                  refine lv_iload hx hb dX1_writeBill_101 (lv_at hl 0 rfl) ?_
                  refine lv_aload_n hx hb dX1_writeBill_103 rfl (lv_at hl 3 rfl) ?_
                  refine lv_aload hx hb dX1_writeBill_104 (lv_at hl 1 rfl) ?_
                  refine lv_iload hx hb dX1_writeBill_106 (lv_at hl 0 rfl) ?_
                  refine r_callI S hK hP (c_X1_payOn l G a hI (w_X0_write b ((v_X1_countBills b (-9 : Int32) (-9 : Int32)).toNatClampNeg) p1 p2 p3 (b 0 5) p4) ((v_X1_countBills b (-9 : Int32) (-9 : Int32)).toNatClampNeg) (by omega) _ ) (r_cw S k_141 k_138 k_139 k_140 k_14 q_X1_payOn ⟨Nat.le_of_ble_eq_true rfl, Nat.le_of_ble_eq_true rfl⟩ rfl rfl) (g_recv hK hP (i := 0) (by omega) bC0 rfl) rfl hl.1 rfl (Nat.le_of_ble_eq_true rfl) dX1_writeBill_108 ⟨Nat.zero_le _, Nat.zero_le _⟩ hS (fun _ h => h) (fun H locs hP _ _ hS => ?_)
                  have hP : bP G a (w_X1_payOn (w_X0_write b ((v_X1_countBills b (-9 : Int32) (-9 : Int32)).toNatClampNeg) p1 p2 p3 (b 0 5) p4) ((v_X1_countBills b (-9 : Int32) (-9 : Int32)).toNatClampNeg) (v_X1_creditOf (w_X0_write b ((v_X1_countBills b (-9 : Int32) (-9 : Int32)).toNatClampNeg) p1 p2 p3 (b 0 5) p4) p1)) H := hP
                  refine lv_isub hx hb dX1_writeBill_111 ?_
                  refine r_callV S hK hP (c_X1_setCredit l G a hI (w_X1_payOn (w_X0_write b ((v_X1_countBills b (-9 : Int32) (-9 : Int32)).toNatClampNeg) p1 p2 p3 (b 0 5) p4) ((v_X1_countBills b (-9 : Int32) (-9 : Int32)).toNatClampNeg) (v_X1_creditOf (w_X0_write b ((v_X1_countBills b (-9 : Int32) (-9 : Int32)).toNatClampNeg) p1 p2 p3 (b 0 5) p4) p1)) _ _ ) (r_cw S k_179 k_176 k_177 k_178 k_14 q_X1_setCredit ⟨Nat.le_of_ble_eq_true rfl, Nat.le_of_ble_eq_true rfl⟩ rfl rfl) (g_recv hK hP (i := 0) (by omega) bC0 rfl) rfl hl.1 rfl (Nat.le_of_ble_eq_true rfl) dX1_writeBill_112 ⟨Nat.zero_le _, Nat.zero_le _⟩ hS (fun _ h => h) (fun H locs hP _ _ hS => ?_)
                  have hP : bP G a (w_X1_setCredit (w_X1_payOn (w_X0_write b ((v_X1_countBills b (-9 : Int32) (-9 : Int32)).toNatClampNeg) p1 p2 p3 (b 0 5) p4) ((v_X1_countBills b (-9 : Int32) (-9 : Int32)).toNatClampNeg) (v_X1_creditOf (w_X0_write b ((v_X1_countBills b (-9 : Int32) (-9 : Int32)).toNatClampNeg) p1 p2 p3 (b 0 5) p4) p1)) p1 ((v_X1_creditOf (w_X0_write b ((v_X1_countBills b (-9 : Int32) (-9 : Int32)).toNatClampNeg) p1 p2 p3 (b 0 5) p4) p1) - (v_X1_payOn (w_X0_write b ((v_X1_countBills b (-9 : Int32) (-9 : Int32)).toNatClampNeg) p1 p2 p3 (b 0 5) p4) ((v_X1_countBills b (-9 : Int32) (-9 : Int32)).toNatClampNeg) (v_X1_creditOf (w_X0_write b ((v_X1_countBills b (-9 : Int32) (-9 : Int32)).toNatClampNeg) p1 p2 p3 (b 0 5) p4) p1)))) H := hP
                  refine lv_iload hx hb dX1_writeBill_115 (lv_at hl 2 rfl) ?_
                  exact e_int S hr hlk rfl hK hS (gP_eq (show w_X1_writeBill b p1 p2 p3 p4 = w_X1_setCredit (w_X1_payOn (w_X0_write b ((v_X1_countBills b (-9 : Int32) (-9 : Int32)).toNatClampNeg) p1 p2 p3 (b 0 5) p4) ((v_X1_countBills b (-9 : Int32) (-9 : Int32)).toNatClampNeg) (v_X1_creditOf (w_X0_write b ((v_X1_countBills b (-9 : Int32) (-9 : Int32)).toNatClampNeg) p1 p2 p3 (b 0 5) p4) p1)) p1 ((v_X1_creditOf (w_X0_write b ((v_X1_countBills b (-9 : Int32) (-9 : Int32)).toNatClampNeg) p1 p2 p3 (b 0 5) p4) p1) - (v_X1_payOn (w_X0_write b ((v_X1_countBills b (-9 : Int32) (-9 : Int32)).toNatClampNeg) p1 p2 p3 (b 0 5) p4) ((v_X1_countBills b (-9 : Int32) (-9 : Int32)).toNatClampNeg) (v_X1_creditOf (w_X0_write b ((v_X1_countBills b (-9 : Int32) (-9 : Int32)).toNatClampNeg) p1 p2 p3 (b 0 5) p4) p1))) from (if_neg c1).trans ((if_neg c2).trans ((if_neg c3).trans ((if_neg c4).trans ((if_neg c5).trans ((if_neg c6).trans ((if_pos c7).trans ((if_pos c8).trans rfl)))))))) hP) (show v_X1_writeBill b p1 p2 p3 p4 = v_X1_countBills b (-9 : Int32) (-9 : Int32) from (if_neg c1).trans ((if_neg c2).trans ((if_neg c3).trans ((if_neg c4).trans ((if_neg c5).trans ((if_neg c6).trans ((if_pos c7).trans ((if_pos c8).trans rfl)))))))).symm dX1_writeBill_117
                · skip
                  refine lv_bipush (v := -3) hx hb dX1_writeBill_66 (by decide) ?_
                  exact e_int S hr hlk rfl hK hS (gP_eq (show w_X1_writeBill b p1 p2 p3 p4 = b from (if_neg c1).trans ((if_neg c2).trans ((if_neg c3).trans ((if_neg c4).trans ((if_neg c5).trans ((if_neg c6).trans ((if_pos c7).trans ((if_neg c8).trans rfl)))))))) hP) (show v_X1_writeBill b p1 p2 p3 p4 = (-3 : Int32) from (if_neg c1).trans ((if_neg c2).trans ((if_neg c3).trans ((if_neg c4).trans ((if_neg c5).trans ((if_neg c6).trans ((if_pos c7).trans ((if_neg c8).trans rfl)))))))).symm dX1_writeBill_68
              · skip
                refine lv_bipush (v := -2) hx hb dX1_writeBill_43 (by decide) ?_
                exact e_int S hr hlk rfl hK hS (gP_eq (show w_X1_writeBill b p1 p2 p3 p4 = b from (if_neg c1).trans ((if_neg c2).trans ((if_neg c3).trans ((if_neg c4).trans ((if_neg c5).trans ((if_neg c6).trans ((if_neg c7).trans rfl))))))) hP) (show v_X1_writeBill b p1 p2 p3 p4 = (-2 : Int32) from (if_neg c1).trans ((if_neg c2).trans ((if_neg c3).trans ((if_neg c4).trans ((if_neg c5).trans ((if_neg c6).trans ((if_neg c7).trans rfl))))))).symm dX1_writeBill_45
  · skip
    refine lv_iconst (v := -1) hx hb dX1_writeBill_7 (by decide) ?_
    exact e_int S hr hlk rfl hK hS (gP_eq (show w_X1_writeBill b p1 p2 p3 p4 = b from (if_pos c1).trans rfl) hP) (show v_X1_writeBill b p1 p2 p3 p4 = (-1 : Int32) from (if_pos c1).trans rfl).symm dX1_writeBill_8

def v_X1_takePayment_loop (p1 : Int32) (p2 : Int32) : Nat → Nat → (Nat → Nat → Int32) → Int32 → Int32 → Int32
  | 0, k, b, x3, x4 => if v_X1_addCredit b p1 x3 = 0 then (-3 : Int32) else x4
  | n + 1, k, b, x3, x4 => if v_X0_is b k p1 (0 : Int32) = 0 then (v_X1_takePayment_loop p1 p2 n (k + 1) b x3 x4) else if (w_X1_payOn b k x3) (k + 7) 0 = (1 : Int32) then (v_X1_takePayment_loop p1 p2 n (k + 1) (w_X1_payOn b k x3) (x3 - (v_X1_payOn b k x3)) (x4 + (1 : Int32))) else v_X1_takePayment_loop p1 p2 n (k + 1) (w_X1_payOn b k x3) (x3 - (v_X1_payOn b k x3)) (x4 + (0 : Int32))
def w_X1_takePayment_loop (p1 : Int32) (p2 : Int32) : Nat → Nat → (Nat → Nat → Int32) → Int32 → Int32 → (Nat → Nat → Int32)
  | 0, k, b, x3, x4 => if v_X1_addCredit b p1 x3 = 0 then (w_X1_addCredit b p1 x3) else w_X1_addCredit b p1 x3
  | n + 1, k, b, x3, x4 => if v_X0_is b k p1 (0 : Int32) = 0 then (w_X1_takePayment_loop p1 p2 n (k + 1) b x3 x4) else if (w_X1_payOn b k x3) (k + 7) 0 = (1 : Int32) then (w_X1_takePayment_loop p1 p2 n (k + 1) (w_X1_payOn b k x3) (x3 - (v_X1_payOn b k x3)) (x4 + (1 : Int32))) else w_X1_takePayment_loop p1 p2 n (k + 1) (w_X1_payOn b k x3) (x3 - (v_X1_payOn b k x3)) (x4 + (0 : Int32))
def v_X1_takePayment (b : Nat → Nat → Int32) (p1 : Int32) (p2 : Int32) : Int32 := if v_X5_isCustomer p1 = 0 then (-1 : Int32) else if v_X5_isAmount p2 = 0 then (-2 : Int32) else v_X1_takePayment_loop p1 p2 40 0 b p2 (0 : Int32)
def w_X1_takePayment (b : Nat → Nat → Int32) (p1 : Int32) (p2 : Int32) : Nat → Nat → Int32 := if v_X5_isCustomer p1 = 0 then b else if v_X5_isAmount p2 = 0 then b else w_X1_takePayment_loop p1 p2 40 0 b p2 (0 : Int32)
theorem q_X1_takePayment : yX1_takePayment.cls ≠ "java/lang/invoke/MethodHandle" ∧ yX1_takePayment.cls ≠ "java/lang/invoke/VarHandle" ∧ (parseMethodDescriptor yX1_takePayment.desc).map (fun d => d.parameters.length) = some 2 := ⟨by decide, by decide, by decide +kernel⟩
set_option maxHeartbeats 4000000 in
set_option maxRecDepth 100000 in
theorem c_X1_takePayment (l : Launch) (G : kG) (a : Nat → Nat) (hI : gI 47 a) (b : Nat → Nat → Int32) (p1 : Int32) (p2 : Int32) : Met l yX1_takePayment (Cond.code yX1_takePayment cX1_takePayment 9 (some .int) :: BIG) (rmK 3) (pcG G (bP G a b) [.ref (a 0), .int p1, .int p2]) (qcI G (gA 47 a) (bP G a (w_X1_takePayment b p1 p2)) (v_X1_takePayment b p1 p2)) 0 0 (gA 47 a) := by
  refine m_start (by decide) (Nat.le_of_ble_eq_true rfl) ?_
  intro p e s m args below meth c S hr hlk hnm hP hK ls hl
  have hx := S.1
  have hb := S.2.1
  have hown := S.2.2.2.1
  have hS : va_S (gA 47 a) s.heap s.heap [] := va_S.rf
  have hl : lv_has ls 9 [(0, .ref (a 0)), (1, .int p1), (2, .int p2)] := hl
  refine lv_iload_n hx hb dX1_takePayment_0 rfl (lv_at hl 1 rfl) ?_
  refine r_callSN S hK hP (c_X5_isCustomer l G (bP G a b) (gA 47 a) _ ) k_121 hK.2.2.2.2.1 k_120 k_2 q_X5_isCustomer ⟨Nat.le_of_ble_eq_true rfl, Nat.le_of_ble_eq_true rfl⟩ rfl rfl rfl hl.1 rfl (Nat.le_of_ble_eq_true rfl) dX1_takePayment_1 ⟨Nat.zero_le _, Nat.zero_le _⟩ hS (fun _ h => h) (fun H locs hP _ _ hS => ?_)
  have hP : bP G a b H := hP
  refine lv_if_ne (tgt := 9) hx hb dX1_takePayment_4 (by decide) (fun c1 => ?_) (fun c1 => ?_)
  · skip
    refine lv_iload_n hx hb dX1_takePayment_9 rfl (lv_at hl 2 rfl) ?_
    refine r_callSN S hK hP (c_X5_isAmount l G (bP G a b) (gA 47 a) _ ) k_256 hK.2.2.2.2.2.2 k_255 k_2 q_X5_isAmount ⟨Nat.le_of_ble_eq_true rfl, Nat.le_of_ble_eq_true rfl⟩ rfl rfl rfl hl.1 rfl (Nat.le_of_ble_eq_true rfl) dX1_takePayment_10 ⟨Nat.zero_le _, Nat.zero_le _⟩ hS (fun _ h => h) (fun H locs hP _ _ hS => ?_)
    have hP : bP G a b H := hP
    refine lv_if_ne (tgt := 19) hx hb dX1_takePayment_13 (by decide) (fun c2 => ?_) (fun c2 => ?_)
    · skip
      refine lv_iload_n hx hb dX1_takePayment_19 rfl (lv_at hl 2 rfl) ?_
      refine lv_istore_n (lv' := [(3, .int p2), (0, .ref (a 0)), (1, .int p1), (2, .int p2)]) hx hb dX1_takePayment_20 rfl hl (by decide) rfl (fun ls hl => ?_)
      refine lv_iconst (v := 0) hx hb dX1_takePayment_21 (by decide) ?_
      refine lv_istore (lv' := [(4, .int (0 : Int32)), (3, .int p2), (0, .ref (a 0)), (1, .int p1), (2, .int p2)]) hx hb dX1_takePayment_22 hl (by decide) rfl (fun ls hl => ?_)
      refine lv_aload_n hx hb dX1_takePayment_24 rfl (lv_at hl 2 rfl) ?_
      refine g_get S hK hP (i := 0) (by omega) bC0 rfl inlX1 0 (by decide) k_31 (v := .ref (a 1)) rfl dX1_takePayment_25 ?_
      refine lv_astore (lv' := [(5, .ref (a 1)), (4, .int (0 : Int32)), (3, .int p2), (0, .ref (a 0)), (1, .int p1), (2, .int p2)]) hx hb dX1_takePayment_28 hl (by decide) rfl (fun ls hl => ?_)
      refine lv_aload hx hb dX1_takePayment_30 (lv_at hl 0 rfl) ?_
      refine g_alen S hK hP (i := 1) (by omega) (bC1 _) 2 rfl (v := 40) rfl dX1_takePayment_32 ?_
      refine lv_istore (lv' := [(6, .int (40 : Int32)), (5, .ref (a 1)), (4, .int (0 : Int32)), (3, .int p2), (0, .ref (a 0)), (1, .int p1), (2, .int p2)]) hx hb dX1_takePayment_33 hl (by decide) rfl (fun ls hl => ?_)
      refine lv_iconst (v := 0) hx hb dX1_takePayment_35 (by decide) ?_
      refine lv_istore (lv' := [(7, .int (0 : Int32)), (6, .int (40 : Int32)), (5, .ref (a 1)), (4, .int (0 : Int32)), (3, .int p2), (0, .ref (a 0)), (1, .int p1), (2, .int p2)]) hx hb dX1_takePayment_36 hl (by decide) rfl (fun ls hl => ?_)
      have LP_loop : ∀ (n : Nat) (k : Nat), k + n = 40 → ∀ (b : Nat → Nat → Int32) (x3 : Int32) (x4 : Int32) (H : Heap) (locs : List Loc), bP G a b H → va_S (gA 47 a) s.heap H locs → ∀ ls : Array Slot, lv_has ls 9 [(7, .int (nI k)), (6, .int (40 : Int32)), (5, .ref (a 1)), (4, .int x4), (3, .int x3), (0, .ref (a 0)), (1, .int p1), (2, .int p2)] → W p l e (rmK 3) s m args below meth c H locs 0 0 (MQ below (qcI G (gA 47 a) (bP G a (w_X1_takePayment_loop p1 p2 n k b x3 x4)) (v_X1_takePayment_loop p1 p2 n k b x3 x4)) args s 0 0 (gA 47 a)) (F0 m 38 ls []) := by
        intro n
        induction n with
        | zero =>
          intro k hk_LP_loop b x3 x4 H locs hP hS ls hl
          refine lv_iload hx hb dX1_takePayment_38 (lv_at hl 0 rfl) ?_
          refine lv_iload hx hb dX1_takePayment_40 (lv_at hl 1 rfl) ?_
          refine lv_icmp_ge (tgt := 97) hx hb dX1_takePayment_42 (by decide) (fun _ => ?_) (fun c => absurd ((nI_leI (a := 40) (b := k) (by omega) (by omega)).mpr (by omega)) c)
          refine lv_aload_n hx hb dX1_takePayment_97 rfl (lv_at hl 5 rfl) ?_
          refine lv_iload_n hx hb dX1_takePayment_98 rfl (lv_at hl 6 rfl) ?_
          refine lv_iload_n hx hb dX1_takePayment_99 rfl (lv_at hl 4 rfl) ?_
          refine r_callI S hK hP (c_X1_addCredit l G a hI b _ _ ) (r_cw S k_261 k_258 k_259 k_260 k_14 q_X1_addCredit ⟨Nat.le_of_ble_eq_true rfl, Nat.le_of_ble_eq_true rfl⟩ rfl rfl) (g_recv hK hP (i := 0) (by omega) bC0 rfl) rfl hl.1 rfl (Nat.le_of_ble_eq_true rfl) dX1_takePayment_100 ⟨Nat.zero_le _, Nat.zero_le _⟩ hS (fun _ h => h) (fun H locs hP _ _ hS => ?_)
          have hP : bP G a (w_X1_addCredit b p1 x3) H := hP
          refine lv_if_eq (tgt := 111) hx hb dX1_takePayment_103 (by decide) (fun c3 => ?_) (fun c3 => ?_)
          · skip
            refine lv_bipush (v := -3) hx hb dX1_takePayment_111 (by decide) ?_
            exact e_int S hr hlk rfl hK hS (gP_eq (show w_X1_takePayment_loop p1 p2 0 k b x3 x4 = w_X1_addCredit b p1 x3 from (if_pos c3).trans rfl) hP) (show v_X1_takePayment_loop p1 p2 0 k b x3 x4 = (-3 : Int32) from (if_pos c3).trans rfl).symm dX1_takePayment_113
          · skip
            refine lv_iload hx hb dX1_takePayment_106 (lv_at hl 3 rfl) ?_
            refine lv_goto (tgt := 113) hx hb dX1_takePayment_108 (by decide) ?_
            exact e_int S hr hlk rfl hK hS (gP_eq (show w_X1_takePayment_loop p1 p2 0 k b x3 x4 = w_X1_addCredit b p1 x3 from (if_neg c3).trans rfl) hP) (show v_X1_takePayment_loop p1 p2 0 k b x3 x4 = x4 from (if_neg c3).trans rfl).symm dX1_takePayment_113
        | succ n ih_LP_loop =>
          intro k hk_LP_loop b x3 x4 H locs hP hS ls hl
          refine lv_iload hx hb dX1_takePayment_38 (lv_at hl 0 rfl) ?_
          refine lv_iload hx hb dX1_takePayment_40 (lv_at hl 1 rfl) ?_
          refine lv_icmp_ge (tgt := 97) hx hb dX1_takePayment_42 (by decide) (fun c => absurd c (fun z => absurd ((nI_leI (a := 40) (b := k) (by omega) (by omega)).mp z) (by omega))) (fun _ => ?_)
          refine lv_aload hx hb dX1_takePayment_45 (lv_at hl 2 rfl) ?_
          refine lv_iload hx hb dX1_takePayment_47 (lv_at hl 0 rfl) ?_
          refine g_bald S hK hP (i := 1) (by omega) bC1 (k := k) (by omega) (by decide) (v := .ref (a (k + 7))) rfl dX1_takePayment_49 ?_
          refine lv_astore (lv' := [(8, .ref (a (k + 7))), (7, .int (nI k)), (6, .int (40 : Int32)), (5, .ref (a 1)), (4, .int x4), (3, .int x3), (0, .ref (a 0)), (1, .int p1), (2, .int p2)]) hx hb dX1_takePayment_50 hl (by decide) rfl (fun ls hl => ?_)
          refine lv_aload hx hb dX1_takePayment_52 (lv_at hl 0 rfl) ?_
          refine lv_iload_n hx hb dX1_takePayment_54 rfl (lv_at hl 7 rfl) ?_
          refine lv_iconst (v := 0) hx hb dX1_takePayment_55 (by decide) ?_
          refine r_callI S hK hP (c_X0_is l G a hI b k (by omega) _ _ ) (r_cw S k_129 k_126 k_127 k_128 k_41 q_X0_is ⟨Nat.le_of_ble_eq_true rfl, Nat.le_of_ble_eq_true rfl⟩ rfl rfl) (g_recv hK hP (i := k + 7) (by omega) bC7 rfl) rfl hl.1 rfl (Nat.le_of_ble_eq_true rfl) dX1_takePayment_56 ⟨Nat.zero_le _, Nat.zero_le _⟩ hS (fun _ h => h) (fun H locs hP _ _ hS => ?_)
          have hP : bP G a b H := hP
          refine lv_if_eq (tgt := 91) hx hb dX1_takePayment_59 (by decide) (fun c4 => ?_) (fun c4 => ?_)
          · skip
            refine lv_iinc (v := nI (k + 1)) (lv' := [(7, .int (nI (k + 1))), (8, .ref (a (k + 7))), (6, .int (40 : Int32)), (5, .ref (a 1)), (4, .int x4), (3, .int x3), (0, .ref (a 0)), (1, .int p1), (2, .int p2)]) hx hb dX1_takePayment_91 hl (k := 1) rfl (nI_1 _) (by decide) rfl (fun ls hl => ?_)
            refine lv_goto (tgt := 38) hx hb dX1_takePayment_94 (by decide) ?_
            refine q_eqI (show v_X1_takePayment_loop p1 p2 (n + 1) k b x3 x4 = v_X1_takePayment_loop p1 p2 n (k + 1) b x3 x4 from (if_pos c4).trans rfl) (show w_X1_takePayment_loop p1 p2 (n + 1) k b x3 x4 = w_X1_takePayment_loop p1 p2 n (k + 1) b x3 x4 from (if_pos c4).trans rfl) ?_
            exact ih_LP_loop (k + 1) (by omega) _ _ _ _ _ hP hS ls (lv_sub hl [0, 2, 3, 4, 5, 6, 7, 8] rfl)
          · skip
            refine lv_iload_n hx hb dX1_takePayment_62 rfl (lv_at hl 5 rfl) ?_
            refine lv_aload_n hx hb dX1_takePayment_63 rfl (lv_at hl 6 rfl) ?_
            refine lv_aload hx hb dX1_takePayment_64 (lv_at hl 0 rfl) ?_
            refine lv_iload_n hx hb dX1_takePayment_66 rfl (lv_at hl 5 rfl) ?_
            refine r_callI S hK hP (c_X1_payOn l G a hI b k (by omega) _ ) (r_cw S k_141 k_138 k_139 k_140 k_14 q_X1_payOn ⟨Nat.le_of_ble_eq_true rfl, Nat.le_of_ble_eq_true rfl⟩ rfl rfl) (g_recv hK hP (i := 0) (by omega) bC0 rfl) rfl hl.1 rfl (Nat.le_of_ble_eq_true rfl) dX1_takePayment_67 ⟨Nat.zero_le _, Nat.zero_le _⟩ hS (fun _ h => h) (fun H locs hP _ _ hS => ?_)
            have hP : bP G a (w_X1_payOn b k x3) H := hP
            refine lv_isub hx hb dX1_takePayment_70 ?_
            refine lv_istore_n (lv' := [(3, .int (x3 - (v_X1_payOn b k x3))), (8, .ref (a (k + 7))), (7, .int (nI k)), (6, .int (40 : Int32)), (5, .ref (a 1)), (4, .int x4), (0, .ref (a 0)), (1, .int p1), (2, .int p2)]) hx hb dX1_takePayment_71 rfl hl (by decide) rfl (fun ls hl => ?_)
            refine lv_iload hx hb dX1_takePayment_72 (lv_at hl 5 rfl) ?_
            refine lv_aload hx hb dX1_takePayment_74 (lv_at hl 1 rfl) ?_
            refine g_get S hK hP (i := k + 7) (by omega) bC7 rfl inlX0 0 (by decide) k_254 (v := .int ((w_X1_payOn b k x3) (k + 7) 0)) rfl dX1_takePayment_76 ?_
            refine lv_iconst (v := 1) hx hb dX1_takePayment_79 (by decide) ?_
            refine lv_icmp_ne (tgt := 87) hx hb dX1_takePayment_80 (by decide) (fun c5 => ?_) (fun c5 => ?_)
            · skip
              refine lv_iconst (v := 0) hx hb dX1_takePayment_87 (by decide) ?_
              refine lv_iadd hx hb dX1_takePayment_88 ?_
              refine lv_istore (lv' := [(4, .int (x4 + (0 : Int32))), (3, .int (x3 - (v_X1_payOn b k x3))), (8, .ref (a (k + 7))), (7, .int (nI k)), (6, .int (40 : Int32)), (5, .ref (a 1)), (0, .ref (a 0)), (1, .int p1), (2, .int p2)]) hx hb dX1_takePayment_89 hl (by decide) rfl (fun ls hl => ?_)
              refine lv_iinc (v := nI (k + 1)) (lv' := [(7, .int (nI (k + 1))), (4, .int (x4 + (0 : Int32))), (3, .int (x3 - (v_X1_payOn b k x3))), (8, .ref (a (k + 7))), (6, .int (40 : Int32)), (5, .ref (a 1)), (0, .ref (a 0)), (1, .int p1), (2, .int p2)]) hx hb dX1_takePayment_91 hl (k := 3) rfl (nI_1 _) (by decide) rfl (fun ls hl => ?_)
              refine lv_goto (tgt := 38) hx hb dX1_takePayment_94 (by decide) ?_
              refine q_eqI (show v_X1_takePayment_loop p1 p2 (n + 1) k b x3 x4 = v_X1_takePayment_loop p1 p2 n (k + 1) (w_X1_payOn b k x3) (x3 - (v_X1_payOn b k x3)) (x4 + (0 : Int32)) from (if_neg c4).trans ((if_neg c5).trans rfl)) (show w_X1_takePayment_loop p1 p2 (n + 1) k b x3 x4 = w_X1_takePayment_loop p1 p2 n (k + 1) (w_X1_payOn b k x3) (x3 - (v_X1_payOn b k x3)) (x4 + (0 : Int32)) from (if_neg c4).trans ((if_neg c5).trans rfl)) ?_
              exact ih_LP_loop (k + 1) (by omega) _ _ _ _ _ hP hS ls (lv_sub hl [0, 4, 5, 1, 2, 6, 7, 8] rfl)
            · skip
              refine lv_iconst (v := 1) hx hb dX1_takePayment_83 (by decide) ?_
              refine lv_goto (tgt := 88) hx hb dX1_takePayment_84 (by decide) ?_
              refine lv_iadd hx hb dX1_takePayment_88 ?_
              refine lv_istore (lv' := [(4, .int (x4 + (1 : Int32))), (3, .int (x3 - (v_X1_payOn b k x3))), (8, .ref (a (k + 7))), (7, .int (nI k)), (6, .int (40 : Int32)), (5, .ref (a 1)), (0, .ref (a 0)), (1, .int p1), (2, .int p2)]) hx hb dX1_takePayment_89 hl (by decide) rfl (fun ls hl => ?_)
              refine lv_iinc (v := nI (k + 1)) (lv' := [(7, .int (nI (k + 1))), (4, .int (x4 + (1 : Int32))), (3, .int (x3 - (v_X1_payOn b k x3))), (8, .ref (a (k + 7))), (6, .int (40 : Int32)), (5, .ref (a 1)), (0, .ref (a 0)), (1, .int p1), (2, .int p2)]) hx hb dX1_takePayment_91 hl (k := 3) rfl (nI_1 _) (by decide) rfl (fun ls hl => ?_)
              refine lv_goto (tgt := 38) hx hb dX1_takePayment_94 (by decide) ?_
              refine q_eqI (show v_X1_takePayment_loop p1 p2 (n + 1) k b x3 x4 = v_X1_takePayment_loop p1 p2 n (k + 1) (w_X1_payOn b k x3) (x3 - (v_X1_payOn b k x3)) (x4 + (1 : Int32)) from (if_neg c4).trans ((if_pos c5).trans rfl)) (show w_X1_takePayment_loop p1 p2 (n + 1) k b x3 x4 = w_X1_takePayment_loop p1 p2 n (k + 1) (w_X1_payOn b k x3) (x3 - (v_X1_payOn b k x3)) (x4 + (1 : Int32)) from (if_neg c4).trans ((if_pos c5).trans rfl)) ?_
              exact ih_LP_loop (k + 1) (by omega) _ _ _ _ _ hP hS ls (lv_sub hl [0, 4, 5, 1, 2, 6, 7, 8] rfl)
      refine q_eqI (show v_X1_takePayment b p1 p2 = v_X1_takePayment_loop p1 p2 40 0 b p2 (0 : Int32) from (if_neg c1).trans ((if_neg c2).trans rfl)) (show w_X1_takePayment b p1 p2 = w_X1_takePayment_loop p1 p2 40 0 b p2 (0 : Int32) from (if_neg c1).trans ((if_neg c2).trans rfl)) ?_
      exact LP_loop 40 0 (by omega) _ _ _ _ _ hP hS ls (lv_sub hl [0, 1, 2, 3, 4, 5, 6, 7] rfl)
    · skip
      refine lv_bipush (v := -2) hx hb dX1_takePayment_16 (by decide) ?_
      exact e_int S hr hlk rfl hK hS (gP_eq (show w_X1_takePayment b p1 p2 = b from (if_neg c1).trans ((if_pos c2).trans rfl)) hP) (show v_X1_takePayment b p1 p2 = (-2 : Int32) from (if_neg c1).trans ((if_pos c2).trans rfl)).symm dX1_takePayment_18
  · skip
    refine lv_iconst (v := -1) hx hb dX1_takePayment_7 (by decide) ?_
    exact e_int S hr hlk rfl hK hS (gP_eq (show w_X1_takePayment b p1 p2 = b from (if_pos c1).trans rfl) hP) (show v_X1_takePayment b p1 p2 = (-1 : Int32) from (if_pos c1).trans rfl).symm dX1_takePayment_8

def v_X1_takePaymentFor (b : Nat → Nat → Int32) (p1 : Int32) (p2 : Int32) : Int32 := oel (v_X1_billAt b p1) ((-1 : Int32)) (fun jo1 => if v_X5_isAmount p2 = 0 then (-2 : Int32) else if b (jo1 + 7) 0 = (1 : Int32) then (-4 : Int32) else if v_X1_addCredit (w_X1_payOn b jo1 p2) ((w_X1_payOn b jo1 p2) (jo1 + 7) 1) (p2 - (v_X1_payOn b jo1 p2)) = 0 then (-3 : Int32) else v_X0_owed (w_X1_addCredit (w_X1_payOn b jo1 p2) ((w_X1_payOn b jo1 p2) (jo1 + 7) 1) (p2 - (v_X1_payOn b jo1 p2))) jo1)
def w_X1_takePaymentFor (b : Nat → Nat → Int32) (p1 : Int32) (p2 : Int32) : Nat → Nat → Int32 := oel (v_X1_billAt b p1) (b) (fun jo1 => if v_X5_isAmount p2 = 0 then b else if b (jo1 + 7) 0 = (1 : Int32) then b else if v_X1_addCredit (w_X1_payOn b jo1 p2) ((w_X1_payOn b jo1 p2) (jo1 + 7) 1) (p2 - (v_X1_payOn b jo1 p2)) = 0 then (w_X1_addCredit (w_X1_payOn b jo1 p2) ((w_X1_payOn b jo1 p2) (jo1 + 7) 1) (p2 - (v_X1_payOn b jo1 p2))) else w_X1_addCredit (w_X1_payOn b jo1 p2) ((w_X1_payOn b jo1 p2) (jo1 + 7) 1) (p2 - (v_X1_payOn b jo1 p2)))
theorem q_X1_takePaymentFor : yX1_takePaymentFor.cls ≠ "java/lang/invoke/MethodHandle" ∧ yX1_takePaymentFor.cls ≠ "java/lang/invoke/VarHandle" ∧ (parseMethodDescriptor yX1_takePaymentFor.desc).map (fun d => d.parameters.length) = some 2 := ⟨by decide, by decide, by decide +kernel⟩
set_option maxHeartbeats 4000000 in
set_option maxRecDepth 100000 in
theorem c_X1_takePaymentFor (l : Launch) (G : kG) (a : Nat → Nat) (hI : gI 47 a) (b : Nat → Nat → Int32) (p1 : Int32) (p2 : Int32) : Met l yX1_takePaymentFor (Cond.code yX1_takePaymentFor cX1_takePaymentFor 5 (some .int) :: BIG) (rmK 3) (pcG G (bP G a b) [.ref (a 0), .int p1, .int p2]) (qcI G (gA 47 a) (bP G a (w_X1_takePaymentFor b p1 p2)) (v_X1_takePaymentFor b p1 p2)) 0 0 (gA 47 a) := by
  refine m_start (by decide) (Nat.le_of_ble_eq_true rfl) ?_
  intro p e s m args below meth c S hr hlk hnm hP hK ls hl
  have hx := S.1
  have hb := S.2.1
  have hown := S.2.2.2.1
  have hS : va_S (gA 47 a) s.heap s.heap [] := va_S.rf
  have hl : lv_has ls 5 [(0, .ref (a 0)), (1, .int p1), (2, .int p2)] := hl
  refine lv_aload_n hx hb dX1_takePaymentFor_0 rfl (lv_at hl 0 rfl) ?_
  refine lv_iload_n hx hb dX1_takePaymentFor_1 rfl (lv_at hl 1 rfl) ?_
  refine r_callQ S hK hP (c_X1_billAt l G a hI b _ ) (r_cw S k_312 k_309 k_310 k_311 k_14 q_X1_billAt ⟨Nat.le_of_ble_eq_true rfl, Nat.le_of_ble_eq_true rfl⟩ rfl rfl) (g_recv hK hP (i := 0) (by omega) bC0 rfl) rfl hl.1 rfl (Nat.le_of_ble_eq_true rfl) dX1_takePaymentFor_2 ⟨Nat.zero_le _, Nat.zero_le _⟩ hS (fun _ h => h) (fun H locs hP _ _ hS => ?_)
  have hP : bP G a b H := hP
  refine r_opt (fun o1 => ?_) (fun jo1 o1 => ?_)
  · skip
    refine lv_astore_nN (lv' := [(3, .null), (0, .ref (a 0)), (1, .int p1), (2, .int p2)]) hx hb dX1_takePaymentFor_5 rfl hl (by decide) rfl (fun ls hl => ?_)
    refine lv_aload_nN hx hb dX1_takePaymentFor_6 rfl (lv_at hl 0 rfl) ?_
    refine lv_ifnonnullN hx hb dX1_takePaymentFor_7 ?_
    refine lv_iconst (v := -1) hx hb dX1_takePaymentFor_10 (by decide) ?_
    exact e_int S hr hlk rfl hK hS (gP_eq (show w_X1_takePaymentFor b p1 p2 = b from (oel_n o1).trans rfl) hP) (show v_X1_takePaymentFor b p1 p2 = (-1 : Int32) from (oel_n o1).trans rfl).symm dX1_takePaymentFor_11
  · have hjo1 : jo1 < 40 := billAt_lt o1
    refine lv_astore_n (lv' := [(3, .ref (a (jo1 + 7))), (0, .ref (a 0)), (1, .int p1), (2, .int p2)]) hx hb dX1_takePaymentFor_5 rfl hl (by decide) rfl (fun ls hl => ?_)
    refine lv_aload_n hx hb dX1_takePaymentFor_6 rfl (lv_at hl 0 rfl) ?_
    refine lv_ifnonnull (tgt := 12) hx hb dX1_takePaymentFor_7 (by decide) ?_
    refine lv_iload_n hx hb dX1_takePaymentFor_12 rfl (lv_at hl 3 rfl) ?_
    refine r_callSN S hK hP (c_X5_isAmount l G (bP G a b) (gA 47 a) _ ) k_256 hK.2.2.2.2.2.2 k_255 k_2 q_X5_isAmount ⟨Nat.le_of_ble_eq_true rfl, Nat.le_of_ble_eq_true rfl⟩ rfl rfl rfl hl.1 rfl (Nat.le_of_ble_eq_true rfl) dX1_takePaymentFor_13 ⟨Nat.zero_le _, Nat.zero_le _⟩ hS (fun _ h => h) (fun H locs hP _ _ hS => ?_)
    have hP : bP G a b H := hP
    refine lv_if_ne (tgt := 22) hx hb dX1_takePaymentFor_16 (by decide) (fun c2 => ?_) (fun c2 => ?_)
    · skip
      refine lv_aload_n hx hb dX1_takePaymentFor_22 rfl (lv_at hl 0 rfl) ?_
      refine g_get S hK hP (i := jo1 + 7) (by omega) bC7 rfl inlX0 0 (by decide) k_254 (v := .int (b (jo1 + 7) 0)) rfl dX1_takePaymentFor_23 ?_
      refine lv_iconst (v := 1) hx hb dX1_takePaymentFor_26 (by decide) ?_
      refine lv_icmp_ne (tgt := 33) hx hb dX1_takePaymentFor_27 (by decide) (fun c3 => ?_) (fun c3 => ?_)
      · skip
        refine lv_iload_n hx hb dX1_takePaymentFor_33 rfl (lv_at hl 3 rfl) ?_
        refine lv_aload_n hx hb dX1_takePaymentFor_34 rfl (lv_at hl 1 rfl) ?_
        refine lv_aload_n hx hb dX1_takePaymentFor_35 rfl (lv_at hl 0 rfl) ?_
        refine lv_iload_n hx hb dX1_takePaymentFor_36 rfl (lv_at hl 3 rfl) ?_
        refine r_callI S hK hP (c_X1_payOn l G a hI b jo1 (by omega) _ ) (r_cw S k_141 k_138 k_139 k_140 k_14 q_X1_payOn ⟨Nat.le_of_ble_eq_true rfl, Nat.le_of_ble_eq_true rfl⟩ rfl rfl) (g_recv hK hP (i := 0) (by omega) bC0 rfl) rfl hl.1 rfl (Nat.le_of_ble_eq_true rfl) dX1_takePaymentFor_37 ⟨Nat.zero_le _, Nat.zero_le _⟩ hS (fun _ h => h) (fun H locs hP _ _ hS => ?_)
        have hP : bP G a (w_X1_payOn b jo1 p2) H := hP
        refine lv_isub hx hb dX1_takePaymentFor_40 ?_
        refine lv_istore (lv' := [(4, .int (p2 - (v_X1_payOn b jo1 p2))), (3, .ref (a (jo1 + 7))), (0, .ref (a 0)), (1, .int p1), (2, .int p2)]) hx hb dX1_takePaymentFor_41 hl (by decide) rfl (fun ls hl => ?_)
        refine lv_aload_n hx hb dX1_takePaymentFor_43 rfl (lv_at hl 2 rfl) ?_
        refine lv_aload_n hx hb dX1_takePaymentFor_44 rfl (lv_at hl 1 rfl) ?_
        refine g_get S hK hP (i := jo1 + 7) (by omega) bC7 rfl inlX0 1 (by decide) k_308 (v := .int ((w_X1_payOn b jo1 p2) (jo1 + 7) 1)) rfl dX1_takePaymentFor_45 ?_
        refine lv_iload hx hb dX1_takePaymentFor_48 (lv_at hl 0 rfl) ?_
        refine r_callI S hK hP (c_X1_addCredit l G a hI (w_X1_payOn b jo1 p2) _ _ ) (r_cw S k_261 k_258 k_259 k_260 k_14 q_X1_addCredit ⟨Nat.le_of_ble_eq_true rfl, Nat.le_of_ble_eq_true rfl⟩ rfl rfl) (g_recv hK hP (i := 0) (by omega) bC0 rfl) rfl hl.1 rfl (Nat.le_of_ble_eq_true rfl) dX1_takePaymentFor_50 ⟨Nat.zero_le _, Nat.zero_le _⟩ hS (fun _ h => h) (fun H locs hP _ _ hS => ?_)
        have hP : bP G a (w_X1_addCredit (w_X1_payOn b jo1 p2) ((w_X1_payOn b jo1 p2) (jo1 + 7) 1) (p2 - (v_X1_payOn b jo1 p2))) H := hP
        refine lv_if_eq (tgt := 63) hx hb dX1_takePaymentFor_53 (by decide) (fun c4 => ?_) (fun c4 => ?_)
        · skip
          refine lv_bipush (v := -3) hx hb dX1_takePaymentFor_63 (by decide) ?_
          exact e_int S hr hlk rfl hK hS (gP_eq (show w_X1_takePaymentFor b p1 p2 = w_X1_addCredit (w_X1_payOn b jo1 p2) ((w_X1_payOn b jo1 p2) (jo1 + 7) 1) (p2 - (v_X1_payOn b jo1 p2)) from (oel_s o1).trans ((if_neg c2).trans ((if_neg c3).trans ((if_pos c4).trans rfl)))) hP) (show v_X1_takePaymentFor b p1 p2 = (-3 : Int32) from (oel_s o1).trans ((if_neg c2).trans ((if_neg c3).trans ((if_pos c4).trans rfl)))).symm dX1_takePaymentFor_65
        · skip
          refine lv_aload_n hx hb dX1_takePaymentFor_56 rfl (lv_at hl 1 rfl) ?_
          refine r_callI S hK hP (c_X0_owed l G a hI (w_X1_addCredit (w_X1_payOn b jo1 p2) ((w_X1_payOn b jo1 p2) (jo1 + 7) 1) (p2 - (v_X1_payOn b jo1 p2))) jo1 (by omega) ) (r_cw S k_164 k_161 k_162 k_163 k_41 q_X0_owed ⟨Nat.le_of_ble_eq_true rfl, Nat.le_of_ble_eq_true rfl⟩ rfl rfl) (g_recv hK hP (i := jo1 + 7) (by omega) bC7 rfl) rfl hl.1 rfl (Nat.le_of_ble_eq_true rfl) dX1_takePaymentFor_57 ⟨Nat.zero_le _, Nat.zero_le _⟩ hS (fun _ h => h) (fun H locs hP _ _ hS => ?_)
          have hP : bP G a (w_X1_addCredit (w_X1_payOn b jo1 p2) ((w_X1_payOn b jo1 p2) (jo1 + 7) 1) (p2 - (v_X1_payOn b jo1 p2))) H := hP
          refine lv_goto (tgt := 65) hx hb dX1_takePaymentFor_60 (by decide) ?_
          exact e_int S hr hlk rfl hK hS (gP_eq (show w_X1_takePaymentFor b p1 p2 = w_X1_addCredit (w_X1_payOn b jo1 p2) ((w_X1_payOn b jo1 p2) (jo1 + 7) 1) (p2 - (v_X1_payOn b jo1 p2)) from (oel_s o1).trans ((if_neg c2).trans ((if_neg c3).trans ((if_neg c4).trans rfl)))) hP) (show v_X1_takePaymentFor b p1 p2 = v_X0_owed (w_X1_addCredit (w_X1_payOn b jo1 p2) ((w_X1_payOn b jo1 p2) (jo1 + 7) 1) (p2 - (v_X1_payOn b jo1 p2))) jo1 from (oel_s o1).trans ((if_neg c2).trans ((if_neg c3).trans ((if_neg c4).trans rfl)))).symm dX1_takePaymentFor_65
      · skip
        refine lv_bipush (v := -4) hx hb dX1_takePaymentFor_30 (by decide) ?_
        exact e_int S hr hlk rfl hK hS (gP_eq (show w_X1_takePaymentFor b p1 p2 = b from (oel_s o1).trans ((if_neg c2).trans ((if_pos c3).trans rfl))) hP) (show v_X1_takePaymentFor b p1 p2 = (-4 : Int32) from (oel_s o1).trans ((if_neg c2).trans ((if_pos c3).trans rfl))).symm dX1_takePaymentFor_32
    · skip
      refine lv_bipush (v := -2) hx hb dX1_takePaymentFor_19 (by decide) ?_
      exact e_int S hr hlk rfl hK hS (gP_eq (show w_X1_takePaymentFor b p1 p2 = b from (oel_s o1).trans ((if_pos c2).trans rfl)) hP) (show v_X1_takePaymentFor b p1 p2 = (-2 : Int32) from (oel_s o1).trans ((if_pos c2).trans rfl)).symm dX1_takePaymentFor_21

def v_X1_isOfAnother (b : Nat → Nat → Int32) (p1 : Int32) (p2 : Int32) : Int32 := oel (v_X1_billAt b p1) ((0 : Int32)) (fun jo1 => if b (jo1 + 7) 1 = p2 then (0 : Int32) else (1 : Int32))
theorem q_X1_isOfAnother : yX1_isOfAnother.cls ≠ "java/lang/invoke/MethodHandle" ∧ yX1_isOfAnother.cls ≠ "java/lang/invoke/VarHandle" ∧ (parseMethodDescriptor yX1_isOfAnother.desc).map (fun d => d.parameters.length) = some 2 := ⟨by decide, by decide, by decide +kernel⟩
theorem z_X1_isOfAnother (b : Nat → Nat → Int32) (p1 : Int32) (p2 : Int32) : narrow .boolean (.int (v_X1_isOfAnother b p1 p2)) = .int (v_X1_isOfAnother b p1 p2) := by
  unfold v_X1_isOfAnother
  exact z_oel z_0 (fun _ => z_ite z_0 z_1)
set_option maxHeartbeats 4000000 in
set_option maxRecDepth 100000 in
theorem c_X1_isOfAnother (l : Launch) (G : kG) (a : Nat → Nat) (hI : gI 47 a) (b : Nat → Nat → Int32) (p1 : Int32) (p2 : Int32) : Met l yX1_isOfAnother (Cond.code yX1_isOfAnother cX1_isOfAnother 4 (some .boolean) :: BIG) (rmK 1) (pcG G (bP G a b) [.ref (a 0), .int p1, .int p2]) (qcI G (gA 47 a) (bP G a b) (v_X1_isOfAnother b p1 p2)) 0 0 (gA 47 a) := by
  refine m_start (by decide) (Nat.le_of_ble_eq_true rfl) ?_
  intro p e s m args below meth c S hr hlk hnm hP hK ls hl
  have hx := S.1
  have hb := S.2.1
  have hown := S.2.2.2.1
  have hS : va_S (gA 47 a) s.heap s.heap [] := va_S.rf
  have hl : lv_has ls 4 [(0, .ref (a 0)), (1, .int p1), (2, .int p2)] := hl
  refine lv_aload_n hx hb dX1_isOfAnother_0 rfl (lv_at hl 0 rfl) ?_
  refine lv_iload_n hx hb dX1_isOfAnother_1 rfl (lv_at hl 1 rfl) ?_
  refine r_callQ S hK hP (c_X1_billAt l G a hI b _ ) (r_cw S k_312 k_309 k_310 k_311 k_14 q_X1_billAt ⟨Nat.le_of_ble_eq_true rfl, Nat.le_of_ble_eq_true rfl⟩ rfl rfl) (g_recv hK hP (i := 0) (by omega) bC0 rfl) rfl hl.1 rfl (Nat.le_of_ble_eq_true rfl) dX1_isOfAnother_2 ⟨Nat.zero_le _, Nat.zero_le _⟩ hS (fun _ h => h) (fun H locs hP _ _ hS => ?_)
  have hP : bP G a b H := hP
  refine r_opt (fun o1 => ?_) (fun jo1 o1 => ?_)
  · skip
    refine lv_astore_nN (lv' := [(3, .null), (0, .ref (a 0)), (1, .int p1), (2, .int p2)]) hx hb dX1_isOfAnother_5 rfl hl (by decide) rfl (fun ls hl => ?_)
    refine lv_aload_nN hx hb dX1_isOfAnother_6 rfl (lv_at hl 0 rfl) ?_
    refine lv_ifnullN (tgt := 22) hx hb dX1_isOfAnother_7 (by decide) ?_
    refine lv_iconst (v := 0) hx hb dX1_isOfAnother_22 (by decide) ?_
    exact e_int S hr hlk rfl hK hS hP (show v_X1_isOfAnother b p1 p2 = (0 : Int32) from (oel_n o1).trans rfl).symm dX1_isOfAnother_23
  · have hjo1 : jo1 < 40 := billAt_lt o1
    refine lv_astore_n (lv' := [(3, .ref (a (jo1 + 7))), (0, .ref (a 0)), (1, .int p1), (2, .int p2)]) hx hb dX1_isOfAnother_5 rfl hl (by decide) rfl (fun ls hl => ?_)
    refine lv_aload_n hx hb dX1_isOfAnother_6 rfl (lv_at hl 0 rfl) ?_
    refine lv_ifnull hx hb dX1_isOfAnother_7 ?_
    refine lv_aload_n hx hb dX1_isOfAnother_10 rfl (lv_at hl 0 rfl) ?_
    refine g_get S hK hP (i := jo1 + 7) (by omega) bC7 rfl inlX0 1 (by decide) k_308 (v := .int (b (jo1 + 7) 1)) rfl dX1_isOfAnother_11 ?_
    refine lv_iload_n hx hb dX1_isOfAnother_14 rfl (lv_at hl 3 rfl) ?_
    refine lv_icmp_eq (tgt := 22) hx hb dX1_isOfAnother_15 (by decide) (fun c2 => ?_) (fun c2 => ?_)
    · skip
      refine lv_iconst (v := 0) hx hb dX1_isOfAnother_22 (by decide) ?_
      exact e_int S hr hlk rfl hK hS hP (show v_X1_isOfAnother b p1 p2 = (0 : Int32) from (oel_s o1).trans ((if_pos c2).trans rfl)).symm dX1_isOfAnother_23
    · skip
      refine lv_iconst (v := 1) hx hb dX1_isOfAnother_18 (by decide) ?_
      refine lv_goto (tgt := 23) hx hb dX1_isOfAnother_19 (by decide) ?_
      exact e_int S hr hlk rfl hK hS hP (show v_X1_isOfAnother b p1 p2 = (1 : Int32) from (oel_s o1).trans ((if_neg c2).trans rfl)).symm dX1_isOfAnother_23

def v_X1_returnCredit (b : Nat → Nat → Int32) (p1 : Int32) : Int32 := if v_X5_isCustomer p1 = 0 then (-1 : Int32) else if v_X1_creditOf b p1 = 0 then (-5 : Int32) else v_X1_creditOf b p1
def w_X1_returnCredit (b : Nat → Nat → Int32) (p1 : Int32) : Nat → Nat → Int32 := if v_X5_isCustomer p1 = 0 then b else if v_X1_creditOf b p1 = 0 then b else up (w_X1_setCredit b p1 (0 : Int32)) 0 7 (((w_X1_setCredit b p1 (0 : Int32)) 0 7) + (v_X1_creditOf b p1))
theorem q_X1_returnCredit : yX1_returnCredit.cls ≠ "java/lang/invoke/MethodHandle" ∧ yX1_returnCredit.cls ≠ "java/lang/invoke/VarHandle" ∧ (parseMethodDescriptor yX1_returnCredit.desc).map (fun d => d.parameters.length) = some 1 := ⟨by decide, by decide, by decide +kernel⟩
set_option maxHeartbeats 4000000 in
set_option maxRecDepth 100000 in
theorem c_X1_returnCredit (l : Launch) (G : kG) (a : Nat → Nat) (hI : gI 47 a) (b : Nat → Nat → Int32) (p1 : Int32) : Met l yX1_returnCredit (Cond.code yX1_returnCredit cX1_returnCredit 3 (some .int) :: BIG) (rmK 2) (pcG G (bP G a b) [.ref (a 0), .int p1]) (qcI G (gA 47 a) (bP G a (w_X1_returnCredit b p1)) (v_X1_returnCredit b p1)) 0 0 (gA 47 a) := by
  refine m_start (by decide) (Nat.le_of_ble_eq_true rfl) ?_
  intro p e s m args below meth c S hr hlk hnm hP hK ls hl
  have hx := S.1
  have hb := S.2.1
  have hown := S.2.2.2.1
  have hS : va_S (gA 47 a) s.heap s.heap [] := va_S.rf
  have hl : lv_has ls 3 [(0, .ref (a 0)), (1, .int p1)] := hl
  refine lv_iload_n hx hb dX1_returnCredit_0 rfl (lv_at hl 1 rfl) ?_
  refine r_callSN S hK hP (c_X5_isCustomer l G (bP G a b) (gA 47 a) _ ) k_121 hK.2.2.2.2.1 k_120 k_2 q_X5_isCustomer ⟨Nat.le_of_ble_eq_true rfl, Nat.le_of_ble_eq_true rfl⟩ rfl rfl rfl hl.1 rfl (Nat.le_of_ble_eq_true rfl) dX1_returnCredit_1 ⟨Nat.zero_le _, Nat.zero_le _⟩ hS (fun _ h => h) (fun H locs hP _ _ hS => ?_)
  have hP : bP G a b H := hP
  refine lv_if_ne (tgt := 9) hx hb dX1_returnCredit_4 (by decide) (fun c1 => ?_) (fun c1 => ?_)
  · skip
    refine lv_aload_n hx hb dX1_returnCredit_9 rfl (lv_at hl 0 rfl) ?_
    refine lv_iload_n hx hb dX1_returnCredit_10 rfl (lv_at hl 1 rfl) ?_
    refine r_callI S hK hP (c_X1_creditOf l G a hI b _ ) (r_cw S k_137 k_134 k_135 k_136 k_14 q_X1_creditOf ⟨Nat.le_of_ble_eq_true rfl, Nat.le_of_ble_eq_true rfl⟩ rfl rfl) (g_recv hK hP (i := 0) (by omega) bC0 rfl) rfl hl.1 rfl (Nat.le_of_ble_eq_true rfl) dX1_returnCredit_11 ⟨Nat.zero_le _, Nat.zero_le _⟩ hS (fun _ h => h) (fun H locs hP _ _ hS => ?_)
    have hP : bP G a b H := hP
    refine lv_istore_n (lv' := [(2, .int (v_X1_creditOf b p1)), (0, .ref (a 0)), (1, .int p1)]) hx hb dX1_returnCredit_14 rfl hl (by decide) rfl (fun ls hl => ?_)
    refine lv_iload_n hx hb dX1_returnCredit_15 rfl (lv_at hl 0 rfl) ?_
    refine lv_if_ne (tgt := 22) hx hb dX1_returnCredit_16 (by decide) (fun c2 => ?_) (fun c2 => ?_)
    · skip
      refine lv_aload_n hx hb dX1_returnCredit_22 rfl (lv_at hl 1 rfl) ?_
      refine lv_iload_n hx hb dX1_returnCredit_23 rfl (lv_at hl 2 rfl) ?_
      refine lv_iconst (v := 0) hx hb dX1_returnCredit_24 (by decide) ?_
      refine r_callV S hK hP (c_X1_setCredit l G a hI b _ _ ) (r_cw S k_179 k_176 k_177 k_178 k_14 q_X1_setCredit ⟨Nat.le_of_ble_eq_true rfl, Nat.le_of_ble_eq_true rfl⟩ rfl rfl) (g_recv hK hP (i := 0) (by omega) bC0 rfl) rfl hl.1 rfl (Nat.le_of_ble_eq_true rfl) dX1_returnCredit_25 ⟨Nat.zero_le _, Nat.zero_le _⟩ hS (fun _ h => h) (fun H locs hP _ _ hS => ?_)
      have hP : bP G a (w_X1_setCredit b p1 (0 : Int32)) H := hP
      refine lv_aload_n hx hb dX1_returnCredit_28 rfl (lv_at hl 1 rfl) ?_
      refine lv_dup hx hb dX1_returnCredit_29 rfl ?_
      refine g_get S hK hP (i := 0) (by omega) bC0 rfl inlX1 7 (by decide) k_94 (v := .int ((w_X1_setCredit b p1 (0 : Int32)) 0 7)) rfl dX1_returnCredit_30 ?_
      refine lv_iload_n hx hb dX1_returnCredit_33 rfl (lv_at hl 0 rfl) ?_
      refine lv_iadd hx hb dX1_returnCredit_34 ?_
      refine g_put S hK hP hI hS (i := 0) (by omega) bC0 rfl inlX1 tyX1 tyX1_ok nmX1 bF_n 7 (by decide) k_94 rfl pI rfl rfl (fun _ => rfl) dX1_returnCredit_35 (fun H locs hP hS => ?_)
      have hP : bP G a (up (w_X1_setCredit b p1 (0 : Int32)) 0 7 (((w_X1_setCredit b p1 (0 : Int32)) 0 7) + (v_X1_creditOf b p1))) H := hP
      refine lv_iload_n hx hb dX1_returnCredit_38 rfl (lv_at hl 0 rfl) ?_
      exact e_int S hr hlk rfl hK hS (gP_eq (show w_X1_returnCredit b p1 = up (w_X1_setCredit b p1 (0 : Int32)) 0 7 (((w_X1_setCredit b p1 (0 : Int32)) 0 7) + (v_X1_creditOf b p1)) from (if_neg c1).trans ((if_neg c2).trans rfl)) hP) (show v_X1_returnCredit b p1 = v_X1_creditOf b p1 from (if_neg c1).trans ((if_neg c2).trans rfl)).symm dX1_returnCredit_39
    · skip
      refine lv_bipush (v := -5) hx hb dX1_returnCredit_19 (by decide) ?_
      exact e_int S hr hlk rfl hK hS (gP_eq (show w_X1_returnCredit b p1 = b from (if_neg c1).trans ((if_pos c2).trans rfl)) hP) (show v_X1_returnCredit b p1 = (-5 : Int32) from (if_neg c1).trans ((if_pos c2).trans rfl)).symm dX1_returnCredit_21
  · skip
    refine lv_iconst (v := -1) hx hb dX1_returnCredit_7 (by decide) ?_
    exact e_int S hr hlk rfl hK hS (gP_eq (show w_X1_returnCredit b p1 = b from (if_pos c1).trans rfl) hP) (show v_X1_returnCredit b p1 = (-1 : Int32) from (if_pos c1).trans rfl).symm dX1_returnCredit_8

def v_X1_goOn (b : Nat → Nat → Int32) (p1 : Int32) : Int32 := if p1 < (1 : Int32) then (-2 : Int32) else if p1 ≤ (99 : Int32) then (if (b 0 5) + p1 ≤ (9999 : Int32) then (v_X1_countOverdue (up b 0 5 ((b 0 5) + p1))) else (-3 : Int32)) else (-2 : Int32)
def w_X1_goOn (b : Nat → Nat → Int32) (p1 : Int32) : Nat → Nat → Int32 := if p1 < (1 : Int32) then b else if p1 ≤ (99 : Int32) then (if (b 0 5) + p1 ≤ (9999 : Int32) then (up b 0 5 ((b 0 5) + p1)) else b) else b
theorem q_X1_goOn : yX1_goOn.cls ≠ "java/lang/invoke/MethodHandle" ∧ yX1_goOn.cls ≠ "java/lang/invoke/VarHandle" ∧ (parseMethodDescriptor yX1_goOn.desc).map (fun d => d.parameters.length) = some 1 := ⟨by decide, by decide, by decide +kernel⟩
set_option maxHeartbeats 4000000 in
set_option maxRecDepth 100000 in
theorem c_X1_goOn (l : Launch) (G : kG) (a : Nat → Nat) (hI : gI 47 a) (b : Nat → Nat → Int32) (p1 : Int32) : Met l yX1_goOn (Cond.code yX1_goOn cX1_goOn 2 (some .int) :: BIG) (rmK 2) (pcG G (bP G a b) [.ref (a 0), .int p1]) (qcI G (gA 47 a) (bP G a (w_X1_goOn b p1)) (v_X1_goOn b p1)) 0 0 (gA 47 a) := by
  refine m_start (by decide) (Nat.le_of_ble_eq_true rfl) ?_
  intro p e s m args below meth c S hr hlk hnm hP hK ls hl
  have hx := S.1
  have hb := S.2.1
  have hown := S.2.2.2.1
  have hS : va_S (gA 47 a) s.heap s.heap [] := va_S.rf
  have hl : lv_has ls 2 [(0, .ref (a 0)), (1, .int p1)] := hl
  refine lv_iload_n hx hb dX1_goOn_0 rfl (lv_at hl 1 rfl) ?_
  refine lv_iconst (v := 1) hx hb dX1_goOn_1 (by decide) ?_
  refine lv_icmp_lt (tgt := 11) hx hb dX1_goOn_2 (by decide) (fun c1 => ?_) (fun c1 => ?_)
  · skip
    refine lv_bipush (v := -2) hx hb dX1_goOn_11 (by decide) ?_
    exact e_int S hr hlk rfl hK hS (gP_eq (show w_X1_goOn b p1 = b from (if_pos c1).trans rfl) hP) (show v_X1_goOn b p1 = (-2 : Int32) from (if_pos c1).trans rfl).symm dX1_goOn_13
  · skip
    refine lv_iload_n hx hb dX1_goOn_5 rfl (lv_at hl 1 rfl) ?_
    refine lv_bipush (v := 99) hx hb dX1_goOn_6 (by decide) ?_
    refine lv_icmp_le (tgt := 14) hx hb dX1_goOn_8 (by decide) (fun c2 => ?_) (fun c2 => ?_)
    · skip
      refine lv_aload_n hx hb dX1_goOn_14 rfl (lv_at hl 0 rfl) ?_
      refine g_get S hK hP (i := 0) (by omega) bC0 rfl inlX1 5 (by decide) k_92 (v := .int (b 0 5)) rfl dX1_goOn_15 ?_
      refine lv_iload_n hx hb dX1_goOn_18 rfl (lv_at hl 1 rfl) ?_
      refine lv_iadd hx hb dX1_goOn_19 ?_
      refine lv_sipush (v := 9999) hx hb dX1_goOn_20 (by decide) ?_
      refine lv_icmp_le (tgt := 29) hx hb dX1_goOn_23 (by decide) (fun c3 => ?_) (fun c3 => ?_)
      · skip
        refine lv_aload_n hx hb dX1_goOn_29 rfl (lv_at hl 0 rfl) ?_
        refine lv_dup hx hb dX1_goOn_30 rfl ?_
        refine g_get S hK hP (i := 0) (by omega) bC0 rfl inlX1 5 (by decide) k_92 (v := .int (b 0 5)) rfl dX1_goOn_31 ?_
        refine lv_iload_n hx hb dX1_goOn_34 rfl (lv_at hl 1 rfl) ?_
        refine lv_iadd hx hb dX1_goOn_35 ?_
        refine g_put S hK hP hI hS (i := 0) (by omega) bC0 rfl inlX1 tyX1 tyX1_ok nmX1 bF_n 5 (by decide) k_92 rfl pI rfl rfl (fun _ => rfl) dX1_goOn_36 (fun H locs hP hS => ?_)
        have hP : bP G a (up b 0 5 ((b 0 5) + p1)) H := hP
        refine lv_aload_n hx hb dX1_goOn_39 rfl (lv_at hl 0 rfl) ?_
        refine r_callI S hK hP (c_X1_countOverdue l G a hI (up b 0 5 ((b 0 5) + p1)) ) (r_cw S k_352 k_349 k_350 k_351 k_14 q_X1_countOverdue ⟨Nat.le_of_ble_eq_true rfl, Nat.le_of_ble_eq_true rfl⟩ rfl rfl) (g_recv hK hP (i := 0) (by omega) bC0 rfl) rfl hl.1 rfl (Nat.le_of_ble_eq_true rfl) dX1_goOn_40 ⟨Nat.zero_le _, Nat.zero_le _⟩ hS (fun _ h => h) (fun H locs hP _ _ hS => ?_)
        have hP : bP G a (up b 0 5 ((b 0 5) + p1)) H := hP
        exact e_int S hr hlk rfl hK hS (gP_eq (show w_X1_goOn b p1 = up b 0 5 ((b 0 5) + p1) from (if_neg c1).trans ((if_pos c2).trans ((if_pos c3).trans rfl))) hP) (show v_X1_goOn b p1 = v_X1_countOverdue (up b 0 5 ((b 0 5) + p1)) from (if_neg c1).trans ((if_pos c2).trans ((if_pos c3).trans rfl))).symm dX1_goOn_43
      · skip
        refine lv_bipush (v := -3) hx hb dX1_goOn_26 (by decide) ?_
        exact e_int S hr hlk rfl hK hS (gP_eq (show w_X1_goOn b p1 = b from (if_neg c1).trans ((if_pos c2).trans ((if_neg c3).trans rfl))) hP) (show v_X1_goOn b p1 = (-3 : Int32) from (if_neg c1).trans ((if_pos c2).trans ((if_neg c3).trans rfl))).symm dX1_goOn_28
    · skip
      refine lv_bipush (v := -2) hx hb dX1_goOn_11 (by decide) ?_
      exact e_int S hr hlk rfl hK hS (gP_eq (show w_X1_goOn b p1 = b from (if_neg c1).trans ((if_neg c2).trans rfl)) hP) (show v_X1_goOn b p1 = (-2 : Int32) from (if_neg c1).trans ((if_neg c2).trans rfl)).symm dX1_goOn_13

def v_X1_sendReminders_loop : Nat → Nat → (Nat → Nat → Int32) → Int32 → Int32
  | 0, k, b, x1 => if x1 ≤ 0 then (-5 : Int32) else x1
  | n + 1, k, b, x1 => if v_X0_whyNoReminder b k (b 0 5) (v_X3_reminderDays b) = 0 then (v_X1_sendReminders_loop n (k + 1) (w_X0_addReminder b k (b 0 5) (v_X3_reminderFee b)) (x1 + 1)) else v_X1_sendReminders_loop n (k + 1) b x1
def w_X1_sendReminders_loop : Nat → Nat → (Nat → Nat → Int32) → Int32 → (Nat → Nat → Int32)
  | 0, k, b, x1 => if x1 ≤ 0 then b else b
  | n + 1, k, b, x1 => if v_X0_whyNoReminder b k (b 0 5) (v_X3_reminderDays b) = 0 then (w_X1_sendReminders_loop n (k + 1) (w_X0_addReminder b k (b 0 5) (v_X3_reminderFee b)) (x1 + 1)) else w_X1_sendReminders_loop n (k + 1) b x1
def v_X1_sendReminders (b : Nat → Nat → Int32) : Int32 := v_X1_sendReminders_loop 40 0 b (0 : Int32)
def w_X1_sendReminders (b : Nat → Nat → Int32) : Nat → Nat → Int32 := w_X1_sendReminders_loop 40 0 b (0 : Int32)
theorem q_X1_sendReminders : yX1_sendReminders.cls ≠ "java/lang/invoke/MethodHandle" ∧ yX1_sendReminders.cls ≠ "java/lang/invoke/VarHandle" ∧ (parseMethodDescriptor yX1_sendReminders.desc).map (fun d => d.parameters.length) = some 0 := ⟨by decide, by decide, by decide +kernel⟩
set_option maxHeartbeats 4000000 in
set_option maxRecDepth 100000 in
theorem c_X1_sendReminders (l : Launch) (G : kG) (a : Nat → Nat) (hI : gI 47 a) (b : Nat → Nat → Int32) : Met l yX1_sendReminders (Cond.code yX1_sendReminders cX1_sendReminders 6 (some .int) :: BIG) (rmK 3) (pcG G (bP G a b) [.ref (a 0)]) (qcI G (gA 47 a) (bP G a (w_X1_sendReminders b)) (v_X1_sendReminders b)) 0 0 (gA 47 a) := by
  refine m_start (by decide) (Nat.le_of_ble_eq_true rfl) ?_
  intro p e s m args below meth c S hr hlk hnm hP hK ls hl
  have hx := S.1
  have hb := S.2.1
  have hown := S.2.2.2.1
  have hS : va_S (gA 47 a) s.heap s.heap [] := va_S.rf
  have hl : lv_has ls 6 [(0, .ref (a 0))] := hl
  refine lv_iconst (v := 0) hx hb dX1_sendReminders_0 (by decide) ?_
  refine lv_istore_n (lv' := [(1, .int (0 : Int32)), (0, .ref (a 0))]) hx hb dX1_sendReminders_1 rfl hl (by decide) rfl (fun ls hl => ?_)
  refine lv_aload_n hx hb dX1_sendReminders_2 rfl (lv_at hl 1 rfl) ?_
  refine g_get S hK hP (i := 0) (by omega) bC0 rfl inlX1 0 (by decide) k_31 (v := .ref (a 1)) rfl dX1_sendReminders_3 ?_
  refine lv_astore_n (lv' := [(2, .ref (a 1)), (1, .int (0 : Int32)), (0, .ref (a 0))]) hx hb dX1_sendReminders_6 rfl hl (by decide) rfl (fun ls hl => ?_)
  refine lv_aload_n hx hb dX1_sendReminders_7 rfl (lv_at hl 0 rfl) ?_
  refine g_alen S hK hP (i := 1) (by omega) (bC1 _) 2 rfl (v := 40) rfl dX1_sendReminders_8 ?_
  refine lv_istore_n (lv' := [(3, .int (40 : Int32)), (2, .ref (a 1)), (1, .int (0 : Int32)), (0, .ref (a 0))]) hx hb dX1_sendReminders_9 rfl hl (by decide) rfl (fun ls hl => ?_)
  refine lv_iconst (v := 0) hx hb dX1_sendReminders_10 (by decide) ?_
  refine lv_istore (lv' := [(4, .int (0 : Int32)), (3, .int (40 : Int32)), (2, .ref (a 1)), (1, .int (0 : Int32)), (0, .ref (a 0))]) hx hb dX1_sendReminders_11 hl (by decide) rfl (fun ls hl => ?_)
  have LP_loop : ∀ (n : Nat) (k : Nat), k + n = 40 → ∀ (b : Nat → Nat → Int32) (x1 : Int32) (H : Heap) (locs : List Loc), bP G a b H → va_S (gA 47 a) s.heap H locs → ∀ ls : Array Slot, lv_has ls 6 [(4, .int (nI k)), (3, .int (40 : Int32)), (2, .ref (a 1)), (1, .int x1), (0, .ref (a 0))] → W p l e (rmK 3) s m args below meth c H locs 0 0 (MQ below (qcI G (gA 47 a) (bP G a (w_X1_sendReminders_loop n k b x1)) (v_X1_sendReminders_loop n k b x1)) args s 0 0 (gA 47 a)) (F0 m 13 ls []) := by
    intro n
    induction n with
    | zero =>
      intro k hk_LP_loop b x1 H locs hP hS ls hl
      refine lv_iload hx hb dX1_sendReminders_13 (lv_at hl 0 rfl) ?_
      refine lv_iload_n hx hb dX1_sendReminders_15 rfl (lv_at hl 1 rfl) ?_
      refine lv_icmp_ge (tgt := 69) hx hb dX1_sendReminders_16 (by decide) (fun _ => ?_) (fun c => absurd ((nI_leI (a := 40) (b := k) (by omega) (by omega)).mpr (by omega)) c)
      refine lv_iload_n hx hb dX1_sendReminders_69 rfl (lv_at hl 3 rfl) ?_
      refine lv_if_le (tgt := 77) hx hb dX1_sendReminders_70 (by decide) (fun c1 => ?_) (fun c1 => ?_)
      · skip
        refine lv_bipush (v := -5) hx hb dX1_sendReminders_77 (by decide) ?_
        exact e_int S hr hlk rfl hK hS (gP_eq (show w_X1_sendReminders_loop 0 k b x1 = b from (if_pos c1).trans rfl) hP) (show v_X1_sendReminders_loop 0 k b x1 = (-5 : Int32) from (if_pos c1).trans rfl).symm dX1_sendReminders_79
      · skip
        refine lv_iload_n hx hb dX1_sendReminders_73 rfl (lv_at hl 3 rfl) ?_
        refine lv_goto (tgt := 79) hx hb dX1_sendReminders_74 (by decide) ?_
        exact e_int S hr hlk rfl hK hS (gP_eq (show w_X1_sendReminders_loop 0 k b x1 = b from (if_neg c1).trans rfl) hP) (show v_X1_sendReminders_loop 0 k b x1 = x1 from (if_neg c1).trans rfl).symm dX1_sendReminders_79
    | succ n ih_LP_loop =>
      intro k hk_LP_loop b x1 H locs hP hS ls hl
      refine lv_iload hx hb dX1_sendReminders_13 (lv_at hl 0 rfl) ?_
      refine lv_iload_n hx hb dX1_sendReminders_15 rfl (lv_at hl 1 rfl) ?_
      refine lv_icmp_ge (tgt := 69) hx hb dX1_sendReminders_16 (by decide) (fun c => absurd c (fun z => absurd ((nI_leI (a := 40) (b := k) (by omega) (by omega)).mp z) (by omega))) (fun _ => ?_)
      refine lv_aload_n hx hb dX1_sendReminders_19 rfl (lv_at hl 2 rfl) ?_
      refine lv_iload hx hb dX1_sendReminders_20 (lv_at hl 0 rfl) ?_
      refine g_bald S hK hP (i := 1) (by omega) bC1 (k := k) (by omega) (by decide) (v := .ref (a (k + 7))) rfl dX1_sendReminders_22 ?_
      refine lv_astore (lv' := [(5, .ref (a (k + 7))), (4, .int (nI k)), (3, .int (40 : Int32)), (2, .ref (a 1)), (1, .int x1), (0, .ref (a 0))]) hx hb dX1_sendReminders_23 hl (by decide) rfl (fun ls hl => ?_)
      refine lv_aload hx hb dX1_sendReminders_25 (lv_at hl 0 rfl) ?_
      refine lv_aload_n hx hb dX1_sendReminders_27 rfl (lv_at hl 5 rfl) ?_
      refine g_get S hK hP (i := 0) (by omega) bC0 rfl inlX1 5 (by decide) k_92 (v := .int (b 0 5)) rfl dX1_sendReminders_28 ?_
      refine lv_aload_n hx hb dX1_sendReminders_31 rfl (lv_at hl 5 rfl) ?_
      refine g_get S hK hP (i := 0) (by omega) bC0 rfl inlX1 4 (by decide) k_39 (v := .ref (a 5)) rfl dX1_sendReminders_32 ?_
      refine r_callI S hK hP (c_X3_reminderDays l G a hI b ) (r_cw S k_380 k_377 k_378 k_379 k_38 q_X3_reminderDays ⟨Nat.le_of_ble_eq_true rfl, Nat.le_of_ble_eq_true rfl⟩ rfl rfl) (g_recv hK hP (i := 5) (by omega) bC5 rfl) rfl hl.1 rfl (Nat.le_of_ble_eq_true rfl) dX1_sendReminders_35 ⟨Nat.zero_le _, Nat.zero_le _⟩ hS (fun _ h => h) (fun H locs hP _ _ hS => ?_)
      have hP : bP G a b H := hP
      refine r_callI S hK hP (c_X0_whyNoReminder l G a hI b k (by omega) _ _ ) (r_cw S k_384 k_381 k_382 k_383 k_41 q_X0_whyNoReminder ⟨Nat.le_of_ble_eq_true rfl, Nat.le_of_ble_eq_true rfl⟩ rfl rfl) (g_recv hK hP (i := k + 7) (by omega) bC7 rfl) rfl hl.1 rfl (Nat.le_of_ble_eq_true rfl) dX1_sendReminders_38 ⟨Nat.zero_le _, Nat.zero_le _⟩ hS (fun _ h => h) (fun H locs hP _ _ hS => ?_)
      have hP : bP G a b H := hP
      refine lv_if_ne (tgt := 63) hx hb dX1_sendReminders_41 (by decide) (fun c2 => ?_) (fun c2 => ?_)
      · skip
        refine lv_iinc (v := nI (k + 1)) (lv' := [(4, .int (nI (k + 1))), (5, .ref (a (k + 7))), (3, .int (40 : Int32)), (2, .ref (a 1)), (1, .int x1), (0, .ref (a 0))]) hx hb dX1_sendReminders_63 hl (k := 1) rfl (nI_1 _) (by decide) rfl (fun ls hl => ?_)
        refine lv_goto (tgt := 13) hx hb dX1_sendReminders_66 (by decide) ?_
        refine q_eqI (show v_X1_sendReminders_loop (n + 1) k b x1 = v_X1_sendReminders_loop n (k + 1) b x1 from (if_neg c2).trans rfl) (show w_X1_sendReminders_loop (n + 1) k b x1 = w_X1_sendReminders_loop n (k + 1) b x1 from (if_neg c2).trans rfl) ?_
        exact ih_LP_loop (k + 1) (by omega) _ _ _ _ hP hS ls (lv_sub hl [0, 2, 3, 4, 5] rfl)
      · skip
        refine lv_aload hx hb dX1_sendReminders_44 (lv_at hl 0 rfl) ?_
        refine lv_aload_n hx hb dX1_sendReminders_46 rfl (lv_at hl 5 rfl) ?_
        refine g_get S hK hP (i := 0) (by omega) bC0 rfl inlX1 5 (by decide) k_92 (v := .int (b 0 5)) rfl dX1_sendReminders_47 ?_
        refine lv_aload_n hx hb dX1_sendReminders_50 rfl (lv_at hl 5 rfl) ?_
        refine g_get S hK hP (i := 0) (by omega) bC0 rfl inlX1 4 (by decide) k_39 (v := .ref (a 5)) rfl dX1_sendReminders_51 ?_
        refine r_callI S hK hP (c_X3_reminderFee l G a hI b ) (r_cw S k_397 k_394 k_395 k_396 k_38 q_X3_reminderFee ⟨Nat.le_of_ble_eq_true rfl, Nat.le_of_ble_eq_true rfl⟩ rfl rfl) (g_recv hK hP (i := 5) (by omega) bC5 rfl) rfl hl.1 rfl (Nat.le_of_ble_eq_true rfl) dX1_sendReminders_54 ⟨Nat.zero_le _, Nat.zero_le _⟩ hS (fun _ h => h) (fun H locs hP _ _ hS => ?_)
        have hP : bP G a b H := hP
        refine r_callV S hK hP (c_X0_addReminder l G a hI b k (by omega) _ _ ) (r_cw S k_401 k_398 k_399 k_400 k_41 q_X0_addReminder ⟨Nat.le_of_ble_eq_true rfl, Nat.le_of_ble_eq_true rfl⟩ rfl rfl) (g_recv hK hP (i := k + 7) (by omega) bC7 rfl) rfl hl.1 rfl (Nat.le_of_ble_eq_true rfl) dX1_sendReminders_57 ⟨Nat.zero_le _, Nat.zero_le _⟩ hS (fun _ h => h) (fun H locs hP _ _ hS => ?_)
        have hP : bP G a (w_X0_addReminder b k (b 0 5) (v_X3_reminderFee b)) H := hP
        refine lv_iinc (v := x1 + 1) (lv' := [(1, .int (x1 + 1)), (5, .ref (a (k + 7))), (4, .int (nI k)), (3, .int (40 : Int32)), (2, .ref (a 1)), (0, .ref (a 0))]) hx hb dX1_sendReminders_60 hl (k := 4) rfl rfl (by decide) rfl (fun ls hl => ?_)
        refine lv_iinc (v := nI (k + 1)) (lv' := [(4, .int (nI (k + 1))), (1, .int (x1 + 1)), (5, .ref (a (k + 7))), (3, .int (40 : Int32)), (2, .ref (a 1)), (0, .ref (a 0))]) hx hb dX1_sendReminders_63 hl (k := 2) rfl (nI_1 _) (by decide) rfl (fun ls hl => ?_)
        refine lv_goto (tgt := 13) hx hb dX1_sendReminders_66 (by decide) ?_
        refine q_eqI (show v_X1_sendReminders_loop (n + 1) k b x1 = v_X1_sendReminders_loop n (k + 1) (w_X0_addReminder b k (b 0 5) (v_X3_reminderFee b)) (x1 + 1) from (if_pos c2).trans rfl) (show w_X1_sendReminders_loop (n + 1) k b x1 = w_X1_sendReminders_loop n (k + 1) (w_X0_addReminder b k (b 0 5) (v_X3_reminderFee b)) (x1 + 1) from (if_pos c2).trans rfl) ?_
        exact ih_LP_loop (k + 1) (by omega) _ _ _ _ hP hS ls (lv_sub hl [0, 3, 4, 1, 5] rfl)
  refine q_eqI (show v_X1_sendReminders b  = v_X1_sendReminders_loop 40 0 b (0 : Int32) from rfl) (show w_X1_sendReminders b  = w_X1_sendReminders_loop 40 0 b (0 : Int32) from rfl) ?_
  exact LP_loop 40 0 (by omega) _ _ _ _ hP hS ls (lv_sub hl [0, 1, 2, 3, 4] rfl)

def v_X1_giveUp (b : Nat → Nat → Int32) (p1 : Int32) : Int32 := oel (v_X1_billAt b p1) ((-1 : Int32)) (fun jo1 => if v_X0_canBeWrittenOff b jo1 (b 0 5) (v_X3_reminderDays b) = 0 then (-4 : Int32) else v_X0_owed (up b (jo1 + 7) 0 (2 : Int32)) jo1)
def w_X1_giveUp (b : Nat → Nat → Int32) (p1 : Int32) : Nat → Nat → Int32 := oel (v_X1_billAt b p1) (b) (fun jo1 => if v_X0_canBeWrittenOff b jo1 (b 0 5) (v_X3_reminderDays b) = 0 then b else up b (jo1 + 7) 0 (2 : Int32))
theorem q_X1_giveUp : yX1_giveUp.cls ≠ "java/lang/invoke/MethodHandle" ∧ yX1_giveUp.cls ≠ "java/lang/invoke/VarHandle" ∧ (parseMethodDescriptor yX1_giveUp.desc).map (fun d => d.parameters.length) = some 1 := ⟨by decide, by decide, by decide +kernel⟩
set_option maxHeartbeats 4000000 in
set_option maxRecDepth 100000 in
theorem c_X1_giveUp (l : Launch) (G : kG) (a : Nat → Nat) (hI : gI 47 a) (b : Nat → Nat → Int32) (p1 : Int32) : Met l yX1_giveUp (Cond.code yX1_giveUp cX1_giveUp 3 (some .int) :: BIG) (rmK 1) (pcG G (bP G a b) [.ref (a 0), .int p1]) (qcI G (gA 47 a) (bP G a (w_X1_giveUp b p1)) (v_X1_giveUp b p1)) 0 0 (gA 47 a) := by
  refine m_start (by decide) (Nat.le_of_ble_eq_true rfl) ?_
  intro p e s m args below meth c S hr hlk hnm hP hK ls hl
  have hx := S.1
  have hb := S.2.1
  have hown := S.2.2.2.1
  have hS : va_S (gA 47 a) s.heap s.heap [] := va_S.rf
  have hl : lv_has ls 3 [(0, .ref (a 0)), (1, .int p1)] := hl
  refine lv_aload_n hx hb dX1_giveUp_0 rfl (lv_at hl 0 rfl) ?_
  refine lv_iload_n hx hb dX1_giveUp_1 rfl (lv_at hl 1 rfl) ?_
  refine r_callQ S hK hP (c_X1_billAt l G a hI b _ ) (r_cw S k_312 k_309 k_310 k_311 k_14 q_X1_billAt ⟨Nat.le_of_ble_eq_true rfl, Nat.le_of_ble_eq_true rfl⟩ rfl rfl) (g_recv hK hP (i := 0) (by omega) bC0 rfl) rfl hl.1 rfl (Nat.le_of_ble_eq_true rfl) dX1_giveUp_2 ⟨Nat.zero_le _, Nat.zero_le _⟩ hS (fun _ h => h) (fun H locs hP _ _ hS => ?_)
  have hP : bP G a b H := hP
  refine r_opt (fun o1 => ?_) (fun jo1 o1 => ?_)
  · skip
    refine lv_astore_nN (lv' := [(2, .null), (0, .ref (a 0)), (1, .int p1)]) hx hb dX1_giveUp_5 rfl hl (by decide) rfl (fun ls hl => ?_)
    refine lv_aload_nN hx hb dX1_giveUp_6 rfl (lv_at hl 0 rfl) ?_
    refine lv_ifnonnullN hx hb dX1_giveUp_7 ?_
    refine lv_iconst (v := -1) hx hb dX1_giveUp_10 (by decide) ?_
    exact e_int S hr hlk rfl hK hS (gP_eq (show w_X1_giveUp b p1 = b from (oel_n o1).trans rfl) hP) (show v_X1_giveUp b p1 = (-1 : Int32) from (oel_n o1).trans rfl).symm dX1_giveUp_11
  · have hjo1 : jo1 < 40 := billAt_lt o1
    refine lv_astore_n (lv' := [(2, .ref (a (jo1 + 7))), (0, .ref (a 0)), (1, .int p1)]) hx hb dX1_giveUp_5 rfl hl (by decide) rfl (fun ls hl => ?_)
    refine lv_aload_n hx hb dX1_giveUp_6 rfl (lv_at hl 0 rfl) ?_
    refine lv_ifnonnull (tgt := 12) hx hb dX1_giveUp_7 (by decide) ?_
    refine lv_aload_n hx hb dX1_giveUp_12 rfl (lv_at hl 0 rfl) ?_
    refine lv_aload_n hx hb dX1_giveUp_13 rfl (lv_at hl 1 rfl) ?_
    refine g_get S hK hP (i := 0) (by omega) bC0 rfl inlX1 5 (by decide) k_92 (v := .int (b 0 5)) rfl dX1_giveUp_14 ?_
    refine lv_aload_n hx hb dX1_giveUp_17 rfl (lv_at hl 1 rfl) ?_
    refine g_get S hK hP (i := 0) (by omega) bC0 rfl inlX1 4 (by decide) k_39 (v := .ref (a 5)) rfl dX1_giveUp_18 ?_
    refine r_callI S hK hP (c_X3_reminderDays l G a hI b ) (r_cw S k_380 k_377 k_378 k_379 k_38 q_X3_reminderDays ⟨Nat.le_of_ble_eq_true rfl, Nat.le_of_ble_eq_true rfl⟩ rfl rfl) (g_recv hK hP (i := 5) (by omega) bC5 rfl) rfl hl.1 rfl (Nat.le_of_ble_eq_true rfl) dX1_giveUp_21 ⟨Nat.zero_le _, Nat.zero_le _⟩ hS (fun _ h => h) (fun H locs hP _ _ hS => ?_)
    have hP : bP G a b H := hP
    refine r_callI S hK hP (c_X0_canBeWrittenOff l G a hI b jo1 (by omega) _ _ ) (r_cw S k_433 k_430 k_431 k_432 k_41 q_X0_canBeWrittenOff ⟨Nat.le_of_ble_eq_true rfl, Nat.le_of_ble_eq_true rfl⟩ rfl rfl) (g_recv hK hP (i := jo1 + 7) (by omega) bC7 rfl) rfl hl.1 rfl (Nat.le_of_ble_eq_true rfl) dX1_giveUp_24 ⟨Nat.zero_le _, Nat.zero_le _⟩ hS (fun _ h => h) (fun H locs hP _ _ hS => ?_)
    have hP : bP G a b H := hP
    refine lv_if_ne (tgt := 33) hx hb dX1_giveUp_27 (by decide) (fun c2 => ?_) (fun c2 => ?_)
    · skip
      refine lv_aload_n hx hb dX1_giveUp_33 rfl (lv_at hl 0 rfl) ?_
      refine lv_iconst (v := 2) hx hb dX1_giveUp_34 (by decide) ?_
      refine g_put S hK hP hI hS (i := jo1 + 7) (by omega) bC7 rfl inlX0 tyX0 tyX0_ok nmX0 iF_n 0 (by decide) k_254 rfl pI rfl rfl (fun _ => rfl) dX1_giveUp_35 (fun H locs hP hS => ?_)
      have hP : bP G a (up b (jo1 + 7) 0 (2 : Int32)) H := hP
      refine lv_aload_n hx hb dX1_giveUp_38 rfl (lv_at hl 0 rfl) ?_
      refine r_callI S hK hP (c_X0_owed l G a hI (up b (jo1 + 7) 0 (2 : Int32)) jo1 (by omega) ) (r_cw S k_164 k_161 k_162 k_163 k_41 q_X0_owed ⟨Nat.le_of_ble_eq_true rfl, Nat.le_of_ble_eq_true rfl⟩ rfl rfl) (g_recv hK hP (i := jo1 + 7) (by omega) bC7 rfl) rfl hl.1 rfl (Nat.le_of_ble_eq_true rfl) dX1_giveUp_39 ⟨Nat.zero_le _, Nat.zero_le _⟩ hS (fun _ h => h) (fun H locs hP _ _ hS => ?_)
      have hP : bP G a (up b (jo1 + 7) 0 (2 : Int32)) H := hP
      exact e_int S hr hlk rfl hK hS (gP_eq (show w_X1_giveUp b p1 = up b (jo1 + 7) 0 (2 : Int32) from (oel_s o1).trans ((if_neg c2).trans rfl)) hP) (show v_X1_giveUp b p1 = v_X0_owed (up b (jo1 + 7) 0 (2 : Int32)) jo1 from (oel_s o1).trans ((if_neg c2).trans rfl)).symm dX1_giveUp_42
    · skip
      refine lv_bipush (v := -4) hx hb dX1_giveUp_30 (by decide) ?_
      exact e_int S hr hlk rfl hK hS (gP_eq (show w_X1_giveUp b p1 = b from (oel_s o1).trans ((if_pos c2).trans rfl)) hP) (show v_X1_giveUp b p1 = (-4 : Int32) from (oel_s o1).trans ((if_pos c2).trans rfl)).symm dX1_giveUp_32

def v_X1_endYear (b : Nat → Nat → Int32) (p1 : Int32) : Int32 := if v_X5_isYear p1 = 0 then (-1 : Int32) else if b 0 5 < (p1 + (1 : Int32)) * (100 : Int32) then (-4 : Int32) else if p1 ≤ b 0 6 then (if b 0 6 ≤ p1 then (v_X1_taxOf b p1 (v_X3_taxWay b)) else (-5 : Int32)) else (-4 : Int32)
def w_X1_endYear (b : Nat → Nat → Int32) (p1 : Int32) : Nat → Nat → Int32 := if v_X5_isYear p1 = 0 then b else if b 0 5 < (p1 + (1 : Int32)) * (100 : Int32) then b else if p1 ≤ b 0 6 then (if b 0 6 ≤ p1 then (up (up b 4 p1.toNatClampNeg (v_X1_taxOf b p1 (v_X3_taxWay b))) 0 6 ((b 0 6) + (1 : Int32))) else b) else b
theorem q_X1_endYear : yX1_endYear.cls ≠ "java/lang/invoke/MethodHandle" ∧ yX1_endYear.cls ≠ "java/lang/invoke/VarHandle" ∧ (parseMethodDescriptor yX1_endYear.desc).map (fun d => d.parameters.length) = some 1 := ⟨by decide, by decide, by decide +kernel⟩
set_option maxHeartbeats 4000000 in
set_option maxRecDepth 100000 in
theorem c_X1_endYear (l : Launch) (G : kG) (a : Nat → Nat) (hI : gI 47 a) (b : Nat → Nat → Int32) (p1 : Int32) : Met l yX1_endYear (Cond.code yX1_endYear cX1_endYear 2 (some .int) :: BIG) (rmK 2) (pcG G (bP G a b) [.ref (a 0), .int p1]) (qcI G (gA 47 a) (bP G a (w_X1_endYear b p1)) (v_X1_endYear b p1)) 0 0 (gA 47 a) := by
  refine m_start (by decide) (Nat.le_of_ble_eq_true rfl) ?_
  intro p e s m args below meth c S hr hlk hnm hP hK ls hl
  have hx := S.1
  have hb := S.2.1
  have hown := S.2.2.2.1
  have hS : va_S (gA 47 a) s.heap s.heap [] := va_S.rf
  have hl : lv_has ls 2 [(0, .ref (a 0)), (1, .int p1)] := hl
  refine lv_iload_n hx hb dX1_endYear_0 rfl (lv_at hl 1 rfl) ?_
  refine r_callSN S hK hP (c_X5_isYear l G (bP G a b) (gA 47 a) _ ) k_171 hK.2.2.2.2.2.1 k_170 k_2 q_X5_isYear ⟨Nat.le_of_ble_eq_true rfl, Nat.le_of_ble_eq_true rfl⟩ rfl rfl rfl hl.1 rfl (Nat.le_of_ble_eq_true rfl) dX1_endYear_1 ⟨Nat.zero_le _, Nat.zero_le _⟩ hS (fun _ h => h) (fun H locs hP _ _ hS => ?_)
  have hP : bP G a b H := hP
  refine lv_if_ne (tgt := 9) hx hb dX1_endYear_4 (by decide) (fun c1 => ?_) (fun c1 => ?_)
  · skip
    refine lv_aload_n hx hb dX1_endYear_9 rfl (lv_at hl 0 rfl) ?_
    refine g_get S hK hP (i := 0) (by omega) bC0 rfl inlX1 5 (by decide) k_92 (v := .int (b 0 5)) rfl dX1_endYear_10 ?_
    refine lv_iload_n hx hb dX1_endYear_13 rfl (lv_at hl 1 rfl) ?_
    refine lv_iconst (v := 1) hx hb dX1_endYear_14 (by decide) ?_
    refine lv_iadd hx hb dX1_endYear_15 ?_
    refine lv_bipush (v := 100) hx hb dX1_endYear_16 (by decide) ?_
    refine lv_imul hx hb dX1_endYear_18 ?_
    refine lv_icmp_lt (tgt := 30) hx hb dX1_endYear_19 (by decide) (fun c2 => ?_) (fun c2 => ?_)
    · skip
      refine lv_bipush (v := -4) hx hb dX1_endYear_30 (by decide) ?_
      exact e_int S hr hlk rfl hK hS (gP_eq (show w_X1_endYear b p1 = b from (if_neg c1).trans ((if_pos c2).trans rfl)) hP) (show v_X1_endYear b p1 = (-4 : Int32) from (if_neg c1).trans ((if_pos c2).trans rfl)).symm dX1_endYear_32
    · skip
      refine lv_iload_n hx hb dX1_endYear_22 rfl (lv_at hl 1 rfl) ?_
      refine lv_aload_n hx hb dX1_endYear_23 rfl (lv_at hl 0 rfl) ?_
      refine g_get S hK hP (i := 0) (by omega) bC0 rfl inlX1 6 (by decide) k_93 (v := .int (b 0 6)) rfl dX1_endYear_24 ?_
      refine lv_icmp_le (tgt := 33) hx hb dX1_endYear_27 (by decide) (fun c3 => ?_) (fun c3 => ?_)
      · skip
        refine lv_iload_n hx hb dX1_endYear_33 rfl (lv_at hl 1 rfl) ?_
        refine lv_aload_n hx hb dX1_endYear_34 rfl (lv_at hl 0 rfl) ?_
        refine g_get S hK hP (i := 0) (by omega) bC0 rfl inlX1 6 (by decide) k_93 (v := .int (b 0 6)) rfl dX1_endYear_35 ?_
        refine lv_icmp_ge (tgt := 44) hx hb dX1_endYear_38 (by decide) (fun c4 => ?_) (fun c4 => ?_)
        · skip
          refine lv_aload_n hx hb dX1_endYear_44 rfl (lv_at hl 0 rfl) ?_
          refine g_get S hK hP (i := 0) (by omega) bC0 rfl inlX1 3 (by decide) k_35 (v := .ref (a 4)) rfl dX1_endYear_45 ?_
          refine lv_iload_n hx hb dX1_endYear_48 rfl (lv_at hl 1 rfl) ?_
          refine lv_aload_n hx hb dX1_endYear_49 rfl (lv_at hl 0 rfl) ?_
          refine lv_iload_n hx hb dX1_endYear_50 rfl (lv_at hl 1 rfl) ?_
          refine lv_aload_n hx hb dX1_endYear_51 rfl (lv_at hl 0 rfl) ?_
          refine g_get S hK hP (i := 0) (by omega) bC0 rfl inlX1 4 (by decide) k_39 (v := .ref (a 5)) rfl dX1_endYear_52 ?_
          refine r_callI S hK hP (c_X3_taxWay l G a hI b ) (r_cw S k_453 k_450 k_451 k_452 k_38 q_X3_taxWay ⟨Nat.le_of_ble_eq_true rfl, Nat.le_of_ble_eq_true rfl⟩ rfl rfl) (g_recv hK hP (i := 5) (by omega) bC5 rfl) rfl hl.1 rfl (Nat.le_of_ble_eq_true rfl) dX1_endYear_55 ⟨Nat.zero_le _, Nat.zero_le _⟩ hS (fun _ h => h) (fun H locs hP _ _ hS => ?_)
          have hP : bP G a b H := hP
          refine r_callI S hK hP (c_X1_taxOf l G a hI b _ _ ) (r_cw S k_457 k_454 k_455 k_456 k_14 q_X1_taxOf ⟨Nat.le_of_ble_eq_true rfl, Nat.le_of_ble_eq_true rfl⟩ rfl rfl) (g_recv hK hP (i := 0) (by omega) bC0 rfl) rfl hl.1 rfl (Nat.le_of_ble_eq_true rfl) dX1_endYear_58 ⟨Nat.zero_le _, Nat.zero_le _⟩ hS (fun _ h => h) (fun H locs hP _ _ hS => ?_)
          have hP : bP G a b H := hP
          refine g_ast S hK hP hI hS (i := 4) (by omega) bC4 (vp_X5_isYear c1 (by decide)) dX1_endYear_61 (fun H locs hP hS => ?_)
          have hP : bP G a (up b 4 p1.toNatClampNeg (v_X1_taxOf b p1 (v_X3_taxWay b))) H := hP
          refine lv_aload_n hx hb dX1_endYear_62 rfl (lv_at hl 0 rfl) ?_
          refine lv_dup hx hb dX1_endYear_63 rfl ?_
          refine g_get S hK hP (i := 0) (by omega) bC0 rfl inlX1 6 (by decide) k_93 (v := .int (b 0 6)) (congrArg Value.int ((up_ni (by omega)).trans rfl)) dX1_endYear_64 ?_
          refine lv_iconst (v := 1) hx hb dX1_endYear_67 (by decide) ?_
          refine lv_iadd hx hb dX1_endYear_68 ?_
          refine g_put S hK hP hI hS (i := 0) (by omega) bC0 rfl inlX1 tyX1 tyX1_ok nmX1 bF_n 6 (by decide) k_93 rfl pI rfl rfl (fun _ => rfl) dX1_endYear_69 (fun H locs hP hS => ?_)
          have hP : bP G a (up (up b 4 p1.toNatClampNeg (v_X1_taxOf b p1 (v_X3_taxWay b))) 0 6 ((b 0 6) + (1 : Int32))) H := hP
          refine lv_aload_n hx hb dX1_endYear_72 rfl (lv_at hl 0 rfl) ?_
          refine g_get S hK hP (i := 0) (by omega) bC0 rfl inlX1 3 (by decide) k_35 (v := .ref (a 4)) rfl dX1_endYear_73 ?_
          refine lv_iload_n hx hb dX1_endYear_76 rfl (lv_at hl 1 rfl) ?_
          refine g_ald S hK hP (i := 4) (by omega) bC4 (vp_X5_isYear c1 (by decide)) (v := v_X1_taxOf b p1 (v_X3_taxWay b)) ((up_ni (by omega)).trans (up_same)) dX1_endYear_77 ?_
          exact e_int S hr hlk rfl hK hS (gP_eq (show w_X1_endYear b p1 = up (up b 4 p1.toNatClampNeg (v_X1_taxOf b p1 (v_X3_taxWay b))) 0 6 ((b 0 6) + (1 : Int32)) from (if_neg c1).trans ((if_neg c2).trans ((if_pos c3).trans ((if_pos c4).trans rfl)))) hP) (show v_X1_endYear b p1 = v_X1_taxOf b p1 (v_X3_taxWay b) from (if_neg c1).trans ((if_neg c2).trans ((if_pos c3).trans ((if_pos c4).trans rfl)))).symm dX1_endYear_78
        · skip
          refine lv_bipush (v := -5) hx hb dX1_endYear_41 (by decide) ?_
          exact e_int S hr hlk rfl hK hS (gP_eq (show w_X1_endYear b p1 = b from (if_neg c1).trans ((if_neg c2).trans ((if_pos c3).trans ((if_neg c4).trans rfl)))) hP) (show v_X1_endYear b p1 = (-5 : Int32) from (if_neg c1).trans ((if_neg c2).trans ((if_pos c3).trans ((if_neg c4).trans rfl)))).symm dX1_endYear_43
      · skip
        refine lv_bipush (v := -4) hx hb dX1_endYear_30 (by decide) ?_
        exact e_int S hr hlk rfl hK hS (gP_eq (show w_X1_endYear b p1 = b from (if_neg c1).trans ((if_neg c2).trans ((if_neg c3).trans rfl))) hP) (show v_X1_endYear b p1 = (-4 : Int32) from (if_neg c1).trans ((if_neg c2).trans ((if_neg c3).trans rfl))).symm dX1_endYear_32
  · skip
    refine lv_iconst (v := -1) hx hb dX1_endYear_7 (by decide) ?_
    exact e_int S hr hlk rfl hK hS (gP_eq (show w_X1_endYear b p1 = b from (if_pos c1).trans rfl) hP) (show v_X1_endYear b p1 = (-1 : Int32) from (if_pos c1).trans rfl).symm dX1_endYear_8
end
section
theorem dX4_init_0 : decode cX4_init 0 = .ok (.aload_n 0, 1) := by decide +kernel
theorem dX4_init_1 : decode cX4_init 1 = .ok (.invokespecial 3, 3) := by decide +kernel
theorem dX4_init_4 : decode cX4_init 4 = .ok (.aload_n 0, 1) := by decide +kernel
theorem dX4_init_5 : decode cX4_init 5 = .ok (.bipush 60, 2) := by decide +kernel
theorem dX4_init_7 : decode cX4_init 7 = .ok (.newarray .char, 2) := by decide +kernel
theorem dX4_init_9 : decode cX4_init 9 = .ok (.putfield 9, 3) := by decide +kernel
theorem dX4_init_12 : decode cX4_init 12 = .ok (.return_, 1) := by decide +kernel
theorem dX4_add_0 : decode cX4_add 0 = .ok (.aload_n 0, 1) := by decide +kernel
theorem dX4_add_1 : decode cX4_add 1 = .ok (.getfield 15, 3) := by decide +kernel
theorem dX4_add_4 : decode cX4_add 4 = .ok (.ifCond .lt 15, 3) := by decide +kernel
theorem dX4_add_7 : decode cX4_add 7 = .ok (.aload_n 0, 1) := by decide +kernel
theorem dX4_add_8 : decode cX4_add 8 = .ok (.getfield 15, 3) := by decide +kernel
theorem dX4_add_11 : decode cX4_add 11 = .ok (.aload_n 0, 1) := by decide +kernel
theorem dX4_add_12 : decode cX4_add 12 = .ok (.getfield 9, 3) := by decide +kernel
theorem dX4_add_15 : decode cX4_add 15 = .ok (.arraylength, 1) := by decide +kernel
theorem dX4_add_16 : decode cX4_add 16 = .ok (.if_icmp .lt 5, 3) := by decide +kernel
theorem dX4_add_19 : decode cX4_add 19 = .ok (.iconst 0, 1) := by decide +kernel
theorem dX4_add_20 : decode cX4_add 20 = .ok (.ireturn, 1) := by decide +kernel
theorem dX4_add_21 : decode cX4_add 21 = .ok (.aload_n 0, 1) := by decide +kernel
theorem dX4_add_22 : decode cX4_add 22 = .ok (.getfield 9, 3) := by decide +kernel
theorem dX4_add_25 : decode cX4_add 25 = .ok (.aload_n 0, 1) := by decide +kernel
theorem dX4_add_26 : decode cX4_add 26 = .ok (.getfield 15, 3) := by decide +kernel
theorem dX4_add_29 : decode cX4_add 29 = .ok (.iload_n 1, 1) := by decide +kernel
theorem dX4_add_30 : decode cX4_add 30 = .ok (.castore, 1) := by decide +kernel
theorem dX4_add_31 : decode cX4_add 31 = .ok (.aload_n 0, 1) := by decide +kernel
theorem dX4_add_32 : decode cX4_add 32 = .ok (.dup, 1) := by decide +kernel
theorem dX4_add_33 : decode cX4_add 33 = .ok (.getfield 15, 3) := by decide +kernel
theorem dX4_add_36 : decode cX4_add 36 = .ok (.iconst 1, 1) := by decide +kernel
theorem dX4_add_37 : decode cX4_add 37 = .ok (.iadd, 1) := by decide +kernel
theorem dX4_add_38 : decode cX4_add 38 = .ok (.putfield 15, 3) := by decide +kernel
theorem dX4_add_41 : decode cX4_add 41 = .ok (.iconst 1, 1) := by decide +kernel
theorem dX4_add_42 : decode cX4_add 42 = .ok (.ireturn, 1) := by decide +kernel
theorem dX4_goToStart_0 : decode cX4_goToStart 0 = .ok (.aload_n 0, 1) := by decide +kernel
theorem dX4_goToStart_1 : decode cX4_goToStart 1 = .ok (.iconst 0, 1) := by decide +kernel
theorem dX4_goToStart_2 : decode cX4_goToStart 2 = .ok (.putfield 19, 3) := by decide +kernel
theorem dX4_goToStart_5 : decode cX4_goToStart 5 = .ok (.return_, 1) := by decide +kernel
theorem dX4_findFault_0 : decode cX4_findFault 0 = .ok (.aload_n 0, 1) := by decide +kernel
theorem dX4_findFault_1 : decode cX4_findFault 1 = .ok (.invokevirtual 22, 3) := by decide +kernel
theorem dX4_findFault_4 : decode cX4_findFault 4 = .ok (.iconst 0, 1) := by decide +kernel
theorem dX4_findFault_5 : decode cX4_findFault 5 = .ok (.istore_n 1, 1) := by decide +kernel
theorem dX4_findFault_6 : decode cX4_findFault 6 = .ok (.iload_n 1, 1) := by decide +kernel
theorem dX4_findFault_7 : decode cX4_findFault 7 = .ok (.bipush 60, 2) := by decide +kernel
theorem dX4_findFault_9 : decode cX4_findFault 9 = .ok (.if_icmp .ge 48, 3) := by decide +kernel
theorem dX4_findFault_12 : decode cX4_findFault 12 = .ok (.aload_n 0, 1) := by decide +kernel
theorem dX4_findFault_13 : decode cX4_findFault 13 = .ok (.invokevirtual 25, 3) := by decide +kernel
theorem dX4_findFault_16 : decode cX4_findFault 16 = .ok (.ifCond .ne 8, 3) := by decide +kernel
theorem dX4_findFault_19 : decode cX4_findFault 19 = .ok (.aload_n 0, 1) := by decide +kernel
theorem dX4_findFault_20 : decode cX4_findFault 20 = .ok (.getfield 19, 3) := by decide +kernel
theorem dX4_findFault_23 : decode cX4_findFault 23 = .ok (.ireturn, 1) := by decide +kernel
theorem dX4_findFault_24 : decode cX4_findFault 24 = .ok (.aload_n 0, 1) := by decide +kernel
theorem dX4_findFault_25 : decode cX4_findFault 25 = .ok (.getfield 19, 3) := by decide +kernel
theorem dX4_findFault_28 : decode cX4_findFault 28 = .ok (.aload_n 0, 1) := by decide +kernel
theorem dX4_findFault_29 : decode cX4_findFault 29 = .ok (.getfield 15, 3) := by decide +kernel
theorem dX4_findFault_32 : decode cX4_findFault 32 = .ok (.if_icmp .lt 5, 3) := by decide +kernel
theorem dX4_findFault_35 : decode cX4_findFault 35 = .ok (.iconst (-1), 1) := by decide +kernel
theorem dX4_findFault_36 : decode cX4_findFault 36 = .ok (.ireturn, 1) := by decide +kernel
theorem dX4_findFault_37 : decode cX4_findFault 37 = .ok (.aload_n 0, 1) := by decide +kernel
theorem dX4_findFault_38 : decode cX4_findFault 38 = .ok (.bipush 59, 2) := by decide +kernel
theorem dX4_findFault_40 : decode cX4_findFault 40 = .ok (.invokevirtual 29, 3) := by decide +kernel
theorem dX4_findFault_43 : decode cX4_findFault 43 = .ok (.ifCond .ne 8, 3) := by decide +kernel
theorem dX4_findFault_46 : decode cX4_findFault 46 = .ok (.aload_n 0, 1) := by decide +kernel
theorem dX4_findFault_47 : decode cX4_findFault 47 = .ok (.getfield 19, 3) := by decide +kernel
theorem dX4_findFault_50 : decode cX4_findFault 50 = .ok (.ireturn, 1) := by decide +kernel
theorem dX4_findFault_51 : decode cX4_findFault 51 = .ok (.iinc 1 1, 3) := by decide +kernel
theorem dX4_findFault_54 : decode cX4_findFault 54 = .ok (.goto (-48), 3) := by decide +kernel
theorem dX4_findFault_57 : decode cX4_findFault 57 = .ok (.aload_n 0, 1) := by decide +kernel
theorem dX4_findFault_58 : decode cX4_findFault 58 = .ok (.getfield 19, 3) := by decide +kernel
theorem dX4_findFault_61 : decode cX4_findFault 61 = .ok (.ireturn, 1) := by decide +kernel
theorem dX4_readThing_0 : decode cX4_readThing 0 = .ok (.aload_n 0, 1) := by decide +kernel
theorem dX4_readThing_1 : decode cX4_readThing 1 = .ok (.bipush 98, 2) := by decide +kernel
theorem dX4_readThing_3 : decode cX4_readThing 3 = .ok (.invokevirtual 29, 3) := by decide +kernel
theorem dX4_readThing_6 : decode cX4_readThing 6 = .ok (.ifCond .eq 13, 3) := by decide +kernel
theorem dX4_readThing_9 : decode cX4_readThing 9 = .ok (.aload_n 0, 1) := by decide +kernel
theorem dX4_readThing_10 : decode cX4_readThing 10 = .ok (.iconst 0, 1) := by decide +kernel
theorem dX4_readThing_11 : decode cX4_readThing 11 = .ok (.putfield 33, 3) := by decide +kernel
theorem dX4_readThing_14 : decode cX4_readThing 14 = .ok (.aload_n 0, 1) := by decide +kernel
theorem dX4_readThing_15 : decode cX4_readThing 15 = .ok (.invokevirtual 36, 3) := by decide +kernel
theorem dX4_readThing_18 : decode cX4_readThing 18 = .ok (.ireturn, 1) := by decide +kernel
theorem dX4_readThing_19 : decode cX4_readThing 19 = .ok (.aload_n 0, 1) := by decide +kernel
theorem dX4_readThing_20 : decode cX4_readThing 20 = .ok (.bipush 112, 2) := by decide +kernel
theorem dX4_readThing_22 : decode cX4_readThing 22 = .ok (.invokevirtual 29, 3) := by decide +kernel
theorem dX4_readThing_25 : decode cX4_readThing 25 = .ok (.ifCond .eq 13, 3) := by decide +kernel
theorem dX4_readThing_28 : decode cX4_readThing 28 = .ok (.aload_n 0, 1) := by decide +kernel
theorem dX4_readThing_29 : decode cX4_readThing 29 = .ok (.iconst 1, 1) := by decide +kernel
theorem dX4_readThing_30 : decode cX4_readThing 30 = .ok (.putfield 33, 3) := by decide +kernel
theorem dX4_readThing_33 : decode cX4_readThing 33 = .ok (.aload_n 0, 1) := by decide +kernel
theorem dX4_readThing_34 : decode cX4_readThing 34 = .ok (.invokevirtual 39, 3) := by decide +kernel
theorem dX4_readThing_37 : decode cX4_readThing 37 = .ok (.ireturn, 1) := by decide +kernel
theorem dX4_readThing_38 : decode cX4_readThing 38 = .ok (.aload_n 0, 1) := by decide +kernel
theorem dX4_readThing_39 : decode cX4_readThing 39 = .ok (.bipush 114, 2) := by decide +kernel
theorem dX4_readThing_41 : decode cX4_readThing 41 = .ok (.invokevirtual 29, 3) := by decide +kernel
theorem dX4_readThing_44 : decode cX4_readThing 44 = .ok (.ifCond .eq 10, 3) := by decide +kernel
theorem dX4_readThing_47 : decode cX4_readThing 47 = .ok (.aload_n 0, 1) := by decide +kernel
theorem dX4_readThing_48 : decode cX4_readThing 48 = .ok (.iconst 3, 1) := by decide +kernel
theorem dX4_readThing_49 : decode cX4_readThing 49 = .ok (.putfield 33, 3) := by decide +kernel
theorem dX4_readThing_52 : decode cX4_readThing 52 = .ok (.iconst 1, 1) := by decide +kernel
theorem dX4_readThing_53 : decode cX4_readThing 53 = .ok (.ireturn, 1) := by decide +kernel
theorem dX4_readThing_54 : decode cX4_readThing 54 = .ok (.aload_n 0, 1) := by decide +kernel
theorem dX4_readThing_55 : decode cX4_readThing 55 = .ok (.bipush 46, 2) := by decide +kernel
theorem dX4_readThing_57 : decode cX4_readThing 57 = .ok (.invokevirtual 29, 3) := by decide +kernel
theorem dX4_readThing_60 : decode cX4_readThing 60 = .ok (.ifCond .eq 33, 3) := by decide +kernel
theorem dX4_readThing_63 : decode cX4_readThing 63 = .ok (.aload_n 0, 1) := by decide +kernel
theorem dX4_readThing_64 : decode cX4_readThing 64 = .ok (.iconst 4, 1) := by decide +kernel
theorem dX4_readThing_65 : decode cX4_readThing 65 = .ok (.putfield 33, 3) := by decide +kernel
theorem dX4_readThing_68 : decode cX4_readThing 68 = .ok (.aload_n 0, 1) := by decide +kernel
theorem dX4_readThing_69 : decode cX4_readThing 69 = .ok (.aload_n 0, 1) := by decide +kernel
theorem dX4_readThing_70 : decode cX4_readThing 70 = .ok (.iconst 1, 1) := by decide +kernel
theorem dX4_readThing_71 : decode cX4_readThing 71 = .ok (.bipush 99, 2) := by decide +kernel
theorem dX4_readThing_73 : decode cX4_readThing 73 = .ok (.invokevirtual 42, 3) := by decide +kernel
theorem dX4_readThing_76 : decode cX4_readThing 76 = .ok (.putfield 46, 3) := by decide +kernel
theorem dX4_readThing_79 : decode cX4_readThing 79 = .ok (.aload_n 0, 1) := by decide +kernel
theorem dX4_readThing_80 : decode cX4_readThing 80 = .ok (.getfield 46, 3) := by decide +kernel
theorem dX4_readThing_83 : decode cX4_readThing 83 = .ok (.iconst (-1), 1) := by decide +kernel
theorem dX4_readThing_84 : decode cX4_readThing 84 = .ok (.if_icmp .eq 7, 3) := by decide +kernel
theorem dX4_readThing_87 : decode cX4_readThing 87 = .ok (.iconst 1, 1) := by decide +kernel
theorem dX4_readThing_88 : decode cX4_readThing 88 = .ok (.goto 4, 3) := by decide +kernel
theorem dX4_readThing_91 : decode cX4_readThing 91 = .ok (.iconst 0, 1) := by decide +kernel
theorem dX4_readThing_92 : decode cX4_readThing 92 = .ok (.ireturn, 1) := by decide +kernel
theorem dX4_readThing_93 : decode cX4_readThing 93 = .ok (.iconst 0, 1) := by decide +kernel
theorem dX4_readThing_94 : decode cX4_readThing 94 = .ok (.ireturn, 1) := by decide +kernel
theorem dX4_readBill_0 : decode cX4_readBill 0 = .ok (.aload_n 0, 1) := by decide +kernel
theorem dX4_readBill_1 : decode cX4_readBill 1 = .ok (.sipush 9999, 3) := by decide +kernel
theorem dX4_readBill_4 : decode cX4_readBill 4 = .ok (.invokevirtual 49, 3) := by decide +kernel
theorem dX4_readBill_7 : decode cX4_readBill 7 = .ok (.ifCond .ne 5, 3) := by decide +kernel
theorem dX4_readBill_10 : decode cX4_readBill 10 = .ok (.iconst 0, 1) := by decide +kernel
theorem dX4_readBill_11 : decode cX4_readBill 11 = .ok (.ireturn, 1) := by decide +kernel
theorem dX4_readBill_12 : decode cX4_readBill 12 = .ok (.aload_n 0, 1) := by decide +kernel
theorem dX4_readBill_13 : decode cX4_readBill 13 = .ok (.aload_n 0, 1) := by decide +kernel
theorem dX4_readBill_14 : decode cX4_readBill 14 = .ok (.bipush 64, 2) := by decide +kernel
theorem dX4_readBill_16 : decode cX4_readBill 16 = .ok (.invokevirtual 29, 3) := by decide +kernel
theorem dX4_readBill_19 : decode cX4_readBill 19 = .ok (.ifCond .eq 13, 3) := by decide +kernel
theorem dX4_readBill_22 : decode cX4_readBill 22 = .ok (.aload_n 0, 1) := by decide +kernel
theorem dX4_readBill_23 : decode cX4_readBill 23 = .ok (.iconst 0, 1) := by decide +kernel
theorem dX4_readBill_24 : decode cX4_readBill 24 = .ok (.bipush 40, 2) := by decide +kernel
theorem dX4_readBill_26 : decode cX4_readBill 26 = .ok (.invokevirtual 42, 3) := by decide +kernel
theorem dX4_readBill_29 : decode cX4_readBill 29 = .ok (.goto 5, 3) := by decide +kernel
theorem dX4_readBill_32 : decode cX4_readBill 32 = .ok (.bipush 20, 2) := by decide +kernel
theorem dX4_readBill_34 : decode cX4_readBill 34 = .ok (.putfield 53, 3) := by decide +kernel
theorem dX4_readBill_37 : decode cX4_readBill 37 = .ok (.aload_n 0, 1) := by decide +kernel
theorem dX4_readBill_38 : decode cX4_readBill 38 = .ok (.getfield 53, 3) := by decide +kernel
theorem dX4_readBill_41 : decode cX4_readBill 41 = .ok (.iconst (-1), 1) := by decide +kernel
theorem dX4_readBill_42 : decode cX4_readBill 42 = .ok (.if_icmp .ne 5, 3) := by decide +kernel
theorem dX4_readBill_45 : decode cX4_readBill 45 = .ok (.iconst 0, 1) := by decide +kernel
theorem dX4_readBill_46 : decode cX4_readBill 46 = .ok (.ireturn, 1) := by decide +kernel
theorem dX4_readBill_47 : decode cX4_readBill 47 = .ok (.aload_n 0, 1) := by decide +kernel
theorem dX4_readBill_48 : decode cX4_readBill 48 = .ok (.aload_n 0, 1) := by decide +kernel
theorem dX4_readBill_49 : decode cX4_readBill 49 = .ok (.bipush 43, 2) := by decide +kernel
theorem dX4_readBill_51 : decode cX4_readBill 51 = .ok (.invokevirtual 29, 3) := by decide +kernel
theorem dX4_readBill_54 : decode cX4_readBill 54 = .ok (.ifCond .eq 13, 3) := by decide +kernel
theorem dX4_readBill_57 : decode cX4_readBill 57 = .ok (.aload_n 0, 1) := by decide +kernel
theorem dX4_readBill_58 : decode cX4_readBill 58 = .ok (.iconst 0, 1) := by decide +kernel
theorem dX4_readBill_59 : decode cX4_readBill 59 = .ok (.bipush 99, 2) := by decide +kernel
theorem dX4_readBill_61 : decode cX4_readBill 61 = .ok (.invokevirtual 42, 3) := by decide +kernel
theorem dX4_readBill_64 : decode cX4_readBill 64 = .ok (.goto 5, 3) := by decide +kernel
theorem dX4_readBill_67 : decode cX4_readBill 67 = .ok (.bipush 14, 2) := by decide +kernel
theorem dX4_readBill_69 : decode cX4_readBill 69 = .ok (.putfield 46, 3) := by decide +kernel
theorem dX4_readBill_72 : decode cX4_readBill 72 = .ok (.aload_n 0, 1) := by decide +kernel
theorem dX4_readBill_73 : decode cX4_readBill 73 = .ok (.getfield 46, 3) := by decide +kernel
theorem dX4_readBill_76 : decode cX4_readBill 76 = .ok (.iconst (-1), 1) := by decide +kernel
theorem dX4_readBill_77 : decode cX4_readBill 77 = .ok (.if_icmp .eq 7, 3) := by decide +kernel
theorem dX4_readBill_80 : decode cX4_readBill 80 = .ok (.iconst 1, 1) := by decide +kernel
theorem dX4_readBill_81 : decode cX4_readBill 81 = .ok (.goto 4, 3) := by decide +kernel
theorem dX4_readBill_84 : decode cX4_readBill 84 = .ok (.iconst 0, 1) := by decide +kernel
theorem dX4_readBill_85 : decode cX4_readBill 85 = .ok (.ireturn, 1) := by decide +kernel
theorem dX4_readPayment_0 : decode cX4_readPayment 0 = .ok (.aload_n 0, 1) := by decide +kernel
theorem dX4_readPayment_1 : decode cX4_readPayment 1 = .ok (.ldc 56, 2) := by decide +kernel
theorem dX4_readPayment_3 : decode cX4_readPayment 3 = .ok (.invokevirtual 49, 3) := by decide +kernel
theorem dX4_readPayment_6 : decode cX4_readPayment 6 = .ok (.ifCond .ne 5, 3) := by decide +kernel
theorem dX4_readPayment_9 : decode cX4_readPayment 9 = .ok (.iconst 0, 1) := by decide +kernel
theorem dX4_readPayment_10 : decode cX4_readPayment 10 = .ok (.ireturn, 1) := by decide +kernel
theorem dX4_readPayment_11 : decode cX4_readPayment 11 = .ok (.aload_n 0, 1) := by decide +kernel
theorem dX4_readPayment_12 : decode cX4_readPayment 12 = .ok (.bipush 35, 2) := by decide +kernel
theorem dX4_readPayment_14 : decode cX4_readPayment 14 = .ok (.invokevirtual 29, 3) := by decide +kernel
theorem dX4_readPayment_17 : decode cX4_readPayment 17 = .ok (.ifCond .ne 5, 3) := by decide +kernel
theorem dX4_readPayment_20 : decode cX4_readPayment 20 = .ok (.iconst 1, 1) := by decide +kernel
theorem dX4_readPayment_21 : decode cX4_readPayment 21 = .ok (.ireturn, 1) := by decide +kernel
theorem dX4_readPayment_22 : decode cX4_readPayment 22 = .ok (.aload_n 0, 1) := by decide +kernel
theorem dX4_readPayment_23 : decode cX4_readPayment 23 = .ok (.iconst 2, 1) := by decide +kernel
theorem dX4_readPayment_24 : decode cX4_readPayment 24 = .ok (.putfield 33, 3) := by decide +kernel
theorem dX4_readPayment_27 : decode cX4_readPayment 27 = .ok (.aload_n 0, 1) := by decide +kernel
theorem dX4_readPayment_28 : decode cX4_readPayment 28 = .ok (.aload_n 0, 1) := by decide +kernel
theorem dX4_readPayment_29 : decode cX4_readPayment 29 = .ok (.iconst 0, 1) := by decide +kernel
theorem dX4_readPayment_30 : decode cX4_readPayment 30 = .ok (.bipush 39, 2) := by decide +kernel
theorem dX4_readPayment_32 : decode cX4_readPayment 32 = .ok (.invokevirtual 42, 3) := by decide +kernel
theorem dX4_readPayment_35 : decode cX4_readPayment 35 = .ok (.putfield 57, 3) := by decide +kernel
theorem dX4_readPayment_38 : decode cX4_readPayment 38 = .ok (.aload_n 0, 1) := by decide +kernel
theorem dX4_readPayment_39 : decode cX4_readPayment 39 = .ok (.getfield 57, 3) := by decide +kernel
theorem dX4_readPayment_42 : decode cX4_readPayment 42 = .ok (.iconst (-1), 1) := by decide +kernel
theorem dX4_readPayment_43 : decode cX4_readPayment 43 = .ok (.if_icmp .eq 7, 3) := by decide +kernel
theorem dX4_readPayment_46 : decode cX4_readPayment 46 = .ok (.iconst 1, 1) := by decide +kernel
theorem dX4_readPayment_47 : decode cX4_readPayment 47 = .ok (.goto 4, 3) := by decide +kernel
theorem dX4_readPayment_50 : decode cX4_readPayment 50 = .ok (.iconst 0, 1) := by decide +kernel
theorem dX4_readPayment_51 : decode cX4_readPayment 51 = .ok (.ireturn, 1) := by decide +kernel
theorem dX4_readCustomerAndAmount_0 : decode cX4_readCustomerAndAmount 0 = .ok (.aload_n 0, 1) := by decide +kernel
theorem dX4_readCustomerAndAmount_1 : decode cX4_readCustomerAndAmount 1 = .ok (.aload_n 0, 1) := by decide +kernel
theorem dX4_readCustomerAndAmount_2 : decode cX4_readCustomerAndAmount 2 = .ok (.iconst 0, 1) := by decide +kernel
theorem dX4_readCustomerAndAmount_3 : decode cX4_readCustomerAndAmount 3 = .ok (.bipush 7, 2) := by decide +kernel
theorem dX4_readCustomerAndAmount_5 : decode cX4_readCustomerAndAmount 5 = .ok (.invokevirtual 42, 3) := by decide +kernel
theorem dX4_readCustomerAndAmount_8 : decode cX4_readCustomerAndAmount 8 = .ok (.putfield 60, 3) := by decide +kernel
theorem dX4_readCustomerAndAmount_11 : decode cX4_readCustomerAndAmount 11 = .ok (.aload_n 0, 1) := by decide +kernel
theorem dX4_readCustomerAndAmount_12 : decode cX4_readCustomerAndAmount 12 = .ok (.getfield 60, 3) := by decide +kernel
theorem dX4_readCustomerAndAmount_15 : decode cX4_readCustomerAndAmount 15 = .ok (.iconst (-1), 1) := by decide +kernel
theorem dX4_readCustomerAndAmount_16 : decode cX4_readCustomerAndAmount 16 = .ok (.if_icmp .eq 12, 3) := by decide +kernel
theorem dX4_readCustomerAndAmount_19 : decode cX4_readCustomerAndAmount 19 = .ok (.aload_n 0, 1) := by decide +kernel
theorem dX4_readCustomerAndAmount_20 : decode cX4_readCustomerAndAmount 20 = .ok (.bipush 58, 2) := by decide +kernel
theorem dX4_readCustomerAndAmount_22 : decode cX4_readCustomerAndAmount 22 = .ok (.invokevirtual 29, 3) := by decide +kernel
theorem dX4_readCustomerAndAmount_25 : decode cX4_readCustomerAndAmount 25 = .ok (.ifCond .ne 5, 3) := by decide +kernel
theorem dX4_readCustomerAndAmount_28 : decode cX4_readCustomerAndAmount 28 = .ok (.iconst 0, 1) := by decide +kernel
theorem dX4_readCustomerAndAmount_29 : decode cX4_readCustomerAndAmount 29 = .ok (.ireturn, 1) := by decide +kernel
theorem dX4_readCustomerAndAmount_30 : decode cX4_readCustomerAndAmount 30 = .ok (.aload_n 0, 1) := by decide +kernel
theorem dX4_readCustomerAndAmount_31 : decode cX4_readCustomerAndAmount 31 = .ok (.aload_n 0, 1) := by decide +kernel
theorem dX4_readCustomerAndAmount_32 : decode cX4_readCustomerAndAmount 32 = .ok (.iconst 1, 1) := by decide +kernel
theorem dX4_readCustomerAndAmount_33 : decode cX4_readCustomerAndAmount 33 = .ok (.iload_n 1, 1) := by decide +kernel
theorem dX4_readCustomerAndAmount_34 : decode cX4_readCustomerAndAmount 34 = .ok (.invokevirtual 42, 3) := by decide +kernel
theorem dX4_readCustomerAndAmount_37 : decode cX4_readCustomerAndAmount 37 = .ok (.putfield 63, 3) := by decide +kernel
theorem dX4_readCustomerAndAmount_40 : decode cX4_readCustomerAndAmount 40 = .ok (.aload_n 0, 1) := by decide +kernel
theorem dX4_readCustomerAndAmount_41 : decode cX4_readCustomerAndAmount 41 = .ok (.getfield 63, 3) := by decide +kernel
theorem dX4_readCustomerAndAmount_44 : decode cX4_readCustomerAndAmount 44 = .ok (.iconst (-1), 1) := by decide +kernel
theorem dX4_readCustomerAndAmount_45 : decode cX4_readCustomerAndAmount 45 = .ok (.if_icmp .eq 7, 3) := by decide +kernel
theorem dX4_readCustomerAndAmount_48 : decode cX4_readCustomerAndAmount 48 = .ok (.iconst 1, 1) := by decide +kernel
theorem dX4_readCustomerAndAmount_49 : decode cX4_readCustomerAndAmount 49 = .ok (.goto 4, 3) := by decide +kernel
theorem dX4_readCustomerAndAmount_52 : decode cX4_readCustomerAndAmount 52 = .ok (.iconst 0, 1) := by decide +kernel
theorem dX4_readCustomerAndAmount_53 : decode cX4_readCustomerAndAmount 53 = .ok (.ireturn, 1) := by decide +kernel
theorem dX4_skip_0 : decode cX4_skip 0 = .ok (.aload_n 0, 1) := by decide +kernel
theorem dX4_skip_1 : decode cX4_skip 1 = .ok (.getfield 19, 3) := by decide +kernel
theorem dX4_skip_4 : decode cX4_skip 4 = .ok (.ifCond .lt 39, 3) := by decide +kernel
theorem dX4_skip_7 : decode cX4_skip 7 = .ok (.aload_n 0, 1) := by decide +kernel
theorem dX4_skip_8 : decode cX4_skip 8 = .ok (.getfield 19, 3) := by decide +kernel
theorem dX4_skip_11 : decode cX4_skip 11 = .ok (.aload_n 0, 1) := by decide +kernel
theorem dX4_skip_12 : decode cX4_skip 12 = .ok (.getfield 15, 3) := by decide +kernel
theorem dX4_skip_15 : decode cX4_skip 15 = .ok (.if_icmp .ge 28, 3) := by decide +kernel
theorem dX4_skip_18 : decode cX4_skip 18 = .ok (.aload_n 0, 1) := by decide +kernel
theorem dX4_skip_19 : decode cX4_skip 19 = .ok (.getfield 19, 3) := by decide +kernel
theorem dX4_skip_22 : decode cX4_skip 22 = .ok (.aload_n 0, 1) := by decide +kernel
theorem dX4_skip_23 : decode cX4_skip 23 = .ok (.getfield 9, 3) := by decide +kernel
theorem dX4_skip_26 : decode cX4_skip 26 = .ok (.arraylength, 1) := by decide +kernel
theorem dX4_skip_27 : decode cX4_skip 27 = .ok (.if_icmp .ge 16, 3) := by decide +kernel
theorem dX4_skip_30 : decode cX4_skip 30 = .ok (.aload_n 0, 1) := by decide +kernel
theorem dX4_skip_31 : decode cX4_skip 31 = .ok (.getfield 9, 3) := by decide +kernel
theorem dX4_skip_34 : decode cX4_skip 34 = .ok (.aload_n 0, 1) := by decide +kernel
theorem dX4_skip_35 : decode cX4_skip 35 = .ok (.getfield 19, 3) := by decide +kernel
theorem dX4_skip_38 : decode cX4_skip 38 = .ok (.caload, 1) := by decide +kernel
theorem dX4_skip_39 : decode cX4_skip 39 = .ok (.iload_n 1, 1) := by decide +kernel
theorem dX4_skip_40 : decode cX4_skip 40 = .ok (.if_icmp .eq 5, 3) := by decide +kernel
theorem dX4_skip_43 : decode cX4_skip 43 = .ok (.iconst 0, 1) := by decide +kernel
theorem dX4_skip_44 : decode cX4_skip 44 = .ok (.ireturn, 1) := by decide +kernel
theorem dX4_skip_45 : decode cX4_skip 45 = .ok (.aload_n 0, 1) := by decide +kernel
theorem dX4_skip_46 : decode cX4_skip 46 = .ok (.dup, 1) := by decide +kernel
theorem dX4_skip_47 : decode cX4_skip 47 = .ok (.getfield 19, 3) := by decide +kernel
theorem dX4_skip_50 : decode cX4_skip 50 = .ok (.iconst 1, 1) := by decide +kernel
theorem dX4_skip_51 : decode cX4_skip 51 = .ok (.iadd, 1) := by decide +kernel
theorem dX4_skip_52 : decode cX4_skip 52 = .ok (.putfield 19, 3) := by decide +kernel
theorem dX4_skip_55 : decode cX4_skip 55 = .ok (.iconst 1, 1) := by decide +kernel
theorem dX4_skip_56 : decode cX4_skip 56 = .ok (.ireturn, 1) := by decide +kernel
theorem dX4_readNumber_0 : decode cX4_readNumber 0 = .ok (.aload_n 0, 1) := by decide +kernel
theorem dX4_readNumber_1 : decode cX4_readNumber 1 = .ok (.invokevirtual 66, 3) := by decide +kernel
theorem dX4_readNumber_4 : decode cX4_readNumber 4 = .ok (.istore_n 3, 1) := by decide +kernel
theorem dX4_readNumber_5 : decode cX4_readNumber 5 = .ok (.iload_n 3, 1) := by decide +kernel
theorem dX4_readNumber_6 : decode cX4_readNumber 6 = .ok (.iload_n 1, 1) := by decide +kernel
theorem dX4_readNumber_7 : decode cX4_readNumber 7 = .ok (.if_icmp .lt 8, 3) := by decide +kernel
theorem dX4_readNumber_10 : decode cX4_readNumber 10 = .ok (.iload_n 3, 1) := by decide +kernel
theorem dX4_readNumber_11 : decode cX4_readNumber 11 = .ok (.iload_n 2, 1) := by decide +kernel
theorem dX4_readNumber_12 : decode cX4_readNumber 12 = .ok (.if_icmp .le 5, 3) := by decide +kernel
theorem dX4_readNumber_15 : decode cX4_readNumber 15 = .ok (.iconst (-1), 1) := by decide +kernel
theorem dX4_readNumber_16 : decode cX4_readNumber 16 = .ok (.ireturn, 1) := by decide +kernel
theorem dX4_readNumber_17 : decode cX4_readNumber 17 = .ok (.aload_n 0, 1) := by decide +kernel
theorem dX4_readNumber_18 : decode cX4_readNumber 18 = .ok (.dup, 1) := by decide +kernel
theorem dX4_readNumber_19 : decode cX4_readNumber 19 = .ok (.getfield 19, 3) := by decide +kernel
theorem dX4_readNumber_22 : decode cX4_readNumber 22 = .ok (.iconst 1, 1) := by decide +kernel
theorem dX4_readNumber_23 : decode cX4_readNumber 23 = .ok (.iadd, 1) := by decide +kernel
theorem dX4_readNumber_24 : decode cX4_readNumber 24 = .ok (.putfield 19, 3) := by decide +kernel
theorem dX4_readNumber_27 : decode cX4_readNumber 27 = .ok (.iload_n 3, 1) := by decide +kernel
theorem dX4_readNumber_28 : decode cX4_readNumber 28 = .ok (.ifCond .le 60, 3) := by decide +kernel
theorem dX4_readNumber_31 : decode cX4_readNumber 31 = .ok (.aload_n 0, 1) := by decide +kernel
theorem dX4_readNumber_32 : decode cX4_readNumber 32 = .ok (.getfield 19, 3) := by decide +kernel
theorem dX4_readNumber_35 : decode cX4_readNumber 35 = .ok (.aload_n 0, 1) := by decide +kernel
theorem dX4_readNumber_36 : decode cX4_readNumber 36 = .ok (.getfield 15, 3) := by decide +kernel
theorem dX4_readNumber_39 : decode cX4_readNumber 39 = .ok (.if_icmp .ge 49, 3) := by decide +kernel
theorem dX4_readNumber_42 : decode cX4_readNumber 42 = .ok (.aload_n 0, 1) := by decide +kernel
theorem dX4_readNumber_43 : decode cX4_readNumber 43 = .ok (.invokevirtual 66, 3) := by decide +kernel
theorem dX4_readNumber_46 : decode cX4_readNumber 46 = .ok (.istore 4, 2) := by decide +kernel
theorem dX4_readNumber_48 : decode cX4_readNumber 48 = .ok (.iload 4, 2) := by decide +kernel
theorem dX4_readNumber_50 : decode cX4_readNumber 50 = .ok (.iconst (-1), 1) := by decide +kernel
theorem dX4_readNumber_51 : decode cX4_readNumber 51 = .ok (.if_icmp .eq 14, 3) := by decide +kernel
theorem dX4_readNumber_54 : decode cX4_readNumber 54 = .ok (.iload_n 3, 1) := by decide +kernel
theorem dX4_readNumber_55 : decode cX4_readNumber 55 = .ok (.bipush 10, 2) := by decide +kernel
theorem dX4_readNumber_57 : decode cX4_readNumber 57 = .ok (.imul, 1) := by decide +kernel
theorem dX4_readNumber_58 : decode cX4_readNumber 58 = .ok (.iload 4, 2) := by decide +kernel
theorem dX4_readNumber_60 : decode cX4_readNumber 60 = .ok (.iadd, 1) := by decide +kernel
theorem dX4_readNumber_61 : decode cX4_readNumber 61 = .ok (.iload_n 2, 1) := by decide +kernel
theorem dX4_readNumber_62 : decode cX4_readNumber 62 = .ok (.if_icmp .le 5, 3) := by decide +kernel
theorem dX4_readNumber_65 : decode cX4_readNumber 65 = .ok (.iload_n 3, 1) := by decide +kernel
theorem dX4_readNumber_66 : decode cX4_readNumber 66 = .ok (.ireturn, 1) := by decide +kernel
theorem dX4_readNumber_67 : decode cX4_readNumber 67 = .ok (.iload_n 3, 1) := by decide +kernel
theorem dX4_readNumber_68 : decode cX4_readNumber 68 = .ok (.bipush 10, 2) := by decide +kernel
theorem dX4_readNumber_70 : decode cX4_readNumber 70 = .ok (.imul, 1) := by decide +kernel
theorem dX4_readNumber_71 : decode cX4_readNumber 71 = .ok (.iload 4, 2) := by decide +kernel
theorem dX4_readNumber_73 : decode cX4_readNumber 73 = .ok (.iadd, 1) := by decide +kernel
theorem dX4_readNumber_74 : decode cX4_readNumber 74 = .ok (.istore_n 3, 1) := by decide +kernel
theorem dX4_readNumber_75 : decode cX4_readNumber 75 = .ok (.aload_n 0, 1) := by decide +kernel
theorem dX4_readNumber_76 : decode cX4_readNumber 76 = .ok (.dup, 1) := by decide +kernel
theorem dX4_readNumber_77 : decode cX4_readNumber 77 = .ok (.getfield 19, 3) := by decide +kernel
theorem dX4_readNumber_80 : decode cX4_readNumber 80 = .ok (.iconst 1, 1) := by decide +kernel
theorem dX4_readNumber_81 : decode cX4_readNumber 81 = .ok (.iadd, 1) := by decide +kernel
theorem dX4_readNumber_82 : decode cX4_readNumber 82 = .ok (.putfield 19, 3) := by decide +kernel
theorem dX4_readNumber_85 : decode cX4_readNumber 85 = .ok (.goto (-58), 3) := by decide +kernel
theorem dX4_readNumber_88 : decode cX4_readNumber 88 = .ok (.iload_n 3, 1) := by decide +kernel
theorem dX4_readNumber_89 : decode cX4_readNumber 89 = .ok (.ireturn, 1) := by decide +kernel
theorem dX4_digitAtPlace_0 : decode cX4_digitAtPlace 0 = .ok (.aload_n 0, 1) := by decide +kernel
theorem dX4_digitAtPlace_1 : decode cX4_digitAtPlace 1 = .ok (.getfield 19, 3) := by decide +kernel
theorem dX4_digitAtPlace_4 : decode cX4_digitAtPlace 4 = .ok (.ifCond .lt 26, 3) := by decide +kernel
theorem dX4_digitAtPlace_7 : decode cX4_digitAtPlace 7 = .ok (.aload_n 0, 1) := by decide +kernel
theorem dX4_digitAtPlace_8 : decode cX4_digitAtPlace 8 = .ok (.getfield 19, 3) := by decide +kernel
theorem dX4_digitAtPlace_11 : decode cX4_digitAtPlace 11 = .ok (.aload_n 0, 1) := by decide +kernel
theorem dX4_digitAtPlace_12 : decode cX4_digitAtPlace 12 = .ok (.getfield 15, 3) := by decide +kernel
theorem dX4_digitAtPlace_15 : decode cX4_digitAtPlace 15 = .ok (.if_icmp .ge 15, 3) := by decide +kernel
theorem dX4_digitAtPlace_18 : decode cX4_digitAtPlace 18 = .ok (.aload_n 0, 1) := by decide +kernel
theorem dX4_digitAtPlace_19 : decode cX4_digitAtPlace 19 = .ok (.getfield 19, 3) := by decide +kernel
theorem dX4_digitAtPlace_22 : decode cX4_digitAtPlace 22 = .ok (.aload_n 0, 1) := by decide +kernel
theorem dX4_digitAtPlace_23 : decode cX4_digitAtPlace 23 = .ok (.getfield 9, 3) := by decide +kernel
theorem dX4_digitAtPlace_26 : decode cX4_digitAtPlace 26 = .ok (.arraylength, 1) := by decide +kernel
theorem dX4_digitAtPlace_27 : decode cX4_digitAtPlace 27 = .ok (.if_icmp .lt 5, 3) := by decide +kernel
theorem dX4_digitAtPlace_30 : decode cX4_digitAtPlace 30 = .ok (.iconst (-1), 1) := by decide +kernel
theorem dX4_digitAtPlace_31 : decode cX4_digitAtPlace 31 = .ok (.ireturn, 1) := by decide +kernel
theorem dX4_digitAtPlace_32 : decode cX4_digitAtPlace 32 = .ok (.aload_n 0, 1) := by decide +kernel
theorem dX4_digitAtPlace_33 : decode cX4_digitAtPlace 33 = .ok (.getfield 9, 3) := by decide +kernel
theorem dX4_digitAtPlace_36 : decode cX4_digitAtPlace 36 = .ok (.aload_n 0, 1) := by decide +kernel
theorem dX4_digitAtPlace_37 : decode cX4_digitAtPlace 37 = .ok (.getfield 19, 3) := by decide +kernel
theorem dX4_digitAtPlace_40 : decode cX4_digitAtPlace 40 = .ok (.caload, 1) := by decide +kernel
theorem dX4_digitAtPlace_41 : decode cX4_digitAtPlace 41 = .ok (.istore_n 1, 1) := by decide +kernel
theorem dX4_digitAtPlace_42 : decode cX4_digitAtPlace 42 = .ok (.iload_n 1, 1) := by decide +kernel
theorem dX4_digitAtPlace_43 : decode cX4_digitAtPlace 43 = .ok (.bipush 48, 2) := by decide +kernel
theorem dX4_digitAtPlace_45 : decode cX4_digitAtPlace 45 = .ok (.if_icmp .lt 16, 3) := by decide +kernel
theorem dX4_digitAtPlace_48 : decode cX4_digitAtPlace 48 = .ok (.iload_n 1, 1) := by decide +kernel
theorem dX4_digitAtPlace_49 : decode cX4_digitAtPlace 49 = .ok (.bipush 57, 2) := by decide +kernel
theorem dX4_digitAtPlace_51 : decode cX4_digitAtPlace 51 = .ok (.if_icmp .gt 10, 3) := by decide +kernel
theorem dX4_digitAtPlace_54 : decode cX4_digitAtPlace 54 = .ok (.iload_n 1, 1) := by decide +kernel
theorem dX4_digitAtPlace_55 : decode cX4_digitAtPlace 55 = .ok (.bipush 48, 2) := by decide +kernel
theorem dX4_digitAtPlace_57 : decode cX4_digitAtPlace 57 = .ok (.isub, 1) := by decide +kernel
theorem dX4_digitAtPlace_58 : decode cX4_digitAtPlace 58 = .ok (.goto 4, 3) := by decide +kernel
theorem dX4_digitAtPlace_61 : decode cX4_digitAtPlace 61 = .ok (.iconst (-1), 1) := by decide +kernel
theorem dX4_digitAtPlace_62 : decode cX4_digitAtPlace 62 = .ok (.ireturn, 1) := by decide +kernel
end
section
def v_X4_add (t : Nat → Nat → Int32) (p1 : Int32) : Int32 := if t 0 1 < 0 then (0 : Int32) else if t 0 1 < (60 : Int32) then (1 : Int32) else (0 : Int32)
def w_X4_add (t : Nat → Nat → Int32) (p1 : Int32) : Nat → Nat → Int32 := if t 0 1 < 0 then t else if t 0 1 < (60 : Int32) then (up (up t 1 ((t 0 1).toNatClampNeg) p1) 0 1 ((t 0 1) + (1 : Int32))) else t
theorem q_X4_add : yX4_add.cls ≠ "java/lang/invoke/MethodHandle" ∧ yX4_add.cls ≠ "java/lang/invoke/VarHandle" ∧ (parseMethodDescriptor yX4_add.desc).map (fun d => d.parameters.length) = some 1 := ⟨by decide, by decide, by decide +kernel⟩
theorem z_X4_add (t : Nat → Nat → Int32) (p1 : Int32) : narrow .boolean (.int (v_X4_add t p1)) = .int (v_X4_add t p1) := by
  unfold v_X4_add
  exact z_ite z_0 (z_ite z_1 z_0)
set_option maxHeartbeats 4000000 in
set_option maxRecDepth 100000 in
theorem c_X4_add (l : Launch) (G : kG) (a : Nat → Nat) (hI : gI 2 a) (t : Nat → Nat → Int32) (p1 : Int32) (hc1 : vp_nar .char p1 = p1) : Met l yX4_add (Cond.code yX4_add cX4_add 2 (some .boolean) :: BIG) (rmK 0) (pcG G (tP G a t) [.ref (a 0), .int p1]) (qcI G (gA 2 a) (tP G a (w_X4_add t p1)) (v_X4_add t p1)) 0 0 (gA 2 a) := by
  refine m_start (by decide) (Nat.le_of_ble_eq_true rfl) ?_
  intro p e s m args below meth c S hr hlk hnm hP hK ls hl
  have hx := S.1
  have hb := S.2.1
  have hown := S.2.2.2.1
  have hS : va_S (gA 2 a) s.heap s.heap [] := va_S.rf
  have hl : lv_has ls 2 [(0, .ref (a 0)), (1, .int p1)] := hl
  refine lv_aload_n hx hb dX4_add_0 rfl (lv_at hl 0 rfl) ?_
  refine g_get S hK hP (i := 0) (by omega) tC0 rfl inlX4 1 (by decide) k_501 (v := .int (t 0 1)) rfl dX4_add_1 ?_
  refine lv_if_lt (tgt := 19) hx hb dX4_add_4 (by decide) (fun c1 => ?_) (fun c1 => ?_)
  · skip
    refine lv_iconst (v := 0) hx hb dX4_add_19 (by decide) ?_
    exact e_int S hr hlk rfl hK hS (gP_eq (show w_X4_add t p1 = t from (if_pos c1).trans rfl) hP) (show v_X4_add t p1 = (0 : Int32) from (if_pos c1).trans rfl).symm dX4_add_20
  · skip
    refine lv_aload_n hx hb dX4_add_7 rfl (lv_at hl 0 rfl) ?_
    refine g_get S hK hP (i := 0) (by omega) tC0 rfl inlX4 1 (by decide) k_501 (v := .int (t 0 1)) rfl dX4_add_8 ?_
    refine lv_aload_n hx hb dX4_add_11 rfl (lv_at hl 0 rfl) ?_
    refine g_get S hK hP (i := 0) (by omega) tC0 rfl inlX4 0 (by decide) k_62 (v := .ref (a 1)) rfl dX4_add_12 ?_
    refine g_alen S hK hP (i := 1) (by omega) (tC1 _) 1 rfl (v := 60) rfl dX4_add_15 ?_
    refine lv_icmp_lt (tgt := 21) hx hb dX4_add_16 (by decide) (fun c2 => ?_) (fun c2 => ?_)
    · skip
      refine lv_aload_n hx hb dX4_add_21 rfl (lv_at hl 0 rfl) ?_
      refine g_get S hK hP (i := 0) (by omega) tC0 rfl inlX4 0 (by decide) k_62 (v := .ref (a 1)) rfl dX4_add_22 ?_
      refine lv_aload_n hx hb dX4_add_25 rfl (lv_at hl 0 rfl) ?_
      refine g_get S hK hP (i := 0) (by omega) tC0 rfl inlX4 1 (by decide) k_501 (v := .int (t 0 1)) rfl dX4_add_26 ?_
      refine lv_iload_n hx hb dX4_add_29 rfl (lv_at hl 1 rfl) ?_
      refine g_cast S hK hP hI hS (i := 1) (by omega) tC1 (vp_of (vp_lo1 c1) (vp_hi2 (n := 60) c2 rfl (by decide))) hc1 dX4_add_30 (fun H locs hP hS => ?_)
      have hP : tP G a (up t 1 ((t 0 1).toNatClampNeg) p1) H := hP
      refine lv_aload_n hx hb dX4_add_31 rfl (lv_at hl 0 rfl) ?_
      refine lv_dup hx hb dX4_add_32 rfl ?_
      refine g_get S hK hP (i := 0) (by omega) tC0 rfl inlX4 1 (by decide) k_501 (v := .int (t 0 1)) (congrArg Value.int ((up_ni (by omega)).trans rfl)) dX4_add_33 ?_
      refine lv_iconst (v := 1) hx hb dX4_add_36 (by decide) ?_
      refine lv_iadd hx hb dX4_add_37 ?_
      refine g_put S hK hP hI hS (i := 0) (by omega) tC0 rfl inlX4 tyX4 tyX4_ok nmX4 tF_n 1 (by decide) k_501 rfl pI rfl rfl (fun _ => rfl) dX4_add_38 (fun H locs hP hS => ?_)
      have hP : tP G a (up (up t 1 ((t 0 1).toNatClampNeg) p1) 0 1 ((t 0 1) + (1 : Int32))) H := hP
      refine lv_iconst (v := 1) hx hb dX4_add_41 (by decide) ?_
      exact e_int S hr hlk rfl hK hS (gP_eq (show w_X4_add t p1 = up (up t 1 ((t 0 1).toNatClampNeg) p1) 0 1 ((t 0 1) + (1 : Int32)) from (if_neg c1).trans ((if_pos c2).trans rfl)) hP) (show v_X4_add t p1 = (1 : Int32) from (if_neg c1).trans ((if_pos c2).trans rfl)).symm dX4_add_42
    · skip
      refine lv_iconst (v := 0) hx hb dX4_add_19 (by decide) ?_
      exact e_int S hr hlk rfl hK hS (gP_eq (show w_X4_add t p1 = t from (if_neg c1).trans ((if_neg c2).trans rfl)) hP) (show v_X4_add t p1 = (0 : Int32) from (if_neg c1).trans ((if_neg c2).trans rfl)).symm dX4_add_20

def w_X4_goToStart (t : Nat → Nat → Int32) : Nat → Nat → Int32 := up t 0 2 (0 : Int32)
theorem q_X4_goToStart : yX4_goToStart.cls ≠ "java/lang/invoke/MethodHandle" ∧ yX4_goToStart.cls ≠ "java/lang/invoke/VarHandle" ∧ (parseMethodDescriptor yX4_goToStart.desc).map (fun d => d.parameters.length) = some 0 := ⟨by decide, by decide, by decide +kernel⟩
set_option maxHeartbeats 4000000 in
set_option maxRecDepth 100000 in
theorem c_X4_goToStart (l : Launch) (G : kG) (a : Nat → Nat) (hI : gI 2 a) (t : Nat → Nat → Int32) : Met l yX4_goToStart (Cond.code yX4_goToStart cX4_goToStart 1 none :: BIG) (rmK 0) (pcG G (tP G a t) [.ref (a 0)]) (qcV G (gA 2 a) (tP G a (w_X4_goToStart t))) 0 0 (gA 2 a) := by
  refine m_start (by decide) (Nat.le_of_ble_eq_true rfl) ?_
  intro p e s m args below meth c S hr hlk hnm hP hK ls hl
  have hx := S.1
  have hb := S.2.1
  have hown := S.2.2.2.1
  have hS : va_S (gA 2 a) s.heap s.heap [] := va_S.rf
  have hl : lv_has ls 1 [(0, .ref (a 0))] := hl
  refine lv_aload_n hx hb dX4_goToStart_0 rfl (lv_at hl 0 rfl) ?_
  refine lv_iconst (v := 0) hx hb dX4_goToStart_1 (by decide) ?_
  refine g_put S hK hP hI hS (i := 0) (by omega) tC0 rfl inlX4 tyX4 tyX4_ok nmX4 tF_n 2 (by decide) k_523 rfl pI rfl rfl (fun _ => rfl) dX4_goToStart_2 (fun H locs hP hS => ?_)
  have hP : tP G a (up t 0 2 (0 : Int32)) H := hP
  exact e_void S hr hlk hK hS (gP_eq (show w_X4_goToStart t  = up t 0 2 (0 : Int32) from rfl) hP) dX4_goToStart_5

def v_X4_digitAtPlace (t : Nat → Nat → Int32) : Int32 := if t 0 2 < 0 then (-1 : Int32) else if t 0 1 ≤ t 0 2 then (-1 : Int32) else if t 0 2 < (60 : Int32) then (if t 1 ((t 0 2).toNatClampNeg) < (48 : Int32) then (-1 : Int32) else if (57 : Int32) < t 1 ((t 0 2).toNatClampNeg) then (-1 : Int32) else (t 1 ((t 0 2).toNatClampNeg)) - (48 : Int32)) else (-1 : Int32)
theorem q_X4_digitAtPlace : yX4_digitAtPlace.cls ≠ "java/lang/invoke/MethodHandle" ∧ yX4_digitAtPlace.cls ≠ "java/lang/invoke/VarHandle" ∧ (parseMethodDescriptor yX4_digitAtPlace.desc).map (fun d => d.parameters.length) = some 0 := ⟨by decide, by decide, by decide +kernel⟩
set_option maxHeartbeats 4000000 in
set_option maxRecDepth 100000 in
theorem c_X4_digitAtPlace (l : Launch) (G : kG) (a : Nat → Nat) (hI : gI 2 a) (t : Nat → Nat → Int32) : Met l yX4_digitAtPlace (Cond.code yX4_digitAtPlace cX4_digitAtPlace 2 (some .int) :: BIG) (rmK 0) (pcG G (tP G a t) [.ref (a 0)]) (qcI G (gA 2 a) (tP G a t) (v_X4_digitAtPlace t)) 0 0 (gA 2 a) := by
  refine m_start (by decide) (Nat.le_of_ble_eq_true rfl) ?_
  intro p e s m args below meth c S hr hlk hnm hP hK ls hl
  have hx := S.1
  have hb := S.2.1
  have hown := S.2.2.2.1
  have hS : va_S (gA 2 a) s.heap s.heap [] := va_S.rf
  have hl : lv_has ls 2 [(0, .ref (a 0))] := hl
  refine lv_aload_n hx hb dX4_digitAtPlace_0 rfl (lv_at hl 0 rfl) ?_
  refine g_get S hK hP (i := 0) (by omega) tC0 rfl inlX4 2 (by decide) k_523 (v := .int (t 0 2)) rfl dX4_digitAtPlace_1 ?_
  refine lv_if_lt (tgt := 30) hx hb dX4_digitAtPlace_4 (by decide) (fun c1 => ?_) (fun c1 => ?_)
  · skip
    refine lv_iconst (v := -1) hx hb dX4_digitAtPlace_30 (by decide) ?_
    exact e_int S hr hlk rfl hK hS hP (show v_X4_digitAtPlace t  = (-1 : Int32) from (if_pos c1).trans rfl).symm dX4_digitAtPlace_31
  · skip
    refine lv_aload_n hx hb dX4_digitAtPlace_7 rfl (lv_at hl 0 rfl) ?_
    refine g_get S hK hP (i := 0) (by omega) tC0 rfl inlX4 2 (by decide) k_523 (v := .int (t 0 2)) rfl dX4_digitAtPlace_8 ?_
    refine lv_aload_n hx hb dX4_digitAtPlace_11 rfl (lv_at hl 0 rfl) ?_
    refine g_get S hK hP (i := 0) (by omega) tC0 rfl inlX4 1 (by decide) k_501 (v := .int (t 0 1)) rfl dX4_digitAtPlace_12 ?_
    refine lv_icmp_ge (tgt := 30) hx hb dX4_digitAtPlace_15 (by decide) (fun c2 => ?_) (fun c2 => ?_)
    · skip
      refine lv_iconst (v := -1) hx hb dX4_digitAtPlace_30 (by decide) ?_
      exact e_int S hr hlk rfl hK hS hP (show v_X4_digitAtPlace t  = (-1 : Int32) from (if_neg c1).trans ((if_pos c2).trans rfl)).symm dX4_digitAtPlace_31
    · skip
      refine lv_aload_n hx hb dX4_digitAtPlace_18 rfl (lv_at hl 0 rfl) ?_
      refine g_get S hK hP (i := 0) (by omega) tC0 rfl inlX4 2 (by decide) k_523 (v := .int (t 0 2)) rfl dX4_digitAtPlace_19 ?_
      refine lv_aload_n hx hb dX4_digitAtPlace_22 rfl (lv_at hl 0 rfl) ?_
      refine g_get S hK hP (i := 0) (by omega) tC0 rfl inlX4 0 (by decide) k_62 (v := .ref (a 1)) rfl dX4_digitAtPlace_23 ?_
      refine g_alen S hK hP (i := 1) (by omega) (tC1 _) 1 rfl (v := 60) rfl dX4_digitAtPlace_26 ?_
      refine lv_icmp_lt (tgt := 32) hx hb dX4_digitAtPlace_27 (by decide) (fun c3 => ?_) (fun c3 => ?_)
      · skip
        refine lv_aload_n hx hb dX4_digitAtPlace_32 rfl (lv_at hl 0 rfl) ?_
        refine g_get S hK hP (i := 0) (by omega) tC0 rfl inlX4 0 (by decide) k_62 (v := .ref (a 1)) rfl dX4_digitAtPlace_33 ?_
        refine lv_aload_n hx hb dX4_digitAtPlace_36 rfl (lv_at hl 0 rfl) ?_
        refine g_get S hK hP (i := 0) (by omega) tC0 rfl inlX4 2 (by decide) k_523 (v := .int (t 0 2)) rfl dX4_digitAtPlace_37 ?_
        refine g_cald S hK hP (i := 1) (by omega) tC1 (vp_of (vp_lo1 c1) (vp_hi2 (n := 60) c3 rfl (by decide))) (v := t 1 ((t 0 2).toNatClampNeg)) (rfl) dX4_digitAtPlace_40 ?_
        refine lv_istore_n (lv' := [(1, .int (t 1 ((t 0 2).toNatClampNeg))), (0, .ref (a 0))]) hx hb dX4_digitAtPlace_41 rfl hl (by decide) rfl (fun ls hl => ?_)
        refine lv_iload_n hx hb dX4_digitAtPlace_42 rfl (lv_at hl 0 rfl) ?_
        refine lv_bipush (v := 48) hx hb dX4_digitAtPlace_43 (by decide) ?_
        refine lv_icmp_lt (tgt := 61) hx hb dX4_digitAtPlace_45 (by decide) (fun c4 => ?_) (fun c4 => ?_)
        · skip
          refine lv_iconst (v := -1) hx hb dX4_digitAtPlace_61 (by decide) ?_
          exact e_int S hr hlk rfl hK hS hP (show v_X4_digitAtPlace t  = (-1 : Int32) from (if_neg c1).trans ((if_neg c2).trans ((if_pos c3).trans ((if_pos c4).trans rfl)))).symm dX4_digitAtPlace_62
        · skip
          refine lv_iload_n hx hb dX4_digitAtPlace_48 rfl (lv_at hl 0 rfl) ?_
          refine lv_bipush (v := 57) hx hb dX4_digitAtPlace_49 (by decide) ?_
          refine lv_icmp_gt (tgt := 61) hx hb dX4_digitAtPlace_51 (by decide) (fun c5 => ?_) (fun c5 => ?_)
          · skip
            refine lv_iconst (v := -1) hx hb dX4_digitAtPlace_61 (by decide) ?_
            exact e_int S hr hlk rfl hK hS hP (show v_X4_digitAtPlace t  = (-1 : Int32) from (if_neg c1).trans ((if_neg c2).trans ((if_pos c3).trans ((if_neg c4).trans ((if_pos c5).trans rfl))))).symm dX4_digitAtPlace_62
          · skip
            refine lv_iload_n hx hb dX4_digitAtPlace_54 rfl (lv_at hl 0 rfl) ?_
            refine lv_bipush (v := 48) hx hb dX4_digitAtPlace_55 (by decide) ?_
            refine lv_isub hx hb dX4_digitAtPlace_57 ?_
            refine lv_goto (tgt := 62) hx hb dX4_digitAtPlace_58 (by decide) ?_
            exact e_int S hr hlk rfl hK hS hP (show v_X4_digitAtPlace t  = (t 1 ((t 0 2).toNatClampNeg)) - (48 : Int32) from (if_neg c1).trans ((if_neg c2).trans ((if_pos c3).trans ((if_neg c4).trans ((if_neg c5).trans rfl))))).symm dX4_digitAtPlace_62
      · skip
        refine lv_iconst (v := -1) hx hb dX4_digitAtPlace_30 (by decide) ?_
        exact e_int S hr hlk rfl hK hS hP (show v_X4_digitAtPlace t  = (-1 : Int32) from (if_neg c1).trans ((if_neg c2).trans ((if_neg c3).trans rfl))).symm dX4_digitAtPlace_31

def v_X4_skip (t : Nat → Nat → Int32) (p1 : Int32) : Int32 := if t 0 2 < 0 then (0 : Int32) else if t 0 1 ≤ t 0 2 then (0 : Int32) else if (60 : Int32) ≤ t 0 2 then (0 : Int32) else if t 1 ((t 0 2).toNatClampNeg) = p1 then (1 : Int32) else (0 : Int32)
def w_X4_skip (t : Nat → Nat → Int32) (p1 : Int32) : Nat → Nat → Int32 := if t 0 2 < 0 then t else if t 0 1 ≤ t 0 2 then t else if (60 : Int32) ≤ t 0 2 then t else if t 1 ((t 0 2).toNatClampNeg) = p1 then (up t 0 2 ((t 0 2) + (1 : Int32))) else t
theorem q_X4_skip : yX4_skip.cls ≠ "java/lang/invoke/MethodHandle" ∧ yX4_skip.cls ≠ "java/lang/invoke/VarHandle" ∧ (parseMethodDescriptor yX4_skip.desc).map (fun d => d.parameters.length) = some 1 := ⟨by decide, by decide, by decide +kernel⟩
theorem z_X4_skip (t : Nat → Nat → Int32) (p1 : Int32) : narrow .boolean (.int (v_X4_skip t p1)) = .int (v_X4_skip t p1) := by
  unfold v_X4_skip
  exact z_ite z_0 (z_ite z_0 (z_ite z_0 (z_ite z_1 z_0)))
set_option maxHeartbeats 4000000 in
set_option maxRecDepth 100000 in
theorem c_X4_skip (l : Launch) (G : kG) (a : Nat → Nat) (hI : gI 2 a) (t : Nat → Nat → Int32) (p1 : Int32) : Met l yX4_skip (Cond.code yX4_skip cX4_skip 2 (some .boolean) :: BIG) (rmK 0) (pcG G (tP G a t) [.ref (a 0), .int p1]) (qcI G (gA 2 a) (tP G a (w_X4_skip t p1)) (v_X4_skip t p1)) 0 0 (gA 2 a) := by
  refine m_start (by decide) (Nat.le_of_ble_eq_true rfl) ?_
  intro p e s m args below meth c S hr hlk hnm hP hK ls hl
  have hx := S.1
  have hb := S.2.1
  have hown := S.2.2.2.1
  have hS : va_S (gA 2 a) s.heap s.heap [] := va_S.rf
  have hl : lv_has ls 2 [(0, .ref (a 0)), (1, .int p1)] := hl
  refine lv_aload_n hx hb dX4_skip_0 rfl (lv_at hl 0 rfl) ?_
  refine g_get S hK hP (i := 0) (by omega) tC0 rfl inlX4 2 (by decide) k_523 (v := .int (t 0 2)) rfl dX4_skip_1 ?_
  refine lv_if_lt (tgt := 43) hx hb dX4_skip_4 (by decide) (fun c1 => ?_) (fun c1 => ?_)
  · skip
    refine lv_iconst (v := 0) hx hb dX4_skip_43 (by decide) ?_
    exact e_int S hr hlk rfl hK hS (gP_eq (show w_X4_skip t p1 = t from (if_pos c1).trans rfl) hP) (show v_X4_skip t p1 = (0 : Int32) from (if_pos c1).trans rfl).symm dX4_skip_44
  · skip
    refine lv_aload_n hx hb dX4_skip_7 rfl (lv_at hl 0 rfl) ?_
    refine g_get S hK hP (i := 0) (by omega) tC0 rfl inlX4 2 (by decide) k_523 (v := .int (t 0 2)) rfl dX4_skip_8 ?_
    refine lv_aload_n hx hb dX4_skip_11 rfl (lv_at hl 0 rfl) ?_
    refine g_get S hK hP (i := 0) (by omega) tC0 rfl inlX4 1 (by decide) k_501 (v := .int (t 0 1)) rfl dX4_skip_12 ?_
    refine lv_icmp_ge (tgt := 43) hx hb dX4_skip_15 (by decide) (fun c2 => ?_) (fun c2 => ?_)
    · skip
      refine lv_iconst (v := 0) hx hb dX4_skip_43 (by decide) ?_
      exact e_int S hr hlk rfl hK hS (gP_eq (show w_X4_skip t p1 = t from (if_neg c1).trans ((if_pos c2).trans rfl)) hP) (show v_X4_skip t p1 = (0 : Int32) from (if_neg c1).trans ((if_pos c2).trans rfl)).symm dX4_skip_44
    · skip
      refine lv_aload_n hx hb dX4_skip_18 rfl (lv_at hl 0 rfl) ?_
      refine g_get S hK hP (i := 0) (by omega) tC0 rfl inlX4 2 (by decide) k_523 (v := .int (t 0 2)) rfl dX4_skip_19 ?_
      refine lv_aload_n hx hb dX4_skip_22 rfl (lv_at hl 0 rfl) ?_
      refine g_get S hK hP (i := 0) (by omega) tC0 rfl inlX4 0 (by decide) k_62 (v := .ref (a 1)) rfl dX4_skip_23 ?_
      refine g_alen S hK hP (i := 1) (by omega) (tC1 _) 1 rfl (v := 60) rfl dX4_skip_26 ?_
      refine lv_icmp_ge (tgt := 43) hx hb dX4_skip_27 (by decide) (fun c3 => ?_) (fun c3 => ?_)
      · skip
        refine lv_iconst (v := 0) hx hb dX4_skip_43 (by decide) ?_
        exact e_int S hr hlk rfl hK hS (gP_eq (show w_X4_skip t p1 = t from (if_neg c1).trans ((if_neg c2).trans ((if_pos c3).trans rfl))) hP) (show v_X4_skip t p1 = (0 : Int32) from (if_neg c1).trans ((if_neg c2).trans ((if_pos c3).trans rfl))).symm dX4_skip_44
      · skip
        refine lv_aload_n hx hb dX4_skip_30 rfl (lv_at hl 0 rfl) ?_
        refine g_get S hK hP (i := 0) (by omega) tC0 rfl inlX4 0 (by decide) k_62 (v := .ref (a 1)) rfl dX4_skip_31 ?_
        refine lv_aload_n hx hb dX4_skip_34 rfl (lv_at hl 0 rfl) ?_
        refine g_get S hK hP (i := 0) (by omega) tC0 rfl inlX4 2 (by decide) k_523 (v := .int (t 0 2)) rfl dX4_skip_35 ?_
        refine g_cald S hK hP (i := 1) (by omega) tC1 (vp_of (vp_lo1 c1) (vp_hi1 (n := 60) c3 rfl (by decide))) (v := t 1 ((t 0 2).toNatClampNeg)) (rfl) dX4_skip_38 ?_
        refine lv_iload_n hx hb dX4_skip_39 rfl (lv_at hl 1 rfl) ?_
        refine lv_icmp_eq (tgt := 45) hx hb dX4_skip_40 (by decide) (fun c4 => ?_) (fun c4 => ?_)
        · skip
          refine lv_aload_n hx hb dX4_skip_45 rfl (lv_at hl 0 rfl) ?_
          refine lv_dup hx hb dX4_skip_46 rfl ?_
          refine g_get S hK hP (i := 0) (by omega) tC0 rfl inlX4 2 (by decide) k_523 (v := .int (t 0 2)) rfl dX4_skip_47 ?_
          refine lv_iconst (v := 1) hx hb dX4_skip_50 (by decide) ?_
          refine lv_iadd hx hb dX4_skip_51 ?_
          refine g_put S hK hP hI hS (i := 0) (by omega) tC0 rfl inlX4 tyX4 tyX4_ok nmX4 tF_n 2 (by decide) k_523 rfl pI rfl rfl (fun _ => rfl) dX4_skip_52 (fun H locs hP hS => ?_)
          have hP : tP G a (up t 0 2 ((t 0 2) + (1 : Int32))) H := hP
          refine lv_iconst (v := 1) hx hb dX4_skip_55 (by decide) ?_
          exact e_int S hr hlk rfl hK hS (gP_eq (show w_X4_skip t p1 = up t 0 2 ((t 0 2) + (1 : Int32)) from (if_neg c1).trans ((if_neg c2).trans ((if_neg c3).trans ((if_pos c4).trans rfl)))) hP) (show v_X4_skip t p1 = (1 : Int32) from (if_neg c1).trans ((if_neg c2).trans ((if_neg c3).trans ((if_pos c4).trans rfl)))).symm dX4_skip_56
        · skip
          refine lv_iconst (v := 0) hx hb dX4_skip_43 (by decide) ?_
          exact e_int S hr hlk rfl hK hS (gP_eq (show w_X4_skip t p1 = t from (if_neg c1).trans ((if_neg c2).trans ((if_neg c3).trans ((if_neg c4).trans rfl)))) hP) (show v_X4_skip t p1 = (0 : Int32) from (if_neg c1).trans ((if_neg c2).trans ((if_neg c3).trans ((if_neg c4).trans rfl)))).symm dX4_skip_44
end
section
theorem i32_1 {x : Int32} {n : Nat} (h0 : 0 ≤ x.toInt) (h1 : x.toInt < n) (hn : n < 2 ^ 31) : (x + 1).toInt = x.toInt + 1 := by
  obtain ⟨j, hj, rfl⟩ := vp_in_of (vp_of h0 h1) hn
  rw [nI_1, nI_toInt (by omega), nI_toInt (by omega)]
  rfl
theorem digit_ok {t : Nat → Nat → Int32} (h : ¬ v_X4_digitAtPlace t = (-1 : Int32)) : 0 ≤ (t 0 2).toInt ∧ (t 0 2).toInt < 60 := by
  unfold v_X4_digitAtPlace at h
  by_cases h1 : t 0 2 < 0
  · exact absurd (if_pos h1) h
  · rw [if_neg h1] at h
    by_cases h2 : t 0 1 ≤ t 0 2
    · exact absurd (if_pos h2) h
    · rw [if_neg h2] at h
      by_cases h3 : t 0 2 < (60 : Int32)
      · exact ⟨vp_lo1 h1, vp_hi2 (n := 60) h3 rfl (by decide)⟩
      · exact absurd (if_neg h3) h
theorem digit_big {t : Nat → Nat → Int32} (h : 60 ≤ (t 0 2).toInt) : v_X4_digitAtPlace t = (-1 : Int32) := by
  by_cases h1 : v_X4_digitAtPlace t = (-1 : Int32)
  · exact h1
  · have := (digit_ok h1).2
    omega
theorem place_step {t : Nat → Nat → Int32} {n : Nat} (h : ¬ v_X4_digitAtPlace t = (-1 : Int32)) (hm : 61 ≤ (t 0 2).toInt + ((n + 1 : Nat) : Int)) : 61 ≤ ((up t 0 2 (t 0 2 + (1 : Int32))) 0 2).toInt + (n : Int) := by
  obtain ⟨h1, h2⟩ := digit_ok h
  rw [up_same, i32_1 (n := 60) h1 (by omega) (by decide)]
  omega
theorem place_init {t : Nat → Nat → Int32} {p1 : Int32} (h : ¬ v_X4_digitAtPlace t < p1) (h0 : ¬ p1 < 0) : 61 ≤ ((up t 0 2 (t 0 2 + (1 : Int32))) 0 2).toInt + ((61 : Nat) : Int) := by
  have h2 : ¬ v_X4_digitAtPlace t = (-1 : Int32) := by
    intro z
    rw [z] at h
    have h3 := vp_lo1 h0
    have h4 := Int32.le_iff_toInt_le.mp (Int32.not_lt.mp h)
    have h5 : (-1 : Int32).toInt = -1 := by decide
    omega
  obtain ⟨h3, h4⟩ := digit_ok h2
  rw [up_same, i32_1 (n := 60) h3 (by omega) (by decide)]
  omega
end
section
def v_X4_readNumber_loop (p1 : Int32) (p2 : Int32) : Nat → (Nat → Nat → Int32) → Int32 → Int32
  | 0, t, x3 => if x3 ≤ 0 then x3 else if t 0 1 ≤ t 0 2 then x3 else x3
  | n + 1, t, x3 => if x3 ≤ 0 then x3 else if t 0 1 ≤ t 0 2 then x3 else if v_X4_digitAtPlace t = (-1 : Int32) then x3 else if (x3 * (10 : Int32)) + (v_X4_digitAtPlace t) ≤ p2 then (v_X4_readNumber_loop p1 p2 n (up t 0 2 ((t 0 2) + (1 : Int32))) ((x3 * (10 : Int32)) + (v_X4_digitAtPlace t))) else x3
def w_X4_readNumber_loop (p1 : Int32) (p2 : Int32) : Nat → (Nat → Nat → Int32) → Int32 → (Nat → Nat → Int32)
  | 0, t, x3 => if x3 ≤ 0 then t else if t 0 1 ≤ t 0 2 then t else t
  | n + 1, t, x3 => if x3 ≤ 0 then t else if t 0 1 ≤ t 0 2 then t else if v_X4_digitAtPlace t = (-1 : Int32) then t else if (x3 * (10 : Int32)) + (v_X4_digitAtPlace t) ≤ p2 then (w_X4_readNumber_loop p1 p2 n (up t 0 2 ((t 0 2) + (1 : Int32))) ((x3 * (10 : Int32)) + (v_X4_digitAtPlace t))) else t
def v_X4_readNumber (t : Nat → Nat → Int32) (p1 : Int32) (p2 : Int32) : Int32 := if v_X4_digitAtPlace t < p1 then (-1 : Int32) else if v_X4_digitAtPlace t ≤ p2 then (v_X4_readNumber_loop p1 p2 61 (up t 0 2 ((t 0 2) + (1 : Int32))) (v_X4_digitAtPlace t)) else (-1 : Int32)
def w_X4_readNumber (t : Nat → Nat → Int32) (p1 : Int32) (p2 : Int32) : Nat → Nat → Int32 := if v_X4_digitAtPlace t < p1 then t else if v_X4_digitAtPlace t ≤ p2 then (w_X4_readNumber_loop p1 p2 61 (up t 0 2 ((t 0 2) + (1 : Int32))) (v_X4_digitAtPlace t)) else t
theorem q_X4_readNumber : yX4_readNumber.cls ≠ "java/lang/invoke/MethodHandle" ∧ yX4_readNumber.cls ≠ "java/lang/invoke/VarHandle" ∧ (parseMethodDescriptor yX4_readNumber.desc).map (fun d => d.parameters.length) = some 2 := ⟨by decide, by decide, by decide +kernel⟩
set_option maxHeartbeats 4000000 in
set_option maxRecDepth 100000 in
theorem c_X4_readNumber (l : Launch) (G : kG) (a : Nat → Nat) (hI : gI 2 a) (t : Nat → Nat → Int32) (p1 : Int32) (p2 : Int32) (hle : ¬ p1 < 0) : Met l yX4_readNumber (Cond.code yX4_readNumber cX4_readNumber 5 (some .int) :: BIG) (rmK 1) (pcG G (tP G a t) [.ref (a 0), .int p1, .int p2]) (qcI G (gA 2 a) (tP G a (w_X4_readNumber t p1 p2)) (v_X4_readNumber t p1 p2)) 0 0 (gA 2 a) := by
  refine m_start (by decide) (Nat.le_of_ble_eq_true rfl) ?_
  intro p e s m args below meth c S hr hlk hnm hP hK ls hl
  have hx := S.1
  have hb := S.2.1
  have hown := S.2.2.2.1
  have hS : va_S (gA 2 a) s.heap s.heap [] := va_S.rf
  have hl : lv_has ls 5 [(0, .ref (a 0)), (1, .int p1), (2, .int p2)] := hl
  refine lv_aload_n hx hb dX4_readNumber_0 rfl (lv_at hl 0 rfl) ?_
  refine r_callI S hK hP (c_X4_digitAtPlace l G a hI t ) (r_cw S k_556 k_553 k_554 k_555 k_24 q_X4_digitAtPlace ⟨Nat.le_of_ble_eq_true rfl, Nat.le_of_ble_eq_true rfl⟩ rfl rfl) (g_recv hK hP (i := 0) (by omega) tC0 rfl) rfl hl.1 rfl (Nat.le_of_ble_eq_true rfl) dX4_readNumber_1 ⟨Nat.zero_le _, Nat.zero_le _⟩ hS (fun _ h => h) (fun H locs hP _ _ hS => ?_)
  have hP : tP G a t H := hP
  refine lv_istore_n (lv' := [(3, .int (v_X4_digitAtPlace t)), (0, .ref (a 0)), (1, .int p1), (2, .int p2)]) hx hb dX4_readNumber_4 rfl hl (by decide) rfl (fun ls hl => ?_)
  refine lv_iload_n hx hb dX4_readNumber_5 rfl (lv_at hl 0 rfl) ?_
  refine lv_iload_n hx hb dX4_readNumber_6 rfl (lv_at hl 2 rfl) ?_
  refine lv_icmp_lt (tgt := 15) hx hb dX4_readNumber_7 (by decide) (fun c1 => ?_) (fun c1 => ?_)
  · skip
    refine lv_iconst (v := -1) hx hb dX4_readNumber_15 (by decide) ?_
    exact e_int S hr hlk rfl hK hS (gP_eq (show w_X4_readNumber t p1 p2 = t from (if_pos c1).trans rfl) hP) (show v_X4_readNumber t p1 p2 = (-1 : Int32) from (if_pos c1).trans rfl).symm dX4_readNumber_16
  · skip
    refine lv_iload_n hx hb dX4_readNumber_10 rfl (lv_at hl 0 rfl) ?_
    refine lv_iload_n hx hb dX4_readNumber_11 rfl (lv_at hl 3 rfl) ?_
    refine lv_icmp_le (tgt := 17) hx hb dX4_readNumber_12 (by decide) (fun c2 => ?_) (fun c2 => ?_)
    · skip
      refine lv_aload_n hx hb dX4_readNumber_17 rfl (lv_at hl 1 rfl) ?_
      refine lv_dup hx hb dX4_readNumber_18 rfl ?_
      refine g_get S hK hP (i := 0) (by omega) tC0 rfl inlX4 2 (by decide) k_523 (v := .int (t 0 2)) rfl dX4_readNumber_19 ?_
      refine lv_iconst (v := 1) hx hb dX4_readNumber_22 (by decide) ?_
      refine lv_iadd hx hb dX4_readNumber_23 ?_
      refine g_put S hK hP hI hS (i := 0) (by omega) tC0 rfl inlX4 tyX4 tyX4_ok nmX4 tF_n 2 (by decide) k_523 rfl pI rfl rfl (fun _ => rfl) dX4_readNumber_24 (fun H locs hP hS => ?_)
      have hP : tP G a (up t 0 2 ((t 0 2) + (1 : Int32))) H := hP
      have LP_loop : ∀ (n : Nat), True → ∀ (t : Nat → Nat → Int32) (x3 : Int32) (H : Heap) (locs : List Loc), tP G a t H → va_S (gA 2 a) s.heap H locs → 61 ≤ (t 0 2).toInt + (n : Int) → ∀ ls : Array Slot, lv_has ls 5 [(3, .int x3), (0, .ref (a 0)), (1, .int p1), (2, .int p2)] → W p l e (rmK 1) s m args below meth c H locs 0 0 (MQ below (qcI G (gA 2 a) (tP G a (w_X4_readNumber_loop p1 p2 n t x3)) (v_X4_readNumber_loop p1 p2 n t x3)) args s 0 0 (gA 2 a)) (F0 m 27 ls []) := by
        intro n
        induction n with
        | zero =>
          intro  hk_LP_loop t x3 H locs hP hS hm_ ls hl
          refine lv_iload_n hx hb dX4_readNumber_27 rfl (lv_at hl 0 rfl) ?_
          refine lv_if_le (tgt := 88) hx hb dX4_readNumber_28 (by decide) (fun c3 => ?_) (fun c3 => ?_)
          · skip
            refine lv_iload_n hx hb dX4_readNumber_88 rfl (lv_at hl 0 rfl) ?_
            exact e_int S hr hlk rfl hK hS (gP_eq (show w_X4_readNumber_loop p1 p2 0 t x3 = t from (if_pos c3).trans rfl) hP) (show v_X4_readNumber_loop p1 p2 0 t x3 = x3 from (if_pos c3).trans rfl).symm dX4_readNumber_89
          · skip
            refine lv_aload_n hx hb dX4_readNumber_31 rfl (lv_at hl 1 rfl) ?_
            refine g_get S hK hP (i := 0) (by omega) tC0 rfl inlX4 2 (by decide) k_523 (v := .int (t 0 2)) rfl dX4_readNumber_32 ?_
            refine lv_aload_n hx hb dX4_readNumber_35 rfl (lv_at hl 1 rfl) ?_
            refine g_get S hK hP (i := 0) (by omega) tC0 rfl inlX4 1 (by decide) k_501 (v := .int (t 0 1)) rfl dX4_readNumber_36 ?_
            refine lv_icmp_ge (tgt := 88) hx hb dX4_readNumber_39 (by decide) (fun c4 => ?_) (fun c4 => ?_)
            · skip
              refine lv_iload_n hx hb dX4_readNumber_88 rfl (lv_at hl 0 rfl) ?_
              exact e_int S hr hlk rfl hK hS (gP_eq (show w_X4_readNumber_loop p1 p2 0 t x3 = t from (if_neg c3).trans ((if_pos c4).trans rfl)) hP) (show v_X4_readNumber_loop p1 p2 0 t x3 = x3 from (if_neg c3).trans ((if_pos c4).trans rfl)).symm dX4_readNumber_89
            · skip
              refine lv_aload_n hx hb dX4_readNumber_42 rfl (lv_at hl 1 rfl) ?_
              refine r_callI S hK hP (c_X4_digitAtPlace l G a hI t ) (r_cw S k_556 k_553 k_554 k_555 k_24 q_X4_digitAtPlace ⟨Nat.le_of_ble_eq_true rfl, Nat.le_of_ble_eq_true rfl⟩ rfl rfl) (g_recv hK hP (i := 0) (by omega) tC0 rfl) rfl hl.1 rfl (Nat.le_of_ble_eq_true rfl) dX4_readNumber_43 ⟨Nat.zero_le _, Nat.zero_le _⟩ hS (fun _ h => h) (fun H locs hP _ _ hS => ?_)
              have hP : tP G a t H := hP
              refine lv_istore (lv' := [(4, .int (v_X4_digitAtPlace t)), (3, .int x3), (0, .ref (a 0)), (1, .int p1), (2, .int p2)]) hx hb dX4_readNumber_46 hl (by decide) rfl (fun ls hl => ?_)
              refine lv_iload hx hb dX4_readNumber_48 (lv_at hl 0 rfl) ?_
              refine lv_iconst (v := -1) hx hb dX4_readNumber_50 (by decide) ?_
              refine lv_icmp_eq (tgt := 65) hx hb dX4_readNumber_51 (by decide) (fun _ => ?_) (fun c => absurd (digit_big (by omega)) c)
              refine lv_iload_n hx hb dX4_readNumber_65 rfl (lv_at hl 1 rfl) ?_
              exact e_int S hr hlk rfl hK hS (gP_eq (show w_X4_readNumber_loop p1 p2 0 t x3 = t from (if_neg c3).trans ((if_neg c4).trans rfl)) hP) (show v_X4_readNumber_loop p1 p2 0 t x3 = x3 from (if_neg c3).trans ((if_neg c4).trans rfl)).symm dX4_readNumber_66
        | succ n ih_LP_loop =>
          intro  hk_LP_loop t x3 H locs hP hS hm_ ls hl
          refine lv_iload_n hx hb dX4_readNumber_27 rfl (lv_at hl 0 rfl) ?_
          refine lv_if_le (tgt := 88) hx hb dX4_readNumber_28 (by decide) (fun c5 => ?_) (fun c5 => ?_)
          · skip
            refine lv_iload_n hx hb dX4_readNumber_88 rfl (lv_at hl 0 rfl) ?_
            exact e_int S hr hlk rfl hK hS (gP_eq (show w_X4_readNumber_loop p1 p2 (n + 1) t x3 = t from (if_pos c5).trans rfl) hP) (show v_X4_readNumber_loop p1 p2 (n + 1) t x3 = x3 from (if_pos c5).trans rfl).symm dX4_readNumber_89
          · skip
            refine lv_aload_n hx hb dX4_readNumber_31 rfl (lv_at hl 1 rfl) ?_
            refine g_get S hK hP (i := 0) (by omega) tC0 rfl inlX4 2 (by decide) k_523 (v := .int (t 0 2)) rfl dX4_readNumber_32 ?_
            refine lv_aload_n hx hb dX4_readNumber_35 rfl (lv_at hl 1 rfl) ?_
            refine g_get S hK hP (i := 0) (by omega) tC0 rfl inlX4 1 (by decide) k_501 (v := .int (t 0 1)) rfl dX4_readNumber_36 ?_
            refine lv_icmp_ge (tgt := 88) hx hb dX4_readNumber_39 (by decide) (fun c6 => ?_) (fun c6 => ?_)
            · skip
              refine lv_iload_n hx hb dX4_readNumber_88 rfl (lv_at hl 0 rfl) ?_
              exact e_int S hr hlk rfl hK hS (gP_eq (show w_X4_readNumber_loop p1 p2 (n + 1) t x3 = t from (if_neg c5).trans ((if_pos c6).trans rfl)) hP) (show v_X4_readNumber_loop p1 p2 (n + 1) t x3 = x3 from (if_neg c5).trans ((if_pos c6).trans rfl)).symm dX4_readNumber_89
            · skip
              refine lv_aload_n hx hb dX4_readNumber_42 rfl (lv_at hl 1 rfl) ?_
              refine r_callI S hK hP (c_X4_digitAtPlace l G a hI t ) (r_cw S k_556 k_553 k_554 k_555 k_24 q_X4_digitAtPlace ⟨Nat.le_of_ble_eq_true rfl, Nat.le_of_ble_eq_true rfl⟩ rfl rfl) (g_recv hK hP (i := 0) (by omega) tC0 rfl) rfl hl.1 rfl (Nat.le_of_ble_eq_true rfl) dX4_readNumber_43 ⟨Nat.zero_le _, Nat.zero_le _⟩ hS (fun _ h => h) (fun H locs hP _ _ hS => ?_)
              have hP : tP G a t H := hP
              refine lv_istore (lv' := [(4, .int (v_X4_digitAtPlace t)), (3, .int x3), (0, .ref (a 0)), (1, .int p1), (2, .int p2)]) hx hb dX4_readNumber_46 hl (by decide) rfl (fun ls hl => ?_)
              refine lv_iload hx hb dX4_readNumber_48 (lv_at hl 0 rfl) ?_
              refine lv_iconst (v := -1) hx hb dX4_readNumber_50 (by decide) ?_
              refine lv_icmp_eq (tgt := 65) hx hb dX4_readNumber_51 (by decide) (fun c7 => ?_) (fun c7 => ?_)
              · skip
                refine lv_iload_n hx hb dX4_readNumber_65 rfl (lv_at hl 1 rfl) ?_
                exact e_int S hr hlk rfl hK hS (gP_eq (show w_X4_readNumber_loop p1 p2 (n + 1) t x3 = t from (if_neg c5).trans ((if_neg c6).trans ((if_pos c7).trans rfl))) hP) (show v_X4_readNumber_loop p1 p2 (n + 1) t x3 = x3 from (if_neg c5).trans ((if_neg c6).trans ((if_pos c7).trans rfl))).symm dX4_readNumber_66
              · skip
                refine lv_iload_n hx hb dX4_readNumber_54 rfl (lv_at hl 1 rfl) ?_
                refine lv_bipush (v := 10) hx hb dX4_readNumber_55 (by decide) ?_
                refine lv_imul hx hb dX4_readNumber_57 ?_
                refine lv_iload hx hb dX4_readNumber_58 (lv_at hl 0 rfl) ?_
                refine lv_iadd hx hb dX4_readNumber_60 ?_
                refine lv_iload_n hx hb dX4_readNumber_61 rfl (lv_at hl 4 rfl) ?_
                refine lv_icmp_le (tgt := 67) hx hb dX4_readNumber_62 (by decide) (fun c8 => ?_) (fun c8 => ?_)
                · skip
                  refine lv_iload_n hx hb dX4_readNumber_67 rfl (lv_at hl 1 rfl) ?_
                  refine lv_bipush (v := 10) hx hb dX4_readNumber_68 (by decide) ?_
                  refine lv_imul hx hb dX4_readNumber_70 ?_
                  refine lv_iload hx hb dX4_readNumber_71 (lv_at hl 0 rfl) ?_
                  refine lv_iadd hx hb dX4_readNumber_73 ?_
                  refine lv_istore_n (lv' := [(3, .int ((x3 * (10 : Int32)) + (v_X4_digitAtPlace t))), (4, .int (v_X4_digitAtPlace t)), (0, .ref (a 0)), (1, .int p1), (2, .int p2)]) hx hb dX4_readNumber_74 rfl hl (by decide) rfl (fun ls hl => ?_)
                  refine lv_aload_n hx hb dX4_readNumber_75 rfl (lv_at hl 2 rfl) ?_
                  refine lv_dup hx hb dX4_readNumber_76 rfl ?_
                  refine g_get S hK hP (i := 0) (by omega) tC0 rfl inlX4 2 (by decide) k_523 (v := .int (t 0 2)) rfl dX4_readNumber_77 ?_
                  refine lv_iconst (v := 1) hx hb dX4_readNumber_80 (by decide) ?_
                  refine lv_iadd hx hb dX4_readNumber_81 ?_
                  refine g_put S hK hP hI hS (i := 0) (by omega) tC0 rfl inlX4 tyX4 tyX4_ok nmX4 tF_n 2 (by decide) k_523 rfl pI rfl rfl (fun _ => rfl) dX4_readNumber_82 (fun H locs hP hS => ?_)
                  have hP : tP G a (up t 0 2 ((t 0 2) + (1 : Int32))) H := hP
                  refine lv_goto (tgt := 27) hx hb dX4_readNumber_85 (by decide) ?_
                  refine q_eqI (show v_X4_readNumber_loop p1 p2 (n + 1) t x3 = v_X4_readNumber_loop p1 p2 n (up t 0 2 ((t 0 2) + (1 : Int32))) ((x3 * (10 : Int32)) + (v_X4_digitAtPlace t)) from (if_neg c5).trans ((if_neg c6).trans ((if_neg c7).trans ((if_pos c8).trans rfl)))) (show w_X4_readNumber_loop p1 p2 (n + 1) t x3 = w_X4_readNumber_loop p1 p2 n (up t 0 2 ((t 0 2) + (1 : Int32))) ((x3 * (10 : Int32)) + (v_X4_digitAtPlace t)) from (if_neg c5).trans ((if_neg c6).trans ((if_neg c7).trans ((if_pos c8).trans rfl)))) ?_
                  exact ih_LP_loop  trivial _ _ _ _ hP hS (place_step c7 hm_) ls (lv_sub hl [0, 2, 3, 4] rfl)
                · skip
                  refine lv_iload_n hx hb dX4_readNumber_65 rfl (lv_at hl 1 rfl) ?_
                  exact e_int S hr hlk rfl hK hS (gP_eq (show w_X4_readNumber_loop p1 p2 (n + 1) t x3 = t from (if_neg c5).trans ((if_neg c6).trans ((if_neg c7).trans ((if_neg c8).trans rfl)))) hP) (show v_X4_readNumber_loop p1 p2 (n + 1) t x3 = x3 from (if_neg c5).trans ((if_neg c6).trans ((if_neg c7).trans ((if_neg c8).trans rfl)))).symm dX4_readNumber_66
      refine q_eqI (show v_X4_readNumber t p1 p2 = v_X4_readNumber_loop p1 p2 61 (up t 0 2 ((t 0 2) + (1 : Int32))) (v_X4_digitAtPlace t) from (if_neg c1).trans ((if_pos c2).trans rfl)) (show w_X4_readNumber t p1 p2 = w_X4_readNumber_loop p1 p2 61 (up t 0 2 ((t 0 2) + (1 : Int32))) (v_X4_digitAtPlace t) from (if_neg c1).trans ((if_pos c2).trans rfl)) ?_
      exact LP_loop 61  trivial _ _ _ _ hP hS (place_init c1 hle) ls (lv_sub hl [0, 1, 2, 3] rfl)
    · skip
      refine lv_iconst (v := -1) hx hb dX4_readNumber_15 (by decide) ?_
      exact e_int S hr hlk rfl hK hS (gP_eq (show w_X4_readNumber t p1 p2 = t from (if_neg c1).trans ((if_neg c2).trans rfl)) hP) (show v_X4_readNumber t p1 p2 = (-1 : Int32) from (if_neg c1).trans ((if_neg c2).trans rfl)).symm dX4_readNumber_16

def v_X4_readCustomerAndAmount (t : Nat → Nat → Int32) (p1 : Int32) : Int32 := if v_X4_readNumber t (0 : Int32) (7 : Int32) = (-1 : Int32) then (0 : Int32) else if v_X4_skip (up (w_X4_readNumber t (0 : Int32) (7 : Int32)) 0 4 (v_X4_readNumber t (0 : Int32) (7 : Int32))) (58 : Int32) = 0 then (0 : Int32) else if v_X4_readNumber (w_X4_skip (up (w_X4_readNumber t (0 : Int32) (7 : Int32)) 0 4 (v_X4_readNumber t (0 : Int32) (7 : Int32))) (58 : Int32)) (1 : Int32) p1 = (-1 : Int32) then (0 : Int32) else (1 : Int32)
def w_X4_readCustomerAndAmount (t : Nat → Nat → Int32) (p1 : Int32) : Nat → Nat → Int32 := if v_X4_readNumber t (0 : Int32) (7 : Int32) = (-1 : Int32) then (up (w_X4_readNumber t (0 : Int32) (7 : Int32)) 0 4 (v_X4_readNumber t (0 : Int32) (7 : Int32))) else if v_X4_skip (up (w_X4_readNumber t (0 : Int32) (7 : Int32)) 0 4 (v_X4_readNumber t (0 : Int32) (7 : Int32))) (58 : Int32) = 0 then (w_X4_skip (up (w_X4_readNumber t (0 : Int32) (7 : Int32)) 0 4 (v_X4_readNumber t (0 : Int32) (7 : Int32))) (58 : Int32)) else if v_X4_readNumber (w_X4_skip (up (w_X4_readNumber t (0 : Int32) (7 : Int32)) 0 4 (v_X4_readNumber t (0 : Int32) (7 : Int32))) (58 : Int32)) (1 : Int32) p1 = (-1 : Int32) then (up (w_X4_readNumber (w_X4_skip (up (w_X4_readNumber t (0 : Int32) (7 : Int32)) 0 4 (v_X4_readNumber t (0 : Int32) (7 : Int32))) (58 : Int32)) (1 : Int32) p1) 0 5 (v_X4_readNumber (w_X4_skip (up (w_X4_readNumber t (0 : Int32) (7 : Int32)) 0 4 (v_X4_readNumber t (0 : Int32) (7 : Int32))) (58 : Int32)) (1 : Int32) p1)) else up (w_X4_readNumber (w_X4_skip (up (w_X4_readNumber t (0 : Int32) (7 : Int32)) 0 4 (v_X4_readNumber t (0 : Int32) (7 : Int32))) (58 : Int32)) (1 : Int32) p1) 0 5 (v_X4_readNumber (w_X4_skip (up (w_X4_readNumber t (0 : Int32) (7 : Int32)) 0 4 (v_X4_readNumber t (0 : Int32) (7 : Int32))) (58 : Int32)) (1 : Int32) p1)
theorem q_X4_readCustomerAndAmount : yX4_readCustomerAndAmount.cls ≠ "java/lang/invoke/MethodHandle" ∧ yX4_readCustomerAndAmount.cls ≠ "java/lang/invoke/VarHandle" ∧ (parseMethodDescriptor yX4_readCustomerAndAmount.desc).map (fun d => d.parameters.length) = some 1 := ⟨by decide, by decide, by decide +kernel⟩
theorem z_X4_readCustomerAndAmount (t : Nat → Nat → Int32) (p1 : Int32) : narrow .boolean (.int (v_X4_readCustomerAndAmount t p1)) = .int (v_X4_readCustomerAndAmount t p1) := by
  unfold v_X4_readCustomerAndAmount
  exact z_ite z_0 (z_ite z_0 (z_ite z_0 z_1))
set_option maxHeartbeats 4000000 in
set_option maxRecDepth 100000 in
theorem c_X4_readCustomerAndAmount (l : Launch) (G : kG) (a : Nat → Nat) (hI : gI 2 a) (t : Nat → Nat → Int32) (p1 : Int32) : Met l yX4_readCustomerAndAmount (Cond.code yX4_readCustomerAndAmount cX4_readCustomerAndAmount 2 (some .boolean) :: BIG) (rmK 2) (pcG G (tP G a t) [.ref (a 0), .int p1]) (qcI G (gA 2 a) (tP G a (w_X4_readCustomerAndAmount t p1)) (v_X4_readCustomerAndAmount t p1)) 0 0 (gA 2 a) := by
  refine m_start (by decide) (Nat.le_of_ble_eq_true rfl) ?_
  intro p e s m args below meth c S hr hlk hnm hP hK ls hl
  have hx := S.1
  have hb := S.2.1
  have hown := S.2.2.2.1
  have hS : va_S (gA 2 a) s.heap s.heap [] := va_S.rf
  have hl : lv_has ls 2 [(0, .ref (a 0)), (1, .int p1)] := hl
  refine lv_aload_n hx hb dX4_readCustomerAndAmount_0 rfl (lv_at hl 0 rfl) ?_
  refine lv_aload_n hx hb dX4_readCustomerAndAmount_1 rfl (lv_at hl 0 rfl) ?_
  refine lv_iconst (v := 0) hx hb dX4_readCustomerAndAmount_2 (by decide) ?_
  refine lv_bipush (v := 7) hx hb dX4_readCustomerAndAmount_3 (by decide) ?_
  refine r_callI S hK hP (c_X4_readNumber l G a hI t _ _ (by decide)) (r_cw S k_552 k_549 k_550 k_551 k_24 q_X4_readNumber ⟨Nat.le_of_ble_eq_true rfl, Nat.le_of_ble_eq_true rfl⟩ rfl rfl) (g_recv hK hP (i := 0) (by omega) tC0 rfl) rfl hl.1 rfl (Nat.le_of_ble_eq_true rfl) dX4_readCustomerAndAmount_5 ⟨Nat.zero_le _, Nat.zero_le _⟩ hS (fun _ h => h) (fun H locs hP _ _ hS => ?_)
  have hP : tP G a (w_X4_readNumber t (0 : Int32) (7 : Int32)) H := hP
  refine g_put S hK hP hI hS (i := 0) (by omega) tC0 rfl inlX4 tyX4 tyX4_ok nmX4 tF_n 4 (by decide) k_547 rfl pI rfl rfl (fun _ => rfl) dX4_readCustomerAndAmount_8 (fun H locs hP hS => ?_)
  have hP : tP G a (up (w_X4_readNumber t (0 : Int32) (7 : Int32)) 0 4 (v_X4_readNumber t (0 : Int32) (7 : Int32))) H := hP
  refine lv_aload_n hx hb dX4_readCustomerAndAmount_11 rfl (lv_at hl 0 rfl) ?_
  refine g_get S hK hP (i := 0) (by omega) tC0 rfl inlX4 4 (by decide) k_547 (v := .int (v_X4_readNumber t (0 : Int32) (7 : Int32))) (congrArg Value.int (up_same)) dX4_readCustomerAndAmount_12 ?_
  refine lv_iconst (v := -1) hx hb dX4_readCustomerAndAmount_15 (by decide) ?_
  refine lv_icmp_eq (tgt := 28) hx hb dX4_readCustomerAndAmount_16 (by decide) (fun c1 => ?_) (fun c1 => ?_)
  · skip
    refine lv_iconst (v := 0) hx hb dX4_readCustomerAndAmount_28 (by decide) ?_
    exact e_int S hr hlk rfl hK hS (gP_eq (show w_X4_readCustomerAndAmount t p1 = up (w_X4_readNumber t (0 : Int32) (7 : Int32)) 0 4 (v_X4_readNumber t (0 : Int32) (7 : Int32)) from (if_pos c1).trans rfl) hP) (show v_X4_readCustomerAndAmount t p1 = (0 : Int32) from (if_pos c1).trans rfl).symm dX4_readCustomerAndAmount_29
  · skip
    refine lv_aload_n hx hb dX4_readCustomerAndAmount_19 rfl (lv_at hl 0 rfl) ?_
    refine lv_bipush (v := 58) hx hb dX4_readCustomerAndAmount_20 (by decide) ?_
    refine r_callI S hK hP (c_X4_skip l G a hI (up (w_X4_readNumber t (0 : Int32) (7 : Int32)) 0 4 (v_X4_readNumber t (0 : Int32) (7 : Int32))) _ ) (r_cw S k_537 k_534 k_535 k_536 k_24 q_X4_skip ⟨Nat.le_of_ble_eq_true rfl, Nat.le_of_ble_eq_true rfl⟩ rfl rfl) (g_recv hK hP (i := 0) (by omega) tC0 rfl) rfl hl.1 rfl (Nat.le_of_ble_eq_true rfl) dX4_readCustomerAndAmount_22 ⟨Nat.zero_le _, Nat.zero_le _⟩ hS (fun _ h => h) (fun H locs hP _ _ hS => ?_)
    have hP : tP G a (w_X4_skip (up (w_X4_readNumber t (0 : Int32) (7 : Int32)) 0 4 (v_X4_readNumber t (0 : Int32) (7 : Int32))) (58 : Int32)) H := hP
    refine lv_if_ne (tgt := 30) hx hb dX4_readCustomerAndAmount_25 (by decide) (fun c2 => ?_) (fun c2 => ?_)
    · skip
      refine lv_aload_n hx hb dX4_readCustomerAndAmount_30 rfl (lv_at hl 0 rfl) ?_
      refine lv_aload_n hx hb dX4_readCustomerAndAmount_31 rfl (lv_at hl 0 rfl) ?_
      refine lv_iconst (v := 1) hx hb dX4_readCustomerAndAmount_32 (by decide) ?_
      refine lv_iload_n hx hb dX4_readCustomerAndAmount_33 rfl (lv_at hl 1 rfl) ?_
      refine r_callI S hK hP (c_X4_readNumber l G a hI (w_X4_skip (up (w_X4_readNumber t (0 : Int32) (7 : Int32)) 0 4 (v_X4_readNumber t (0 : Int32) (7 : Int32))) (58 : Int32)) _ _ (by decide)) (r_cw S k_552 k_549 k_550 k_551 k_24 q_X4_readNumber ⟨Nat.le_of_ble_eq_true rfl, Nat.le_of_ble_eq_true rfl⟩ rfl rfl) (g_recv hK hP (i := 0) (by omega) tC0 rfl) rfl hl.1 rfl (Nat.le_of_ble_eq_true rfl) dX4_readCustomerAndAmount_34 ⟨Nat.zero_le _, Nat.zero_le _⟩ hS (fun _ h => h) (fun H locs hP _ _ hS => ?_)
      have hP : tP G a (w_X4_readNumber (w_X4_skip (up (w_X4_readNumber t (0 : Int32) (7 : Int32)) 0 4 (v_X4_readNumber t (0 : Int32) (7 : Int32))) (58 : Int32)) (1 : Int32) p1) H := hP
      refine g_put S hK hP hI hS (i := 0) (by omega) tC0 rfl inlX4 tyX4 tyX4_ok nmX4 tF_n 5 (by decide) k_548 rfl pI rfl rfl (fun _ => rfl) dX4_readCustomerAndAmount_37 (fun H locs hP hS => ?_)
      have hP : tP G a (up (w_X4_readNumber (w_X4_skip (up (w_X4_readNumber t (0 : Int32) (7 : Int32)) 0 4 (v_X4_readNumber t (0 : Int32) (7 : Int32))) (58 : Int32)) (1 : Int32) p1) 0 5 (v_X4_readNumber (w_X4_skip (up (w_X4_readNumber t (0 : Int32) (7 : Int32)) 0 4 (v_X4_readNumber t (0 : Int32) (7 : Int32))) (58 : Int32)) (1 : Int32) p1)) H := hP
      refine lv_aload_n hx hb dX4_readCustomerAndAmount_40 rfl (lv_at hl 0 rfl) ?_
      refine g_get S hK hP (i := 0) (by omega) tC0 rfl inlX4 5 (by decide) k_548 (v := .int (v_X4_readNumber (w_X4_skip (up (w_X4_readNumber t (0 : Int32) (7 : Int32)) 0 4 (v_X4_readNumber t (0 : Int32) (7 : Int32))) (58 : Int32)) (1 : Int32) p1)) (congrArg Value.int (up_same)) dX4_readCustomerAndAmount_41 ?_
      refine lv_iconst (v := -1) hx hb dX4_readCustomerAndAmount_44 (by decide) ?_
      refine lv_icmp_eq (tgt := 52) hx hb dX4_readCustomerAndAmount_45 (by decide) (fun c3 => ?_) (fun c3 => ?_)
      · skip
        refine lv_iconst (v := 0) hx hb dX4_readCustomerAndAmount_52 (by decide) ?_
        exact e_int S hr hlk rfl hK hS (gP_eq (show w_X4_readCustomerAndAmount t p1 = up (w_X4_readNumber (w_X4_skip (up (w_X4_readNumber t (0 : Int32) (7 : Int32)) 0 4 (v_X4_readNumber t (0 : Int32) (7 : Int32))) (58 : Int32)) (1 : Int32) p1) 0 5 (v_X4_readNumber (w_X4_skip (up (w_X4_readNumber t (0 : Int32) (7 : Int32)) 0 4 (v_X4_readNumber t (0 : Int32) (7 : Int32))) (58 : Int32)) (1 : Int32) p1) from (if_neg c1).trans ((if_neg c2).trans ((if_pos c3).trans rfl))) hP) (show v_X4_readCustomerAndAmount t p1 = (0 : Int32) from (if_neg c1).trans ((if_neg c2).trans ((if_pos c3).trans rfl))).symm dX4_readCustomerAndAmount_53
      · skip
        refine lv_iconst (v := 1) hx hb dX4_readCustomerAndAmount_48 (by decide) ?_
        refine lv_goto (tgt := 53) hx hb dX4_readCustomerAndAmount_49 (by decide) ?_
        exact e_int S hr hlk rfl hK hS (gP_eq (show w_X4_readCustomerAndAmount t p1 = up (w_X4_readNumber (w_X4_skip (up (w_X4_readNumber t (0 : Int32) (7 : Int32)) 0 4 (v_X4_readNumber t (0 : Int32) (7 : Int32))) (58 : Int32)) (1 : Int32) p1) 0 5 (v_X4_readNumber (w_X4_skip (up (w_X4_readNumber t (0 : Int32) (7 : Int32)) 0 4 (v_X4_readNumber t (0 : Int32) (7 : Int32))) (58 : Int32)) (1 : Int32) p1) from (if_neg c1).trans ((if_neg c2).trans ((if_neg c3).trans rfl))) hP) (show v_X4_readCustomerAndAmount t p1 = (1 : Int32) from (if_neg c1).trans ((if_neg c2).trans ((if_neg c3).trans rfl))).symm dX4_readCustomerAndAmount_53
    · skip
      refine lv_iconst (v := 0) hx hb dX4_readCustomerAndAmount_28 (by decide) ?_
      exact e_int S hr hlk rfl hK hS (gP_eq (show w_X4_readCustomerAndAmount t p1 = w_X4_skip (up (w_X4_readNumber t (0 : Int32) (7 : Int32)) 0 4 (v_X4_readNumber t (0 : Int32) (7 : Int32))) (58 : Int32) from (if_neg c1).trans ((if_pos c2).trans rfl)) hP) (show v_X4_readCustomerAndAmount t p1 = (0 : Int32) from (if_neg c1).trans ((if_pos c2).trans rfl)).symm dX4_readCustomerAndAmount_29

def v_X4_readPayment (t : Nat → Nat → Int32) : Int32 := if v_X4_readCustomerAndAmount t (99999 : Int32) = 0 then (0 : Int32) else if v_X4_skip (w_X4_readCustomerAndAmount t (99999 : Int32)) (35 : Int32) = 0 then (1 : Int32) else if v_X4_readNumber (up (w_X4_skip (w_X4_readCustomerAndAmount t (99999 : Int32)) (35 : Int32)) 0 3 (2 : Int32)) (0 : Int32) (39 : Int32) = (-1 : Int32) then (0 : Int32) else (1 : Int32)
def w_X4_readPayment (t : Nat → Nat → Int32) : Nat → Nat → Int32 := if v_X4_readCustomerAndAmount t (99999 : Int32) = 0 then (w_X4_readCustomerAndAmount t (99999 : Int32)) else if v_X4_skip (w_X4_readCustomerAndAmount t (99999 : Int32)) (35 : Int32) = 0 then (w_X4_skip (w_X4_readCustomerAndAmount t (99999 : Int32)) (35 : Int32)) else if v_X4_readNumber (up (w_X4_skip (w_X4_readCustomerAndAmount t (99999 : Int32)) (35 : Int32)) 0 3 (2 : Int32)) (0 : Int32) (39 : Int32) = (-1 : Int32) then (up (w_X4_readNumber (up (w_X4_skip (w_X4_readCustomerAndAmount t (99999 : Int32)) (35 : Int32)) 0 3 (2 : Int32)) (0 : Int32) (39 : Int32)) 0 8 (v_X4_readNumber (up (w_X4_skip (w_X4_readCustomerAndAmount t (99999 : Int32)) (35 : Int32)) 0 3 (2 : Int32)) (0 : Int32) (39 : Int32))) else up (w_X4_readNumber (up (w_X4_skip (w_X4_readCustomerAndAmount t (99999 : Int32)) (35 : Int32)) 0 3 (2 : Int32)) (0 : Int32) (39 : Int32)) 0 8 (v_X4_readNumber (up (w_X4_skip (w_X4_readCustomerAndAmount t (99999 : Int32)) (35 : Int32)) 0 3 (2 : Int32)) (0 : Int32) (39 : Int32))
theorem q_X4_readPayment : yX4_readPayment.cls ≠ "java/lang/invoke/MethodHandle" ∧ yX4_readPayment.cls ≠ "java/lang/invoke/VarHandle" ∧ (parseMethodDescriptor yX4_readPayment.desc).map (fun d => d.parameters.length) = some 0 := ⟨by decide, by decide, by decide +kernel⟩
theorem z_X4_readPayment (t : Nat → Nat → Int32) : narrow .boolean (.int (v_X4_readPayment t )) = .int (v_X4_readPayment t ) := by
  unfold v_X4_readPayment
  exact z_ite z_0 (z_ite z_1 (z_ite z_0 z_1))
set_option maxHeartbeats 4000000 in
set_option maxRecDepth 100000 in
theorem c_X4_readPayment (l : Launch) (G : kG) (a : Nat → Nat) (hI : gI 2 a) (t : Nat → Nat → Int32) : Met l yX4_readPayment (Cond.code yX4_readPayment cX4_readPayment 1 (some .boolean) :: BIG) (rmK 3) (pcG G (tP G a t) [.ref (a 0)]) (qcI G (gA 2 a) (tP G a (w_X4_readPayment t)) (v_X4_readPayment t)) 0 0 (gA 2 a) := by
  refine m_start (by decide) (Nat.le_of_ble_eq_true rfl) ?_
  intro p e s m args below meth c S hr hlk hnm hP hK ls hl
  have hx := S.1
  have hb := S.2.1
  have hown := S.2.2.2.1
  have hS : va_S (gA 2 a) s.heap s.heap [] := va_S.rf
  have hl : lv_has ls 1 [(0, .ref (a 0))] := hl
  refine lv_aload_n hx hb dX4_readPayment_0 rfl (lv_at hl 0 rfl) ?_
  refine lv_ldc hx hb hown (S.2.2.2.2 _ k_561) dX4_readPayment_1 ?_
  refine r_callI S hK hP (c_X4_readCustomerAndAmount l G a hI t _ ) (r_cw S k_546 k_543 k_544 k_545 k_24 q_X4_readCustomerAndAmount ⟨Nat.le_of_ble_eq_true rfl, Nat.le_of_ble_eq_true rfl⟩ rfl rfl) (g_recv hK hP (i := 0) (by omega) tC0 rfl) rfl hl.1 rfl (Nat.le_of_ble_eq_true rfl) dX4_readPayment_3 ⟨Nat.zero_le _, Nat.zero_le _⟩ hS (fun _ h => h) (fun H locs hP _ _ hS => ?_)
  have hP : tP G a (w_X4_readCustomerAndAmount t (99999 : Int32)) H := hP
  refine lv_if_ne (tgt := 11) hx hb dX4_readPayment_6 (by decide) (fun c1 => ?_) (fun c1 => ?_)
  · skip
    refine lv_aload_n hx hb dX4_readPayment_11 rfl (lv_at hl 0 rfl) ?_
    refine lv_bipush (v := 35) hx hb dX4_readPayment_12 (by decide) ?_
    refine r_callI S hK hP (c_X4_skip l G a hI (w_X4_readCustomerAndAmount t (99999 : Int32)) _ ) (r_cw S k_537 k_534 k_535 k_536 k_24 q_X4_skip ⟨Nat.le_of_ble_eq_true rfl, Nat.le_of_ble_eq_true rfl⟩ rfl rfl) (g_recv hK hP (i := 0) (by omega) tC0 rfl) rfl hl.1 rfl (Nat.le_of_ble_eq_true rfl) dX4_readPayment_14 ⟨Nat.zero_le _, Nat.zero_le _⟩ hS (fun _ h => h) (fun H locs hP _ _ hS => ?_)
    have hP : tP G a (w_X4_skip (w_X4_readCustomerAndAmount t (99999 : Int32)) (35 : Int32)) H := hP
    refine lv_if_ne (tgt := 22) hx hb dX4_readPayment_17 (by decide) (fun c2 => ?_) (fun c2 => ?_)
    · skip
      refine lv_aload_n hx hb dX4_readPayment_22 rfl (lv_at hl 0 rfl) ?_
      refine lv_iconst (v := 2) hx hb dX4_readPayment_23 (by decide) ?_
      refine g_put S hK hP hI hS (i := 0) (by omega) tC0 rfl inlX4 tyX4 tyX4_ok nmX4 tF_n 3 (by decide) k_532 rfl pI rfl rfl (fun _ => rfl) dX4_readPayment_24 (fun H locs hP hS => ?_)
      have hP : tP G a (up (w_X4_skip (w_X4_readCustomerAndAmount t (99999 : Int32)) (35 : Int32)) 0 3 (2 : Int32)) H := hP
      refine lv_aload_n hx hb dX4_readPayment_27 rfl (lv_at hl 0 rfl) ?_
      refine lv_aload_n hx hb dX4_readPayment_28 rfl (lv_at hl 0 rfl) ?_
      refine lv_iconst (v := 0) hx hb dX4_readPayment_29 (by decide) ?_
      refine lv_bipush (v := 39) hx hb dX4_readPayment_30 (by decide) ?_
      refine r_callI S hK hP (c_X4_readNumber l G a hI (up (w_X4_skip (w_X4_readCustomerAndAmount t (99999 : Int32)) (35 : Int32)) 0 3 (2 : Int32)) _ _ (by decide)) (r_cw S k_552 k_549 k_550 k_551 k_24 q_X4_readNumber ⟨Nat.le_of_ble_eq_true rfl, Nat.le_of_ble_eq_true rfl⟩ rfl rfl) (g_recv hK hP (i := 0) (by omega) tC0 rfl) rfl hl.1 rfl (Nat.le_of_ble_eq_true rfl) dX4_readPayment_32 ⟨Nat.zero_le _, Nat.zero_le _⟩ hS (fun _ h => h) (fun H locs hP _ _ hS => ?_)
      have hP : tP G a (w_X4_readNumber (up (w_X4_skip (w_X4_readCustomerAndAmount t (99999 : Int32)) (35 : Int32)) 0 3 (2 : Int32)) (0 : Int32) (39 : Int32)) H := hP
      refine g_put S hK hP hI hS (i := 0) (by omega) tC0 rfl inlX4 tyX4 tyX4_ok nmX4 tF_n 8 (by decide) k_562 rfl pI rfl rfl (fun _ => rfl) dX4_readPayment_35 (fun H locs hP hS => ?_)
      have hP : tP G a (up (w_X4_readNumber (up (w_X4_skip (w_X4_readCustomerAndAmount t (99999 : Int32)) (35 : Int32)) 0 3 (2 : Int32)) (0 : Int32) (39 : Int32)) 0 8 (v_X4_readNumber (up (w_X4_skip (w_X4_readCustomerAndAmount t (99999 : Int32)) (35 : Int32)) 0 3 (2 : Int32)) (0 : Int32) (39 : Int32))) H := hP
      refine lv_aload_n hx hb dX4_readPayment_38 rfl (lv_at hl 0 rfl) ?_
      refine g_get S hK hP (i := 0) (by omega) tC0 rfl inlX4 8 (by decide) k_562 (v := .int (v_X4_readNumber (up (w_X4_skip (w_X4_readCustomerAndAmount t (99999 : Int32)) (35 : Int32)) 0 3 (2 : Int32)) (0 : Int32) (39 : Int32))) (congrArg Value.int (up_same)) dX4_readPayment_39 ?_
      refine lv_iconst (v := -1) hx hb dX4_readPayment_42 (by decide) ?_
      refine lv_icmp_eq (tgt := 50) hx hb dX4_readPayment_43 (by decide) (fun c3 => ?_) (fun c3 => ?_)
      · skip
        refine lv_iconst (v := 0) hx hb dX4_readPayment_50 (by decide) ?_
        exact e_int S hr hlk rfl hK hS (gP_eq (show w_X4_readPayment t  = up (w_X4_readNumber (up (w_X4_skip (w_X4_readCustomerAndAmount t (99999 : Int32)) (35 : Int32)) 0 3 (2 : Int32)) (0 : Int32) (39 : Int32)) 0 8 (v_X4_readNumber (up (w_X4_skip (w_X4_readCustomerAndAmount t (99999 : Int32)) (35 : Int32)) 0 3 (2 : Int32)) (0 : Int32) (39 : Int32)) from (if_neg c1).trans ((if_neg c2).trans ((if_pos c3).trans rfl))) hP) (show v_X4_readPayment t  = (0 : Int32) from (if_neg c1).trans ((if_neg c2).trans ((if_pos c3).trans rfl))).symm dX4_readPayment_51
      · skip
        refine lv_iconst (v := 1) hx hb dX4_readPayment_46 (by decide) ?_
        refine lv_goto (tgt := 51) hx hb dX4_readPayment_47 (by decide) ?_
        exact e_int S hr hlk rfl hK hS (gP_eq (show w_X4_readPayment t  = up (w_X4_readNumber (up (w_X4_skip (w_X4_readCustomerAndAmount t (99999 : Int32)) (35 : Int32)) 0 3 (2 : Int32)) (0 : Int32) (39 : Int32)) 0 8 (v_X4_readNumber (up (w_X4_skip (w_X4_readCustomerAndAmount t (99999 : Int32)) (35 : Int32)) 0 3 (2 : Int32)) (0 : Int32) (39 : Int32)) from (if_neg c1).trans ((if_neg c2).trans ((if_neg c3).trans rfl))) hP) (show v_X4_readPayment t  = (1 : Int32) from (if_neg c1).trans ((if_neg c2).trans ((if_neg c3).trans rfl))).symm dX4_readPayment_51
    · skip
      refine lv_iconst (v := 1) hx hb dX4_readPayment_20 (by decide) ?_
      exact e_int S hr hlk rfl hK hS (gP_eq (show w_X4_readPayment t  = w_X4_skip (w_X4_readCustomerAndAmount t (99999 : Int32)) (35 : Int32) from (if_neg c1).trans ((if_pos c2).trans rfl)) hP) (show v_X4_readPayment t  = (1 : Int32) from (if_neg c1).trans ((if_pos c2).trans rfl)).symm dX4_readPayment_21
  · skip
    refine lv_iconst (v := 0) hx hb dX4_readPayment_9 (by decide) ?_
    exact e_int S hr hlk rfl hK hS (gP_eq (show w_X4_readPayment t  = w_X4_readCustomerAndAmount t (99999 : Int32) from (if_pos c1).trans rfl) hP) (show v_X4_readPayment t  = (0 : Int32) from (if_pos c1).trans rfl).symm dX4_readPayment_10

def v_X4_readBill (t : Nat → Nat → Int32) : Int32 := if v_X4_readCustomerAndAmount t (9999 : Int32) = 0 then (0 : Int32) else if v_X4_skip (w_X4_readCustomerAndAmount t (9999 : Int32)) (64 : Int32) = 0 then (if v_X4_skip (up (w_X4_skip (w_X4_readCustomerAndAmount t (9999 : Int32)) (64 : Int32)) 0 6 (20 : Int32)) (43 : Int32) = 0 then (1 : Int32) else if v_X4_readNumber (w_X4_skip (up (w_X4_skip (w_X4_readCustomerAndAmount t (9999 : Int32)) (64 : Int32)) 0 6 (20 : Int32)) (43 : Int32)) (0 : Int32) (99 : Int32) = (-1 : Int32) then (0 : Int32) else (1 : Int32)) else if v_X4_readNumber (w_X4_skip (w_X4_readCustomerAndAmount t (9999 : Int32)) (64 : Int32)) (0 : Int32) (40 : Int32) = (-1 : Int32) then (0 : Int32) else if v_X4_skip (up (w_X4_readNumber (w_X4_skip (w_X4_readCustomerAndAmount t (9999 : Int32)) (64 : Int32)) (0 : Int32) (40 : Int32)) 0 6 (v_X4_readNumber (w_X4_skip (w_X4_readCustomerAndAmount t (9999 : Int32)) (64 : Int32)) (0 : Int32) (40 : Int32))) (43 : Int32) = 0 then (1 : Int32) else if v_X4_readNumber (w_X4_skip (up (w_X4_readNumber (w_X4_skip (w_X4_readCustomerAndAmount t (9999 : Int32)) (64 : Int32)) (0 : Int32) (40 : Int32)) 0 6 (v_X4_readNumber (w_X4_skip (w_X4_readCustomerAndAmount t (9999 : Int32)) (64 : Int32)) (0 : Int32) (40 : Int32))) (43 : Int32)) (0 : Int32) (99 : Int32) = (-1 : Int32) then (0 : Int32) else (1 : Int32)
def w_X4_readBill (t : Nat → Nat → Int32) : Nat → Nat → Int32 := if v_X4_readCustomerAndAmount t (9999 : Int32) = 0 then (w_X4_readCustomerAndAmount t (9999 : Int32)) else if v_X4_skip (w_X4_readCustomerAndAmount t (9999 : Int32)) (64 : Int32) = 0 then (if v_X4_skip (up (w_X4_skip (w_X4_readCustomerAndAmount t (9999 : Int32)) (64 : Int32)) 0 6 (20 : Int32)) (43 : Int32) = 0 then (up (w_X4_skip (up (w_X4_skip (w_X4_readCustomerAndAmount t (9999 : Int32)) (64 : Int32)) 0 6 (20 : Int32)) (43 : Int32)) 0 7 (14 : Int32)) else if v_X4_readNumber (w_X4_skip (up (w_X4_skip (w_X4_readCustomerAndAmount t (9999 : Int32)) (64 : Int32)) 0 6 (20 : Int32)) (43 : Int32)) (0 : Int32) (99 : Int32) = (-1 : Int32) then (up (w_X4_readNumber (w_X4_skip (up (w_X4_skip (w_X4_readCustomerAndAmount t (9999 : Int32)) (64 : Int32)) 0 6 (20 : Int32)) (43 : Int32)) (0 : Int32) (99 : Int32)) 0 7 (v_X4_readNumber (w_X4_skip (up (w_X4_skip (w_X4_readCustomerAndAmount t (9999 : Int32)) (64 : Int32)) 0 6 (20 : Int32)) (43 : Int32)) (0 : Int32) (99 : Int32))) else up (w_X4_readNumber (w_X4_skip (up (w_X4_skip (w_X4_readCustomerAndAmount t (9999 : Int32)) (64 : Int32)) 0 6 (20 : Int32)) (43 : Int32)) (0 : Int32) (99 : Int32)) 0 7 (v_X4_readNumber (w_X4_skip (up (w_X4_skip (w_X4_readCustomerAndAmount t (9999 : Int32)) (64 : Int32)) 0 6 (20 : Int32)) (43 : Int32)) (0 : Int32) (99 : Int32))) else if v_X4_readNumber (w_X4_skip (w_X4_readCustomerAndAmount t (9999 : Int32)) (64 : Int32)) (0 : Int32) (40 : Int32) = (-1 : Int32) then (up (w_X4_readNumber (w_X4_skip (w_X4_readCustomerAndAmount t (9999 : Int32)) (64 : Int32)) (0 : Int32) (40 : Int32)) 0 6 (v_X4_readNumber (w_X4_skip (w_X4_readCustomerAndAmount t (9999 : Int32)) (64 : Int32)) (0 : Int32) (40 : Int32))) else if v_X4_skip (up (w_X4_readNumber (w_X4_skip (w_X4_readCustomerAndAmount t (9999 : Int32)) (64 : Int32)) (0 : Int32) (40 : Int32)) 0 6 (v_X4_readNumber (w_X4_skip (w_X4_readCustomerAndAmount t (9999 : Int32)) (64 : Int32)) (0 : Int32) (40 : Int32))) (43 : Int32) = 0 then (up (w_X4_skip (up (w_X4_readNumber (w_X4_skip (w_X4_readCustomerAndAmount t (9999 : Int32)) (64 : Int32)) (0 : Int32) (40 : Int32)) 0 6 (v_X4_readNumber (w_X4_skip (w_X4_readCustomerAndAmount t (9999 : Int32)) (64 : Int32)) (0 : Int32) (40 : Int32))) (43 : Int32)) 0 7 (14 : Int32)) else if v_X4_readNumber (w_X4_skip (up (w_X4_readNumber (w_X4_skip (w_X4_readCustomerAndAmount t (9999 : Int32)) (64 : Int32)) (0 : Int32) (40 : Int32)) 0 6 (v_X4_readNumber (w_X4_skip (w_X4_readCustomerAndAmount t (9999 : Int32)) (64 : Int32)) (0 : Int32) (40 : Int32))) (43 : Int32)) (0 : Int32) (99 : Int32) = (-1 : Int32) then (up (w_X4_readNumber (w_X4_skip (up (w_X4_readNumber (w_X4_skip (w_X4_readCustomerAndAmount t (9999 : Int32)) (64 : Int32)) (0 : Int32) (40 : Int32)) 0 6 (v_X4_readNumber (w_X4_skip (w_X4_readCustomerAndAmount t (9999 : Int32)) (64 : Int32)) (0 : Int32) (40 : Int32))) (43 : Int32)) (0 : Int32) (99 : Int32)) 0 7 (v_X4_readNumber (w_X4_skip (up (w_X4_readNumber (w_X4_skip (w_X4_readCustomerAndAmount t (9999 : Int32)) (64 : Int32)) (0 : Int32) (40 : Int32)) 0 6 (v_X4_readNumber (w_X4_skip (w_X4_readCustomerAndAmount t (9999 : Int32)) (64 : Int32)) (0 : Int32) (40 : Int32))) (43 : Int32)) (0 : Int32) (99 : Int32))) else up (w_X4_readNumber (w_X4_skip (up (w_X4_readNumber (w_X4_skip (w_X4_readCustomerAndAmount t (9999 : Int32)) (64 : Int32)) (0 : Int32) (40 : Int32)) 0 6 (v_X4_readNumber (w_X4_skip (w_X4_readCustomerAndAmount t (9999 : Int32)) (64 : Int32)) (0 : Int32) (40 : Int32))) (43 : Int32)) (0 : Int32) (99 : Int32)) 0 7 (v_X4_readNumber (w_X4_skip (up (w_X4_readNumber (w_X4_skip (w_X4_readCustomerAndAmount t (9999 : Int32)) (64 : Int32)) (0 : Int32) (40 : Int32)) 0 6 (v_X4_readNumber (w_X4_skip (w_X4_readCustomerAndAmount t (9999 : Int32)) (64 : Int32)) (0 : Int32) (40 : Int32))) (43 : Int32)) (0 : Int32) (99 : Int32))
theorem q_X4_readBill : yX4_readBill.cls ≠ "java/lang/invoke/MethodHandle" ∧ yX4_readBill.cls ≠ "java/lang/invoke/VarHandle" ∧ (parseMethodDescriptor yX4_readBill.desc).map (fun d => d.parameters.length) = some 0 := ⟨by decide, by decide, by decide +kernel⟩
theorem z_X4_readBill (t : Nat → Nat → Int32) : narrow .boolean (.int (v_X4_readBill t )) = .int (v_X4_readBill t ) := by
  unfold v_X4_readBill
  exact z_ite z_0 (z_ite (z_ite z_1 (z_ite z_0 z_1)) (z_ite z_0 (z_ite z_1 (z_ite z_0 z_1))))
set_option maxHeartbeats 4000000 in
set_option maxRecDepth 100000 in
theorem c_X4_readBill (l : Launch) (G : kG) (a : Nat → Nat) (hI : gI 2 a) (t : Nat → Nat → Int32) : Met l yX4_readBill (Cond.code yX4_readBill cX4_readBill 1 (some .boolean) :: BIG) (rmK 3) (pcG G (tP G a t) [.ref (a 0)]) (qcI G (gA 2 a) (tP G a (w_X4_readBill t)) (v_X4_readBill t)) 0 0 (gA 2 a) := by
  refine m_start (by decide) (Nat.le_of_ble_eq_true rfl) ?_
  intro p e s m args below meth c S hr hlk hnm hP hK ls hl
  have hx := S.1
  have hb := S.2.1
  have hown := S.2.2.2.1
  have hS : va_S (gA 2 a) s.heap s.heap [] := va_S.rf
  have hl : lv_has ls 1 [(0, .ref (a 0))] := hl
  refine lv_aload_n hx hb dX4_readBill_0 rfl (lv_at hl 0 rfl) ?_
  refine lv_sipush (v := 9999) hx hb dX4_readBill_1 (by decide) ?_
  refine r_callI S hK hP (c_X4_readCustomerAndAmount l G a hI t _ ) (r_cw S k_546 k_543 k_544 k_545 k_24 q_X4_readCustomerAndAmount ⟨Nat.le_of_ble_eq_true rfl, Nat.le_of_ble_eq_true rfl⟩ rfl rfl) (g_recv hK hP (i := 0) (by omega) tC0 rfl) rfl hl.1 rfl (Nat.le_of_ble_eq_true rfl) dX4_readBill_4 ⟨Nat.zero_le _, Nat.zero_le _⟩ hS (fun _ h => h) (fun H locs hP _ _ hS => ?_)
  have hP : tP G a (w_X4_readCustomerAndAmount t (9999 : Int32)) H := hP
  refine lv_if_ne (tgt := 12) hx hb dX4_readBill_7 (by decide) (fun c1 => ?_) (fun c1 => ?_)
  · skip
    refine lv_aload_n hx hb dX4_readBill_12 rfl (lv_at hl 0 rfl) ?_
    refine lv_aload_n hx hb dX4_readBill_13 rfl (lv_at hl 0 rfl) ?_
    refine lv_bipush (v := 64) hx hb dX4_readBill_14 (by decide) ?_
    refine r_callI S hK hP (c_X4_skip l G a hI (w_X4_readCustomerAndAmount t (9999 : Int32)) _ ) (r_cw S k_537 k_534 k_535 k_536 k_24 q_X4_skip ⟨Nat.le_of_ble_eq_true rfl, Nat.le_of_ble_eq_true rfl⟩ rfl rfl) (g_recv hK hP (i := 0) (by omega) tC0 rfl) rfl hl.1 rfl (Nat.le_of_ble_eq_true rfl) dX4_readBill_16 ⟨Nat.zero_le _, Nat.zero_le _⟩ hS (fun _ h => h) (fun H locs hP _ _ hS => ?_)
    have hP : tP G a (w_X4_skip (w_X4_readCustomerAndAmount t (9999 : Int32)) (64 : Int32)) H := hP
    refine lv_if_eq (tgt := 32) hx hb dX4_readBill_19 (by decide) (fun c2 => ?_) (fun c2 => ?_)
    · skip
      refine lv_bipush (v := 20) hx hb dX4_readBill_32 (by decide) ?_
      refine g_put S hK hP hI hS (i := 0) (by omega) tC0 rfl inlX4 tyX4 tyX4_ok nmX4 tF_n 6 (by decide) k_542 rfl pI rfl rfl (fun _ => rfl) dX4_readBill_34 (fun H locs hP hS => ?_)
      have hP : tP G a (up (w_X4_skip (w_X4_readCustomerAndAmount t (9999 : Int32)) (64 : Int32)) 0 6 (20 : Int32)) H := hP
      refine lv_aload_n hx hb dX4_readBill_37 rfl (lv_at hl 0 rfl) ?_
      refine g_get S hK hP (i := 0) (by omega) tC0 rfl inlX4 6 (by decide) k_542 (v := .int (20 : Int32)) (congrArg Value.int (up_same)) dX4_readBill_38 ?_
      refine lv_iconst (v := -1) hx hb dX4_readBill_41 (by decide) ?_
      refine lv_icmp_ne (tgt := 47) hx hb dX4_readBill_42 (by decide) (fun _ => ?_) (fun c => absurd c (by decide))
      refine lv_aload_n hx hb dX4_readBill_47 rfl (lv_at hl 0 rfl) ?_
      refine lv_aload_n hx hb dX4_readBill_48 rfl (lv_at hl 0 rfl) ?_
      refine lv_bipush (v := 43) hx hb dX4_readBill_49 (by decide) ?_
      refine r_callI S hK hP (c_X4_skip l G a hI (up (w_X4_skip (w_X4_readCustomerAndAmount t (9999 : Int32)) (64 : Int32)) 0 6 (20 : Int32)) _ ) (r_cw S k_537 k_534 k_535 k_536 k_24 q_X4_skip ⟨Nat.le_of_ble_eq_true rfl, Nat.le_of_ble_eq_true rfl⟩ rfl rfl) (g_recv hK hP (i := 0) (by omega) tC0 rfl) rfl hl.1 rfl (Nat.le_of_ble_eq_true rfl) dX4_readBill_51 ⟨Nat.zero_le _, Nat.zero_le _⟩ hS (fun _ h => h) (fun H locs hP _ _ hS => ?_)
      have hP : tP G a (w_X4_skip (up (w_X4_skip (w_X4_readCustomerAndAmount t (9999 : Int32)) (64 : Int32)) 0 6 (20 : Int32)) (43 : Int32)) H := hP
      refine lv_if_eq (tgt := 67) hx hb dX4_readBill_54 (by decide) (fun c3 => ?_) (fun c3 => ?_)
      · skip
        refine lv_bipush (v := 14) hx hb dX4_readBill_67 (by decide) ?_
        refine g_put S hK hP hI hS (i := 0) (by omega) tC0 rfl inlX4 tyX4 tyX4_ok nmX4 tF_n 7 (by decide) k_533 rfl pI rfl rfl (fun _ => rfl) dX4_readBill_69 (fun H locs hP hS => ?_)
        have hP : tP G a (up (w_X4_skip (up (w_X4_skip (w_X4_readCustomerAndAmount t (9999 : Int32)) (64 : Int32)) 0 6 (20 : Int32)) (43 : Int32)) 0 7 (14 : Int32)) H := hP
        refine lv_aload_n hx hb dX4_readBill_72 rfl (lv_at hl 0 rfl) ?_
        refine g_get S hK hP (i := 0) (by omega) tC0 rfl inlX4 7 (by decide) k_533 (v := .int (14 : Int32)) (congrArg Value.int (up_same)) dX4_readBill_73 ?_
        refine lv_iconst (v := -1) hx hb dX4_readBill_76 (by decide) ?_
        refine lv_icmp_eq (tgt := 84) hx hb dX4_readBill_77 (by decide) (fun c => absurd c (by decide)) (fun _ => ?_)
        refine lv_iconst (v := 1) hx hb dX4_readBill_80 (by decide) ?_
        refine lv_goto (tgt := 85) hx hb dX4_readBill_81 (by decide) ?_
        exact e_int S hr hlk rfl hK hS (gP_eq (show w_X4_readBill t  = up (w_X4_skip (up (w_X4_skip (w_X4_readCustomerAndAmount t (9999 : Int32)) (64 : Int32)) 0 6 (20 : Int32)) (43 : Int32)) 0 7 (14 : Int32) from (if_neg c1).trans ((if_pos c2).trans ((if_pos c3).trans rfl))) hP) (show v_X4_readBill t  = (1 : Int32) from (if_neg c1).trans ((if_pos c2).trans ((if_pos c3).trans rfl))).symm dX4_readBill_85
      · skip
        refine lv_aload_n hx hb dX4_readBill_57 rfl (lv_at hl 0 rfl) ?_
        refine lv_iconst (v := 0) hx hb dX4_readBill_58 (by decide) ?_
        refine lv_bipush (v := 99) hx hb dX4_readBill_59 (by decide) ?_
        refine r_callI S hK hP (c_X4_readNumber l G a hI (w_X4_skip (up (w_X4_skip (w_X4_readCustomerAndAmount t (9999 : Int32)) (64 : Int32)) 0 6 (20 : Int32)) (43 : Int32)) _ _ (by decide)) (r_cw S k_552 k_549 k_550 k_551 k_24 q_X4_readNumber ⟨Nat.le_of_ble_eq_true rfl, Nat.le_of_ble_eq_true rfl⟩ rfl rfl) (g_recv hK hP (i := 0) (by omega) tC0 rfl) rfl hl.1 rfl (Nat.le_of_ble_eq_true rfl) dX4_readBill_61 ⟨Nat.zero_le _, Nat.zero_le _⟩ hS (fun _ h => h) (fun H locs hP _ _ hS => ?_)
        have hP : tP G a (w_X4_readNumber (w_X4_skip (up (w_X4_skip (w_X4_readCustomerAndAmount t (9999 : Int32)) (64 : Int32)) 0 6 (20 : Int32)) (43 : Int32)) (0 : Int32) (99 : Int32)) H := hP
        refine lv_goto (tgt := 69) hx hb dX4_readBill_64 (by decide) ?_
        refine g_put S hK hP hI hS (i := 0) (by omega) tC0 rfl inlX4 tyX4 tyX4_ok nmX4 tF_n 7 (by decide) k_533 rfl pI rfl rfl (fun _ => rfl) dX4_readBill_69 (fun H locs hP hS => ?_)
        have hP : tP G a (up (w_X4_readNumber (w_X4_skip (up (w_X4_skip (w_X4_readCustomerAndAmount t (9999 : Int32)) (64 : Int32)) 0 6 (20 : Int32)) (43 : Int32)) (0 : Int32) (99 : Int32)) 0 7 (v_X4_readNumber (w_X4_skip (up (w_X4_skip (w_X4_readCustomerAndAmount t (9999 : Int32)) (64 : Int32)) 0 6 (20 : Int32)) (43 : Int32)) (0 : Int32) (99 : Int32))) H := hP
        refine lv_aload_n hx hb dX4_readBill_72 rfl (lv_at hl 0 rfl) ?_
        refine g_get S hK hP (i := 0) (by omega) tC0 rfl inlX4 7 (by decide) k_533 (v := .int (v_X4_readNumber (w_X4_skip (up (w_X4_skip (w_X4_readCustomerAndAmount t (9999 : Int32)) (64 : Int32)) 0 6 (20 : Int32)) (43 : Int32)) (0 : Int32) (99 : Int32))) (congrArg Value.int (up_same)) dX4_readBill_73 ?_
        refine lv_iconst (v := -1) hx hb dX4_readBill_76 (by decide) ?_
        refine lv_icmp_eq (tgt := 84) hx hb dX4_readBill_77 (by decide) (fun c4 => ?_) (fun c4 => ?_)
        · skip
          refine lv_iconst (v := 0) hx hb dX4_readBill_84 (by decide) ?_
          exact e_int S hr hlk rfl hK hS (gP_eq (show w_X4_readBill t  = up (w_X4_readNumber (w_X4_skip (up (w_X4_skip (w_X4_readCustomerAndAmount t (9999 : Int32)) (64 : Int32)) 0 6 (20 : Int32)) (43 : Int32)) (0 : Int32) (99 : Int32)) 0 7 (v_X4_readNumber (w_X4_skip (up (w_X4_skip (w_X4_readCustomerAndAmount t (9999 : Int32)) (64 : Int32)) 0 6 (20 : Int32)) (43 : Int32)) (0 : Int32) (99 : Int32)) from (if_neg c1).trans ((if_pos c2).trans ((if_neg c3).trans ((if_pos c4).trans rfl)))) hP) (show v_X4_readBill t  = (0 : Int32) from (if_neg c1).trans ((if_pos c2).trans ((if_neg c3).trans ((if_pos c4).trans rfl)))).symm dX4_readBill_85
        · skip
          refine lv_iconst (v := 1) hx hb dX4_readBill_80 (by decide) ?_
          refine lv_goto (tgt := 85) hx hb dX4_readBill_81 (by decide) ?_
          exact e_int S hr hlk rfl hK hS (gP_eq (show w_X4_readBill t  = up (w_X4_readNumber (w_X4_skip (up (w_X4_skip (w_X4_readCustomerAndAmount t (9999 : Int32)) (64 : Int32)) 0 6 (20 : Int32)) (43 : Int32)) (0 : Int32) (99 : Int32)) 0 7 (v_X4_readNumber (w_X4_skip (up (w_X4_skip (w_X4_readCustomerAndAmount t (9999 : Int32)) (64 : Int32)) 0 6 (20 : Int32)) (43 : Int32)) (0 : Int32) (99 : Int32)) from (if_neg c1).trans ((if_pos c2).trans ((if_neg c3).trans ((if_neg c4).trans rfl)))) hP) (show v_X4_readBill t  = (1 : Int32) from (if_neg c1).trans ((if_pos c2).trans ((if_neg c3).trans ((if_neg c4).trans rfl)))).symm dX4_readBill_85
    · skip
      refine lv_aload_n hx hb dX4_readBill_22 rfl (lv_at hl 0 rfl) ?_
      refine lv_iconst (v := 0) hx hb dX4_readBill_23 (by decide) ?_
      refine lv_bipush (v := 40) hx hb dX4_readBill_24 (by decide) ?_
      refine r_callI S hK hP (c_X4_readNumber l G a hI (w_X4_skip (w_X4_readCustomerAndAmount t (9999 : Int32)) (64 : Int32)) _ _ (by decide)) (r_cw S k_552 k_549 k_550 k_551 k_24 q_X4_readNumber ⟨Nat.le_of_ble_eq_true rfl, Nat.le_of_ble_eq_true rfl⟩ rfl rfl) (g_recv hK hP (i := 0) (by omega) tC0 rfl) rfl hl.1 rfl (Nat.le_of_ble_eq_true rfl) dX4_readBill_26 ⟨Nat.zero_le _, Nat.zero_le _⟩ hS (fun _ h => h) (fun H locs hP _ _ hS => ?_)
      have hP : tP G a (w_X4_readNumber (w_X4_skip (w_X4_readCustomerAndAmount t (9999 : Int32)) (64 : Int32)) (0 : Int32) (40 : Int32)) H := hP
      refine lv_goto (tgt := 34) hx hb dX4_readBill_29 (by decide) ?_
      refine g_put S hK hP hI hS (i := 0) (by omega) tC0 rfl inlX4 tyX4 tyX4_ok nmX4 tF_n 6 (by decide) k_542 rfl pI rfl rfl (fun _ => rfl) dX4_readBill_34 (fun H locs hP hS => ?_)
      have hP : tP G a (up (w_X4_readNumber (w_X4_skip (w_X4_readCustomerAndAmount t (9999 : Int32)) (64 : Int32)) (0 : Int32) (40 : Int32)) 0 6 (v_X4_readNumber (w_X4_skip (w_X4_readCustomerAndAmount t (9999 : Int32)) (64 : Int32)) (0 : Int32) (40 : Int32))) H := hP
      refine lv_aload_n hx hb dX4_readBill_37 rfl (lv_at hl 0 rfl) ?_
      refine g_get S hK hP (i := 0) (by omega) tC0 rfl inlX4 6 (by decide) k_542 (v := .int (v_X4_readNumber (w_X4_skip (w_X4_readCustomerAndAmount t (9999 : Int32)) (64 : Int32)) (0 : Int32) (40 : Int32))) (congrArg Value.int (up_same)) dX4_readBill_38 ?_
      refine lv_iconst (v := -1) hx hb dX4_readBill_41 (by decide) ?_
      refine lv_icmp_ne (tgt := 47) hx hb dX4_readBill_42 (by decide) (fun c5 => ?_) (fun c5 => ?_)
      · skip
        refine lv_aload_n hx hb dX4_readBill_47 rfl (lv_at hl 0 rfl) ?_
        refine lv_aload_n hx hb dX4_readBill_48 rfl (lv_at hl 0 rfl) ?_
        refine lv_bipush (v := 43) hx hb dX4_readBill_49 (by decide) ?_
        refine r_callI S hK hP (c_X4_skip l G a hI (up (w_X4_readNumber (w_X4_skip (w_X4_readCustomerAndAmount t (9999 : Int32)) (64 : Int32)) (0 : Int32) (40 : Int32)) 0 6 (v_X4_readNumber (w_X4_skip (w_X4_readCustomerAndAmount t (9999 : Int32)) (64 : Int32)) (0 : Int32) (40 : Int32))) _ ) (r_cw S k_537 k_534 k_535 k_536 k_24 q_X4_skip ⟨Nat.le_of_ble_eq_true rfl, Nat.le_of_ble_eq_true rfl⟩ rfl rfl) (g_recv hK hP (i := 0) (by omega) tC0 rfl) rfl hl.1 rfl (Nat.le_of_ble_eq_true rfl) dX4_readBill_51 ⟨Nat.zero_le _, Nat.zero_le _⟩ hS (fun _ h => h) (fun H locs hP _ _ hS => ?_)
        have hP : tP G a (w_X4_skip (up (w_X4_readNumber (w_X4_skip (w_X4_readCustomerAndAmount t (9999 : Int32)) (64 : Int32)) (0 : Int32) (40 : Int32)) 0 6 (v_X4_readNumber (w_X4_skip (w_X4_readCustomerAndAmount t (9999 : Int32)) (64 : Int32)) (0 : Int32) (40 : Int32))) (43 : Int32)) H := hP
        refine lv_if_eq (tgt := 67) hx hb dX4_readBill_54 (by decide) (fun c6 => ?_) (fun c6 => ?_)
        · skip
          refine lv_bipush (v := 14) hx hb dX4_readBill_67 (by decide) ?_
          refine g_put S hK hP hI hS (i := 0) (by omega) tC0 rfl inlX4 tyX4 tyX4_ok nmX4 tF_n 7 (by decide) k_533 rfl pI rfl rfl (fun _ => rfl) dX4_readBill_69 (fun H locs hP hS => ?_)
          have hP : tP G a (up (w_X4_skip (up (w_X4_readNumber (w_X4_skip (w_X4_readCustomerAndAmount t (9999 : Int32)) (64 : Int32)) (0 : Int32) (40 : Int32)) 0 6 (v_X4_readNumber (w_X4_skip (w_X4_readCustomerAndAmount t (9999 : Int32)) (64 : Int32)) (0 : Int32) (40 : Int32))) (43 : Int32)) 0 7 (14 : Int32)) H := hP
          refine lv_aload_n hx hb dX4_readBill_72 rfl (lv_at hl 0 rfl) ?_
          refine g_get S hK hP (i := 0) (by omega) tC0 rfl inlX4 7 (by decide) k_533 (v := .int (14 : Int32)) (congrArg Value.int (up_same)) dX4_readBill_73 ?_
          refine lv_iconst (v := -1) hx hb dX4_readBill_76 (by decide) ?_
          refine lv_icmp_eq (tgt := 84) hx hb dX4_readBill_77 (by decide) (fun c => absurd c (by decide)) (fun _ => ?_)
          refine lv_iconst (v := 1) hx hb dX4_readBill_80 (by decide) ?_
          refine lv_goto (tgt := 85) hx hb dX4_readBill_81 (by decide) ?_
          exact e_int S hr hlk rfl hK hS (gP_eq (show w_X4_readBill t  = up (w_X4_skip (up (w_X4_readNumber (w_X4_skip (w_X4_readCustomerAndAmount t (9999 : Int32)) (64 : Int32)) (0 : Int32) (40 : Int32)) 0 6 (v_X4_readNumber (w_X4_skip (w_X4_readCustomerAndAmount t (9999 : Int32)) (64 : Int32)) (0 : Int32) (40 : Int32))) (43 : Int32)) 0 7 (14 : Int32) from (if_neg c1).trans ((if_neg c2).trans ((if_neg c5).trans ((if_pos c6).trans rfl)))) hP) (show v_X4_readBill t  = (1 : Int32) from (if_neg c1).trans ((if_neg c2).trans ((if_neg c5).trans ((if_pos c6).trans rfl)))).symm dX4_readBill_85
        · skip
          refine lv_aload_n hx hb dX4_readBill_57 rfl (lv_at hl 0 rfl) ?_
          refine lv_iconst (v := 0) hx hb dX4_readBill_58 (by decide) ?_
          refine lv_bipush (v := 99) hx hb dX4_readBill_59 (by decide) ?_
          refine r_callI S hK hP (c_X4_readNumber l G a hI (w_X4_skip (up (w_X4_readNumber (w_X4_skip (w_X4_readCustomerAndAmount t (9999 : Int32)) (64 : Int32)) (0 : Int32) (40 : Int32)) 0 6 (v_X4_readNumber (w_X4_skip (w_X4_readCustomerAndAmount t (9999 : Int32)) (64 : Int32)) (0 : Int32) (40 : Int32))) (43 : Int32)) _ _ (by decide)) (r_cw S k_552 k_549 k_550 k_551 k_24 q_X4_readNumber ⟨Nat.le_of_ble_eq_true rfl, Nat.le_of_ble_eq_true rfl⟩ rfl rfl) (g_recv hK hP (i := 0) (by omega) tC0 rfl) rfl hl.1 rfl (Nat.le_of_ble_eq_true rfl) dX4_readBill_61 ⟨Nat.zero_le _, Nat.zero_le _⟩ hS (fun _ h => h) (fun H locs hP _ _ hS => ?_)
          have hP : tP G a (w_X4_readNumber (w_X4_skip (up (w_X4_readNumber (w_X4_skip (w_X4_readCustomerAndAmount t (9999 : Int32)) (64 : Int32)) (0 : Int32) (40 : Int32)) 0 6 (v_X4_readNumber (w_X4_skip (w_X4_readCustomerAndAmount t (9999 : Int32)) (64 : Int32)) (0 : Int32) (40 : Int32))) (43 : Int32)) (0 : Int32) (99 : Int32)) H := hP
          refine lv_goto (tgt := 69) hx hb dX4_readBill_64 (by decide) ?_
          refine g_put S hK hP hI hS (i := 0) (by omega) tC0 rfl inlX4 tyX4 tyX4_ok nmX4 tF_n 7 (by decide) k_533 rfl pI rfl rfl (fun _ => rfl) dX4_readBill_69 (fun H locs hP hS => ?_)
          have hP : tP G a (up (w_X4_readNumber (w_X4_skip (up (w_X4_readNumber (w_X4_skip (w_X4_readCustomerAndAmount t (9999 : Int32)) (64 : Int32)) (0 : Int32) (40 : Int32)) 0 6 (v_X4_readNumber (w_X4_skip (w_X4_readCustomerAndAmount t (9999 : Int32)) (64 : Int32)) (0 : Int32) (40 : Int32))) (43 : Int32)) (0 : Int32) (99 : Int32)) 0 7 (v_X4_readNumber (w_X4_skip (up (w_X4_readNumber (w_X4_skip (w_X4_readCustomerAndAmount t (9999 : Int32)) (64 : Int32)) (0 : Int32) (40 : Int32)) 0 6 (v_X4_readNumber (w_X4_skip (w_X4_readCustomerAndAmount t (9999 : Int32)) (64 : Int32)) (0 : Int32) (40 : Int32))) (43 : Int32)) (0 : Int32) (99 : Int32))) H := hP
          refine lv_aload_n hx hb dX4_readBill_72 rfl (lv_at hl 0 rfl) ?_
          refine g_get S hK hP (i := 0) (by omega) tC0 rfl inlX4 7 (by decide) k_533 (v := .int (v_X4_readNumber (w_X4_skip (up (w_X4_readNumber (w_X4_skip (w_X4_readCustomerAndAmount t (9999 : Int32)) (64 : Int32)) (0 : Int32) (40 : Int32)) 0 6 (v_X4_readNumber (w_X4_skip (w_X4_readCustomerAndAmount t (9999 : Int32)) (64 : Int32)) (0 : Int32) (40 : Int32))) (43 : Int32)) (0 : Int32) (99 : Int32))) (congrArg Value.int (up_same)) dX4_readBill_73 ?_
          refine lv_iconst (v := -1) hx hb dX4_readBill_76 (by decide) ?_
          refine lv_icmp_eq (tgt := 84) hx hb dX4_readBill_77 (by decide) (fun c7 => ?_) (fun c7 => ?_)
          · skip
            refine lv_iconst (v := 0) hx hb dX4_readBill_84 (by decide) ?_
            exact e_int S hr hlk rfl hK hS (gP_eq (show w_X4_readBill t  = up (w_X4_readNumber (w_X4_skip (up (w_X4_readNumber (w_X4_skip (w_X4_readCustomerAndAmount t (9999 : Int32)) (64 : Int32)) (0 : Int32) (40 : Int32)) 0 6 (v_X4_readNumber (w_X4_skip (w_X4_readCustomerAndAmount t (9999 : Int32)) (64 : Int32)) (0 : Int32) (40 : Int32))) (43 : Int32)) (0 : Int32) (99 : Int32)) 0 7 (v_X4_readNumber (w_X4_skip (up (w_X4_readNumber (w_X4_skip (w_X4_readCustomerAndAmount t (9999 : Int32)) (64 : Int32)) (0 : Int32) (40 : Int32)) 0 6 (v_X4_readNumber (w_X4_skip (w_X4_readCustomerAndAmount t (9999 : Int32)) (64 : Int32)) (0 : Int32) (40 : Int32))) (43 : Int32)) (0 : Int32) (99 : Int32)) from (if_neg c1).trans ((if_neg c2).trans ((if_neg c5).trans ((if_neg c6).trans ((if_pos c7).trans rfl))))) hP) (show v_X4_readBill t  = (0 : Int32) from (if_neg c1).trans ((if_neg c2).trans ((if_neg c5).trans ((if_neg c6).trans ((if_pos c7).trans rfl))))).symm dX4_readBill_85
          · skip
            refine lv_iconst (v := 1) hx hb dX4_readBill_80 (by decide) ?_
            refine lv_goto (tgt := 85) hx hb dX4_readBill_81 (by decide) ?_
            exact e_int S hr hlk rfl hK hS (gP_eq (show w_X4_readBill t  = up (w_X4_readNumber (w_X4_skip (up (w_X4_readNumber (w_X4_skip (w_X4_readCustomerAndAmount t (9999 : Int32)) (64 : Int32)) (0 : Int32) (40 : Int32)) 0 6 (v_X4_readNumber (w_X4_skip (w_X4_readCustomerAndAmount t (9999 : Int32)) (64 : Int32)) (0 : Int32) (40 : Int32))) (43 : Int32)) (0 : Int32) (99 : Int32)) 0 7 (v_X4_readNumber (w_X4_skip (up (w_X4_readNumber (w_X4_skip (w_X4_readCustomerAndAmount t (9999 : Int32)) (64 : Int32)) (0 : Int32) (40 : Int32)) 0 6 (v_X4_readNumber (w_X4_skip (w_X4_readCustomerAndAmount t (9999 : Int32)) (64 : Int32)) (0 : Int32) (40 : Int32))) (43 : Int32)) (0 : Int32) (99 : Int32)) from (if_neg c1).trans ((if_neg c2).trans ((if_neg c5).trans ((if_neg c6).trans ((if_neg c7).trans rfl))))) hP) (show v_X4_readBill t  = (1 : Int32) from (if_neg c1).trans ((if_neg c2).trans ((if_neg c5).trans ((if_neg c6).trans ((if_neg c7).trans rfl))))).symm dX4_readBill_85
      · skip
        refine lv_iconst (v := 0) hx hb dX4_readBill_45 (by decide) ?_
        exact e_int S hr hlk rfl hK hS (gP_eq (show w_X4_readBill t  = up (w_X4_readNumber (w_X4_skip (w_X4_readCustomerAndAmount t (9999 : Int32)) (64 : Int32)) (0 : Int32) (40 : Int32)) 0 6 (v_X4_readNumber (w_X4_skip (w_X4_readCustomerAndAmount t (9999 : Int32)) (64 : Int32)) (0 : Int32) (40 : Int32)) from (if_neg c1).trans ((if_neg c2).trans ((if_pos c5).trans rfl))) hP) (show v_X4_readBill t  = (0 : Int32) from (if_neg c1).trans ((if_neg c2).trans ((if_pos c5).trans rfl))).symm dX4_readBill_46
  · skip
    refine lv_iconst (v := 0) hx hb dX4_readBill_10 (by decide) ?_
    exact e_int S hr hlk rfl hK hS (gP_eq (show w_X4_readBill t  = w_X4_readCustomerAndAmount t (9999 : Int32) from (if_pos c1).trans rfl) hP) (show v_X4_readBill t  = (0 : Int32) from (if_pos c1).trans rfl).symm dX4_readBill_11

def v_X4_readThing (t : Nat → Nat → Int32) : Int32 := if v_X4_skip t (98 : Int32) = 0 then (if v_X4_skip (w_X4_skip t (98 : Int32)) (112 : Int32) = 0 then (if v_X4_skip (w_X4_skip (w_X4_skip t (98 : Int32)) (112 : Int32)) (114 : Int32) = 0 then (if v_X4_skip (w_X4_skip (w_X4_skip (w_X4_skip t (98 : Int32)) (112 : Int32)) (114 : Int32)) (46 : Int32) = 0 then (0 : Int32) else if v_X4_readNumber (up (w_X4_skip (w_X4_skip (w_X4_skip (w_X4_skip t (98 : Int32)) (112 : Int32)) (114 : Int32)) (46 : Int32)) 0 3 (4 : Int32)) (1 : Int32) (99 : Int32) = (-1 : Int32) then (0 : Int32) else (1 : Int32)) else (1 : Int32)) else v_X4_readPayment (up (w_X4_skip (w_X4_skip t (98 : Int32)) (112 : Int32)) 0 3 (1 : Int32))) else v_X4_readBill (up (w_X4_skip t (98 : Int32)) 0 3 (0 : Int32))
def w_X4_readThing (t : Nat → Nat → Int32) : Nat → Nat → Int32 := if v_X4_skip t (98 : Int32) = 0 then (if v_X4_skip (w_X4_skip t (98 : Int32)) (112 : Int32) = 0 then (if v_X4_skip (w_X4_skip (w_X4_skip t (98 : Int32)) (112 : Int32)) (114 : Int32) = 0 then (if v_X4_skip (w_X4_skip (w_X4_skip (w_X4_skip t (98 : Int32)) (112 : Int32)) (114 : Int32)) (46 : Int32) = 0 then (w_X4_skip (w_X4_skip (w_X4_skip (w_X4_skip t (98 : Int32)) (112 : Int32)) (114 : Int32)) (46 : Int32)) else if v_X4_readNumber (up (w_X4_skip (w_X4_skip (w_X4_skip (w_X4_skip t (98 : Int32)) (112 : Int32)) (114 : Int32)) (46 : Int32)) 0 3 (4 : Int32)) (1 : Int32) (99 : Int32) = (-1 : Int32) then (up (w_X4_readNumber (up (w_X4_skip (w_X4_skip (w_X4_skip (w_X4_skip t (98 : Int32)) (112 : Int32)) (114 : Int32)) (46 : Int32)) 0 3 (4 : Int32)) (1 : Int32) (99 : Int32)) 0 7 (v_X4_readNumber (up (w_X4_skip (w_X4_skip (w_X4_skip (w_X4_skip t (98 : Int32)) (112 : Int32)) (114 : Int32)) (46 : Int32)) 0 3 (4 : Int32)) (1 : Int32) (99 : Int32))) else up (w_X4_readNumber (up (w_X4_skip (w_X4_skip (w_X4_skip (w_X4_skip t (98 : Int32)) (112 : Int32)) (114 : Int32)) (46 : Int32)) 0 3 (4 : Int32)) (1 : Int32) (99 : Int32)) 0 7 (v_X4_readNumber (up (w_X4_skip (w_X4_skip (w_X4_skip (w_X4_skip t (98 : Int32)) (112 : Int32)) (114 : Int32)) (46 : Int32)) 0 3 (4 : Int32)) (1 : Int32) (99 : Int32))) else up (w_X4_skip (w_X4_skip (w_X4_skip t (98 : Int32)) (112 : Int32)) (114 : Int32)) 0 3 (3 : Int32)) else w_X4_readPayment (up (w_X4_skip (w_X4_skip t (98 : Int32)) (112 : Int32)) 0 3 (1 : Int32))) else w_X4_readBill (up (w_X4_skip t (98 : Int32)) 0 3 (0 : Int32))
theorem q_X4_readThing : yX4_readThing.cls ≠ "java/lang/invoke/MethodHandle" ∧ yX4_readThing.cls ≠ "java/lang/invoke/VarHandle" ∧ (parseMethodDescriptor yX4_readThing.desc).map (fun d => d.parameters.length) = some 0 := ⟨by decide, by decide, by decide +kernel⟩
theorem z_X4_readThing (t : Nat → Nat → Int32) : narrow .boolean (.int (v_X4_readThing t )) = .int (v_X4_readThing t ) := by
  unfold v_X4_readThing
  exact z_ite (z_ite (z_ite (z_ite z_0 (z_ite z_0 z_1)) z_1) (z_X4_readPayment _)) (z_X4_readBill _)
set_option maxHeartbeats 4000000 in
set_option maxRecDepth 100000 in
theorem c_X4_readThing (l : Launch) (G : kG) (a : Nat → Nat) (hI : gI 2 a) (t : Nat → Nat → Int32) : Met l yX4_readThing (Cond.code yX4_readThing cX4_readThing 1 (some .boolean) :: BIG) (rmK 4) (pcG G (tP G a t) [.ref (a 0)]) (qcI G (gA 2 a) (tP G a (w_X4_readThing t)) (v_X4_readThing t)) 0 0 (gA 2 a) := by
  refine m_start (by decide) (Nat.le_of_ble_eq_true rfl) ?_
  intro p e s m args below meth c S hr hlk hnm hP hK ls hl
  have hx := S.1
  have hb := S.2.1
  have hown := S.2.2.2.1
  have hS : va_S (gA 2 a) s.heap s.heap [] := va_S.rf
  have hl : lv_has ls 1 [(0, .ref (a 0))] := hl
  refine lv_aload_n hx hb dX4_readThing_0 rfl (lv_at hl 0 rfl) ?_
  refine lv_bipush (v := 98) hx hb dX4_readThing_1 (by decide) ?_
  refine r_callI S hK hP (c_X4_skip l G a hI t _ ) (r_cw S k_537 k_534 k_535 k_536 k_24 q_X4_skip ⟨Nat.le_of_ble_eq_true rfl, Nat.le_of_ble_eq_true rfl⟩ rfl rfl) (g_recv hK hP (i := 0) (by omega) tC0 rfl) rfl hl.1 rfl (Nat.le_of_ble_eq_true rfl) dX4_readThing_3 ⟨Nat.zero_le _, Nat.zero_le _⟩ hS (fun _ h => h) (fun H locs hP _ _ hS => ?_)
  have hP : tP G a (w_X4_skip t (98 : Int32)) H := hP
  refine lv_if_eq (tgt := 19) hx hb dX4_readThing_6 (by decide) (fun c1 => ?_) (fun c1 => ?_)
  · skip
    refine lv_aload_n hx hb dX4_readThing_19 rfl (lv_at hl 0 rfl) ?_
    refine lv_bipush (v := 112) hx hb dX4_readThing_20 (by decide) ?_
    refine r_callI S hK hP (c_X4_skip l G a hI (w_X4_skip t (98 : Int32)) _ ) (r_cw S k_537 k_534 k_535 k_536 k_24 q_X4_skip ⟨Nat.le_of_ble_eq_true rfl, Nat.le_of_ble_eq_true rfl⟩ rfl rfl) (g_recv hK hP (i := 0) (by omega) tC0 rfl) rfl hl.1 rfl (Nat.le_of_ble_eq_true rfl) dX4_readThing_22 ⟨Nat.zero_le _, Nat.zero_le _⟩ hS (fun _ h => h) (fun H locs hP _ _ hS => ?_)
    have hP : tP G a (w_X4_skip (w_X4_skip t (98 : Int32)) (112 : Int32)) H := hP
    refine lv_if_eq (tgt := 38) hx hb dX4_readThing_25 (by decide) (fun c2 => ?_) (fun c2 => ?_)
    · skip
      refine lv_aload_n hx hb dX4_readThing_38 rfl (lv_at hl 0 rfl) ?_
      refine lv_bipush (v := 114) hx hb dX4_readThing_39 (by decide) ?_
      refine r_callI S hK hP (c_X4_skip l G a hI (w_X4_skip (w_X4_skip t (98 : Int32)) (112 : Int32)) _ ) (r_cw S k_537 k_534 k_535 k_536 k_24 q_X4_skip ⟨Nat.le_of_ble_eq_true rfl, Nat.le_of_ble_eq_true rfl⟩ rfl rfl) (g_recv hK hP (i := 0) (by omega) tC0 rfl) rfl hl.1 rfl (Nat.le_of_ble_eq_true rfl) dX4_readThing_41 ⟨Nat.zero_le _, Nat.zero_le _⟩ hS (fun _ h => h) (fun H locs hP _ _ hS => ?_)
      have hP : tP G a (w_X4_skip (w_X4_skip (w_X4_skip t (98 : Int32)) (112 : Int32)) (114 : Int32)) H := hP
      refine lv_if_eq (tgt := 54) hx hb dX4_readThing_44 (by decide) (fun c3 => ?_) (fun c3 => ?_)
      · skip
        refine lv_aload_n hx hb dX4_readThing_54 rfl (lv_at hl 0 rfl) ?_
        refine lv_bipush (v := 46) hx hb dX4_readThing_55 (by decide) ?_
        refine r_callI S hK hP (c_X4_skip l G a hI (w_X4_skip (w_X4_skip (w_X4_skip t (98 : Int32)) (112 : Int32)) (114 : Int32)) _ ) (r_cw S k_537 k_534 k_535 k_536 k_24 q_X4_skip ⟨Nat.le_of_ble_eq_true rfl, Nat.le_of_ble_eq_true rfl⟩ rfl rfl) (g_recv hK hP (i := 0) (by omega) tC0 rfl) rfl hl.1 rfl (Nat.le_of_ble_eq_true rfl) dX4_readThing_57 ⟨Nat.zero_le _, Nat.zero_le _⟩ hS (fun _ h => h) (fun H locs hP _ _ hS => ?_)
        have hP : tP G a (w_X4_skip (w_X4_skip (w_X4_skip (w_X4_skip t (98 : Int32)) (112 : Int32)) (114 : Int32)) (46 : Int32)) H := hP
        refine lv_if_eq (tgt := 93) hx hb dX4_readThing_60 (by decide) (fun c4 => ?_) (fun c4 => ?_)
        · skip
          refine lv_iconst (v := 0) hx hb dX4_readThing_93 (by decide) ?_
          exact e_int S hr hlk rfl hK hS (gP_eq (show w_X4_readThing t  = w_X4_skip (w_X4_skip (w_X4_skip (w_X4_skip t (98 : Int32)) (112 : Int32)) (114 : Int32)) (46 : Int32) from (if_pos c1).trans ((if_pos c2).trans ((if_pos c3).trans ((if_pos c4).trans rfl)))) hP) (show v_X4_readThing t  = (0 : Int32) from (if_pos c1).trans ((if_pos c2).trans ((if_pos c3).trans ((if_pos c4).trans rfl)))).symm dX4_readThing_94
        · skip
          refine lv_aload_n hx hb dX4_readThing_63 rfl (lv_at hl 0 rfl) ?_
          refine lv_iconst (v := 4) hx hb dX4_readThing_64 (by decide) ?_
          refine g_put S hK hP hI hS (i := 0) (by omega) tC0 rfl inlX4 tyX4 tyX4_ok nmX4 tF_n 3 (by decide) k_532 rfl pI rfl rfl (fun _ => rfl) dX4_readThing_65 (fun H locs hP hS => ?_)
          have hP : tP G a (up (w_X4_skip (w_X4_skip (w_X4_skip (w_X4_skip t (98 : Int32)) (112 : Int32)) (114 : Int32)) (46 : Int32)) 0 3 (4 : Int32)) H := hP
          refine lv_aload_n hx hb dX4_readThing_68 rfl (lv_at hl 0 rfl) ?_
          refine lv_aload_n hx hb dX4_readThing_69 rfl (lv_at hl 0 rfl) ?_
          refine lv_iconst (v := 1) hx hb dX4_readThing_70 (by decide) ?_
          refine lv_bipush (v := 99) hx hb dX4_readThing_71 (by decide) ?_
          refine r_callI S hK hP (c_X4_readNumber l G a hI (up (w_X4_skip (w_X4_skip (w_X4_skip (w_X4_skip t (98 : Int32)) (112 : Int32)) (114 : Int32)) (46 : Int32)) 0 3 (4 : Int32)) _ _ (by decide)) (r_cw S k_552 k_549 k_550 k_551 k_24 q_X4_readNumber ⟨Nat.le_of_ble_eq_true rfl, Nat.le_of_ble_eq_true rfl⟩ rfl rfl) (g_recv hK hP (i := 0) (by omega) tC0 rfl) rfl hl.1 rfl (Nat.le_of_ble_eq_true rfl) dX4_readThing_73 ⟨Nat.zero_le _, Nat.zero_le _⟩ hS (fun _ h => h) (fun H locs hP _ _ hS => ?_)
          have hP : tP G a (w_X4_readNumber (up (w_X4_skip (w_X4_skip (w_X4_skip (w_X4_skip t (98 : Int32)) (112 : Int32)) (114 : Int32)) (46 : Int32)) 0 3 (4 : Int32)) (1 : Int32) (99 : Int32)) H := hP
          refine g_put S hK hP hI hS (i := 0) (by omega) tC0 rfl inlX4 tyX4 tyX4_ok nmX4 tF_n 7 (by decide) k_533 rfl pI rfl rfl (fun _ => rfl) dX4_readThing_76 (fun H locs hP hS => ?_)
          have hP : tP G a (up (w_X4_readNumber (up (w_X4_skip (w_X4_skip (w_X4_skip (w_X4_skip t (98 : Int32)) (112 : Int32)) (114 : Int32)) (46 : Int32)) 0 3 (4 : Int32)) (1 : Int32) (99 : Int32)) 0 7 (v_X4_readNumber (up (w_X4_skip (w_X4_skip (w_X4_skip (w_X4_skip t (98 : Int32)) (112 : Int32)) (114 : Int32)) (46 : Int32)) 0 3 (4 : Int32)) (1 : Int32) (99 : Int32))) H := hP
          refine lv_aload_n hx hb dX4_readThing_79 rfl (lv_at hl 0 rfl) ?_
          refine g_get S hK hP (i := 0) (by omega) tC0 rfl inlX4 7 (by decide) k_533 (v := .int (v_X4_readNumber (up (w_X4_skip (w_X4_skip (w_X4_skip (w_X4_skip t (98 : Int32)) (112 : Int32)) (114 : Int32)) (46 : Int32)) 0 3 (4 : Int32)) (1 : Int32) (99 : Int32))) (congrArg Value.int (up_same)) dX4_readThing_80 ?_
          refine lv_iconst (v := -1) hx hb dX4_readThing_83 (by decide) ?_
          refine lv_icmp_eq (tgt := 91) hx hb dX4_readThing_84 (by decide) (fun c5 => ?_) (fun c5 => ?_)
          · skip
            refine lv_iconst (v := 0) hx hb dX4_readThing_91 (by decide) ?_
            exact e_int S hr hlk rfl hK hS (gP_eq (show w_X4_readThing t  = up (w_X4_readNumber (up (w_X4_skip (w_X4_skip (w_X4_skip (w_X4_skip t (98 : Int32)) (112 : Int32)) (114 : Int32)) (46 : Int32)) 0 3 (4 : Int32)) (1 : Int32) (99 : Int32)) 0 7 (v_X4_readNumber (up (w_X4_skip (w_X4_skip (w_X4_skip (w_X4_skip t (98 : Int32)) (112 : Int32)) (114 : Int32)) (46 : Int32)) 0 3 (4 : Int32)) (1 : Int32) (99 : Int32)) from (if_pos c1).trans ((if_pos c2).trans ((if_pos c3).trans ((if_neg c4).trans ((if_pos c5).trans rfl))))) hP) (show v_X4_readThing t  = (0 : Int32) from (if_pos c1).trans ((if_pos c2).trans ((if_pos c3).trans ((if_neg c4).trans ((if_pos c5).trans rfl))))).symm dX4_readThing_92
          · skip
            refine lv_iconst (v := 1) hx hb dX4_readThing_87 (by decide) ?_
            refine lv_goto (tgt := 92) hx hb dX4_readThing_88 (by decide) ?_
            exact e_int S hr hlk rfl hK hS (gP_eq (show w_X4_readThing t  = up (w_X4_readNumber (up (w_X4_skip (w_X4_skip (w_X4_skip (w_X4_skip t (98 : Int32)) (112 : Int32)) (114 : Int32)) (46 : Int32)) 0 3 (4 : Int32)) (1 : Int32) (99 : Int32)) 0 7 (v_X4_readNumber (up (w_X4_skip (w_X4_skip (w_X4_skip (w_X4_skip t (98 : Int32)) (112 : Int32)) (114 : Int32)) (46 : Int32)) 0 3 (4 : Int32)) (1 : Int32) (99 : Int32)) from (if_pos c1).trans ((if_pos c2).trans ((if_pos c3).trans ((if_neg c4).trans ((if_neg c5).trans rfl))))) hP) (show v_X4_readThing t  = (1 : Int32) from (if_pos c1).trans ((if_pos c2).trans ((if_pos c3).trans ((if_neg c4).trans ((if_neg c5).trans rfl))))).symm dX4_readThing_92
      · skip
        refine lv_aload_n hx hb dX4_readThing_47 rfl (lv_at hl 0 rfl) ?_
        refine lv_iconst (v := 3) hx hb dX4_readThing_48 (by decide) ?_
        refine g_put S hK hP hI hS (i := 0) (by omega) tC0 rfl inlX4 tyX4 tyX4_ok nmX4 tF_n 3 (by decide) k_532 rfl pI rfl rfl (fun _ => rfl) dX4_readThing_49 (fun H locs hP hS => ?_)
        have hP : tP G a (up (w_X4_skip (w_X4_skip (w_X4_skip t (98 : Int32)) (112 : Int32)) (114 : Int32)) 0 3 (3 : Int32)) H := hP
        refine lv_iconst (v := 1) hx hb dX4_readThing_52 (by decide) ?_
        exact e_int S hr hlk rfl hK hS (gP_eq (show w_X4_readThing t  = up (w_X4_skip (w_X4_skip (w_X4_skip t (98 : Int32)) (112 : Int32)) (114 : Int32)) 0 3 (3 : Int32) from (if_pos c1).trans ((if_pos c2).trans ((if_neg c3).trans rfl))) hP) (show v_X4_readThing t  = (1 : Int32) from (if_pos c1).trans ((if_pos c2).trans ((if_neg c3).trans rfl))).symm dX4_readThing_53
    · skip
      refine lv_aload_n hx hb dX4_readThing_28 rfl (lv_at hl 0 rfl) ?_
      refine lv_iconst (v := 1) hx hb dX4_readThing_29 (by decide) ?_
      refine g_put S hK hP hI hS (i := 0) (by omega) tC0 rfl inlX4 tyX4 tyX4_ok nmX4 tF_n 3 (by decide) k_532 rfl pI rfl rfl (fun _ => rfl) dX4_readThing_30 (fun H locs hP hS => ?_)
      have hP : tP G a (up (w_X4_skip (w_X4_skip t (98 : Int32)) (112 : Int32)) 0 3 (1 : Int32)) H := hP
      refine lv_aload_n hx hb dX4_readThing_33 rfl (lv_at hl 0 rfl) ?_
      refine r_callI S hK hP (c_X4_readPayment l G a hI (up (w_X4_skip (w_X4_skip t (98 : Int32)) (112 : Int32)) 0 3 (1 : Int32)) ) (r_cw S k_560 k_557 k_558 k_559 k_24 q_X4_readPayment ⟨Nat.le_of_ble_eq_true rfl, Nat.le_of_ble_eq_true rfl⟩ rfl rfl) (g_recv hK hP (i := 0) (by omega) tC0 rfl) rfl hl.1 rfl (Nat.le_of_ble_eq_true rfl) dX4_readThing_34 ⟨Nat.zero_le _, Nat.zero_le _⟩ hS (fun _ h => h) (fun H locs hP _ _ hS => ?_)
      have hP : tP G a (w_X4_readPayment (up (w_X4_skip (w_X4_skip t (98 : Int32)) (112 : Int32)) 0 3 (1 : Int32))) H := hP
      exact e_int S hr hlk (z_X4_readPayment _) hK hS (gP_eq (show w_X4_readThing t  = w_X4_readPayment (up (w_X4_skip (w_X4_skip t (98 : Int32)) (112 : Int32)) 0 3 (1 : Int32)) from (if_pos c1).trans ((if_neg c2).trans rfl)) hP) (show v_X4_readThing t  = v_X4_readPayment (up (w_X4_skip (w_X4_skip t (98 : Int32)) (112 : Int32)) 0 3 (1 : Int32)) from (if_pos c1).trans ((if_neg c2).trans rfl)).symm dX4_readThing_37
  · skip
    refine lv_aload_n hx hb dX4_readThing_9 rfl (lv_at hl 0 rfl) ?_
    refine lv_iconst (v := 0) hx hb dX4_readThing_10 (by decide) ?_
    refine g_put S hK hP hI hS (i := 0) (by omega) tC0 rfl inlX4 tyX4 tyX4_ok nmX4 tF_n 3 (by decide) k_532 rfl pI rfl rfl (fun _ => rfl) dX4_readThing_11 (fun H locs hP hS => ?_)
    have hP : tP G a (up (w_X4_skip t (98 : Int32)) 0 3 (0 : Int32)) H := hP
    refine lv_aload_n hx hb dX4_readThing_14 rfl (lv_at hl 0 rfl) ?_
    refine r_callI S hK hP (c_X4_readBill l G a hI (up (w_X4_skip t (98 : Int32)) 0 3 (0 : Int32)) ) (r_cw S k_541 k_538 k_539 k_540 k_24 q_X4_readBill ⟨Nat.le_of_ble_eq_true rfl, Nat.le_of_ble_eq_true rfl⟩ rfl rfl) (g_recv hK hP (i := 0) (by omega) tC0 rfl) rfl hl.1 rfl (Nat.le_of_ble_eq_true rfl) dX4_readThing_15 ⟨Nat.zero_le _, Nat.zero_le _⟩ hS (fun _ h => h) (fun H locs hP _ _ hS => ?_)
    have hP : tP G a (w_X4_readBill (up (w_X4_skip t (98 : Int32)) 0 3 (0 : Int32))) H := hP
    exact e_int S hr hlk (z_X4_readBill _) hK hS (gP_eq (show w_X4_readThing t  = w_X4_readBill (up (w_X4_skip t (98 : Int32)) 0 3 (0 : Int32)) from (if_neg c1).trans rfl) hP) (show v_X4_readThing t  = v_X4_readBill (up (w_X4_skip t (98 : Int32)) 0 3 (0 : Int32)) from (if_neg c1).trans rfl).symm dX4_readThing_18

def v_X4_findFault_loop : Nat → Nat → (Nat → Nat → Int32) → Int32
  | 0, k, t => t 0 2
  | n + 1, k, t => if v_X4_readThing t = 0 then ((w_X4_readThing t) 0 2) else if (w_X4_readThing t) 0 2 < (w_X4_readThing t) 0 1 then (if v_X4_skip (w_X4_readThing t) (59 : Int32) = 0 then ((w_X4_skip (w_X4_readThing t) (59 : Int32)) 0 2) else v_X4_findFault_loop n (k + 1) (w_X4_skip (w_X4_readThing t) (59 : Int32))) else (-1 : Int32)
def w_X4_findFault_loop : Nat → Nat → (Nat → Nat → Int32) → (Nat → Nat → Int32)
  | 0, k, t => t
  | n + 1, k, t => if v_X4_readThing t = 0 then (w_X4_readThing t) else if (w_X4_readThing t) 0 2 < (w_X4_readThing t) 0 1 then (if v_X4_skip (w_X4_readThing t) (59 : Int32) = 0 then (w_X4_skip (w_X4_readThing t) (59 : Int32)) else w_X4_findFault_loop n (k + 1) (w_X4_skip (w_X4_readThing t) (59 : Int32))) else w_X4_readThing t
def v_X4_findFault (t : Nat → Nat → Int32) : Int32 := v_X4_findFault_loop 60 0 (w_X4_goToStart t)
def w_X4_findFault (t : Nat → Nat → Int32) : Nat → Nat → Int32 := w_X4_findFault_loop 60 0 (w_X4_goToStart t)
theorem q_X4_findFault : yX4_findFault.cls ≠ "java/lang/invoke/MethodHandle" ∧ yX4_findFault.cls ≠ "java/lang/invoke/VarHandle" ∧ (parseMethodDescriptor yX4_findFault.desc).map (fun d => d.parameters.length) = some 0 := ⟨by decide, by decide, by decide +kernel⟩
set_option maxHeartbeats 4000000 in
set_option maxRecDepth 100000 in
theorem c_X4_findFault (l : Launch) (G : kG) (a : Nat → Nat) (hI : gI 2 a) (t : Nat → Nat → Int32) : Met l yX4_findFault (Cond.code yX4_findFault cX4_findFault 2 (some .int) :: BIG) (rmK 5) (pcG G (tP G a t) [.ref (a 0)]) (qcI G (gA 2 a) (tP G a (w_X4_findFault t)) (v_X4_findFault t)) 0 0 (gA 2 a) := by
  refine m_start (by decide) (Nat.le_of_ble_eq_true rfl) ?_
  intro p e s m args below meth c S hr hlk hnm hP hK ls hl
  have hx := S.1
  have hb := S.2.1
  have hown := S.2.2.2.1
  have hS : va_S (gA 2 a) s.heap s.heap [] := va_S.rf
  have hl : lv_has ls 2 [(0, .ref (a 0))] := hl
  refine lv_aload_n hx hb dX4_findFault_0 rfl (lv_at hl 0 rfl) ?_
  refine r_callV S hK hP (c_X4_goToStart l G a hI t ) (r_cw S k_527 k_524 k_525 k_526 k_24 q_X4_goToStart ⟨Nat.le_of_ble_eq_true rfl, Nat.le_of_ble_eq_true rfl⟩ rfl rfl) (g_recv hK hP (i := 0) (by omega) tC0 rfl) rfl hl.1 rfl (Nat.le_of_ble_eq_true rfl) dX4_findFault_1 ⟨Nat.zero_le _, Nat.zero_le _⟩ hS (fun _ h => h) (fun H locs hP _ _ hS => ?_)
  have hP : tP G a (w_X4_goToStart t) H := hP
  refine lv_iconst (v := 0) hx hb dX4_findFault_4 (by decide) ?_
  refine lv_istore_n (lv' := [(1, .int (0 : Int32)), (0, .ref (a 0))]) hx hb dX4_findFault_5 rfl hl (by decide) rfl (fun ls hl => ?_)
  have LP_loop : ∀ (n : Nat) (k : Nat), k + n = 60 → ∀ (t : Nat → Nat → Int32) (H : Heap) (locs : List Loc), tP G a t H → va_S (gA 2 a) s.heap H locs → ∀ ls : Array Slot, lv_has ls 2 [(1, .int (nI k)), (0, .ref (a 0))] → W p l e (rmK 5) s m args below meth c H locs 0 0 (MQ below (qcI G (gA 2 a) (tP G a (w_X4_findFault_loop n k t)) (v_X4_findFault_loop n k t)) args s 0 0 (gA 2 a)) (F0 m 6 ls []) := by
    intro n
    induction n with
    | zero =>
      intro k hk_LP_loop t H locs hP hS ls hl
      refine lv_iload_n hx hb dX4_findFault_6 rfl (lv_at hl 0 rfl) ?_
      refine lv_bipush (v := 60) hx hb dX4_findFault_7 (by decide) ?_
      refine lv_icmp_ge (tgt := 57) hx hb dX4_findFault_9 (by decide) (fun _ => ?_) (fun c => absurd ((nI_leI (a := 60) (b := k) (by omega) (by omega)).mpr (by omega)) c)
      refine lv_aload_n hx hb dX4_findFault_57 rfl (lv_at hl 1 rfl) ?_
      refine g_get S hK hP (i := 0) (by omega) tC0 rfl inlX4 2 (by decide) k_523 (v := .int (t 0 2)) rfl dX4_findFault_58 ?_
      exact e_int S hr hlk rfl hK hS (gP_eq (show w_X4_findFault_loop 0 k t = t from rfl) hP) (show v_X4_findFault_loop 0 k t = t 0 2 from rfl).symm dX4_findFault_61
    | succ n ih_LP_loop =>
      intro k hk_LP_loop t H locs hP hS ls hl
      refine lv_iload_n hx hb dX4_findFault_6 rfl (lv_at hl 0 rfl) ?_
      refine lv_bipush (v := 60) hx hb dX4_findFault_7 (by decide) ?_
      refine lv_icmp_ge (tgt := 57) hx hb dX4_findFault_9 (by decide) (fun c => absurd c (fun z => absurd ((nI_leI (a := 60) (b := k) (by omega) (by omega)).mp z) (by omega))) (fun _ => ?_)
      refine lv_aload_n hx hb dX4_findFault_12 rfl (lv_at hl 1 rfl) ?_
      refine r_callI S hK hP (c_X4_readThing l G a hI t ) (r_cw S k_531 k_528 k_529 k_530 k_24 q_X4_readThing ⟨Nat.le_of_ble_eq_true rfl, Nat.le_of_ble_eq_true rfl⟩ rfl rfl) (g_recv hK hP (i := 0) (by omega) tC0 rfl) rfl hl.1 rfl (Nat.le_of_ble_eq_true rfl) dX4_findFault_13 ⟨Nat.zero_le _, Nat.zero_le _⟩ hS (fun _ h => h) (fun H locs hP _ _ hS => ?_)
      have hP : tP G a (w_X4_readThing t) H := hP
      refine lv_if_ne (tgt := 24) hx hb dX4_findFault_16 (by decide) (fun c1 => ?_) (fun c1 => ?_)
      · skip
        refine lv_aload_n hx hb dX4_findFault_24 rfl (lv_at hl 1 rfl) ?_
        refine g_get S hK hP (i := 0) (by omega) tC0 rfl inlX4 2 (by decide) k_523 (v := .int ((w_X4_readThing t) 0 2)) rfl dX4_findFault_25 ?_
        refine lv_aload_n hx hb dX4_findFault_28 rfl (lv_at hl 1 rfl) ?_
        refine g_get S hK hP (i := 0) (by omega) tC0 rfl inlX4 1 (by decide) k_501 (v := .int ((w_X4_readThing t) 0 1)) rfl dX4_findFault_29 ?_
        refine lv_icmp_lt (tgt := 37) hx hb dX4_findFault_32 (by decide) (fun c2 => ?_) (fun c2 => ?_)
        · skip
          refine lv_aload_n hx hb dX4_findFault_37 rfl (lv_at hl 1 rfl) ?_
          refine lv_bipush (v := 59) hx hb dX4_findFault_38 (by decide) ?_
          refine r_callI S hK hP (c_X4_skip l G a hI (w_X4_readThing t) _ ) (r_cw S k_537 k_534 k_535 k_536 k_24 q_X4_skip ⟨Nat.le_of_ble_eq_true rfl, Nat.le_of_ble_eq_true rfl⟩ rfl rfl) (g_recv hK hP (i := 0) (by omega) tC0 rfl) rfl hl.1 rfl (Nat.le_of_ble_eq_true rfl) dX4_findFault_40 ⟨Nat.zero_le _, Nat.zero_le _⟩ hS (fun _ h => h) (fun H locs hP _ _ hS => ?_)
          have hP : tP G a (w_X4_skip (w_X4_readThing t) (59 : Int32)) H := hP
          refine lv_if_ne (tgt := 51) hx hb dX4_findFault_43 (by decide) (fun c3 => ?_) (fun c3 => ?_)
          · skip
            refine lv_iinc (v := nI (k + 1)) (lv' := [(1, .int (nI (k + 1))), (0, .ref (a 0))]) hx hb dX4_findFault_51 hl (k := 0) rfl (nI_1 _) (by decide) rfl (fun ls hl => ?_)
            refine lv_goto (tgt := 6) hx hb dX4_findFault_54 (by decide) ?_
            refine q_eqI (show v_X4_findFault_loop (n + 1) k t = v_X4_findFault_loop n (k + 1) (w_X4_skip (w_X4_readThing t) (59 : Int32)) from (if_neg c1).trans ((if_pos c2).trans ((if_neg c3).trans rfl))) (show w_X4_findFault_loop (n + 1) k t = w_X4_findFault_loop n (k + 1) (w_X4_skip (w_X4_readThing t) (59 : Int32)) from (if_neg c1).trans ((if_pos c2).trans ((if_neg c3).trans rfl))) ?_
            exact ih_LP_loop (k + 1) (by omega) _ _ _ hP hS ls (lv_sub hl [0, 1] rfl)
          · skip
            refine lv_aload_n hx hb dX4_findFault_46 rfl (lv_at hl 1 rfl) ?_
            refine g_get S hK hP (i := 0) (by omega) tC0 rfl inlX4 2 (by decide) k_523 (v := .int ((w_X4_skip (w_X4_readThing t) (59 : Int32)) 0 2)) rfl dX4_findFault_47 ?_
            exact e_int S hr hlk rfl hK hS (gP_eq (show w_X4_findFault_loop (n + 1) k t = w_X4_skip (w_X4_readThing t) (59 : Int32) from (if_neg c1).trans ((if_pos c2).trans ((if_pos c3).trans rfl))) hP) (show v_X4_findFault_loop (n + 1) k t = (w_X4_skip (w_X4_readThing t) (59 : Int32)) 0 2 from (if_neg c1).trans ((if_pos c2).trans ((if_pos c3).trans rfl))).symm dX4_findFault_50
        · skip
          refine lv_iconst (v := -1) hx hb dX4_findFault_35 (by decide) ?_
          exact e_int S hr hlk rfl hK hS (gP_eq (show w_X4_findFault_loop (n + 1) k t = w_X4_readThing t from (if_neg c1).trans ((if_neg c2).trans rfl)) hP) (show v_X4_findFault_loop (n + 1) k t = (-1 : Int32) from (if_neg c1).trans ((if_neg c2).trans rfl)).symm dX4_findFault_36
      · skip
        refine lv_aload_n hx hb dX4_findFault_19 rfl (lv_at hl 1 rfl) ?_
        refine g_get S hK hP (i := 0) (by omega) tC0 rfl inlX4 2 (by decide) k_523 (v := .int ((w_X4_readThing t) 0 2)) rfl dX4_findFault_20 ?_
        exact e_int S hr hlk rfl hK hS (gP_eq (show w_X4_findFault_loop (n + 1) k t = w_X4_readThing t from (if_pos c1).trans rfl) hP) (show v_X4_findFault_loop (n + 1) k t = (w_X4_readThing t) 0 2 from (if_pos c1).trans rfl).symm dX4_findFault_23
  refine q_eqI (show v_X4_findFault t  = v_X4_findFault_loop 60 0 (w_X4_goToStart t) from rfl) (show w_X4_findFault t  = w_X4_findFault_loop 60 0 (w_X4_goToStart t) from rfl) ?_
  exact LP_loop 60 0 (by omega) _ _ _ hP hS ls (lv_sub hl [0, 1] rfl)
end
