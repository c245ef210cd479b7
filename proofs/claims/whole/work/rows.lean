section
/-! ===== BEGIN words of one list among another's, by their places ===== -/
theorem goodIn_r {big : List Cond} (ws : List Cond) (ps : List Nat) (hp : ws = ps.filterMap (fun i => big[i]?)) (h : ws.all goodWord = true) : GoodIn big ws := by
  intro w hw
  have h1 := List.all_eq_true.mp h w hw
  rw [hp] at hw
  obtain ⟨i, -, hi⟩ := List.mem_filterMap.mp hw
  have hm : w ∈ big := by first | exact List.mem_of_getElem? hi | exact List.getElem?_mem hi
  exact ⟨hm, good_of_word h1⟩
theorem goodIn_app {big a b : List Cond} (ha : GoodIn big a) (hb : GoodIn big b) : GoodIn big (a ++ b) := fun w h => (List.mem_append.mp h).elim (ha w) (hb w)
theorem goodIn_ca {big a b : List Cond} {c : Cond} (ha : GoodIn big (c :: a)) (hb : GoodIn big b) : GoodIn big (c :: (a ++ b)) := fun w h => (List.mem_cons.mp h).elim (fun e => ha w (List.mem_cons.mpr (Or.inl e))) (fun h => (List.mem_append.mp h).elim (fun h => ha w (List.mem_cons.mpr (Or.inr h))) (hb w))
theorem goodIn_sub {big ws : List Cond} (hm : ∀ w ∈ ws, w ∈ big) (h : ws.all goodWord = true) : GoodIn big ws := fun w hw => ⟨hm w hw, good_of_word (List.all_eq_true.mp h w hw)⟩
/-! ===== END ===== -/

/-! ===== BEGIN printed: names, fields, word lists, decode rows ===== -/
def RX0 : String := "InvoiceBook$Bill"
def TX0 : u_T := fun k => match k with
  | 0 => ("InvoiceBook$Bill", "state", "I", false)
  | 1 => ("InvoiceBook$Bill", "customer", "I", false)
  | 2 => ("InvoiceBook$Bill", "net", "I", false)
  | 3 => ("InvoiceBook$Bill", "rate", "I", false)
  | 4 => ("InvoiceBook$Bill", "tax", "I", false)
  | 5 => ("InvoiceBook$Bill", "sum", "I", false)
  | 6 => ("InvoiceBook$Bill", "day", "I", false)
  | 7 => ("InvoiceBook$Bill", "due", "I", false)
  | 8 => ("InvoiceBook$Bill", "paid", "I", false)
  | 9 => ("InvoiceBook$Bill", "discount", "I", false)
  | 10 => ("InvoiceBook$Bill", "fees", "I", false)
  | 11 => ("InvoiceBook$Bill", "reminders", "I", false)
  | 12 => ("InvoiceBook$Bill", "lastReminder", "I", false)
  | _ => ("InvoiceBook$Bill", "lastPayment", "I", false)
def tyX0 : Nat → FieldType := fun k => match k with
  | 0 => .int
  | 1 => .int
  | 2 => .int
  | 3 => .int
  | 4 => .int
  | 5 => .int
  | 6 => .int
  | 7 => .int
  | 8 => .int
  | 9 => .int
  | 10 => .int
  | 11 => .int
  | 12 => .int
  | _ => .int
abbrev wsX00 : List Cond := u_ws RX0 TX0 14
theorem nmX0 : ∀ a, a < 14 → ∀ b, b < 14 → a ≠ b → (TX0 a).2.1 ≠ (TX0 b).2.1 := by decide +kernel
theorem tyX0_ok : ∀ k, k < 14 → parseFieldDescriptor (TX0 k).2.2.1 = some (tyX0 k) := by decide +kernel
abbrev cX0_init : ByteArray := prog_2_method_1_code
def yX0_init : MethodName := ⟨RX0, "<init>", "()V"⟩
abbrev cX0_copyFrom : ByteArray := prog_2_method_2_code
def yX0_copyFrom : MethodName := ⟨RX0, "copyFrom", "(LInvoiceBook$Bill;)V"⟩
abbrev cX0_write : ByteArray := prog_2_method_3_code
def yX0_write : MethodName := ⟨RX0, "write", "(IIIII)V"⟩
abbrev cX0_is : ByteArray := prog_2_method_4_code
def yX0_is : MethodName := ⟨RX0, "is", "(II)Z"⟩
abbrev cX0_owed : ByteArray := prog_2_method_5_code
def yX0_owed : MethodName := ⟨RX0, "owed", "()I"⟩
abbrev cX0_dueDay : ByteArray := prog_2_method_6_code
def yX0_dueDay : MethodName := ⟨RX0, "dueDay", "()I"⟩
abbrev cX0_isOverdue : ByteArray := prog_2_method_7_code
def yX0_isOverdue : MethodName := ⟨RX0, "isOverdue", "(I)Z"⟩
abbrev cX0_whyNoReminder : ByteArray := prog_2_method_8_code
def yX0_whyNoReminder : MethodName := ⟨RX0, "whyNoReminder", "(II)I"⟩
abbrev cX0_awaitsReminder : ByteArray := prog_2_method_9_code
def yX0_awaitsReminder : MethodName := ⟨RX0, "awaitsReminder", "()Z"⟩
abbrev cX0_reminderDay : ByteArray := prog_2_method_10_code
def yX0_reminderDay : MethodName := ⟨RX0, "reminderDay", "(I)I"⟩
abbrev cX0_addReminder : ByteArray := prog_2_method_11_code
def yX0_addReminder : MethodName := ⟨RX0, "addReminder", "(II)V"⟩
abbrev cX0_canBeWrittenOff : ByteArray := prog_2_method_12_code
def yX0_canBeWrittenOff : MethodName := ⟨RX0, "canBeWrittenOff", "(II)Z"⟩
abbrev cX0_takeMoney : ByteArray := prog_2_method_13_code
def yX0_takeMoney : MethodName := ⟨RX0, "takeMoney", "(III)V"⟩
abbrev cX0_taxIn : ByteArray := prog_2_method_14_code
def yX0_taxIn : MethodName := ⟨RX0, "taxIn", "(I)I"⟩
def RX1 : String := "InvoiceBook$Book"
def TX1 : u_T := fun k => match k with
  | 0 => ("InvoiceBook$Book", "bills", "[LInvoiceBook$Bill;", true)
  | 1 => ("InvoiceBook$Book", "credits", "[I", true)
  | 2 => ("InvoiceBook$Book", "taxPaid", "[I", true)
  | 3 => ("InvoiceBook$Book", "taxClosed", "[I", true)
  | 4 => ("InvoiceBook$Book", "settings", "LInvoiceBook$Settings;", true)
  | 5 => ("InvoiceBook$Book", "day", "I", false)
  | 6 => ("InvoiceBook$Book", "closedYears", "I", false)
  | _ => ("InvoiceBook$Book", "paidBack", "I", false)
def tyX1 : Nat → FieldType := fun k => match k with
  | 0 => .array (.object "InvoiceBook$Bill")
  | 1 => .array .int
  | 2 => .array .int
  | 3 => .array .int
  | 4 => .object "InvoiceBook$Settings"
  | 5 => .int
  | 6 => .int
  | _ => .int
abbrev wsX10 : List Cond := u_ws RX1 TX1 8
theorem nmX1 : ∀ a, a < 8 → ∀ b, b < 8 → a ≠ b → (TX1 a).2.1 ≠ (TX1 b).2.1 := by decide +kernel
theorem tyX1_ok : ∀ k, k < 8 → parseFieldDescriptor (TX1 k).2.2.1 = some (tyX1 k) := by decide +kernel
abbrev cX1_init : ByteArray := prog_3_method_1_code
def yX1_init : MethodName := ⟨RX1, "<init>", "()V"⟩
abbrev cX1_copyFrom : ByteArray := prog_3_method_2_code
def yX1_copyFrom : MethodName := ⟨RX1, "copyFrom", "(LInvoiceBook$Book;)V"⟩
abbrev cX1_billAt : ByteArray := prog_3_method_3_code
def yX1_billAt : MethodName := ⟨RX1, "billAt", "(I)LInvoiceBook$Bill;"⟩
abbrev cX1_creditOf : ByteArray := prog_3_method_4_code
def yX1_creditOf : MethodName := ⟨RX1, "creditOf", "(I)I"⟩
abbrev cX1_setCredit : ByteArray := prog_3_method_5_code
def yX1_setCredit : MethodName := ⟨RX1, "setCredit", "(II)V"⟩
abbrev cX1_writeBill : ByteArray := prog_3_method_6_code
def yX1_writeBill : MethodName := ⟨RX1, "writeBill", "(IIII)I"⟩
abbrev cX1_takePayment : ByteArray := prog_3_method_7_code
def yX1_takePayment : MethodName := ⟨RX1, "takePayment", "(II)I"⟩
abbrev cX1_takePaymentFor : ByteArray := prog_3_method_8_code
def yX1_takePaymentFor : MethodName := ⟨RX1, "takePaymentFor", "(II)I"⟩
abbrev cX1_isOfAnother : ByteArray := prog_3_method_9_code
def yX1_isOfAnother : MethodName := ⟨RX1, "isOfAnother", "(II)Z"⟩
abbrev cX1_payOn : ByteArray := prog_3_method_10_code
def yX1_payOn : MethodName := ⟨RX1, "payOn", "(LInvoiceBook$Bill;I)I"⟩
abbrev cX1_discountOn : ByteArray := prog_3_method_11_code
def yX1_discountOn : MethodName := ⟨RX1, "discountOn", "(LInvoiceBook$Bill;)I"⟩
abbrev cX1_addCredit : ByteArray := prog_3_method_12_code
def yX1_addCredit : MethodName := ⟨RX1, "addCredit", "(II)Z"⟩
abbrev cX1_returnCredit : ByteArray := prog_3_method_13_code
def yX1_returnCredit : MethodName := ⟨RX1, "returnCredit", "(I)I"⟩
abbrev cX1_goOn : ByteArray := prog_3_method_14_code
def yX1_goOn : MethodName := ⟨RX1, "goOn", "(I)I"⟩
abbrev cX1_sendReminders : ByteArray := prog_3_method_15_code
def yX1_sendReminders : MethodName := ⟨RX1, "sendReminders", "()I"⟩
abbrev cX1_giveUp : ByteArray := prog_3_method_16_code
def yX1_giveUp : MethodName := ⟨RX1, "giveUp", "(I)I"⟩
abbrev cX1_endYear : ByteArray := prog_3_method_17_code
def yX1_endYear : MethodName := ⟨RX1, "endYear", "(I)I"⟩
abbrev cX1_taxOf : ByteArray := prog_3_method_18_code
def yX1_taxOf : MethodName := ⟨RX1, "taxOf", "(II)I"⟩
abbrev cX1_taxTold : ByteArray := prog_3_method_19_code
def yX1_taxTold : MethodName := ⟨RX1, "taxTold", "(I)I"⟩
abbrev cX1_countBills : ByteArray := prog_3_method_20_code
def yX1_countBills : MethodName := ⟨RX1, "countBills", "(II)I"⟩
abbrev cX1_countOverdue : ByteArray := prog_3_method_21_code
def yX1_countOverdue : MethodName := ⟨RX1, "countOverdue", "()I"⟩
abbrev cX1_owedOn : ByteArray := prog_3_method_22_code
def yX1_owedOn : MethodName := ⟨RX1, "owedOn", "(II)I"⟩
abbrev cX1_leastToPayAll : ByteArray := prog_3_method_23_code
def yX1_leastToPayAll : MethodName := ⟨RX1, "leastToPayAll", "(I)I"⟩
abbrev cX1_oldestOpenBill : ByteArray := prog_3_method_24_code
def yX1_oldestOpenBill : MethodName := ⟨RX1, "oldestOpenBill", "(I)I"⟩
abbrev cX1_paidOn : ByteArray := prog_3_method_25_code
def yX1_paidOn : MethodName := ⟨RX1, "paidOn", "(I)I"⟩
abbrev cX1_allCredit : ByteArray := prog_3_method_26_code
def yX1_allCredit : MethodName := ⟨RX1, "allCredit", "()I"⟩
abbrev cX1_allDiscounts : ByteArray := prog_3_method_27_code
def yX1_allDiscounts : MethodName := ⟨RX1, "allDiscounts", "()I"⟩
abbrev cX1_allFees : ByteArray := prog_3_method_28_code
def yX1_allFees : MethodName := ⟨RX1, "allFees", "()I"⟩
abbrev cX1_allReminders : ByteArray := prog_3_method_29_code
def yX1_allReminders : MethodName := ⟨RX1, "allReminders", "()I"⟩
def RX2 : String := "InvoiceBook$History"
def TX2 : u_T := fun k => match k with
  | 0 => ("InvoiceBook$History", "states", "[LInvoiceBook$Book;", true)
  | _ => ("InvoiceBook$History", "count", "I", false)
def tyX2 : Nat → FieldType := fun k => match k with
  | 0 => .array (.object "InvoiceBook$Book")
  | _ => .int
abbrev wsX20 : List Cond := u_ws RX2 TX2 2
theorem nmX2 : ∀ a, a < 2 → ∀ b, b < 2 → a ≠ b → (TX2 a).2.1 ≠ (TX2 b).2.1 := by decide +kernel
theorem tyX2_ok : ∀ k, k < 2 → parseFieldDescriptor (TX2 k).2.2.1 = some (tyX2 k) := by decide +kernel
abbrev cX2_init : ByteArray := prog_4_method_1_code
def yX2_init : MethodName := ⟨RX2, "<init>", "()V"⟩
abbrev cX2_add : ByteArray := prog_4_method_2_code
def yX2_add : MethodName := ⟨RX2, "add", "(LInvoiceBook$Book;)LInvoiceBook$Book;"⟩
abbrev cX2_takeLatest : ByteArray := prog_4_method_3_code
def yX2_takeLatest : MethodName := ⟨RX2, "takeLatest", "(LInvoiceBook$Book;)LInvoiceBook$Book;"⟩
def RX3 : String := "InvoiceBook$Settings"
def TX3 : u_T := fun k => match k with
  | _ => ("InvoiceBook$Settings", "values", "[I", true)
def tyX3 : Nat → FieldType := fun k => match k with
  | _ => .array .int
abbrev wsX30 : List Cond := u_ws RX3 TX3 1
theorem nmX3 : ∀ a, a < 1 → ∀ b, b < 1 → a ≠ b → (TX3 a).2.1 ≠ (TX3 b).2.1 := by decide +kernel
theorem tyX3_ok : ∀ k, k < 1 → parseFieldDescriptor (TX3 k).2.2.1 = some (tyX3 k) := by decide +kernel
abbrev cX3_init : ByteArray := prog_5_method_1_code
def yX3_init : MethodName := ⟨RX3, "<init>", "()V"⟩
abbrev cX3_copyFrom : ByteArray := prog_5_method_2_code
def yX3_copyFrom : MethodName := ⟨RX3, "copyFrom", "(LInvoiceBook$Settings;)V"⟩
abbrev cX3_valueOf : ByteArray := prog_5_method_3_code
def yX3_valueOf : MethodName := ⟨RX3, "valueOf", "(I)I"⟩
abbrev cX3_change : ByteArray := prog_5_method_4_code
def yX3_change : MethodName := ⟨RX3, "change", "(II)I"⟩
abbrev cX3_discountDays : ByteArray := prog_5_method_5_code
def yX3_discountDays : MethodName := ⟨RX3, "discountDays", "()I"⟩
abbrev cX3_discountPercent : ByteArray := prog_5_method_6_code
def yX3_discountPercent : MethodName := ⟨RX3, "discountPercent", "()I"⟩
abbrev cX3_reminderDays : ByteArray := prog_5_method_7_code
def yX3_reminderDays : MethodName := ⟨RX3, "reminderDays", "()I"⟩
abbrev cX3_reminderFee : ByteArray := prog_5_method_8_code
def yX3_reminderFee : MethodName := ⟨RX3, "reminderFee", "()I"⟩
abbrev cX3_taxWay : ByteArray := prog_5_method_9_code
def yX3_taxWay : MethodName := ⟨RX3, "taxWay", "()I"⟩
def RX4 : String := "InvoiceBook$Text"
def TX4 : u_T := fun k => match k with
  | 0 => ("InvoiceBook$Text", "signs", "[C", true)
  | 1 => ("InvoiceBook$Text", "length", "I", false)
  | 2 => ("InvoiceBook$Text", "place", "I", false)
  | 3 => ("InvoiceBook$Text", "kind", "I", false)
  | 4 => ("InvoiceBook$Text", "customer", "I", false)
  | 5 => ("InvoiceBook$Text", "amount", "I", false)
  | 6 => ("InvoiceBook$Text", "rate", "I", false)
  | 7 => ("InvoiceBook$Text", "days", "I", false)
  | _ => ("InvoiceBook$Text", "bill", "I", false)
def tyX4 : Nat → FieldType := fun k => match k with
  | 0 => .array .char
  | 1 => .int
  | 2 => .int
  | 3 => .int
  | 4 => .int
  | 5 => .int
  | 6 => .int
  | 7 => .int
  | _ => .int
abbrev wsX40 : List Cond := u_ws RX4 TX4 9
theorem nmX4 : ∀ a, a < 9 → ∀ b, b < 9 → a ≠ b → (TX4 a).2.1 ≠ (TX4 b).2.1 := by decide +kernel
theorem tyX4_ok : ∀ k, k < 9 → parseFieldDescriptor (TX4 k).2.2.1 = some (tyX4 k) := by decide +kernel
abbrev cX4_init : ByteArray := prog_6_method_1_code
def yX4_init : MethodName := ⟨RX4, "<init>", "()V"⟩
abbrev cX4_add : ByteArray := prog_6_method_2_code
def yX4_add : MethodName := ⟨RX4, "add", "(C)Z"⟩
abbrev cX4_goToStart : ByteArray := prog_6_method_3_code
def yX4_goToStart : MethodName := ⟨RX4, "goToStart", "()V"⟩
abbrev cX4_findFault : ByteArray := prog_6_method_4_code
def yX4_findFault : MethodName := ⟨RX4, "findFault", "()I"⟩
abbrev cX4_readThing : ByteArray := prog_6_method_5_code
def yX4_readThing : MethodName := ⟨RX4, "readThing", "()Z"⟩
abbrev cX4_readBill : ByteArray := prog_6_method_6_code
def yX4_readBill : MethodName := ⟨RX4, "readBill", "()Z"⟩
abbrev cX4_readPayment : ByteArray := prog_6_method_7_code
def yX4_readPayment : MethodName := ⟨RX4, "readPayment", "()Z"⟩
abbrev cX4_readCustomerAndAmount : ByteArray := prog_6_method_8_code
def yX4_readCustomerAndAmount : MethodName := ⟨RX4, "readCustomerAndAmount", "(I)Z"⟩
abbrev cX4_skip : ByteArray := prog_6_method_9_code
def yX4_skip : MethodName := ⟨RX4, "skip", "(C)Z"⟩
abbrev cX4_readNumber : ByteArray := prog_6_method_10_code
def yX4_readNumber : MethodName := ⟨RX4, "readNumber", "(II)I"⟩
abbrev cX4_digitAtPlace : ByteArray := prog_6_method_11_code
def yX4_digitAtPlace : MethodName := ⟨RX4, "digitAtPlace", "()I"⟩
def RX5 : String := "InvoiceBook"
def TX5 : u_T := fun k => match k with
  | 0 => ("InvoiceBook", "now", "LInvoiceBook$Book;", false)
  | 1 => ("InvoiceBook", "spare", "LInvoiceBook$Book;", false)
  | 2 => ("InvoiceBook", "snapshot", "LInvoiceBook$Book;", true)
  | 3 => ("InvoiceBook", "hasSnapshot", "Z", false)
  | 4 => ("InvoiceBook", "history", "LInvoiceBook$History;", true)
  | 5 => ("InvoiceBook", "text", "LInvoiceBook$Text;", true)
  | 6 => ("InvoiceBook", "hasStop", "Z", false)
  | 7 => ("InvoiceBook", "stopNumber", "I", false)
  | _ => ("InvoiceBook", "stopError", "I", false)
def tyX5 : Nat → FieldType := fun k => match k with
  | 0 => .object "InvoiceBook$Book"
  | 1 => .object "InvoiceBook$Book"
  | 2 => .object "InvoiceBook$Book"
  | 3 => .boolean
  | 4 => .object "InvoiceBook$History"
  | 5 => .object "InvoiceBook$Text"
  | 6 => .boolean
  | 7 => .int
  | _ => .int
abbrev wsX50 : List Cond := u_ws RX5 TX5 9
theorem nmX5 : ∀ a, a < 9 → ∀ b, b < 9 → a ≠ b → (TX5 a).2.1 ≠ (TX5 b).2.1 := by decide +kernel
theorem tyX5_ok : ∀ k, k < 9 → parseFieldDescriptor (TX5 k).2.2.1 = some (tyX5 k) := by decide +kernel
abbrev cX5_init : ByteArray := prog_1_method_1_code
def yX5_init : MethodName := ⟨RX5, "<init>", "()V"⟩
abbrev cX5_bill : ByteArray := prog_1_method_2_code
def yX5_bill : MethodName := ⟨RX5, "bill", "(IIII)I"⟩
abbrev cX5_pay : ByteArray := prog_1_method_3_code
def yX5_pay : MethodName := ⟨RX5, "pay", "(II)I"⟩
abbrev cX5_payBill : ByteArray := prog_1_method_4_code
def yX5_payBill : MethodName := ⟨RX5, "payBill", "(II)I"⟩
abbrev cX5_payBack : ByteArray := prog_1_method_5_code
def yX5_payBack : MethodName := ⟨RX5, "payBack", "(I)I"⟩
abbrev cX5_pass : ByteArray := prog_1_method_6_code
def yX5_pass : MethodName := ⟨RX5, "pass", "(I)I"⟩
abbrev cX5_remind : ByteArray := prog_1_method_7_code
def yX5_remind : MethodName := ⟨RX5, "remind", "()I"⟩
abbrev cX5_writeOff : ByteArray := prog_1_method_8_code
def yX5_writeOff : MethodName := ⟨RX5, "writeOff", "(I)I"⟩
abbrev cX5_closeYear : ByteArray := prog_1_method_9_code
def yX5_closeYear : MethodName := ⟨RX5, "closeYear", "(I)I"⟩
abbrev cX5_set : ByteArray := prog_1_method_10_code
def yX5_set : MethodName := ⟨RX5, "set", "(II)I"⟩
abbrev cX5_type : ByteArray := prog_1_method_11_code
def yX5_type : MethodName := ⟨RX5, "type", "(C)I"⟩
abbrev cX5_clearText : ByteArray := prog_1_method_12_code
def yX5_clearText : MethodName := ⟨RX5, "clearText", "()I"⟩
abbrev cX5_perform : ByteArray := prog_1_method_13_code
def yX5_perform : MethodName := ⟨RX5, "perform", "()I"⟩
abbrev cX5_stopped : ByteArray := prog_1_method_14_code
def yX5_stopped : MethodName := ⟨RX5, "stopped", "(I)I"⟩
abbrev cX5_undo : ByteArray := prog_1_method_15_code
def yX5_undo : MethodName := ⟨RX5, "undo", "()I"⟩
abbrev cX5_keep : ByteArray := prog_1_method_16_code
def yX5_keep : MethodName := ⟨RX5, "keep", "()I"⟩
abbrev cX5_restore : ByteArray := prog_1_method_17_code
def yX5_restore : MethodName := ⟨RX5, "restore", "()I"⟩
abbrev cX5_billOf : ByteArray := prog_1_method_18_code
def yX5_billOf : MethodName := ⟨RX5, "billOf", "(II)I"⟩
abbrev cX5_customer : ByteArray := prog_1_method_19_code
def yX5_customer : MethodName := ⟨RX5, "customer", "(II)I"⟩
abbrev cX5_tax : ByteArray := prog_1_method_20_code
def yX5_tax : MethodName := ⟨RX5, "tax", "(II)I"⟩
abbrev cX5_reason : ByteArray := prog_1_method_21_code
def yX5_reason : MethodName := ⟨RX5, "reason", "(I)I"⟩
abbrev cX5_ifPaid : ByteArray := prog_1_method_22_code
def yX5_ifPaid : MethodName := ⟨RX5, "ifPaid", "(III)I"⟩
abbrev cX5_settles : ByteArray := prog_1_method_23_code
def yX5_settles : MethodName := ⟨RX5, "settles", "(I)I"⟩
abbrev cX5_nextReminder : ByteArray := prog_1_method_24_code
def yX5_nextReminder : MethodName := ⟨RX5, "nextReminder", "(I)I"⟩
abbrev cX5_worst : ByteArray := prog_1_method_25_code
def yX5_worst : MethodName := ⟨RX5, "worst", "()I"⟩
abbrev cX5_count : ByteArray := prog_1_method_26_code
def yX5_count : MethodName := ⟨RX5, "count", "(I)I"⟩
abbrev cX5_startAct : ByteArray := prog_1_method_27_code
def yX5_startAct : MethodName := ⟨RX5, "startAct", "()V"⟩
abbrev cX5_endAct : ByteArray := prog_1_method_28_code
def yX5_endAct : MethodName := ⟨RX5, "endAct", "(I)I"⟩
abbrev cX5_doAllThings : ByteArray := prog_1_method_29_code
def yX5_doAllThings : MethodName := ⟨RX5, "doAllThings", "()I"⟩
abbrev cX5_doThing : ByteArray := prog_1_method_30_code
def yX5_doThing : MethodName := ⟨RX5, "doThing", "()I"⟩
abbrev cX5_isCustomer : ByteArray := prog_1_method_31_code
def yX5_isCustomer : MethodName := ⟨RX5, "isCustomer", "(I)Z"⟩
abbrev cX5_isYear : ByteArray := prog_1_method_32_code
def yX5_isYear : MethodName := ⟨RX5, "isYear", "(I)Z"⟩
abbrev cX5_isAmount : ByteArray := prog_1_method_33_code
def yX5_isAmount : MethodName := ⟨RX5, "isAmount", "(I)Z"⟩
def RX6 : String := "InvoiceBookModel"
def TX6 : u_T := fun k => match k with
  | 0 => ("InvoiceBookModel", "s", "[I", true)
  | 1 => ("InvoiceBookModel", "aside", "[I", true)
  | 2 => ("InvoiceBookModel", "ahead", "[I", true)
  | 3 => ("InvoiceBookModel", "snapshot", "[I", true)
  | 4 => ("InvoiceBookModel", "isKept", "Z", false)
  | 5 => ("InvoiceBookModel", "before", "[I", true)
  | 6 => ("InvoiceBookModel", "known", "I", false)
  | 7 => ("InvoiceBookModel", "text", "[I", true)
  | 8 => ("InvoiceBookModel", "length", "I", false)
  | 9 => ("InvoiceBookModel", "stopAt", "I", false)
  | 10 => ("InvoiceBookModel", "stopBy", "I", false)
  | 11 => ("InvoiceBookModel", "position", "I", false)
  | 12 => ("InvoiceBookModel", "isWrong", "Z", false)
  | 13 => ("InvoiceBookModel", "thing", "[I", true)
  | _ => ("InvoiceBookModel", "stop", "I", false)
def tyX6 : Nat → FieldType := fun k => match k with
  | 0 => .array .int
  | 1 => .array .int
  | 2 => .array .int
  | 3 => .array .int
  | 4 => .boolean
  | 5 => .array .int
  | 6 => .int
  | 7 => .array .int
  | 8 => .int
  | 9 => .int
  | 10 => .int
  | 11 => .int
  | 12 => .boolean
  | 13 => .array .int
  | _ => .int
abbrev wsX60 : List Cond := u_ws RX6 TX6 15
theorem nmX6 : ∀ a, a < 15 → ∀ b, b < 15 → a ≠ b → (TX6 a).2.1 ≠ (TX6 b).2.1 := by decide +kernel
theorem tyX6_ok : ∀ k, k < 15 → parseFieldDescriptor (TX6 k).2.2.1 = some (tyX6 k) := by decide +kernel
abbrev cX6_init : ByteArray := prog_8_method_1_code
def yX6_init : MethodName := ⟨RX6, "<init>", "()V"⟩
abbrev cX6_in : ByteArray := prog_8_method_3_code
def yX6_in : MethodName := ⟨RX6, "in", "(III)Z"⟩
abbrev cX6_isCustomer : ByteArray := prog_8_method_4_code
def yX6_isCustomer : MethodName := ⟨RX6, "isCustomer", "(I)Z"⟩
abbrev cX6_isBill : ByteArray := prog_8_method_5_code
def yX6_isBill : MethodName := ⟨RX6, "isBill", "(I)Z"⟩
abbrev cX6_of : ByteArray := prog_8_method_6_code
def yX6_of : MethodName := ⟨RX6, "of", "(II)I"⟩
abbrev cX6_looks : ByteArray := prog_8_method_7_code
def yX6_looks : MethodName := ⟨RX6, "looks", "()V"⟩
abbrev cX6_records : ByteArray := prog_8_method_8_code
def yX6_records : MethodName := ⟨RX6, "records", "()V"⟩
abbrev cX6_know : ByteArray := prog_8_method_9_code
def yX6_know : MethodName := ⟨RX6, "know", "()V"⟩
abbrev cX6_putAside : ByteArray := prog_8_method_10_code
def yX6_putAside : MethodName := ⟨RX6, "putAside", "()V"⟩
abbrev cX6_putBack : ByteArray := prog_8_method_11_code
def yX6_putBack : MethodName := ⟨RX6, "putBack", "()V"⟩
abbrev cX6_taxOf : ByteArray := prog_8_method_12_code
def yX6_taxOf : MethodName := ⟨RX6, "taxOf", "(I)I"⟩
abbrev cX6_sumOf : ByteArray := prog_8_method_13_code
def yX6_sumOf : MethodName := ⟨RX6, "sumOf", "(I)I"⟩
abbrev cX6_owedOn : ByteArray := prog_8_method_14_code
def yX6_owedOn : MethodName := ⟨RX6, "owedOn", "(I)I"⟩
abbrev cX6_is : ByteArray := prog_8_method_15_code
def yX6_is : MethodName := ⟨RX6, "is", "(II)Z"⟩
abbrev cX6_isOpenOf : ByteArray := prog_8_method_16_code
def yX6_isOpenOf : MethodName := ⟨RX6, "isOpenOf", "(II)Z"⟩
abbrev cX6_daysSince : ByteArray := prog_8_method_17_code
def yX6_daysSince : MethodName := ⟨RX6, "daysSince", "(I)I"⟩
abbrev cX6_discountOf : ByteArray := prog_8_method_18_code
def yX6_discountOf : MethodName := ⟨RX6, "discountOf", "(I)I"⟩
abbrev cX6_owedBy : ByteArray := prog_8_method_19_code
def yX6_owedBy : MethodName := ⟨RX6, "owedBy", "(II)I"⟩
abbrev cX6_takesOf : ByteArray := prog_8_method_20_code
def yX6_takesOf : MethodName := ⟨RX6, "takesOf", "(II)I"⟩
abbrev cX6_paysAll : ByteArray := prog_8_method_21_code
def yX6_paysAll : MethodName := ⟨RX6, "paysAll", "(II)I"⟩
abbrev cX6_isTooMuch : ByteArray := prog_8_method_22_code
def yX6_isTooMuch : MethodName := ⟨RX6, "isTooMuch", "()Z"⟩
abbrev cX6_billed : ByteArray := prog_8_method_23_code
def yX6_billed : MethodName := ⟨RX6, "billed", "(IIII)I"⟩
abbrev cX6_paidOn : ByteArray := prog_8_method_24_code
def yX6_paidOn : MethodName := ⟨RX6, "paidOn", "(II)I"⟩
abbrev cX6_isOverdue : ByteArray := prog_8_method_25_code
def yX6_isOverdue : MethodName := ⟨RX6, "isOverdue", "(I)Z"⟩
abbrev cX6_dueDay : ByteArray := prog_8_method_26_code
def yX6_dueDay : MethodName := ⟨RX6, "dueDay", "(I)I"⟩
abbrev cX6_countedFrom : ByteArray := prog_8_method_27_code
def yX6_countedFrom : MethodName := ⟨RX6, "countedFrom", "(I)I"⟩
abbrev cX6_why : ByteArray := prog_8_method_28_code
def yX6_why : MethodName := ⟨RX6, "why", "(I)I"⟩
abbrev cX6_reminds : ByteArray := prog_8_method_29_code
def yX6_reminds : MethodName := ⟨RX6, "reminds", "()I"⟩
abbrev cX6_isNet : ByteArray := prog_8_method_30_code
def yX6_isNet : MethodName := ⟨RX6, "isNet", "(III)Z"⟩
abbrev cX6_isAmount : ByteArray := prog_8_method_31_code
def yX6_isAmount : MethodName := ⟨RX6, "isAmount", "(I)Z"⟩
abbrev cX6_bill : ByteArray := prog_8_method_32_code
def yX6_bill : MethodName := ⟨RX6, "bill", "(IIII)I"⟩
abbrev cX6_wouldBeTooMuch : ByteArray := prog_8_method_33_code
def yX6_wouldBeTooMuch : MethodName := ⟨RX6, "wouldBeTooMuch", "(II)Z"⟩
abbrev cX6_pay : ByteArray := prog_8_method_34_code
def yX6_pay : MethodName := ⟨RX6, "pay", "(II)I"⟩
abbrev cX6_refusalOn : ByteArray := prog_8_method_35_code
def yX6_refusalOn : MethodName := ⟨RX6, "refusalOn", "(II)I"⟩
abbrev cX6_payBill : ByteArray := prog_8_method_36_code
def yX6_payBill : MethodName := ⟨RX6, "payBill", "(II)I"⟩
abbrev cX6_payBack : ByteArray := prog_8_method_37_code
def yX6_payBack : MethodName := ⟨RX6, "payBack", "(I)I"⟩
abbrev cX6_overdue : ByteArray := prog_8_method_38_code
def yX6_overdue : MethodName := ⟨RX6, "overdue", "()I"⟩
abbrev cX6_pass : ByteArray := prog_8_method_39_code
def yX6_pass : MethodName := ⟨RX6, "pass", "(I)I"⟩
abbrev cX6_remind : ByteArray := prog_8_method_40_code
def yX6_remind : MethodName := ⟨RX6, "remind", "()I"⟩
abbrev cX6_canBeOff : ByteArray := prog_8_method_41_code
def yX6_canBeOff : MethodName := ⟨RX6, "canBeOff", "(I)Z"⟩
abbrev cX6_writeOff : ByteArray := prog_8_method_42_code
def yX6_writeOff : MethodName := ⟨RX6, "writeOff", "(I)I"⟩
abbrev cX6_dueFor : ByteArray := prog_8_method_43_code
def yX6_dueFor : MethodName := ⟨RX6, "dueFor", "(II)I"⟩
abbrev cX6_isYear : ByteArray := prog_8_method_44_code
def yX6_isYear : MethodName := ⟨RX6, "isYear", "(I)Z"⟩
abbrev cX6_closeYear : ByteArray := prog_8_method_45_code
def yX6_closeYear : MethodName := ⟨RX6, "closeYear", "(I)I"⟩
abbrev cX6_most : ByteArray := prog_8_method_46_code
def yX6_most : MethodName := ⟨RX6, "most", "(I)I"⟩
abbrev cX6_set : ByteArray := prog_8_method_47_code
def yX6_set : MethodName := ⟨RX6, "set", "(II)I"⟩
abbrev cX6_type : ByteArray := prog_8_method_48_code
def yX6_type : MethodName := ⟨RX6, "type", "(C)I"⟩
abbrev cX6_clearText : ByteArray := prog_8_method_49_code
def yX6_clearText : MethodName := ⟨RX6, "clearText", "()I"⟩
abbrev cX6_isNext : ByteArray := prog_8_method_50_code
def yX6_isNext : MethodName := ⟨RX6, "isNext", "(II)Z"⟩
abbrev cX6_takes : ByteArray := prog_8_method_51_code
def yX6_takes : MethodName := ⟨RX6, "takes", "(II)I"⟩
abbrev cX6_takesNumber : ByteArray := prog_8_method_52_code
def yX6_takesNumber : MethodName := ⟨RX6, "takesNumber", "(II)I"⟩
abbrev cX6_takesBehind : ByteArray := prog_8_method_53_code
def yX6_takesBehind : MethodName := ⟨RX6, "takesBehind", "(III)I"⟩
abbrev cX6_readThing : ByteArray := prog_8_method_54_code
def yX6_readThing : MethodName := ⟨RX6, "readThing", "()V"⟩
abbrev cX6_paidByText : ByteArray := prog_8_method_55_code
def yX6_paidByText : MethodName := ⟨RX6, "paidByText", "(III)I"⟩
abbrev cX6_does : ByteArray := prog_8_method_56_code
def yX6_does : MethodName := ⟨RX6, "does", "()I"⟩
abbrev cX6_goes : ByteArray := prog_8_method_57_code
def yX6_goes : MethodName := ⟨RX6, "goes", "(Z)I"⟩
abbrev cX6_perform : ByteArray := prog_8_method_58_code
def yX6_perform : MethodName := ⟨RX6, "perform", "()I"⟩
abbrev cX6_stopped : ByteArray := prog_8_method_59_code
def yX6_stopped : MethodName := ⟨RX6, "stopped", "(I)I"⟩
abbrev cX6_undo : ByteArray := prog_8_method_60_code
def yX6_undo : MethodName := ⟨RX6, "undo", "()I"⟩
abbrev cX6_keep : ByteArray := prog_8_method_61_code
def yX6_keep : MethodName := ⟨RX6, "keep", "()I"⟩
abbrev cX6_restore : ByteArray := prog_8_method_62_code
def yX6_restore : MethodName := ⟨RX6, "restore", "()I"⟩
abbrev cX6_billOf : ByteArray := prog_8_method_63_code
def yX6_billOf : MethodName := ⟨RX6, "billOf", "(II)I"⟩
abbrev cX6_billsOf : ByteArray := prog_8_method_64_code
def yX6_billsOf : MethodName := ⟨RX6, "billsOf", "(II)I"⟩
abbrev cX6_oldestOpen : ByteArray := prog_8_method_65_code
def yX6_oldestOpen : MethodName := ⟨RX6, "oldestOpen", "(I)I"⟩
abbrev cX6_customer : ByteArray := prog_8_method_66_code
def yX6_customer : MethodName := ⟨RX6, "customer", "(II)I"⟩
abbrev cX6_tax : ByteArray := prog_8_method_67_code
def yX6_tax : MethodName := ⟨RX6, "tax", "(II)I"⟩
abbrev cX6_reason : ByteArray := prog_8_method_68_code
def yX6_reason : MethodName := ⟨RX6, "reason", "(I)I"⟩
abbrev cX6_sum : ByteArray := prog_8_method_69_code
def yX6_sum : MethodName := ⟨RX6, "sum", "(I)I"⟩
abbrev cX6_ifPaid : ByteArray := prog_8_method_70_code
def yX6_ifPaid : MethodName := ⟨RX6, "ifPaid", "(III)I"⟩
abbrev cX6_settles : ByteArray := prog_8_method_71_code
def yX6_settles : MethodName := ⟨RX6, "settles", "(I)I"⟩
abbrev cX6_nextReminder : ByteArray := prog_8_method_72_code
def yX6_nextReminder : MethodName := ⟨RX6, "nextReminder", "(I)I"⟩
abbrev cX6_worst : ByteArray := prog_8_method_73_code
def yX6_worst : MethodName := ⟨RX6, "worst", "()I"⟩
abbrev cX6_sumOfCustomers : ByteArray := prog_8_method_74_code
def yX6_sumOfCustomers : MethodName := ⟨RX6, "sumOfCustomers", "(I)I"⟩
abbrev cX6_count : ByteArray := prog_8_method_75_code
def yX6_count : MethodName := ⟨RX6, "count", "(I)I"⟩
def RJ9 : String := "java/lang/Math"
def TJ9 : u_T := fun k => match k with
  | _ => ("", "", "", false)
def tyJ9 : Nat → FieldType := fun k => match k with
  | _ => .int
abbrev wsJ90 : List Cond := u_ws RJ9 TJ9 0
theorem nmJ9 : ∀ a, a < 0 → ∀ b, b < 0 → a ≠ b → (TJ9 a).2.1 ≠ (TJ9 b).2.1 := by decide +kernel
theorem tyJ9_ok : ∀ k, k < 0 → parseFieldDescriptor (TJ9 k).2.2.1 = some (tyJ9 k) := by decide +kernel
abbrev cJ9_max_7cf53 : ByteArray := prog_9_method_65_code
def yJ9_max_7cf53 : MethodName := ⟨RJ9, "max", "(II)I"⟩
abbrev cJ9_min_7cf53 : ByteArray := prog_9_method_69_code
def yJ9_min_7cf53 : MethodName := ⟨RJ9, "min", "(II)I"⟩
def RJ10 : String := "java/lang/System"
def TJ10 : u_T := fun k => match k with
  | _ => ("", "", "", false)
def tyJ10 : Nat → FieldType := fun k => match k with
  | _ => .int
abbrev wsJ100 : List Cond := u_ws RJ10 TJ10 0
theorem nmJ10 : ∀ a, a < 0 → ∀ b, b < 0 → a ≠ b → (TJ10 a).2.1 ≠ (TJ10 b).2.1 := by decide +kernel
theorem tyJ10_ok : ∀ k, k < 0 → parseFieldDescriptor (TJ10 k).2.2.1 = some (tyJ10 k) := by decide +kernel
def RL : String := "InvoiceBookLaw"
abbrev cL_law : ByteArray := code
def yL_law : MethodName := ⟨RL, "law", "([I)Z"⟩
def wsJ9_max_7cf53 : List Cond := .code yJ9_max_7cf53 cJ9_max_7cf53 2 (some .int) :: ([])
def wsJ9_min_7cf53 : List Cond := .code yJ9_min_7cf53 cJ9_min_7cf53 2 (some .int) :: ([])
def wsL_law_r1 : List Cond := [Cond.classLink RL 7 RX5, Cond.instantiable RX5 9, Cond.initialized RX5, Cond.classLink RL 10 RX6, Cond.instantiable RX6 15, Cond.initialized RX6, Cond.methodLink RL 9 yX5_init, Cond.instanceMethod yX5_init, Cond.code yX5_init cX5_init 1 none, Cond.methodLink RX5 1 objectInit, Cond.instanceMethod objectInit, Cond.code objectInit ⟨#[0xb1]⟩ 1 none, Cond.classLink RX5 7 RX1, Cond.instantiable RX1 8, Cond.initialized RX1, Cond.fieldLink RX5 10 "InvoiceBook" "now" "LInvoiceBook$Book;", Cond.fieldLink RX5 16 "InvoiceBook" "spare" "LInvoiceBook$Book;", Cond.fieldLink RX5 19 "InvoiceBook" "snapshot" "LInvoiceBook$Book;", Cond.classLink RX5 22 RX2, Cond.instantiable RX2 2, Cond.initialized RX2, Cond.fieldLink RX5 25 "InvoiceBook" "history" "LInvoiceBook$History;", Cond.classLink RX5 29 RX4, Cond.instantiable RX4 9]
def wsL_law_r2 : List Cond := [Cond.initialized RX4, Cond.fieldLink RX5 32 "InvoiceBook" "text" "LInvoiceBook$Text;", Cond.methodLink RX5 9 yX1_init, Cond.instanceMethod yX1_init, Cond.code yX1_init cX1_init 2 none, Cond.methodLink RX1 3 objectInit, Cond.classLink RX1 9 RX0, Cond.fieldLink RX1 11 "InvoiceBook$Book" "bills" "[LInvoiceBook$Bill;", Cond.arrayClass .int, Cond.fieldLink RX1 17 "InvoiceBook$Book" "credits" "[I", Cond.fieldLink RX1 21 "InvoiceBook$Book" "taxPaid" "[I", Cond.fieldLink RX1 24 "InvoiceBook$Book" "taxClosed" "[I", Cond.classLink RX1 27 RX3, Cond.instantiable RX3 1, Cond.initialized RX3, Cond.fieldLink RX1 30 "InvoiceBook$Book" "settings" "LInvoiceBook$Settings;", Cond.instantiable RX0 14, Cond.initialized RX0, Cond.instanceMethod yX3_init, Cond.code yX3_init cX3_init 1 none, Cond.methodLink RX3 3 objectInit, Cond.fieldLink RX3 9 "InvoiceBook$Settings" "values" "[I", Cond.instanceMethod yX0_init, Cond.code yX0_init cX0_init 1 none]
def wsL_law_r3 : List Cond := [Cond.methodLink RX0 3 objectInit, Cond.fieldLink RX0 11 "InvoiceBook$Bill" "state" "I", Cond.fieldLink RX0 15 "InvoiceBook$Bill" "lastPayment" "I", Cond.methodLink RX5 24 yX2_init, Cond.instanceMethod yX2_init, Cond.code yX2_init cX2_init 2 none, Cond.methodLink RX2 3 objectInit, Cond.classLink RX2 9 RX1, Cond.fieldLink RX2 11 "InvoiceBook$History" "states" "[LInvoiceBook$Book;", Cond.methodLink RX2 17 yX1_init, Cond.instanceMethod yX4_init, Cond.code yX4_init cX4_init 1 none, Cond.methodLink RX4 3 objectInit, Cond.arrayClass .char, Cond.fieldLink RX4 9 "InvoiceBook$Text" "signs" "[C", Cond.methodLink RL 12 yX6_init, Cond.instanceMethod yX6_init, Cond.code yX6_init cX6_init 1 none, Cond.methodLink RX6 1 objectInit, Cond.fieldLink RX6 7 "InvoiceBookModel" "s" "[I", Cond.fieldLink RX6 13 "InvoiceBookModel" "aside" "[I", Cond.fieldLink RX6 16 "InvoiceBookModel" "ahead" "[I", Cond.fieldLink RX6 19 "InvoiceBookModel" "snapshot" "[I", Cond.fieldLink RX6 22 "InvoiceBookModel" "before" "[I"]
def wsL_law_r4 : List Cond := [Cond.fieldLink RX6 25 "InvoiceBookModel" "text" "[I", Cond.fieldLink RX6 28 "InvoiceBookModel" "stopAt" "I", Cond.fieldLink RX6 32 "InvoiceBookModel" "stopBy" "I", Cond.fieldLink RX6 35 "InvoiceBookModel" "thing" "[I", Cond.methodLink RL 13 yX5_bill, Cond.instanceMethod yX5_bill, Cond.selects RX5 yX5_bill yX5_bill, Cond.code yX5_bill cX5_bill 5 (some .int), Cond.methodLink RX5 36 yX5_startAct, Cond.instanceMethod yX5_startAct, Cond.selects RX5 yX5_startAct yX5_startAct, Cond.code yX5_startAct cX5_startAct 1 none, Cond.methodLink RX5 110 yX1_copyFrom, Cond.instanceMethod yX1_copyFrom, Cond.selects RX1 yX1_copyFrom yX1_copyFrom, Cond.code yX1_copyFrom cX1_copyFrom 3 none, Cond.methodLink RX1 39 arraycopyName, Cond.native arraycopyName, Cond.static arraycopyName, Cond.initialized "java/lang/System", Cond.fieldLink RX1 48 "InvoiceBook$Book" "day" "I", Cond.fieldLink RX1 52 "InvoiceBook$Book" "closedYears" "I", Cond.fieldLink RX1 55 "InvoiceBook$Book" "paidBack" "I", Cond.methodLink RX1 35 yX0_copyFrom]
def wsL_law_r5 : List Cond := [Cond.instanceMethod yX0_copyFrom, Cond.selects RX0 yX0_copyFrom yX0_copyFrom, Cond.code yX0_copyFrom cX0_copyFrom 2 none, Cond.fieldLink RX0 18 "InvoiceBook$Bill" "customer" "I", Cond.fieldLink RX0 21 "InvoiceBook$Bill" "net" "I", Cond.fieldLink RX0 24 "InvoiceBook$Bill" "rate" "I", Cond.fieldLink RX0 27 "InvoiceBook$Bill" "tax" "I", Cond.fieldLink RX0 30 "InvoiceBook$Bill" "sum" "I", Cond.fieldLink RX0 33 "InvoiceBook$Bill" "day" "I", Cond.fieldLink RX0 36 "InvoiceBook$Bill" "due" "I", Cond.fieldLink RX0 39 "InvoiceBook$Bill" "paid" "I", Cond.fieldLink RX0 42 "InvoiceBook$Bill" "discount" "I", Cond.fieldLink RX0 45 "InvoiceBook$Bill" "fees" "I", Cond.fieldLink RX0 48 "InvoiceBook$Bill" "reminders" "I", Cond.fieldLink RX0 51 "InvoiceBook$Bill" "lastReminder" "I", Cond.methodLink RX1 45 yX3_copyFrom, Cond.instanceMethod yX3_copyFrom, Cond.selects RX3 yX3_copyFrom yX3_copyFrom, Cond.code yX3_copyFrom cX3_copyFrom 2 none, Cond.methodLink RX3 15 arraycopyName, Cond.methodLink RX5 39 yX1_writeBill, Cond.instanceMethod yX1_writeBill, Cond.selects RX1 yX1_writeBill yX1_writeBill, Cond.code yX1_writeBill cX1_writeBill 8 (some .int)]
def wsL_law_r6 : List Cond := [Cond.static yX5_isCustomer, Cond.code yX5_isCustomer cX5_isCustomer 1 (some .boolean), Cond.methodLink RX1 65 yX1_countBills, Cond.instanceMethod yX1_countBills, Cond.selects RX1 yX1_countBills yX1_countBills, Cond.code yX1_countBills cX1_countBills 8 (some .int), Cond.methodLink RX1 88 yX0_is, Cond.instanceMethod yX0_is, Cond.selects RX0 yX0_is yX0_is, Cond.code yX0_is cX0_is 3 (some .boolean), Cond.methodLink RX1 69 yX0_write, Cond.instanceMethod yX0_write, Cond.selects RX0 yX0_write yX0_write, Cond.code yX0_write cX0_write 6 none, Cond.methodLink RX1 73 yX1_creditOf, Cond.instanceMethod yX1_creditOf, Cond.selects RX1 yX1_creditOf yX1_creditOf, Cond.code yX1_creditOf cX1_creditOf 2 (some .int), Cond.methodLink RX1 77 yX1_payOn, Cond.instanceMethod yX1_payOn, Cond.selects RX1 yX1_payOn yX1_payOn, Cond.code yX1_payOn cX1_payOn 8 (some .int), Cond.methodLink RX1 106 yX1_discountOn, Cond.instanceMethod yX1_discountOn]
def wsL_law_r7 : List Cond := [Cond.selects RX1 yX1_discountOn yX1_discountOn, Cond.code yX1_discountOn cX1_discountOn 2 (some .int), Cond.fieldLink RX1 120 "InvoiceBook$Bill" "reminders" "I", Cond.fieldLink RX1 123 "InvoiceBook$Bill" "day" "I", Cond.fieldLink RX1 127 "InvoiceBook$Bill" "sum" "I", Cond.methodLink RX1 133 Lib.Math.min.name, Cond.static Lib.Math.min.name, Cond.initialized "java/lang/Math", Cond.code Lib.Math.min.name Lib.Math.min.code 2 (some .int), Cond.methodLink RX1 124 yX3_discountDays, Cond.instanceMethod yX3_discountDays, Cond.selects RX3 yX3_discountDays yX3_discountDays, Cond.code yX3_discountDays cX3_discountDays 1 (some .int), Cond.methodLink RX1 130 yX3_discountPercent, Cond.instanceMethod yX3_discountPercent, Cond.selects RX3 yX3_discountPercent yX3_discountPercent, Cond.code yX3_discountPercent cX3_discountPercent 1 (some .int), Cond.methodLink RX1 102 yX0_owed, Cond.instanceMethod yX0_owed, Cond.selects RX0 yX0_owed yX0_owed, Cond.code yX0_owed cX0_owed 1 (some .int), Cond.methodLink RX1 110 yX0_takeMoney, Cond.instanceMethod yX0_takeMoney, Cond.selects RX0 yX0_takeMoney yX0_takeMoney]
def wsL_law_r8 : List Cond := [Cond.code yX0_takeMoney cX0_takeMoney 4 none, Cond.methodLink RX0 66 yX0_owed, Cond.static yX5_isYear, Cond.code yX5_isYear cX5_isYear 1 (some .boolean), Cond.methodLink RX1 117 yX0_taxIn, Cond.instanceMethod yX0_taxIn, Cond.selects RX0 yX0_taxIn yX0_taxIn, Cond.code yX0_taxIn cX0_taxIn 3 (some .int), Cond.methodLink RX1 81 yX1_setCredit, Cond.instanceMethod yX1_setCredit, Cond.selects RX1 yX1_setCredit yX1_setCredit, Cond.code yX1_setCredit cX1_setCredit 3 none, Cond.methodLink RX5 43 yX5_endAct, Cond.instanceMethod yX5_endAct, Cond.selects RX5 yX5_endAct yX5_endAct, Cond.code yX5_endAct cX5_endAct 3 (some .int), Cond.methodLink RX5 251 yX2_add, Cond.instanceMethod yX2_add, Cond.selects RX2 yX2_add yX2_add, Cond.code yX2_add cX2_add 4 (some (.object "InvoiceBook$Book")), Cond.fieldLink RX2 18 "InvoiceBook$History" "count" "I", Cond.methodLink RL 17 yX6_bill, Cond.instanceMethod yX6_bill, Cond.selects RX6 yX6_bill yX6_bill]
def wsL_law_r9 : List Cond := [Cond.code yX6_bill cX6_bill 5 (some .int), Cond.methodLink RX6 96 yX6_isCustomer, Cond.static yX6_isCustomer, Cond.code yX6_isCustomer cX6_isCustomer 1 (some .boolean), Cond.methodLink RX6 38 yX6_in, Cond.static yX6_in, Cond.code yX6_in cX6_in 3 (some .boolean), Cond.methodLink RX6 99 yX6_isNet, Cond.static yX6_isNet, Cond.code yX6_isNet cX6_isNet 3 (some .boolean), Cond.methodLink RX6 102 yX6_know, Cond.instanceMethod yX6_know, Cond.selects RX6 yX6_know yX6_know, Cond.code yX6_know cX6_know 1 none, Cond.methodLink RX6 45 yX6_looks, Cond.instanceMethod yX6_looks, Cond.selects RX6 yX6_looks yX6_looks, Cond.code yX6_looks cX6_looks 2 none, Cond.methodLink RX6 48 yX6_records, Cond.instanceMethod yX6_records, Cond.selects RX6 yX6_records yX6_records, Cond.code yX6_records cX6_records 2 none, Cond.fieldLink RX6 42 "InvoiceBookModel" "known" "I", Cond.methodLink RX6 105 yX6_billed]
def wsL_law_r10 : List Cond := [Cond.instanceMethod yX6_billed, Cond.selects RX6 yX6_billed yX6_billed, Cond.code yX6_billed cX6_billed 7 (some .int), Cond.methodLink RX6 51 yX6_of, Cond.static yX6_of, Cond.code yX6_of cX6_of 2 (some .int), Cond.methodLink RX6 78 yX6_takesOf, Cond.instanceMethod yX6_takesOf, Cond.selects RX6 yX6_takesOf yX6_takesOf, Cond.code yX6_takesOf cX6_takesOf 6 (some .int), Cond.methodLink RX6 72 yX6_discountOf, Cond.instanceMethod yX6_discountOf, Cond.selects RX6 yX6_discountOf yX6_discountOf, Cond.code yX6_discountOf cX6_discountOf 4 (some .int), Cond.methodLink RX6 66 yX6_daysSince, Cond.instanceMethod yX6_daysSince, Cond.selects RX6 yX6_daysSince yX6_daysSince, Cond.code yX6_daysSince cX6_daysSince 2 (some .int), Cond.methodLink RX6 59 yX6_sumOf, Cond.instanceMethod yX6_sumOf, Cond.selects RX6 yX6_sumOf yX6_sumOf, Cond.code yX6_sumOf cX6_sumOf 2 (some .int), Cond.methodLink RX6 55 yX6_taxOf, Cond.instanceMethod yX6_taxOf]
def wsL_law_r11 : List Cond := [Cond.selects RX6 yX6_taxOf yX6_taxOf, Cond.code yX6_taxOf cX6_taxOf 2 (some .int), Cond.methodLink RX6 69 yX6_owedOn, Cond.instanceMethod yX6_owedOn, Cond.selects RX6 yX6_owedOn yX6_owedOn, Cond.code yX6_owedOn cX6_owedOn 2 (some .int), Cond.methodLink RL 18 yX5_pay, Cond.instanceMethod yX5_pay, Cond.selects RX5 yX5_pay yX5_pay, Cond.code yX5_pay cX5_pay 3 (some .int), Cond.methodLink RX5 47 yX1_takePayment, Cond.instanceMethod yX1_takePayment, Cond.selects RX1 yX1_takePayment yX1_takePayment, Cond.code yX1_takePayment cX1_takePayment 9 (some .int), Cond.fieldLink RX1 58 "InvoiceBook$Bill" "state" "I", Cond.static yX5_isAmount, Cond.code yX5_isAmount cX5_isAmount 1 (some .boolean), Cond.constant RX5 285 (99999), Cond.methodLink RX1 92 yX1_addCredit, Cond.instanceMethod yX1_addCredit, Cond.selects RX1 yX1_addCredit yX1_addCredit, Cond.code yX1_addCredit cX1_addCredit 4 (some .boolean), Cond.constant RX1 138 (999999), Cond.methodLink RL 22 yX6_pay]
def wsL_law_r12 : List Cond := [Cond.instanceMethod yX6_pay, Cond.selects RX6 yX6_pay yX6_pay, Cond.code yX6_pay cX6_pay 3 (some .int), Cond.methodLink RX6 122 yX6_isAmount, Cond.static yX6_isAmount, Cond.code yX6_isAmount cX6_isAmount 1 (some .boolean), Cond.constant RX6 95 (99999), Cond.methodLink RX6 125 yX6_wouldBeTooMuch, Cond.instanceMethod yX6_wouldBeTooMuch, Cond.selects RX6 yX6_wouldBeTooMuch yX6_wouldBeTooMuch, Cond.code yX6_wouldBeTooMuch cX6_wouldBeTooMuch 5 (some .boolean), Cond.methodLink RX6 109 yX6_putAside, Cond.instanceMethod yX6_putAside, Cond.selects RX6 yX6_putAside yX6_putAside, Cond.code yX6_putAside cX6_putAside 2 none, Cond.methodLink RX6 112 yX6_paysAll, Cond.instanceMethod yX6_paysAll, Cond.selects RX6 yX6_paysAll yX6_paysAll, Cond.code yX6_paysAll cX6_paysAll 6 (some .int), Cond.methodLink RX6 75 yX6_isOpenOf, Cond.instanceMethod yX6_isOpenOf, Cond.selects RX6 yX6_isOpenOf yX6_isOpenOf, Cond.code yX6_isOpenOf cX6_isOpenOf 3 (some .boolean), Cond.methodLink RX6 62 yX6_is]
def wsL_law_r13 : List Cond := [Cond.instanceMethod yX6_is, Cond.selects RX6 yX6_is yX6_is, Cond.code yX6_is cX6_is 3 (some .boolean), Cond.methodLink RX6 115 yX6_isTooMuch, Cond.instanceMethod yX6_isTooMuch, Cond.selects RX6 yX6_isTooMuch yX6_isTooMuch, Cond.code yX6_isTooMuch cX6_isTooMuch 3 (some .boolean), Cond.constant RX6 81 (999999), Cond.methodLink RX6 119 yX6_putBack, Cond.instanceMethod yX6_putBack, Cond.selects RX6 yX6_putBack yX6_putBack, Cond.code yX6_putBack cX6_putBack 2 none, Cond.methodLink RL 23 yX5_payBill, Cond.instanceMethod yX5_payBill, Cond.selects RX5 yX5_payBill yX5_payBill, Cond.code yX5_payBill cX5_payBill 3 (some .int), Cond.methodLink RX5 51 yX1_takePaymentFor, Cond.instanceMethod yX1_takePaymentFor, Cond.selects RX1 yX1_takePaymentFor yX1_takePaymentFor, Cond.code yX1_takePaymentFor cX1_takePaymentFor 5 (some .int), Cond.fieldLink RX1 99 "InvoiceBook$Bill" "customer" "I", Cond.methodLink RX1 95 yX1_billAt, Cond.instanceMethod yX1_billAt, Cond.selects RX1 yX1_billAt yX1_billAt]
def wsL_law_r14 : List Cond := [Cond.code yX1_billAt cX1_billAt 2 (some (.object "InvoiceBook$Bill")), Cond.methodLink RL 26 yX6_payBill, Cond.instanceMethod yX6_payBill, Cond.selects RX6 yX6_payBill yX6_payBill, Cond.code yX6_payBill cX6_payBill 4 (some .int), Cond.methodLink RX6 131 yX6_isBill, Cond.instanceMethod yX6_isBill, Cond.selects RX6 yX6_isBill yX6_isBill, Cond.code yX6_isBill cX6_isBill 2 (some .boolean), Cond.methodLink RX6 134 yX6_refusalOn, Cond.instanceMethod yX6_refusalOn, Cond.selects RX6 yX6_refusalOn yX6_refusalOn, Cond.code yX6_refusalOn cX6_refusalOn 5 (some .int), Cond.methodLink RX6 128 yX6_paidOn, Cond.instanceMethod yX6_paidOn, Cond.selects RX6 yX6_paidOn yX6_paidOn, Cond.code yX6_paidOn cX6_paidOn 4 (some .int), Cond.methodLink RL 27 yX5_payBack, Cond.instanceMethod yX5_payBack, Cond.selects RX5 yX5_payBack yX5_payBack, Cond.code yX5_payBack cX5_payBack 2 (some .int), Cond.methodLink RX5 54 yX1_returnCredit, Cond.instanceMethod yX1_returnCredit, Cond.selects RX1 yX1_returnCredit yX1_returnCredit]
def wsL_law_r15 : List Cond := [Cond.code yX1_returnCredit cX1_returnCredit 3 (some .int), Cond.methodLink RL 31 yX6_payBack, Cond.instanceMethod yX6_payBack, Cond.selects RX6 yX6_payBack yX6_payBack, Cond.code yX6_payBack cX6_payBack 3 (some .int), Cond.methodLink RL 32 yX5_pass, Cond.instanceMethod yX5_pass, Cond.selects RX5 yX5_pass yX5_pass, Cond.code yX5_pass cX5_pass 2 (some .int), Cond.methodLink RX5 57 yX1_goOn, Cond.instanceMethod yX1_goOn, Cond.selects RX1 yX1_goOn yX1_goOn, Cond.code yX1_goOn cX1_goOn 2 (some .int), Cond.methodLink RX1 139 yX1_countOverdue, Cond.instanceMethod yX1_countOverdue, Cond.selects RX1 yX1_countOverdue yX1_countOverdue, Cond.code yX1_countOverdue cX1_countOverdue 6 (some .int), Cond.methodLink RX1 166 yX0_isOverdue, Cond.instanceMethod yX0_isOverdue, Cond.selects RX0 yX0_isOverdue yX0_isOverdue, Cond.code yX0_isOverdue cX0_isOverdue 2 (some .boolean), Cond.methodLink RL 35 yX6_pass, Cond.instanceMethod yX6_pass, Cond.selects RX6 yX6_pass yX6_pass]
def wsL_law_r16 : List Cond := [Cond.code yX6_pass cX6_pass 2 (some .int), Cond.methodLink RX6 137 yX6_overdue, Cond.instanceMethod yX6_overdue, Cond.selects RX6 yX6_overdue yX6_overdue, Cond.code yX6_overdue cX6_overdue 3 (some .int), Cond.methodLink RX6 85 yX6_isOverdue, Cond.instanceMethod yX6_isOverdue, Cond.selects RX6 yX6_isOverdue yX6_isOverdue, Cond.code yX6_isOverdue cX6_isOverdue 2 (some .boolean), Cond.methodLink RL 36 yX5_remind, Cond.instanceMethod yX5_remind, Cond.selects RX5 yX5_remind yX5_remind, Cond.code yX5_remind cX5_remind 1 (some .int), Cond.methodLink RX5 60 yX1_sendReminders, Cond.instanceMethod yX1_sendReminders, Cond.selects RX1 yX1_sendReminders yX1_sendReminders, Cond.code yX1_sendReminders cX1_sendReminders 6 (some .int), Cond.methodLink RX1 142 yX3_reminderDays, Cond.instanceMethod yX3_reminderDays, Cond.selects RX3 yX3_reminderDays yX3_reminderDays, Cond.code yX3_reminderDays cX3_reminderDays 1 (some .int), Cond.methodLink RX1 145 yX0_whyNoReminder, Cond.instanceMethod yX0_whyNoReminder, Cond.selects RX0 yX0_whyNoReminder yX0_whyNoReminder]
def wsL_law_r17 : List Cond := [Cond.code yX0_whyNoReminder cX0_whyNoReminder 3 (some .int), Cond.methodLink RX0 54 yX0_isOverdue, Cond.methodLink RX0 58 yX0_reminderDay, Cond.instanceMethod yX0_reminderDay, Cond.selects RX0 yX0_reminderDay yX0_reminderDay, Cond.code yX0_reminderDay cX0_reminderDay 2 (some .int), Cond.methodLink RX0 62 yX0_dueDay, Cond.instanceMethod yX0_dueDay, Cond.selects RX0 yX0_dueDay yX0_dueDay, Cond.code yX0_dueDay cX0_dueDay 1 (some .int), Cond.methodLink RX1 148 yX3_reminderFee, Cond.instanceMethod yX3_reminderFee, Cond.selects RX3 yX3_reminderFee yX3_reminderFee, Cond.code yX3_reminderFee cX3_reminderFee 1 (some .int), Cond.methodLink RX1 151 yX0_addReminder, Cond.instanceMethod yX0_addReminder, Cond.selects RX0 yX0_addReminder yX0_addReminder, Cond.code yX0_addReminder cX0_addReminder 3 none, Cond.methodLink RL 40 yX6_remind, Cond.instanceMethod yX6_remind, Cond.selects RX6 yX6_remind yX6_remind, Cond.code yX6_remind cX6_remind 2 (some .int), Cond.methodLink RX6 141 yX6_reminds, Cond.instanceMethod yX6_reminds]
def wsL_law_r18 : List Cond := [Cond.selects RX6 yX6_reminds yX6_reminds, Cond.code yX6_reminds cX6_reminds 3 (some .int), Cond.methodLink RX6 92 yX6_why, Cond.instanceMethod yX6_why, Cond.selects RX6 yX6_why yX6_why, Cond.code yX6_why cX6_why 2 (some .int), Cond.methodLink RX6 89 yX6_countedFrom, Cond.instanceMethod yX6_countedFrom, Cond.selects RX6 yX6_countedFrom yX6_countedFrom, Cond.code yX6_countedFrom cX6_countedFrom 2 (some .int), Cond.methodLink RX6 82 yX6_dueDay, Cond.instanceMethod yX6_dueDay, Cond.selects RX6 yX6_dueDay yX6_dueDay, Cond.code yX6_dueDay cX6_dueDay 2 (some .int), Cond.methodLink RL 41 yX5_writeOff, Cond.instanceMethod yX5_writeOff, Cond.selects RX5 yX5_writeOff yX5_writeOff, Cond.code yX5_writeOff cX5_writeOff 2 (some .int), Cond.methodLink RX5 64 yX1_giveUp, Cond.instanceMethod yX1_giveUp, Cond.selects RX1 yX1_giveUp yX1_giveUp, Cond.code yX1_giveUp cX1_giveUp 3 (some .int), Cond.methodLink RX1 154 yX0_canBeWrittenOff, Cond.instanceMethod yX0_canBeWrittenOff]
def wsL_law_r19 : List Cond := [Cond.selects RX0 yX0_canBeWrittenOff yX0_canBeWrittenOff, Cond.code yX0_canBeWrittenOff cX0_canBeWrittenOff 3 (some .boolean), Cond.methodLink RL 44 yX6_writeOff, Cond.instanceMethod yX6_writeOff, Cond.selects RX6 yX6_writeOff yX6_writeOff, Cond.code yX6_writeOff cX6_writeOff 2 (some .int), Cond.methodLink RX6 144 yX6_canBeOff, Cond.instanceMethod yX6_canBeOff, Cond.selects RX6 yX6_canBeOff yX6_canBeOff, Cond.code yX6_canBeOff cX6_canBeOff 2 (some .boolean), Cond.methodLink RL 45 yX5_closeYear, Cond.instanceMethod yX5_closeYear, Cond.selects RX5 yX5_closeYear yX5_closeYear, Cond.code yX5_closeYear cX5_closeYear 2 (some .int), Cond.methodLink RX5 67 yX1_endYear, Cond.instanceMethod yX1_endYear, Cond.selects RX1 yX1_endYear yX1_endYear, Cond.code yX1_endYear cX1_endYear 2 (some .int), Cond.methodLink RX1 157 yX3_taxWay, Cond.instanceMethod yX3_taxWay, Cond.selects RX3 yX3_taxWay yX3_taxWay, Cond.code yX3_taxWay cX3_taxWay 1 (some .int), Cond.methodLink RX1 160 yX1_taxOf, Cond.instanceMethod yX1_taxOf]
def wsL_law_r20 : List Cond := [Cond.selects RX1 yX1_taxOf yX1_taxOf, Cond.code yX1_taxOf cX1_taxOf 8 (some .int), Cond.fieldLink RX1 163 "InvoiceBook$Bill" "tax" "I", Cond.methodLink RL 48 yX6_closeYear, Cond.instanceMethod yX6_closeYear, Cond.selects RX6 yX6_closeYear yX6_closeYear, Cond.code yX6_closeYear cX6_closeYear 2 (some .int), Cond.methodLink RX6 147 yX6_isYear, Cond.static yX6_isYear, Cond.code yX6_isYear cX6_isYear 1 (some .boolean), Cond.methodLink RX6 150 yX6_dueFor, Cond.instanceMethod yX6_dueFor, Cond.selects RX6 yX6_dueFor yX6_dueFor, Cond.code yX6_dueFor cX6_dueFor 5 (some .int), Cond.methodLink RL 49 yX5_set, Cond.instanceMethod yX5_set, Cond.selects RX5 yX5_set yX5_set, Cond.code yX5_set cX5_set 3 (some .int), Cond.fieldLink RX5 70 "InvoiceBook$Book" "settings" "LInvoiceBook$Settings;", Cond.methodLink RX5 74 yX3_change, Cond.instanceMethod yX3_change, Cond.selects RX3 yX3_change yX3_change, Cond.code yX3_change cX3_change 4 (some .int), Cond.fieldLink RX3 25 "InvoiceBook$Settings" "LEAST" "[I"]
def wsL_law_r21 : List Cond := [Cond.fieldLink RX3 28 "InvoiceBook$Settings" "MOST" "[I", Cond.methodLink RX3 21 yX3_valueOf, Cond.instanceMethod yX3_valueOf, Cond.selects RX3 yX3_valueOf yX3_valueOf, Cond.code yX3_valueOf cX3_valueOf 2 (some .int), Cond.methodLink RL 52 yX6_set, Cond.instanceMethod yX6_set, Cond.selects RX6 yX6_set yX6_set, Cond.code yX6_set cX6_set 4 (some .int), Cond.methodLink RX6 153 yX6_most, Cond.static yX6_most, Cond.code yX6_most cX6_most 1 (some .int), Cond.methodLink RL 53 yX5_type, Cond.instanceMethod yX5_type, Cond.selects RX5 yX5_type yX5_type, Cond.code yX5_type cX5_type 2 (some .int), Cond.fieldLink RX5 83 "InvoiceBook$Text" "length" "I", Cond.methodLink RX5 79 yX4_add, Cond.instanceMethod yX4_add, Cond.selects RX4 yX4_add yX4_add, Cond.code yX4_add cX4_add 2 (some .boolean), Cond.fieldLink RX4 15 "InvoiceBook$Text" "length" "I", Cond.methodLink RL 57 yX6_type, Cond.instanceMethod yX6_type]
def wsL_law_r22 : List Cond := [Cond.selects RX6 yX6_type yX6_type, Cond.code yX6_type cX6_type 2 (some .int), Cond.fieldLink RX6 156 "InvoiceBookModel" "length" "I", Cond.methodLink RL 58 yX5_clearText, Cond.instanceMethod yX5_clearText, Cond.selects RX5 yX5_clearText yX5_clearText, Cond.code yX5_clearText cX5_clearText 2 (some .int), Cond.methodLink RL 61 yX6_clearText, Cond.instanceMethod yX6_clearText, Cond.selects RX6 yX6_clearText yX6_clearText, Cond.code yX6_clearText cX6_clearText 2 (some .int), Cond.methodLink RL 62 yX5_perform, Cond.instanceMethod yX5_perform, Cond.selects RX5 yX5_perform yX5_perform, Cond.code yX5_perform cX5_perform 2 (some .int), Cond.methodLink RX5 87 yX4_findFault, Cond.instanceMethod yX4_findFault, Cond.selects RX4 yX4_findFault yX4_findFault, Cond.code yX4_findFault cX4_findFault 2 (some .int), Cond.fieldLink RX4 19 "InvoiceBook$Text" "place" "I", Cond.methodLink RX4 22 yX4_goToStart, Cond.instanceMethod yX4_goToStart, Cond.selects RX4 yX4_goToStart yX4_goToStart, Cond.code yX4_goToStart cX4_goToStart 1 none]
def wsL_law_r23 : List Cond := [Cond.methodLink RX4 25 yX4_readThing, Cond.instanceMethod yX4_readThing, Cond.selects RX4 yX4_readThing yX4_readThing, Cond.code yX4_readThing cX4_readThing 1 (some .boolean), Cond.fieldLink RX4 33 "InvoiceBook$Text" "kind" "I", Cond.fieldLink RX4 46 "InvoiceBook$Text" "days" "I", Cond.methodLink RX4 29 yX4_skip, Cond.instanceMethod yX4_skip, Cond.selects RX4 yX4_skip yX4_skip, Cond.code yX4_skip cX4_skip 2 (some .boolean), Cond.methodLink RX4 36 yX4_readBill, Cond.instanceMethod yX4_readBill, Cond.selects RX4 yX4_readBill yX4_readBill, Cond.code yX4_readBill cX4_readBill 1 (some .boolean), Cond.fieldLink RX4 53 "InvoiceBook$Text" "rate" "I", Cond.methodLink RX4 49 yX4_readCustomerAndAmount, Cond.instanceMethod yX4_readCustomerAndAmount, Cond.selects RX4 yX4_readCustomerAndAmount yX4_readCustomerAndAmount, Cond.code yX4_readCustomerAndAmount cX4_readCustomerAndAmount 2 (some .boolean), Cond.fieldLink RX4 60 "InvoiceBook$Text" "customer" "I", Cond.fieldLink RX4 63 "InvoiceBook$Text" "amount" "I", Cond.methodLink RX4 42 yX4_readNumber, Cond.instanceMethod yX4_readNumber, Cond.selects RX4 yX4_readNumber yX4_readNumber]
def wsL_law_r24 : List Cond := [Cond.code yX4_readNumber cX4_readNumber 5 (some .int), Cond.methodLink RX4 66 yX4_digitAtPlace, Cond.instanceMethod yX4_digitAtPlace, Cond.selects RX4 yX4_digitAtPlace yX4_digitAtPlace, Cond.code yX4_digitAtPlace cX4_digitAtPlace 2 (some .int), Cond.methodLink RX4 39 yX4_readPayment, Cond.instanceMethod yX4_readPayment, Cond.selects RX4 yX4_readPayment yX4_readPayment, Cond.code yX4_readPayment cX4_readPayment 1 (some .boolean), Cond.constant RX4 56 (99999), Cond.fieldLink RX4 57 "InvoiceBook$Text" "bill" "I", Cond.methodLink RX5 90 yX5_doAllThings, Cond.instanceMethod yX5_doAllThings, Cond.selects RX5 yX5_doAllThings yX5_doAllThings, Cond.code yX5_doAllThings cX5_doAllThings 3 (some .int), Cond.fieldLink RX5 93 "InvoiceBook" "hasStop" "Z", Cond.fieldLink RX5 97 "InvoiceBook" "stopNumber" "I", Cond.fieldLink RX5 100 "InvoiceBook" "stopError" "I", Cond.methodLink RX5 253 yX4_goToStart, Cond.methodLink RX5 256 yX4_readThing, Cond.methodLink RX5 259 yX5_doThing, Cond.instanceMethod yX5_doThing, Cond.selects RX5 yX5_doThing yX5_doThing, Cond.code yX5_doThing cX5_doThing 1 (some .int)]
def wsL_law_r25 : List Cond := [Cond.fieldLink RX5 265 "InvoiceBook$Text" "kind" "I", Cond.fieldLink RX5 268 "InvoiceBook$Text" "customer" "I", Cond.fieldLink RX5 269 "InvoiceBook$Text" "amount" "I", Cond.fieldLink RX5 272 "InvoiceBook$Text" "rate" "I", Cond.fieldLink RX5 275 "InvoiceBook$Text" "days" "I", Cond.fieldLink RX5 278 "InvoiceBook$Text" "bill" "I", Cond.methodLink RX5 281 yX1_isOfAnother, Cond.instanceMethod yX1_isOfAnother, Cond.selects RX1 yX1_isOfAnother yX1_isOfAnother, Cond.code yX1_isOfAnother cX1_isOfAnother 4 (some .boolean), Cond.methodLink RX5 262 yX4_skip, Cond.methodLink RL 65 yX6_perform, Cond.instanceMethod yX6_perform, Cond.selects RX6 yX6_perform yX6_perform, Cond.code yX6_perform cX6_perform 4 (some .int), Cond.fieldLink RX6 159 "InvoiceBookModel" "isWrong" "Z", Cond.fieldLink RX6 163 "InvoiceBookModel" "position" "I", Cond.fieldLink RX6 182 "InvoiceBookModel" "stop" "I", Cond.methodLink RX6 191 yX6_goes, Cond.instanceMethod yX6_goes, Cond.selects RX6 yX6_goes yX6_goes, Cond.code yX6_goes cX6_goes 6 (some .int), Cond.methodLink RX6 185 yX6_readThing, Cond.instanceMethod yX6_readThing]
def wsL_law_r26 : List Cond := [Cond.selects RX6 yX6_readThing yX6_readThing, Cond.code yX6_readThing cX6_readThing 3 none, Cond.methodLink RX6 172 yX6_takesNumber, Cond.instanceMethod yX6_takesNumber, Cond.selects RX6 yX6_takesNumber yX6_takesNumber, Cond.code yX6_takesNumber cX6_takesNumber 5 (some .int), Cond.methodLink RX6 166 yX6_takes, Cond.instanceMethod yX6_takes, Cond.selects RX6 yX6_takes yX6_takes, Cond.code yX6_takes cX6_takes 4 (some .int), Cond.methodLink RX6 169 yX6_isNext, Cond.instanceMethod yX6_isNext, Cond.selects RX6 yX6_isNext yX6_isNext, Cond.code yX6_isNext cX6_isNext 3 (some .boolean), Cond.methodLink RX6 175 yX6_takesBehind, Cond.instanceMethod yX6_takesBehind, Cond.selects RX6 yX6_takesBehind yX6_takesBehind, Cond.code yX6_takesBehind cX6_takesBehind 5 (some .int), Cond.methodLink RX6 188 yX6_does, Cond.instanceMethod yX6_does, Cond.selects RX6 yX6_does yX6_does, Cond.code yX6_does cX6_does 2 (some .int), Cond.methodLink RX6 179 yX6_paidByText, Cond.instanceMethod yX6_paidByText]
def wsL_law_r27 : List Cond := [Cond.selects RX6 yX6_paidByText yX6_paidByText, Cond.code yX6_paidByText cX6_paidByText 5 (some .int), Cond.methodLink RL 66 yX5_stopped, Cond.instanceMethod yX5_stopped, Cond.selects RX5 yX5_stopped yX5_stopped, Cond.code yX5_stopped cX5_stopped 2 (some .int), Cond.methodLink RL 69 yX6_stopped, Cond.instanceMethod yX6_stopped, Cond.selects RX6 yX6_stopped yX6_stopped, Cond.code yX6_stopped cX6_stopped 2 (some .int), Cond.methodLink RL 70 yX5_undo, Cond.instanceMethod yX5_undo, Cond.selects RX5 yX5_undo yX5_undo, Cond.code yX5_undo cX5_undo 1 (some .int), Cond.fieldLink RX5 103 "InvoiceBook$History" "count" "I", Cond.methodLink RX5 106 yX2_takeLatest, Cond.instanceMethod yX2_takeLatest, Cond.selects RX2 yX2_takeLatest yX2_takeLatest, Cond.code yX2_takeLatest cX2_takeLatest 3 (some (.object "InvoiceBook$Book")), Cond.methodLink RL 73 yX6_undo, Cond.instanceMethod yX6_undo, Cond.selects RX6 yX6_undo yX6_undo, Cond.code yX6_undo cX6_undo 2 (some .int), Cond.methodLink RL 74 yX5_keep]
def wsL_law_r28 : List Cond := [Cond.instanceMethod yX5_keep, Cond.selects RX5 yX5_keep yX5_keep, Cond.code yX5_keep cX5_keep 1 (some .int), Cond.fieldLink RX5 114 "InvoiceBook" "hasSnapshot" "Z", Cond.fieldLink RX5 117 "InvoiceBook$Book" "day" "I", Cond.methodLink RL 77 yX6_keep, Cond.instanceMethod yX6_keep, Cond.selects RX6 yX6_keep yX6_keep, Cond.code yX6_keep cX6_keep 2 (some .int), Cond.fieldLink RX6 195 "InvoiceBookModel" "isKept" "Z", Cond.methodLink RL 78 yX5_restore, Cond.instanceMethod yX5_restore, Cond.selects RX5 yX5_restore yX5_restore, Cond.code yX5_restore cX5_restore 1 (some .int), Cond.methodLink RL 81 yX6_restore, Cond.instanceMethod yX6_restore, Cond.selects RX6 yX6_restore yX6_restore, Cond.code yX6_restore cX6_restore 2 (some .int), Cond.methodLink RL 82 yX5_billOf, Cond.instanceMethod yX5_billOf, Cond.selects RX5 yX5_billOf yX5_billOf, Cond.code yX5_billOf cX5_billOf 4 (some .int), Cond.fieldLink RX5 124 "InvoiceBook$Bill" "customer" "I", Cond.fieldLink RX5 129 "InvoiceBook$Bill" "net" "I"]
def wsL_law_r29 : List Cond := [Cond.fieldLink RX5 132 "InvoiceBook$Bill" "tax" "I", Cond.fieldLink RX5 135 "InvoiceBook$Bill" "sum" "I", Cond.fieldLink RX5 138 "InvoiceBook$Bill" "day" "I", Cond.fieldLink RX5 142 "InvoiceBook$Bill" "state" "I", Cond.fieldLink RX5 145 "InvoiceBook$Bill" "paid" "I", Cond.fieldLink RX5 148 "InvoiceBook$Bill" "discount" "I", Cond.fieldLink RX5 151 "InvoiceBook$Bill" "fees" "I", Cond.fieldLink RX5 157 "InvoiceBook$Bill" "reminders" "I", Cond.fieldLink RX5 160 "InvoiceBook$Bill" "lastPayment" "I", Cond.methodLink RX5 120 yX1_billAt, Cond.methodLink RX5 139 yX0_dueDay, Cond.methodLink RX5 154 yX0_owed, Cond.methodLink RX5 163 yX0_isOverdue, Cond.methodLink RL 85 yX6_billOf, Cond.instanceMethod yX6_billOf, Cond.selects RX6 yX6_billOf yX6_billOf, Cond.code yX6_billOf cX6_billOf 3 (some .int), Cond.methodLink RL 86 yX5_customer, Cond.instanceMethod yX5_customer, Cond.selects RX5 yX5_customer yX5_customer, Cond.code yX5_customer cX5_customer 3 (some .int), Cond.methodLink RX5 167 yX5_isCustomer, Cond.methodLink RX5 170 yX1_countBills, Cond.methodLink RX5 173 yX1_owedOn]
def wsL_law_r30 : List Cond := [Cond.instanceMethod yX1_owedOn, Cond.selects RX1 yX1_owedOn yX1_owedOn, Cond.code yX1_owedOn cX1_owedOn 8 (some .int), Cond.methodLink RX5 176 yX1_creditOf, Cond.methodLink RX5 179 yX1_paidOn, Cond.instanceMethod yX1_paidOn, Cond.selects RX1 yX1_paidOn yX1_paidOn, Cond.code yX1_paidOn cX1_paidOn 7 (some .int), Cond.fieldLink RX1 169 "InvoiceBook$Bill" "paid" "I", Cond.methodLink RX5 182 yX1_oldestOpenBill, Cond.instanceMethod yX1_oldestOpenBill, Cond.selects RX1 yX1_oldestOpenBill yX1_oldestOpenBill, Cond.code yX1_oldestOpenBill cX1_oldestOpenBill 3 (some .int), Cond.methodLink RL 89 yX6_customer, Cond.instanceMethod yX6_customer, Cond.selects RX6 yX6_customer yX6_customer, Cond.code yX6_customer cX6_customer 3 (some .int), Cond.methodLink RX6 198 yX6_billsOf, Cond.instanceMethod yX6_billsOf, Cond.selects RX6 yX6_billsOf yX6_billsOf, Cond.code yX6_billsOf cX6_billsOf 5 (some .int), Cond.methodLink RX6 201 yX6_owedBy, Cond.instanceMethod yX6_owedBy, Cond.selects RX6 yX6_owedBy yX6_owedBy]
def wsL_law_r31 : List Cond := [Cond.code yX6_owedBy cX6_owedBy 5 (some .int), Cond.methodLink RX6 204 yX6_oldestOpen, Cond.instanceMethod yX6_oldestOpen, Cond.selects RX6 yX6_oldestOpen yX6_oldestOpen, Cond.code yX6_oldestOpen cX6_oldestOpen 4 (some .int), Cond.methodLink RL 90 yX5_tax, Cond.instanceMethod yX5_tax, Cond.selects RX5 yX5_tax yX5_tax, Cond.code yX5_tax cX5_tax 3 (some .int), Cond.methodLink RX5 185 yX5_isYear, Cond.methodLink RX5 188 yX1_taxTold, Cond.instanceMethod yX1_taxTold, Cond.selects RX1 yX1_taxTold yX1_taxTold, Cond.code yX1_taxTold cX1_taxTold 2 (some .int), Cond.methodLink RX5 191 yX1_taxOf, Cond.methodLink RL 93 yX6_tax, Cond.instanceMethod yX6_tax, Cond.selects RX6 yX6_tax yX6_tax, Cond.code yX6_tax cX6_tax 3 (some .int), Cond.methodLink RL 94 yX5_reason, Cond.instanceMethod yX5_reason, Cond.selects RX5 yX5_reason yX5_reason, Cond.code yX5_reason cX5_reason 3 (some .int), Cond.methodLink RX5 194 yX3_reminderDays]
def wsL_law_r32 : List Cond := [Cond.methodLink RX5 197 yX0_whyNoReminder, Cond.methodLink RL 97 yX6_reason, Cond.instanceMethod yX6_reason, Cond.selects RX6 yX6_reason yX6_reason, Cond.code yX6_reason cX6_reason 2 (some .int), Cond.methodLink RL 98 yX5_ifPaid, Cond.instanceMethod yX5_ifPaid, Cond.selects RX5 yX5_ifPaid yX5_ifPaid, Cond.code yX5_ifPaid cX5_ifPaid 5 (some .int), Cond.methodLink RX5 200 yX5_isAmount, Cond.methodLink RX5 203 yX1_allDiscounts, Cond.instanceMethod yX1_allDiscounts, Cond.selects RX1 yX1_allDiscounts yX1_allDiscounts, Cond.code yX1_allDiscounts cX1_allDiscounts 6 (some .int), Cond.fieldLink RX1 172 "InvoiceBook$Bill" "discount" "I", Cond.methodLink RL 102 yX6_ifPaid, Cond.instanceMethod yX6_ifPaid, Cond.selects RX6 yX6_ifPaid yX6_ifPaid, Cond.code yX6_ifPaid cX6_ifPaid 7 (some .int), Cond.methodLink RX6 207 yX6_sum, Cond.instanceMethod yX6_sum, Cond.selects RX6 yX6_sum yX6_sum, Cond.code yX6_sum cX6_sum 4 (some .int), Cond.methodLink RL 103 yX5_settles]
def wsL_law_r33 : List Cond := [Cond.instanceMethod yX5_settles, Cond.selects RX5 yX5_settles yX5_settles, Cond.code yX5_settles cX5_settles 2 (some .int), Cond.methodLink RX5 206 yX1_leastToPayAll, Cond.instanceMethod yX1_leastToPayAll, Cond.selects RX1 yX1_leastToPayAll yX1_leastToPayAll, Cond.code yX1_leastToPayAll cX1_leastToPayAll 7 (some .int), Cond.methodLink RL 106 yX6_settles, Cond.instanceMethod yX6_settles, Cond.selects RX6 yX6_settles yX6_settles, Cond.code yX6_settles cX6_settles 4 (some .int), Cond.methodLink RL 107 yX5_nextReminder, Cond.instanceMethod yX5_nextReminder, Cond.selects RX5 yX5_nextReminder yX5_nextReminder, Cond.code yX5_nextReminder cX5_nextReminder 4 (some .int), Cond.methodLink RX5 216 Lib.Math.max.name, Cond.static Lib.Math.max.name, Cond.code Lib.Math.max.name Lib.Math.max.code 2 (some .int), Cond.methodLink RX5 209 yX0_awaitsReminder, Cond.instanceMethod yX0_awaitsReminder, Cond.selects RX0 yX0_awaitsReminder yX0_awaitsReminder, Cond.code yX0_awaitsReminder cX0_awaitsReminder 1 (some .boolean), Cond.methodLink RX5 213 yX0_reminderDay, Cond.methodLink RL 110 yX6_nextReminder]
def wsL_law_r34 : List Cond := [Cond.instanceMethod yX6_nextReminder, Cond.selects RX6 yX6_nextReminder yX6_nextReminder, Cond.code yX6_nextReminder cX6_nextReminder 3 (some .int), Cond.methodLink RL 111 yX5_worst, Cond.instanceMethod yX5_worst, Cond.selects RX5 yX5_worst yX5_worst, Cond.code yX5_worst cX5_worst 5 (some .int), Cond.methodLink RL 114 yX6_worst, Cond.instanceMethod yX6_worst, Cond.selects RX6 yX6_worst yX6_worst, Cond.code yX6_worst cX6_worst 5 (some .int), Cond.methodLink RL 115 yX5_count, Cond.instanceMethod yX5_count, Cond.selects RX5 yX5_count yX5_count, Cond.code yX5_count cX5_count 2 (some .int), Cond.fieldLink RX5 227 "InvoiceBook$Book" "paidBack" "I", Cond.fieldLink RX5 236 "InvoiceBook$Book" "closedYears" "I", Cond.methodLink RX5 221 yX1_countOverdue, Cond.methodLink RX5 224 yX1_allCredit, Cond.instanceMethod yX1_allCredit, Cond.selects RX1 yX1_allCredit yX1_allCredit, Cond.code yX1_allCredit cX1_allCredit 6 (some .int), Cond.methodLink RX5 230 yX1_allFees, Cond.instanceMethod yX1_allFees]
def wsL_law_r35 : List Cond := [Cond.selects RX1 yX1_allFees yX1_allFees, Cond.code yX1_allFees cX1_allFees 6 (some .int), Cond.fieldLink RX1 175 "InvoiceBook$Bill" "fees" "I", Cond.methodLink RX5 233 yX1_allReminders, Cond.instanceMethod yX1_allReminders, Cond.selects RX1 yX1_allReminders yX1_allReminders, Cond.code yX1_allReminders cX1_allReminders 6 (some .int), Cond.methodLink RX5 239 yX3_discountDays, Cond.methodLink RX5 242 yX3_discountPercent, Cond.methodLink RX5 245 yX3_reminderFee, Cond.methodLink RX5 248 yX3_taxWay, Cond.methodLink RL 118 yX6_count, Cond.instanceMethod yX6_count, Cond.selects RX6 yX6_count yX6_count, Cond.code yX6_count cX6_count 2 (some .int), Cond.methodLink RX6 210 yX6_sumOfCustomers, Cond.instanceMethod yX6_sumOfCustomers, Cond.selects RX6 yX6_sumOfCustomers yX6_sumOfCustomers, Cond.code yX6_sumOfCustomers cX6_sumOfCustomers 4 (some .int)]
def wsL_law : List Cond := (wsL_law_r1 ++ (wsL_law_r2 ++ (wsL_law_r3 ++ (wsL_law_r4 ++ (wsL_law_r5 ++ (wsL_law_r6 ++ (wsL_law_r7 ++ (wsL_law_r8 ++ (wsL_law_r9 ++ (wsL_law_r10 ++ (wsL_law_r11 ++ (wsL_law_r12 ++ (wsL_law_r13 ++ (wsL_law_r14 ++ (wsL_law_r15 ++ (wsL_law_r16 ++ (wsL_law_r17 ++ (wsL_law_r18 ++ (wsL_law_r19 ++ (wsL_law_r20 ++ (wsL_law_r21 ++ (wsL_law_r22 ++ (wsL_law_r23 ++ (wsL_law_r24 ++ (wsL_law_r25 ++ (wsL_law_r26 ++ (wsL_law_r27 ++ (wsL_law_r28 ++ (wsL_law_r29 ++ (wsL_law_r30 ++ (wsL_law_r31 ++ (wsL_law_r32 ++ (wsL_law_r33 ++ (wsL_law_r34 ++ wsL_law_r35)))))))))))))))))))))))))))))))))) ++ wsX50 ++ wsX60 ++ wsX10 ++ wsX20 ++ wsX40 ++ wsX30 ++ wsX00 ++ ([] : List Cond)
set_option maxRecDepth 20000 in
theorem inlX0 : ∀ w ∈ wsX00, w ∈ wsL_law := fun _ h => List.mem_append_left _ (List.mem_append_right _ h)
theorem inlX1 : ∀ w ∈ wsX10, w ∈ wsL_law := fun _ h => List.mem_append_left _ (List.mem_append_left _ (List.mem_append_left _ (List.mem_append_left _ (List.mem_append_left _ (List.mem_append_right _ h)))))
theorem inlX2 : ∀ w ∈ wsX20, w ∈ wsL_law := fun _ h => List.mem_append_left _ (List.mem_append_left _ (List.mem_append_left _ (List.mem_append_left _ (List.mem_append_right _ h))))
theorem inlX3 : ∀ w ∈ wsX30, w ∈ wsL_law := fun _ h => List.mem_append_left _ (List.mem_append_left _ (List.mem_append_right _ h))
theorem inlX4 : ∀ w ∈ wsX40, w ∈ wsL_law := fun _ h => List.mem_append_left _ (List.mem_append_left _ (List.mem_append_left _ (List.mem_append_right _ h)))
theorem inlX5 : ∀ w ∈ wsX50, w ∈ wsL_law := fun _ h => List.mem_append_left _ (List.mem_append_left _ (List.mem_append_left _ (List.mem_append_left _ (List.mem_append_left _ (List.mem_append_left _ (List.mem_append_left _ (List.mem_append_right _ h)))))))
theorem inlX6 : ∀ w ∈ wsX60, w ∈ wsL_law := fun _ h => List.mem_append_left _ (List.mem_append_left _ (List.mem_append_left _ (List.mem_append_left _ (List.mem_append_left _ (List.mem_append_left _ (List.mem_append_right _ h))))))
end
section
/-! worlds as families of cells over a list of names -/
def fW {ι : Type} (L : List ι) (a : ι → Nat) (E : ι → va_E) : va_W := L.map (fun i => (a i, E i))
def fI {ι : Type} (L : List ι) (a : ι → Nat) : Prop := L.Nodup ∧ ∀ i, i ∈ L → ∀ j, j ∈ L → a i = a j → i = j
def fA {ι : Type} (L : List ι) (a : ι → Nat) : Nat → Prop := fun q => ∃ i, i ∈ L ∧ a i = q
theorem fW_get {ι : Type} {L : List ι} {a : ι → Nat} {E : ι → va_E} {i : ι} (h : i ∈ L) : ∃ q0 : Nat, L[q0]? = some i ∧ (fW L a E)[q0]? = some (a i, E i) := by
  obtain ⟨q0, hq⟩ := List.getElem?_of_mem h
  exact ⟨q0, hq, by simp [fW, hq]⟩
theorem fW_of {ι : Type} {L : List ι} {a : ι → Nat} {E : ι → va_E} {k : Nat} {q : Nat × va_E} (h : (fW L a E)[k]? = some q) : ∃ i, L[k]? = some i ∧ q = (a i, E i) := by
  unfold fW at h
  rw [List.getElem?_map] at h
  cases hk : L[k]? with
  | none => rw [hk] at h; cases h
  | some i => rw [hk] at h; exact ⟨i, rfl, (Option.some.inj h).symm⟩
theorem nodup_at {ι : Type} {L : List ι} (hn : L.Nodup) {i j : Nat} {x : ι} (h1 : L[i]? = some x) (h2 : L[j]? = some x) : i = j :=
  (List.getElem?_inj (List.getElem?_eq_some_iff.mp h1).1 hn).mp (h1.trans h2.symm)
theorem fW_set {ι : Type} {L : List ι} (hn : L.Nodup) {a : ι → Nat} {E E' : ι → va_E} {i : ι} {q0 : Nat} (hq : L[q0]? = some i) {e : va_E} (he : E' i = e) (ho : ∀ j, j ≠ i → E' j = E j) : (fW L a E).set q0 (a i, e) = fW L a E' := by
  apply List.ext_getElem?
  intro k
  have hl := (List.getElem?_eq_some_iff.mp hq).1
  by_cases hk : k = q0
  · subst hk
    rw [List.getElem?_set_self (by simpa [fW] using hl)]
    simp [fW, hq, he]
  · rw [List.getElem?_set_ne (Ne.symm hk)]
    cases hk2 : L[k]? with
    | none => simp [fW, hk2]
    | some j =>
      have hj : j ≠ i := fun z => hk (nodup_at hn (z ▸ hk2) hq)
      simp [fW, hk2, ho j hj]
theorem fD {ι : Type} {L : List ι} {a : ι → Nat} {E : ι → va_E} (h : fI L a) : va_D (fA L a) (fW L a E) := by
  refine ⟨fun i j p q hi hj hpq => ?_, fun k q hk => ?_⟩
  · obtain ⟨x, h1, rfl⟩ := fW_of hi
    obtain ⟨y, h2, rfl⟩ := fW_of hj
    have hxy := h.2 x (List.mem_of_getElem? h1) y (List.mem_of_getElem? h2) hpq
    subst hxy
    exact nodup_at h.1 h1 h2
  · obtain ⟨x, h1, rfl⟩ := fW_of hk
    exact ⟨x, List.mem_of_getElem? h1, rfl⟩
theorem fP_at {ι : Type} {D : va_G} {cl : List vw_C} {L : List ι} {a : ι → Nat} {E : ι → va_E} {H : Heap} (h : va_P D cl (fW L a E) H) {i : ι} (hi : i ∈ L) : va_at D cl (a i, E i) H := by
  obtain ⟨q0, -, h2⟩ := fW_get (a := a) (E := E) hi
  exact h q0 _ h2
theorem fP_of {ι : Type} {D : va_G} {cl : List vw_C} {L : List ι} {a : ι → Nat} {E : ι → va_E} {H : Heap} (h : ∀ i, i ∈ L → va_at D cl (a i, E i) H) : va_P D cl (fW L a E) H := by
  intro k q hk
  obtain ⟨i, h1, rfl⟩ := fW_of hk
  exact h i (List.mem_of_getElem? h1)
/-! the words of all methods -/
abbrev vwCl : List vw_C := [(RX0, TX0, 14), (RX1, TX1, 8), (RX2, TX2, 2), (RX3, TX3, 1), (RX4, TX4, 9), (RX5, TX5, 9), (RX6, TX6, 15)]
abbrev BIG : List Cond := wsL_law
abbrev kT (cI cC cB cK : ClassId) : List (ClassId × FieldType) := [(cI, .int), (cC, .char), (cB, .object RX0), (cK, .object RX1)]
abbrev kG : Type := va_G × ClassId × ClassId × ClassId × ClassId
/-- the tables -/
def Kp (G : kG) (U : State) : Prop := va_K G.1 vwCl (kT G.2.1 G.2.2.1 G.2.2.2.1 G.2.2.2.2) U
theorem Kp.moved {G : kG} {u U : State} (h : u.vm.Alike U.vm) (hK : Kp G u) : Kp G U := va_K.moved h hK
def rmK (d : Nat) : Room := { frames := d, cells := 0, slots := 0, locals := 28 * d }
/-- start and end of a contract -/
def pcG (G : kG) (P : Heap → Prop) (av : List Value) : Array Value → State → Prop := va_Pc av (fun U => P U.heap ∧ Kp G U)
def qcI (G : kG) (A : Nat → Prop) (P : Heap → Prop) (v : Int32) : Array Value → State → Outcome → State → Prop := va_Qi (fun r (_ : Unit) => r = v) (fun _ t => P t.heap ∧ Kp G t) A
def qcV (G : kG) (A : Nat → Prop) (P : Heap → Prop) : Array Value → State → Outcome → State → Prop := va_Qv (fun (_ : Unit) => True) (fun _ t => P t.heap ∧ Kp G t) A
def qcQ (G : kG) (A : Nat → Prop) (P : Heap → Prop) (v : Option Nat) : Array Value → State → Outcome → State → Prop := va_Qq (fun r (_ : Unit) => r = v) (fun _ t => P t.heap ∧ Kp G t) A
theorem pcG_blind {G : kG} {P : Heap → Prop} {av : List Value} : FrameBlind (pcG G P av) := fun a U g mk h => ⟨h.1, h.2.1, h.2.2.moved (u := U) (U := U.calling g mk a) (Vm.Alike.refl U.vm)⟩
theorem big_self : GoodIn BIG BIG := goodIn_sub (fun _ h => h) (by decide +kernel)
theorem big_cons {y : MethodName} {cc : ByteArray} {n : Nat} {ret : Option FieldType} (h : Cond.code y cc n ret ∈ BIG) : GoodIn BIG (Cond.code y cc n ret :: BIG) := fun w hw => by
  rcases List.mem_cons.mp hw with rfl | hw
  · exact big_self _ h
  · exact big_self _ hw
section MS
variable {l : Launch} {G : kG} {A : Nat → Prop} {P : Heap → Prop} {Qc : Array Value → State → Outcome → State → Prop} {av : List Value}
/-- a contract's start -/
theorem m_start {y : MethodName} {cc : ByteArray} {n : Nat} {ret : Option FieldType} {rm : Room} {mc ms : Nat} {free : Addr → Prop} (hy : plainName y.cls = true) (hn : (lg_sl av).length ≤ n)
    (body : ∀ (p : Program) (e : Env) (s : State) (m : MethodId) (args : Array Value) (below : List Frame) (meth : Method) (c : Code), CallFix p m c cc n s args BIG y.cls → meth.sig.returnType = ret → meth.locks = false → meth.name = y.name → P s.heap → Kp G s → ∀ ls : Array Slot, lv_has ls n (lv_args 0 av) →
      W p l e rm s m args below meth c s.heap [] 0 0 (MQ below Qc args s mc ms free) (F0 m 0 ls [])) : Met l y (Cond.code y cc n ret :: BIG) rm (pcG G P av) Qc mc ms free := by
  refine Met.ofW (cc := cc) (maxL := n) (ret := ret) hy rfl ?_
  intro p e s m args below meth c s₁ B hml hv
  obtain ⟨rfl, hP, hK⟩ := hv
  have hts := atoms_spec (ws := Cond.code y cc n ret :: BIG) B.pre
  rw [lg_entry_eq]
  exact body p e s m _ below meth c ⟨B.exec, B.bytes, hml, findClass_of_methodNamed B.named, fun w h => hts w (List.mem_cons_of_mem _ h)⟩ B.returns B.notSynchronized (name_of_methodNamed B.named B.method).1 hP hK _ (lv_entry av hn)
end MS
section RW
variable {p : Program} {l : Launch} {e : Env} {R : Room} {s : State} {m : MethodId} {args : Array Value} {below : List Frame} {meth : Method} {c : Code} {H : Heap} {locs : List Loc} {cells slots : Nat} {Q : State → Prop}
variable {cc : ByteArray} {pc nL : Nat} {own : String} {ls : Array Slot} {rest : List Value} {G : kG} {A : Nat → Prop} {H0 : Heap}
variable {ι : Type} {L : List ι} {a : ι → Nat} {E : ι → va_E} {i : ι}
/-- getfield out of a family -/
theorem r_get (S : CallFix p m c cc nL s args BIG own) (hK : Kp G s) (hP : va_P G.1 vwCl (fW L a E) H) (hi : i ∈ L) {ci N : Nat} {C : String} {T : u_T} {fs : List Value} (he : E i = .inr (ci, fs)) (hc : vwCl[ci]? = some (C, T, N)) (hin : ∀ w ∈ u_ws C T N, w ∈ BIG) (k : Nat) (hk : k < N) {index : Nat} (hlink : Cond.fieldLink own index (T k).1 (T k).2.1 (T k).2.2.1 ∈ BIG) {v : Value} (hv : fs[k]? = some v) (hdg : decode cc pc = .ok (.getfield index, 3))
    (kk : W p l e R s m args below meth c H locs cells slots Q (F0 m (pc + 3) ls (v :: rest))) : W p l e R s m args below meth c H locs cells slots Q (F0 m pc ls (.ref (a i) :: rest)) := by
  obtain ⟨hx, hb, hml, hown, hts⟩ := S
  obtain ⟨q0, -, h2⟩ := fW_get (a := a) (E := E) hi
  rw [he] at h2
  exact va_get hx hb hts hin hown hK hP q0 h2 hc k hk (hts _ hlink) (fun _ h => h) hv hdg kk
/-- putfield into a family -/
theorem r_put (S : CallFix p m c cc nL s args BIG own) (hK : Kp G s) (hP : va_P G.1 vwCl (fW L a E) H) (hI : fI L a) (hS : va_S (fA L a) H0 H locs) (hi : i ∈ L) {ci N : Nat} {C : String} {T : u_T} {fs : List Value} (he : E i = .inr (ci, fs)) (hc : vwCl[ci]? = some (C, T, N)) (hin : ∀ w ∈ u_ws C T N, w ∈ BIG) (ty0 : Nat → FieldType) (hty : ∀ k, k < N → parseFieldDescriptor (T k).2.2.1 = some (ty0 k)) (hnm : ∀ a, a < N → ∀ b, b < N → a ≠ b → (T a).2.1 ≠ (T b).2.1) (k : Nat) (hk : k < N) {index : Nat} (hlink : Cond.fieldLink own index (T k).1 (T k).2.1 (T k).2.2.1 ∈ BIG) (hfin : (T k).2.2.2 = false) {ty : FieldType} {v : Value} (hd : parseFieldDescriptor (T k).2.2.1 = some ty) (hn : narrow ty v = v) (hfit : fits ty v = true) (hl : k < fs.length) (hdg : decode cc pc = .ok (.putfield index, 3))
    {E' : ι → va_E} (he' : E' i = .inr (ci, fs.set k v)) (ho : ∀ j, j ≠ i → E' j = E j)
    (kk : ∀ (H1 : Heap) (locs1 : List Loc), va_P G.1 vwCl (fW L a E') H1 → va_S (fA L a) H0 H1 locs1 → W p l e R s m args below meth c H1 locs1 cells slots Q (F0 m (pc + 3) ls rest)) : W p l e R s m args below meth c H locs cells slots Q (F0 m pc ls (v :: .ref (a i) :: rest)) := by
  obtain ⟨hx, hb, hml, hown, hts⟩ := S
  obtain ⟨q0, h1, h2⟩ := fW_get (a := a) (E := E) hi
  rw [he] at h2
  refine va_put hx hb hts hin ty0 hty hnm hown hK hP (fD hI) hS q0 h2 hc k hk (hts _ hlink) (fun _ h => h) hfin hd hn hfit hl hdg (fun H1 locs1 hP1 hD1 hS1 => ?_)
  rw [fW_set hI.1 h1 he' ho] at hP1
  exact kk H1 locs1 hP1 hS1
/-- iaload, caload, aaload, arraylength, iastore, castore -/
theorem r_iald (S : CallFix p m c cc nL s args BIG own) (hK : Kp G s) (hP : va_P G.1 vwCl (fW L a E) H) (hi : i ∈ L) {n : Nat} {f : Nat → Int32} (he : E i = .inl (G.2.1, n, .inl f)) {x : Int32} (hin : vp_in x n) (hdg : decode cc pc = .ok (.iaload, 1))
    (kk : W p l e R s m args below meth c H locs cells slots Q (F0 m (pc + 1) ls (.int (f x.toNatClampNeg) :: rest))) : W p l e R s m args below meth c H locs cells slots Q (F0 m pc ls (.int x :: .ref (a i) :: rest)) := by
  obtain ⟨hx, hb, hml, hown, hts⟩ := S
  obtain ⟨q0, -, h2⟩ := fW_get (a := a) (E := E) hi
  rw [he] at h2
  exact va_iald hx hb hK hP q0 0 h2 rfl hin hdg kk
theorem r_cald (S : CallFix p m c cc nL s args BIG own) (hK : Kp G s) (hP : va_P G.1 vwCl (fW L a E) H) (hi : i ∈ L) {n : Nat} {f : Nat → Int32} (he : E i = .inl (G.2.2.1, n, .inl f)) {x : Int32} (hin : vp_in x n) (hdg : decode cc pc = .ok (.caload, 1))
    (kk : W p l e R s m args below meth c H locs cells slots Q (F0 m (pc + 1) ls (.int (f x.toNatClampNeg) :: rest))) : W p l e R s m args below meth c H locs cells slots Q (F0 m pc ls (.int x :: .ref (a i) :: rest)) := by
  obtain ⟨hx, hb, hml, hown, hts⟩ := S
  obtain ⟨q0, -, h2⟩ := fW_get (a := a) (E := E) hi
  rw [he] at h2
  exact va_cald hx hb hK hP q0 1 h2 rfl hin hdg kk
theorem r_bald (S : CallFix p m c cc nL s args BIG own) (hK : Kp G s) (hP : va_P G.1 vwCl (fW L a E) H) (hi : i ∈ L) {n : Nat} {f : Nat → Option Nat} (he : E i = .inl (G.2.2.2.1, n, .inr (.inr (.inr (.inr f))))) {x : Int32} (hin : vp_in x n) (hdg : decode cc pc = .ok (.aaload, 1))
    (kk : W p l e R s m args below meth c H locs cells slots Q (F0 m (pc + 1) ls (va_rf (f x.toNatClampNeg) :: rest))) : W p l e R s m args below meth c H locs cells slots Q (F0 m pc ls (.int x :: .ref (a i) :: rest)) := by
  obtain ⟨hx, hb, hml, hown, hts⟩ := S
  obtain ⟨q0, -, h2⟩ := fW_get (a := a) (E := E) hi
  rw [he] at h2
  exact va_aldq hx hb hK hP q0 2 h2 rfl hin hdg kk
theorem r_kald (S : CallFix p m c cc nL s args BIG own) (hK : Kp G s) (hP : va_P G.1 vwCl (fW L a E) H) (hi : i ∈ L) {n : Nat} {f : Nat → Option Nat} (he : E i = .inl (G.2.2.2.2, n, .inr (.inr (.inr (.inr f))))) {x : Int32} (hin : vp_in x n) (hdg : decode cc pc = .ok (.aaload, 1))
    (kk : W p l e R s m args below meth c H locs cells slots Q (F0 m (pc + 1) ls (va_rf (f x.toNatClampNeg) :: rest))) : W p l e R s m args below meth c H locs cells slots Q (F0 m pc ls (.int x :: .ref (a i) :: rest)) := by
  obtain ⟨hx, hb, hml, hown, hts⟩ := S
  obtain ⟨q0, -, h2⟩ := fW_get (a := a) (E := E) hi
  rw [he] at h2
  exact va_aldq hx hb hK hP q0 3 h2 rfl hin hdg kk
theorem r_alen (S : CallFix p m c cc nL s args BIG own) (hK : Kp G s) (hP : va_P G.1 vwCl (fW L a E) H) (hi : i ∈ L) {cA : ClassId} {x : vp_A} (he : E i = .inl (cA, x)) (t0 : Nat) {ty : FieldType} (ht : (kT G.2.1 G.2.2.1 G.2.2.2.1 G.2.2.2.2)[t0]? = some (cA, ty)) {v : Int32} (hv : Int32.ofNat x.1 = v) (hdg : decode cc pc = .ok (.arraylength, 1))
    (kk : W p l e R s m args below meth c H locs cells slots Q (F0 m (pc + 1) ls (.int v :: rest))) : W p l e R s m args below meth c H locs cells slots Q (F0 m pc ls (.ref (a i) :: rest)) := by
  obtain ⟨hx, hb, hml, hown, hts⟩ := S
  obtain ⟨q0, -, h2⟩ := fW_get (a := a) (E := E) hi
  rw [he] at h2
  exact va_alen hx hb hK hP q0 t0 h2 ht hv hdg kk
theorem r_iast (S : CallFix p m c cc nL s args BIG own) (hK : Kp G s) (hP : va_P G.1 vwCl (fW L a E) H) (hI : fI L a) (hS : va_S (fA L a) H0 H locs) (hi : i ∈ L) {n : Nat} {f : Nat → Int32} (he : E i = .inl (G.2.1, n, .inl f)) {x v : Int32} (hin : vp_in x n) (hdg : decode cc pc = .ok (.iastore, 1))
    {E' : ι → va_E} (he' : E' i = .inl (G.2.1, n, .inl (upd f x.toNatClampNeg v))) (ho : ∀ j, j ≠ i → E' j = E j)
    (kk : ∀ (H1 : Heap) (locs1 : List Loc), va_P G.1 vwCl (fW L a E') H1 → va_S (fA L a) H0 H1 locs1 → W p l e R s m args below meth c H1 locs1 cells slots Q (F0 m (pc + 1) ls rest)) : W p l e R s m args below meth c H locs cells slots Q (F0 m pc ls (.int v :: .int x :: .ref (a i) :: rest)) := by
  obtain ⟨hx, hb, hml, hown, hts⟩ := S
  obtain ⟨q0, h1, h2⟩ := fW_get (a := a) (E := E) hi
  rw [he] at h2
  refine va_iast hx hb hK hP (fD hI) hS q0 0 h2 rfl hin hdg (fun H1 locs1 hP1 hD1 hS1 => ?_)
  rw [fW_set hI.1 h1 he' ho] at hP1
  exact kk H1 locs1 hP1 hS1
theorem r_cast (S : CallFix p m c cc nL s args BIG own) (hK : Kp G s) (hP : va_P G.1 vwCl (fW L a E) H) (hI : fI L a) (hS : va_S (fA L a) H0 H locs) (hi : i ∈ L) {n : Nat} {f : Nat → Int32} (he : E i = .inl (G.2.2.1, n, .inl f)) {x v : Int32} (hin : vp_in x n) (hdg : decode cc pc = .ok (.castore, 1))
    {E' : ι → va_E} (he' : E' i = .inl (G.2.2.1, n, .inl (upd f x.toNatClampNeg (vp_nar .char v)))) (ho : ∀ j, j ≠ i → E' j = E j)
    (kk : ∀ (H1 : Heap) (locs1 : List Loc), va_P G.1 vwCl (fW L a E') H1 → va_S (fA L a) H0 H1 locs1 → W p l e R s m args below meth c H1 locs1 cells slots Q (F0 m (pc + 1) ls rest)) : W p l e R s m args below meth c H locs cells slots Q (F0 m pc ls (.int v :: .int x :: .ref (a i) :: rest)) := by
  obtain ⟨hx, hb, hml, hown, hts⟩ := S
  obtain ⟨q0, h1, h2⟩ := fW_get (a := a) (E := E) hi
  rw [he] at h2
  refine va_cast hx hb hK hP (fD hI) hS q0 1 h2 rfl hin hdg (fun H1 locs1 hP1 hD1 hS1 => ?_)
  rw [fW_set hI.1 h1 he' ho] at hP1
  exact kk H1 locs1 hP1 hS1
/-- calls: an instance method with an int answer, none, or a reference -/
theorem r_cw {y : MethodName} {bytes : ByteArray} {n maxL : Nat} {ret : Option FieldType} {rm : Room} {idx : Nat} (S : CallFix p m c cc nL s args BIG own) (hcode : Cond.code y bytes maxL ret ∈ BIG) (hl : Cond.methodLink own idx y ∈ BIG) (hi : Cond.instanceMethod y ∈ BIG) (hs : Cond.selects y.cls y y ∈ BIG) (hini : Cond.initialized y.cls ∈ BIG)
    (hd : y.cls ≠ "java/lang/invoke/MethodHandle" ∧ y.cls ≠ "java/lang/invoke/VarHandle" ∧ (parseMethodDescriptor y.desc).map (fun d => d.parameters.length) = some n) (hR : rm.frames + 1 ≤ R.frames ∧ 8 + (maxL + 11) + rm.locals ≤ R.locals) (hrc : rm.cells = 0) (hrs : rm.slots = 0) :
    CallW R s args own y.cls idx y bytes maxL ret (Cond.code y bytes maxL ret :: BIG) rm 0 0 n :=
  ⟨callB_of n S.2.2.2.2 (big_cons hcode) rfl hrc hrs (S.2.2.2.2 _ hini) (S.2.2.2.2 _ hl) hd hR, S.2.2.2.2 _ hi, S.2.2.2.2 _ hs⟩
theorem r_cs {y : MethodName} {bytes : ByteArray} {n maxL : Nat} {ret : Option FieldType} {rm : Room} {idx : Nat} (S : CallFix p m c cc nL s args BIG own) (hcode : Cond.code y bytes maxL ret ∈ BIG) (hl : Cond.methodLink own idx y ∈ BIG) (hi : Cond.static y ∈ BIG) (hini : Cond.initialized y.cls ∈ BIG)
    (hd : y.cls ≠ "java/lang/invoke/MethodHandle" ∧ y.cls ≠ "java/lang/invoke/VarHandle" ∧ (parseMethodDescriptor y.desc).map (fun d => d.parameters.length) = some n) (hR : rm.frames + 1 ≤ R.frames ∧ 8 + (maxL + 11) + rm.locals ≤ R.locals) (hrc : rm.cells = 0) (hrs : rm.slots = 0) :
    CallB R s args own idx y bytes maxL ret (Cond.code y bytes maxL ret :: BIG) rm 0 0 n ∧ (Cond.static y).before args s = true :=
  ⟨callB_of n S.2.2.2.2 (big_cons hcode) rfl hrc hrs (S.2.2.2.2 _ hini) (S.2.2.2.2 _ hl) hd hR, S.2.2.2.2 _ hi⟩
theorem fP_recv (hK : Kp G s) (hP : va_P G.1 vwCl (fW L a E) H) (hi : i ∈ L) {ci N : Nat} {C : String} {T : u_T} {fs : List Value} (he : E i = .inr (ci, fs)) (hc : vwCl[ci]? = some (C, T, N)) : ∃ cell : Cell, H[a i]? = some cell ∧ cell.vm.isStatics = false ∧ s.vm.findClass C = some cell.cls := by
  obtain ⟨q0, -, h2⟩ := fW_get (a := a) (E := E) hi
  rw [he] at h2
  exact va_recv hK hP hc h2
variable {y : MethodName} {bytes : ByteArray} {n maxL idx : Nat} {ret : Option FieldType} {ws : List Cond} {rm : Room} {P P' : Heap → Prop} {A0 A1 : Nat → Prop} {b : Nat} {As : List Value} {st : List Value}
theorem r_callI {v : Int32} (S : CallFix p m c cc nL s args BIG own) (hK : Kp G s) (hP : P H) (hM : Met l y ws rm (pcG G P (.ref b :: As)) (qcI G A1 P' v) 0 0 A1) (cw : CallW R s args own y.cls idx y bytes maxL ret ws rm 0 0 n) (hr : ∃ cell : Cell, H[b]? = some cell ∧ cell.vm.isStatics = false ∧ s.vm.findClass y.cls = some cell.cls)
    (hn : As.length = n) (hl : ls.size = nL) (hst : st = As.reverse ++ .ref b :: rest) (hW : (rest.map fun v => v.category).sum ≤ 8) (hdg : decode cc pc = .ok (.invokevirtual idx, 3)) (hc : cells ≤ R.cells ∧ slots ≤ R.slots) (hS : va_S A0 H0 H locs) (hA : ∀ q, A1 q → A0 q)
    (kk : ∀ (H1 : Heap) (locs1 : List Loc), P' H1 → (∀ q : Nat, q < H.size → ¬ A1 q → H1[q]? = H[q]?) → H.size ≤ H1.size → va_S A0 H0 H1 locs1 → W p l e R s m args below meth c H1 locs1 cells slots Q (F0 m (pc + 3) ls (.int v :: rest))) : W p l e R s m args below meth c H locs cells slots Q (F0 m pc ls st) := by
  subst hst
  refine va_calli (mc := 0) (ms := 0) (va_runV (As := As) (rest := rest) S hM cw ⟨pcG_blind, hr, fun U hU hW => ⟨rfl, by rw [hU]; exact hP, hK.moved hW.alike⟩⟩ rfl hn hl rfl (lv_room hW) hdg hc) hS (fun q _ h => hA q h) hA (fun r u t H1 locs1 ht hvm hw hB hz hk hS1 => ?_)
  cases hw
  exact kk H1 locs1 (ht ▸ hB.1) hk hz hS1
theorem r_callV (S : CallFix p m c cc nL s args BIG own) (hK : Kp G s) (hP : P H) (hM : Met l y ws rm (pcG G P (.ref b :: As)) (qcV G A1 P') 0 0 A1) (cw : CallW R s args own y.cls idx y bytes maxL ret ws rm 0 0 n) (hr : ∃ cell : Cell, H[b]? = some cell ∧ cell.vm.isStatics = false ∧ s.vm.findClass y.cls = some cell.cls)
    (hn : As.length = n) (hl : ls.size = nL) (hst : st = As.reverse ++ .ref b :: rest) (hW : (rest.map fun v => v.category).sum ≤ 8) (hdg : decode cc pc = .ok (.invokevirtual idx, 3)) (hc : cells ≤ R.cells ∧ slots ≤ R.slots) (hS : va_S A0 H0 H locs) (hA : ∀ q, A1 q → A0 q)
    (kk : ∀ (H1 : Heap) (locs1 : List Loc), P' H1 → (∀ q : Nat, q < H.size → ¬ A1 q → H1[q]? = H[q]?) → H.size ≤ H1.size → va_S A0 H0 H1 locs1 → W p l e R s m args below meth c H1 locs1 cells slots Q (F0 m (pc + 3) ls rest)) : W p l e R s m args below meth c H locs cells slots Q (F0 m pc ls st) := by
  subst hst
  refine va_callv (mc := 0) (ms := 0) (va_runV (As := As) (rest := rest) S hM cw ⟨pcG_blind, hr, fun U hU hW => ⟨rfl, by rw [hU]; exact hP, hK.moved hW.alike⟩⟩ rfl hn hl rfl (lv_room hW) hdg hc) hS (fun q _ h => hA q h) hA (fun u t H1 locs1 ht hvm hw hB hz hk hS1 => ?_)
  exact kk H1 locs1 (ht ▸ hB.1) hk hz hS1
theorem r_callQ {v : Option Nat} (S : CallFix p m c cc nL s args BIG own) (hK : Kp G s) (hP : P H) (hM : Met l y ws rm (pcG G P (.ref b :: As)) (qcQ G A1 P' v) 0 0 A1) (cw : CallW R s args own y.cls idx y bytes maxL ret ws rm 0 0 n) (hr : ∃ cell : Cell, H[b]? = some cell ∧ cell.vm.isStatics = false ∧ s.vm.findClass y.cls = some cell.cls)
    (hn : As.length = n) (hl : ls.size = nL) (hst : st = As.reverse ++ .ref b :: rest) (hW : (rest.map fun v => v.category).sum ≤ 8) (hdg : decode cc pc = .ok (.invokevirtual idx, 3)) (hc : cells ≤ R.cells ∧ slots ≤ R.slots) (hS : va_S A0 H0 H locs) (hA : ∀ q, A1 q → A0 q)
    (kk : ∀ (H1 : Heap) (locs1 : List Loc), P' H1 → (∀ q : Nat, q < H.size → ¬ A1 q → H1[q]? = H[q]?) → H.size ≤ H1.size → va_S A0 H0 H1 locs1 → W p l e R s m args below meth c H1 locs1 cells slots Q (F0 m (pc + 3) ls (va_rf v :: rest))) : W p l e R s m args below meth c H locs cells slots Q (F0 m pc ls st) := by
  subst hst
  refine va_callq (mc := 0) (ms := 0) (va_runV (As := As) (rest := rest) S hM cw ⟨pcG_blind, hr, fun U hU hW => ⟨rfl, by rw [hU]; exact hP, hK.moved hW.alike⟩⟩ rfl hn hl rfl (lv_room hW) hdg hc) hS (fun q _ h => hA q h) hA (fun r u t H1 locs1 ht hvm hw hB hz hk hS1 => ?_)
  cases hw
  exact kk H1 locs1 (ht ▸ hB.1) hk hz hS1
theorem r_callS {v : Int32} (S : CallFix p m c cc nL s args BIG own) (hK : Kp G s) (hP : P H) (hM : Met l y ws rm (pcG G P As) (qcI G A1 P' v) 0 0 A1) (cw : CallB R s args own idx y bytes maxL ret ws rm 0 0 n ∧ (Cond.static y).before args s = true)
    (hn : As.length = n) (hl : ls.size = nL) (hst : st = As.reverse ++ rest) (hW : (rest.map fun v => v.category).sum ≤ 8) (hdg : decode cc pc = .ok (.invokestatic idx, 3)) (hc : cells ≤ R.cells ∧ slots ≤ R.slots) (hS : va_S A0 H0 H locs) (hA : ∀ q, A1 q → A0 q)
    (kk : ∀ (H1 : Heap) (locs1 : List Loc), P' H1 → (∀ q : Nat, q < H.size → ¬ A1 q → H1[q]? = H[q]?) → H.size ≤ H1.size → va_S A0 H0 H1 locs1 → W p l e R s m args below meth c H1 locs1 cells slots Q (F0 m (pc + 3) ls (.int v :: rest))) : W p l e R s m args below meth c H locs cells slots Q (F0 m pc ls st) := by
  subst hst
  refine va_calli (mc := 0) (ms := 0) (va_runS (As := As) (rest := rest) S hM cw ⟨pcG_blind, fun U hU hW => ⟨rfl, by rw [hU]; exact hP, hK.moved hW.alike⟩⟩ rfl hn hl rfl (lv_room hW) hdg hc) hS (fun q _ h => hA q h) hA (fun r u t H1 locs1 ht hvm hw hB hz hk hS1 => ?_)
  cases hw
  exact kk H1 locs1 (ht ▸ hB.1) hk hz hS1
/-- ends -/
theorem e_int {v v' : Int32} {ty : FieldType} (S : CallFix p m c cc nL s args BIG own) (hr : meth.sig.returnType = some ty) (hk : meth.locks = false) (hty : narrow ty (.int v) = .int v) (hK : Kp G s) (hS : va_S A s.heap H locs) (hP : P' H) (hv : v = v') (hdg : decode cc pc = .ok (.ireturn, 1)) : W p l e R s m args below meth c H locs cells slots (MQ below (qcI G A P' v') args s cells slots A) (F0 m pc ls [.int v]) :=
  W.zret S.1 S.2.1 hr hty (fun t ht hW => ⟨⟨v, (), rfl, hv, by rw [ht]; exact hP, hK.moved hW.alike⟩, hS.F ht⟩) hS.2.2 hdg hk
theorem e_void (S : CallFix p m c cc nL s args BIG own) (hr : meth.sig.returnType = none) (hk : meth.locks = false) (hK : Kp G s) (hS : va_S A s.heap H locs) (hP : P' H) (hdg : decode cc pc = .ok (.return_, 1)) : W p l e R s m args below meth c H locs cells slots (MQ below (qcV G A P') args s cells slots A) (F0 m pc ls []) :=
  W.vret S.1 S.2.1 hr (fun t ht hW => ⟨⟨(), rfl, trivial, by rw [ht]; exact hP, hK.moved hW.alike⟩, hS.F ht⟩) hS.2.2 hdg hk
theorem e_ref {v v' : Option Nat} {rt : FieldType} (S : CallFix p m c cc nL s args BIG own) (hr : meth.sig.returnType = some rt) (hrt : (∃ n, rt = .object n) ∨ ∃ t, rt = .array t) (hk : meth.locks = false) (hK : Kp G s) (hS : va_S A s.heap H locs) (hP : P' H) (hv : v = v') (hdg : decode cc pc = .ok (.areturn, 1)) : W p l e R s m args below meth c H locs cells slots (MQ below (qcQ G A P' v') args s cells slots A) (F0 m pc ls [va_rf v]) :=
  W.aret S.1 S.2.1 hr hrt (by cases v with | none => exact Or.inl rfl | some a => exact Or.inr ⟨a, rfl⟩) (fun t ht hW => ⟨⟨v, (), rfl, hv, by rw [ht]; exact hP, hK.moved hW.alike⟩, hS.F ht⟩) hS.2.2 hdg hk
end RW
/-! worlds of numbered cells: cell i holds C i (M i); M: the numbers -/
def up (M : Nat → Nat → Int32) (i k : Nat) (v : Int32) : Nat → Nat → Int32 := fun i' k' => if i' = i ∧ k' = k then v else M i' k'
theorem up_same {M : Nat → Nat → Int32} {i k : Nat} {v : Int32} : up M i k v i k = v := if_pos ⟨rfl, rfl⟩
theorem up_nk {M : Nat → Nat → Int32} {i k k' : Nat} {v : Int32} (h : k' ≠ k) : up M i k v i k' = M i k' := if_neg (fun z => h z.2)
theorem up_ni {M : Nat → Nat → Int32} {i k i' k' : Nat} {v : Int32} (h : i' ≠ i) : up M i k v i' k' = M i' k' := if_neg (fun z => h z.1)
theorem up_oi {M : Nat → Nat → Int32} {i k i' : Nat} {v : Int32} (h : i' ≠ i) : up M i k v i' = M i' := funext fun _ => up_ni h
theorem up_row {M : Nat → Nat → Int32} {i k : Nat} {v : Int32} : up M i k v i = upd (M i) k v := by
  funext k'
  by_cases h : k' = k
  · subst h; simp [up, upd]
  · simp [up, upd, h]
abbrev cF : Type := Nat → (Nat → Int32) → va_E
abbrev gP (G : kG) (n : Nat) (a : Nat → Nat) (C : cF) (M : Nat → Nat → Int32) (H : Heap) : Prop := va_P G.1 vwCl (fW (List.range n) a (fun i => C i (M i))) H
abbrev gI (n : Nat) (a : Nat → Nat) : Prop := fI (List.range n) a
abbrev gA (n : Nat) (a : Nat → Nat) : Nat → Prop := fA (List.range n) a
theorem gP_eq {G : kG} {n : Nat} {a : Nat → Nat} {C : cF} {M M' : Nat → Nat → Int32} {H : Heap} (h : M' = M) (hP : gP G n a C M H) : gP G n a C M' H := h ▸ hP
theorem rng_get {n k : Nat} {f : Nat → Value} (hk : k < n) : ((List.range n).map f)[k]? = some (f k) := by simp [hk]
theorem rng_set {n k : Nat} {f f' : Nat → Value} {v : Value} (hk : k < n) (h1 : f' k = v) (h2 : ∀ q, q ≠ k → f' q = f q) : ((List.range n).map f).set k v = (List.range n).map f' := by
  apply List.ext_getElem?
  intro q
  by_cases hq : q = k
  · subst hq
    rw [List.getElem?_set_self (by simpa using hk)]
    simp [hk, h1]
  · rw [List.getElem?_set_ne (Ne.symm hq)]
    by_cases hn : q < n
    · simp [hn, h2 q hq]
    · simp [hn]
section GW
variable {p : Program} {l : Launch} {e : Env} {R : Room} {s : State} {m : MethodId} {args : Array Value} {below : List Frame} {meth : Method} {c : Code} {H : Heap} {locs : List Loc} {cells slots : Nat} {Q : State → Prop}
variable {cc : ByteArray} {pc nL : Nat} {own : String} {ls : Array Slot} {rest : List Value} {G : kG} {A : Nat → Prop} {H0 : Heap}
variable {nC : Nat} {a : Nat → Nat} {C : cF} {M : Nat → Nat → Int32} {i : Nat}
theorem r_top {x v : Int32} (h : x = v) (kk : W p l e R s m args below meth c H locs cells slots Q (F0 m pc ls (.int v :: rest))) : W p l e R s m args below meth c H locs cells slots Q (F0 m pc ls (.int x :: rest)) := h ▸ kk
theorem g_get (S : CallFix p m c cc nL s args BIG own) (hK : Kp G s) (hP : gP G nC a C M H) (hi : i < nC) {ci N : Nat} {Cn : String} {T : u_T} {F : (Nat → Int32) → Nat → Value} (he : ∀ x, C i x = .inr (ci, (List.range N).map (F x))) (hc : vwCl[ci]? = some (Cn, T, N)) (hin : ∀ w ∈ u_ws Cn T N, w ∈ BIG) (k : Nat) (hk : k < N) {index : Nat} (hlink : Cond.fieldLink own index (T k).1 (T k).2.1 (T k).2.2.1 ∈ BIG) {v : Value} (hv : F (M i) k = v) (hdg : decode cc pc = .ok (.getfield index, 3))
    (kk : W p l e R s m args below meth c H locs cells slots Q (F0 m (pc + 3) ls (v :: rest))) : W p l e R s m args below meth c H locs cells slots Q (F0 m pc ls (.ref (a i) :: rest)) :=
  r_get S hK hP (List.mem_range.mpr hi) (he (M i)) hc hin k hk hlink (by rw [rng_get hk, hv]) hdg kk
theorem g_put (S : CallFix p m c cc nL s args BIG own) (hK : Kp G s) (hP : gP G nC a C M H) (hI : gI nC a) (hS : va_S (gA nC a) H0 H locs) (hi : i < nC) {ci N : Nat} {Cn : String} {T : u_T} {F : (Nat → Int32) → Nat → Value} (he : ∀ x, C i x = .inr (ci, (List.range N).map (F x))) (hc : vwCl[ci]? = some (Cn, T, N)) (hin : ∀ w ∈ u_ws Cn T N, w ∈ BIG) (ty0 : Nat → FieldType) (hty : ∀ k, k < N → parseFieldDescriptor (T k).2.2.1 = some (ty0 k)) (hnm : ∀ a, a < N → ∀ b, b < N → a ≠ b → (T a).2.1 ≠ (T b).2.1) (hFn : ∀ x x' q, x q = x' q → F x q = F x' q) (k : Nat) (hk : k < N) {index : Nat} (hlink : Cond.fieldLink own index (T k).1 (T k).2.1 (T k).2.2.1 ∈ BIG) (hfin : (T k).2.2.2 = false) {ty : FieldType} {v : Int32} (hd : parseFieldDescriptor (T k).2.2.1 = some ty) (hn : narrow ty (.int v) = .int v) (hfit : fits ty (.int v) = true) (hv : ∀ x, F x k = .int (x k)) (hdg : decode cc pc = .ok (.putfield index, 3))
    (kk : ∀ (H1 : Heap) (locs1 : List Loc), gP G nC a C (up M i k v) H1 → va_S (gA nC a) H0 H1 locs1 → W p l e R s m args below meth c H1 locs1 cells slots Q (F0 m (pc + 3) ls rest)) : W p l e R s m args below meth c H locs cells slots Q (F0 m pc ls (.int v :: .ref (a i) :: rest)) := by
  refine r_put S hK hP hI hS (List.mem_range.mpr hi) (he (M i)) hc hin ty0 hty hnm k hk hlink hfin hd hn hfit (by simpa using hk) hdg (E' := fun j => C j (up M i k v j)) ?_ ?_ kk
  · show C i (up M i k v i) = _
    rw [he, rng_set hk (f' := F (up M i k v i)) (by rw [hv, up_same]) (fun q hq => hFn _ _ q (up_nk hq))]
  · intro j hj
    show C j (up M i k v j) = C j (M j)
    rw [up_oi hj]
theorem g_ald (S : CallFix p m c cc nL s args BIG own) (hK : Kp G s) (hP : gP G nC a C M H) (hi : i < nC) {N : Nat} (he : ∀ x, C i x = .inl (G.2.1, N, .inl x)) {x : Int32} (hin : vp_in x N) (hdg : decode cc pc = .ok (.iaload, 1))
    (kk : W p l e R s m args below meth c H locs cells slots Q (F0 m (pc + 1) ls (.int (M i x.toNatClampNeg) :: rest))) : W p l e R s m args below meth c H locs cells slots Q (F0 m pc ls (.int x :: .ref (a i) :: rest)) :=
  r_iald S hK hP (List.mem_range.mpr hi) (he (M i)) hin hdg kk
theorem g_aldN (S : CallFix p m c cc nL s args BIG own) (hK : Kp G s) (hP : gP G nC a C M H) (hi : i < nC) {N : Nat} (he : ∀ x, C i x = .inl (G.2.1, N, .inl x)) {k : Nat} (hk : k < N) (hN : N < 2 ^ 31) (hdg : decode cc pc = .ok (.iaload, 1))
    (kk : W p l e R s m args below meth c H locs cells slots Q (F0 m (pc + 1) ls (.int (M i k) :: rest))) : W p l e R s m args below meth c H locs cells slots Q (F0 m pc ls (.int (nI k) :: .ref (a i) :: rest)) := by
  refine g_ald S hK hP hi he (vp_in_nI hk hN) hdg ?_
  rw [nI_clamp (Nat.lt_trans hk hN)]
  exact kk
theorem g_cald (S : CallFix p m c cc nL s args BIG own) (hK : Kp G s) (hP : gP G nC a C M H) (hi : i < nC) {N : Nat} (he : ∀ x, C i x = .inl (G.2.2.1, N, .inl x)) {x : Int32} (hin : vp_in x N) (hdg : decode cc pc = .ok (.caload, 1))
    (kk : W p l e R s m args below meth c H locs cells slots Q (F0 m (pc + 1) ls (.int (M i x.toNatClampNeg) :: rest))) : W p l e R s m args below meth c H locs cells slots Q (F0 m pc ls (.int x :: .ref (a i) :: rest)) :=
  r_cald S hK hP (List.mem_range.mpr hi) (he (M i)) hin hdg kk
theorem g_caldN (S : CallFix p m c cc nL s args BIG own) (hK : Kp G s) (hP : gP G nC a C M H) (hi : i < nC) {N : Nat} (he : ∀ x, C i x = .inl (G.2.2.1, N, .inl x)) {k : Nat} (hk : k < N) (hN : N < 2 ^ 31) (hdg : decode cc pc = .ok (.caload, 1))
    (kk : W p l e R s m args below meth c H locs cells slots Q (F0 m (pc + 1) ls (.int (M i k) :: rest))) : W p l e R s m args below meth c H locs cells slots Q (F0 m pc ls (.int (nI k) :: .ref (a i) :: rest)) := by
  refine g_cald S hK hP hi he (vp_in_nI hk hN) hdg ?_
  rw [nI_clamp (Nat.lt_trans hk hN)]
  exact kk
theorem g_ast (S : CallFix p m c cc nL s args BIG own) (hK : Kp G s) (hP : gP G nC a C M H) (hI : gI nC a) (hS : va_S (gA nC a) H0 H locs) (hi : i < nC) {N : Nat} (he : ∀ x, C i x = .inl (G.2.1, N, .inl x)) {x v : Int32} (hin : vp_in x N) (hdg : decode cc pc = .ok (.iastore, 1))
    (kk : ∀ (H1 : Heap) (locs1 : List Loc), gP G nC a C (up M i x.toNatClampNeg v) H1 → va_S (gA nC a) H0 H1 locs1 → W p l e R s m args below meth c H1 locs1 cells slots Q (F0 m (pc + 1) ls rest)) : W p l e R s m args below meth c H locs cells slots Q (F0 m pc ls (.int v :: .int x :: .ref (a i) :: rest)) := by
  refine r_iast S hK hP hI hS (List.mem_range.mpr hi) (he (M i)) hin hdg (E' := fun j => C j (up M i x.toNatClampNeg v j)) ?_ ?_ kk
  · show C i (up M i x.toNatClampNeg v i) = _
    rw [he, up_row]
  · intro j hj
    show C j (up M i x.toNatClampNeg v j) = C j (M j)
    rw [up_oi hj]
theorem g_astN (S : CallFix p m c cc nL s args BIG own) (hK : Kp G s) (hP : gP G nC a C M H) (hI : gI nC a) (hS : va_S (gA nC a) H0 H locs) (hi : i < nC) {N : Nat} (he : ∀ x, C i x = .inl (G.2.1, N, .inl x)) {k : Nat} {v : Int32} (hk : k < N) (hN : N < 2 ^ 31) (hdg : decode cc pc = .ok (.iastore, 1))
    (kk : ∀ (H1 : Heap) (locs1 : List Loc), gP G nC a C (up M i k v) H1 → va_S (gA nC a) H0 H1 locs1 → W p l e R s m args below meth c H1 locs1 cells slots Q (F0 m (pc + 1) ls rest)) : W p l e R s m args below meth c H locs cells slots Q (F0 m pc ls (.int v :: .int (nI k) :: .ref (a i) :: rest)) := by
  refine g_ast S hK hP hI hS hi he (vp_in_nI hk hN) hdg ?_
  rw [nI_clamp (Nat.lt_trans hk hN)]
  exact kk
theorem g_castN (S : CallFix p m c cc nL s args BIG own) (hK : Kp G s) (hP : gP G nC a C M H) (hI : gI nC a) (hS : va_S (gA nC a) H0 H locs) (hi : i < nC) {N : Nat} (he : ∀ x, C i x = .inl (G.2.2.1, N, .inl x)) {x v : Int32} (hin : vp_in x N) (hv : vp_nar .char v = v) (hdg : decode cc pc = .ok (.castore, 1))
    (kk : ∀ (H1 : Heap) (locs1 : List Loc), gP G nC a C (up M i x.toNatClampNeg v) H1 → va_S (gA nC a) H0 H1 locs1 → W p l e R s m args below meth c H1 locs1 cells slots Q (F0 m (pc + 1) ls rest)) : W p l e R s m args below meth c H locs cells slots Q (F0 m pc ls (.int v :: .int x :: .ref (a i) :: rest)) := by
  refine r_cast S hK hP hI hS (List.mem_range.mpr hi) (he (M i)) hin hdg (E' := fun j => C j (up M i x.toNatClampNeg v j)) ?_ ?_ kk
  · show C i (up M i x.toNatClampNeg v i) = _
    rw [he, up_row, hv]
  · intro j hj
    show C j (up M i x.toNatClampNeg v j) = C j (M j)
    rw [up_oi hj]
theorem g_alen (S : CallFix p m c cc nL s args BIG own) (hK : Kp G s) (hP : gP G nC a C M H) (hi : i < nC) {cA : ClassId} {x : vp_A} (he : C i (M i) = .inl (cA, x)) (t0 : Nat) {ty : FieldType} (ht : (kT G.2.1 G.2.2.1 G.2.2.2.1 G.2.2.2.2)[t0]? = some (cA, ty)) {v : Int32} (hv : Int32.ofNat x.1 = v) (hdg : decode cc pc = .ok (.arraylength, 1))
    (kk : W p l e R s m args below meth c H locs cells slots Q (F0 m (pc + 1) ls (.int v :: rest))) : W p l e R s m args below meth c H locs cells slots Q (F0 m pc ls (.ref (a i) :: rest)) :=
  r_alen S hK hP (List.mem_range.mpr hi) he t0 ht hv hdg kk
theorem g_bald (S : CallFix p m c cc nL s args BIG own) (hK : Kp G s) (hP : gP G nC a C M H) (hi : i < nC) {N : Nat} {f : Nat → Option Nat} (he : ∀ x, C i x = .inl (G.2.2.2.1, N, .inr (.inr (.inr (.inr f))))) {k : Nat} (hk : k < N) (hN : N < 2 ^ 31) {v : Value} (hv : va_rf (f k) = v) (hdg : decode cc pc = .ok (.aaload, 1))
    (kk : W p l e R s m args below meth c H locs cells slots Q (F0 m (pc + 1) ls (v :: rest))) : W p l e R s m args below meth c H locs cells slots Q (F0 m pc ls (.int (nI k) :: .ref (a i) :: rest)) := by
  refine r_bald S hK hP (List.mem_range.mpr hi) (he (M i)) (vp_in_nI hk hN) hdg ?_
  rw [nI_clamp (Nat.lt_trans hk hN), hv]
  exact kk
theorem g_recv (hK : Kp G s) (hP : gP G nC a C M H) (hi : i < nC) {ci N : Nat} {Cn : String} {T : u_T} {fs : (Nat → Int32) → List Value} (he : ∀ x, C i x = .inr (ci, fs x)) (hc : vwCl[ci]? = some (Cn, T, N)) : ∃ cell : Cell, H[a i]? = some cell ∧ cell.vm.isStatics = false ∧ s.vm.findClass Cn = some cell.cls :=
  fP_recv hK hP (List.mem_range.mpr hi) (he (M i)) hc
/-- another answer, another end, that are the same -/
theorem q_eqI {P' : Heap → Prop} {M M' : Nat → Nat → Int32} {v v' : Int32} {g : JFrame} {mc ms : Nat} {free : Addr → Prop} (hv : v' = v) (hM : M' = M) (kk : W p l e R s m args below meth c H locs cells slots (MQ below (qcI G A (gP G nC a C M) v) args s mc ms free) g) : W p l e R s m args below meth c H locs cells slots (MQ below (qcI G A (gP G nC a C M') v') args s mc ms free) g := by
  subst hv; subst hM; exact kk
theorem q_eqV {P' : Heap → Prop} {M M' : Nat → Nat → Int32} {g : JFrame} {mc ms : Nat} {free : Addr → Prop} (hM : M' = M) (kk : W p l e R s m args below meth c H locs cells slots (MQ below (qcV G A (gP G nC a C M)) args s mc ms free) g) : W p l e R s m args below meth c H locs cells slots (MQ below (qcV G A (gP G nC a C M')) args s mc ms free) g := by
  subst hM; exact kk
end GW
theorem gA_self {n : Nat} {a : Nat → Nat} : ∀ q, gA n a q → gA n a q := fun _ h => h
/-! the world of a book: 0 the object, 1 its row of bills, 2 credits, 3 taxPaid, 4 taxClosed, 5 settings, 6 their values, j + 7 bill j -/
def bF (a : Nat → Nat) (x : Nat → Int32) : Nat → Value := fun k => match k with
  | 0 => .ref (a 1)
  | 1 => .ref (a 2)
  | 2 => .ref (a 3)
  | 3 => .ref (a 4)
  | 4 => .ref (a 5)
  | q => .int (x q)
def iF (x : Nat → Int32) : Nat → Value := fun k => .int (x k)
def bC (G : kG) (a : Nat → Nat) : cF := fun i x => match i with
  | 0 => .inr (1, (List.range 8).map (bF a x))
  | 1 => .inl (G.2.2.2.1, 40, .inr (.inr (.inr (.inr (fun j => some (a (j + 7)))))))
  | 2 => .inl (G.2.1, 8, .inl x)
  | 3 => .inl (G.2.1, 100, .inl x)
  | 4 => .inl (G.2.1, 100, .inl x)
  | 5 => .inr (3, (List.range 1).map (fun _ => .ref (a 6)))
  | 6 => .inl (G.2.1, 5, .inl x)
  | _ => .inr (0, (List.range 14).map (iF x))
theorem bC0 {G : kG} {a : Nat → Nat} (x : Nat → Int32) : bC G a 0 x = .inr (1, (List.range 8).map (bF a x)) := rfl
theorem bC1 {G : kG} {a : Nat → Nat} (x : Nat → Int32) : bC G a 1 x = .inl (G.2.2.2.1, 40, .inr (.inr (.inr (.inr (fun j => some (a (j + 7))))))) := rfl
theorem bC2 {G : kG} {a : Nat → Nat} (x : Nat → Int32) : bC G a 2 x = .inl (G.2.1, 8, .inl x) := rfl
theorem bC3 {G : kG} {a : Nat → Nat} (x : Nat → Int32) : bC G a 3 x = .inl (G.2.1, 100, .inl x) := rfl
theorem bC4 {G : kG} {a : Nat → Nat} (x : Nat → Int32) : bC G a 4 x = .inl (G.2.1, 100, .inl x) := rfl
theorem bC5 {G : kG} {a : Nat → Nat} (x : Nat → Int32) : bC G a 5 x = .inr (3, (List.range 1).map ((fun _ _ => .ref (a 6) : (Nat → Int32) → Nat → Value) x)) := rfl
theorem bC6 {G : kG} {a : Nat → Nat} (x : Nat → Int32) : bC G a 6 x = .inl (G.2.1, 5, .inl x) := rfl
theorem bC7 {G : kG} {a : Nat → Nat} {j : Nat} (x : Nat → Int32) : bC G a (j + 7) x = .inr (0, (List.range 14).map (iF x)) := rfl
theorem bF_n {a : Nat → Nat} (x x' : Nat → Int32) (q : Nat) (h : x q = x' q) : bF a x q = bF a x' q := by
  unfold bF
  split <;> first | rfl | rw [h]
theorem iF_n (x x' : Nat → Int32) (q : Nat) (h : x q = x' q) : iF x q = iF x' q := by
  unfold iF
  rw [h]
abbrev bP (G : kG) (a : Nat → Nat) (b : Nat → Nat → Int32) (H : Heap) : Prop := gP G 47 a (bC G a) b H
/-! the world of a text: 0 the object, 1 its signs -/
def tF (a : Nat → Nat) (x : Nat → Int32) : Nat → Value := fun k => match k with
  | 0 => .ref (a 1)
  | q => .int (x q)
def tC (G : kG) (a : Nat → Nat) : cF := fun i x => match i with
  | 0 => .inr (4, (List.range 9).map (tF a x))
  | _ => .inl (G.2.2.1, 60, .inl x)
theorem tC0 {G : kG} {a : Nat → Nat} (x : Nat → Int32) : tC G a 0 x = .inr (4, (List.range 9).map (tF a x)) := rfl
theorem tC1 {G : kG} {a : Nat → Nat} (x : Nat → Int32) : tC G a 1 x = .inl (G.2.2.1, 60, .inl x) := rfl
theorem tF_n {a : Nat → Nat} (x x' : Nat → Int32) (q : Nat) (h : x q = x' q) : tF a x q = tF a x' q := by
  unfold tF
  split <;> first | rfl | rw [h]
abbrev tP (G : kG) (a : Nat → Nat) (t : Nat → Nat → Int32) (H : Heap) : Prop := gP G 2 a (tC G a) t H
/-! the world of the reference: 0 the object, 1 s, 2 aside, 3 ahead, 4 snapshot, 5 before, 6 text, 7 thing -/
def mF (a : Nat → Nat) (x : Nat → Int32) : Nat → Value := fun k => match k with
  | 0 => .ref (a 1)
  | 1 => .ref (a 2)
  | 2 => .ref (a 3)
  | 3 => .ref (a 4)
  | 5 => .ref (a 5)
  | 7 => .ref (a 6)
  | 13 => .ref (a 7)
  | q => .int (x q)
def mC (G : kG) (a : Nat → Nat) : cF := fun i x => match i with
  | 0 => .inr (6, (List.range 15).map (mF a x))
  | 1 => .inl (G.2.1, 713, .inl x)
  | 2 => .inl (G.2.1, 713, .inl x)
  | 3 => .inl (G.2.1, 713, .inl x)
  | 4 => .inl (G.2.1, 713, .inl x)
  | 5 => .inl (G.2.1, 2852, .inl x)
  | 6 => .inl (G.2.1, 60, .inl x)
  | _ => .inl (G.2.1, 5, .inl x)
theorem mC0 {G : kG} {a : Nat → Nat} (x : Nat → Int32) : mC G a 0 x = .inr (6, (List.range 15).map (mF a x)) := rfl
theorem mC1 {G : kG} {a : Nat → Nat} (x : Nat → Int32) : mC G a 1 x = .inl (G.2.1, 713, .inl x) := rfl
theorem mC2 {G : kG} {a : Nat → Nat} (x : Nat → Int32) : mC G a 2 x = .inl (G.2.1, 713, .inl x) := rfl
theorem mC3 {G : kG} {a : Nat → Nat} (x : Nat → Int32) : mC G a 3 x = .inl (G.2.1, 713, .inl x) := rfl
theorem mC4 {G : kG} {a : Nat → Nat} (x : Nat → Int32) : mC G a 4 x = .inl (G.2.1, 713, .inl x) := rfl
theorem mC5 {G : kG} {a : Nat → Nat} (x : Nat → Int32) : mC G a 5 x = .inl (G.2.1, 2852, .inl x) := rfl
theorem mC6 {G : kG} {a : Nat → Nat} (x : Nat → Int32) : mC G a 6 x = .inl (G.2.1, 60, .inl x) := rfl
theorem mC7 {G : kG} {a : Nat → Nat} (x : Nat → Int32) : mC G a 7 x = .inl (G.2.1, 5, .inl x) := rfl
theorem mF_n {a : Nat → Nat} (x x' : Nat → Int32) (q : Nat) (h : x q = x' q) : mF a x q = mF a x' q := by
  unfold mF
  split <;> first | rfl | rw [h]
abbrev mP (G : kG) (a : Nat → Nat) (m : Nat → Nat → Int32) (H : Heap) : Prop := gP G 8 a (mC G a) m H
end
