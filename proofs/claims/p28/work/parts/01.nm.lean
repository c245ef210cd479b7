/-! ===== BEGIN words of one list among another's, by their places ===== -/
theorem goodIn_r {big : List Cond} (ws : List Cond) (ps : List Nat) (hp : ws = ps.filterMap (fun i => big[i]?)) (h : ws.all goodWord = true) : GoodIn big ws := by
  intro w hw
  have h1 := List.all_eq_true.mp h w hw
  rw [hp] at hw
  obtain ⟨i, -, hi⟩ := List.mem_filterMap.mp hw
  have hm : w ∈ big := by first | exact List.mem_of_getElem? hi | exact List.getElem?_mem hi
  exact ⟨hm, good_of_word h1⟩
theorem goodIn_app {big a b : List Cond} (ha : GoodIn big a) (hb : GoodIn big b) : GoodIn big (a ++ b) := fun w h => (List.mem_append.mp h).elim (ha w) (hb w)
theorem goodIn_ca {big a b : List Cond} {c : Cond} (ha : GoodIn big (c :: a)) (hb : GoodIn big b) : GoodIn big (c :: (a ++ b)) := fun w h => (List.mem_cons.mp h).elim (fun e => ha w (List.mem_cons.mpr (Or.inl e))) (fun h => (List.mem_append.mp h).elim (fun h => ha w (List.mem_cons.mpr (Or.inr h))) (hb w))
theorem goodIn_sub {big ws : List Cond} (hm : ∀ w ∈ ws, w ∈ big) (h : ws.all goodWord = true) : GoodIn big ws := fun w hw => ⟨hm w hw, good_of_word (List.all_eq_true.mp h w hw)⟩
/-! ===== END ===== -/

/-! ===== BEGIN printed: names, fields, word lists, decode rows ===== -/
def RX0 : String := "InvoiceBook$Bill"
def TX0 : u_T := fun k => match k with
  | 0 => ("InvoiceBook$Bill", "state", "I", false)
  | 1 => ("InvoiceBook$Bill", "customer", "I", false)
  | 2 => ("InvoiceBook$Bill", "net", "I", false)
  | 3 => ("InvoiceBook$Bill", "rate", "I", false)
  | 4 => ("InvoiceBook$Bill", "tax", "I", false)
  | 5 => ("InvoiceBook$Bill", "sum", "I", false)
  | 6 => ("InvoiceBook$Bill", "day", "I", false)
  | 7 => ("InvoiceBook$Bill", "due", "I", false)
  | 8 => ("InvoiceBook$Bill", "paid", "I", false)
  | 9 => ("InvoiceBook$Bill", "discount", "I", false)
  | 10 => ("InvoiceBook$Bill", "fees", "I", false)
  | 11 => ("InvoiceBook$Bill", "reminders", "I", false)
  | 12 => ("InvoiceBook$Bill", "lastReminder", "I", false)
  | _ => ("InvoiceBook$Bill", "lastPayment", "I", false)
def tyX0 : Nat → FieldType := fun k => match k with
  | 0 => .int
  | 1 => .int
  | 2 => .int
  | 3 => .int
  | 4 => .int
  | 5 => .int
  | 6 => .int
  | 7 => .int
  | 8 => .int
  | 9 => .int
  | 10 => .int
  | 11 => .int
  | 12 => .int
  | _ => .int
abbrev wsX00 : List Cond := u_ws RX0 TX0 14
theorem nmX0 : ∀ a, a < 14 → ∀ b, b < 14 → a ≠ b → (TX0 a).2.1 ≠ (TX0 b).2.1 := by decide +kernel
theorem tyX0_ok : ∀ k, k < 14 → parseFieldDescriptor (TX0 k).2.2.1 = some (tyX0 k) := by decide +kernel
abbrev cX0_init : ByteArray := prog_2_method_1_code
def yX0_init : MethodName := ⟨RX0, "<init>", "()V"⟩
abbrev cX0_copyFrom : ByteArray := prog_2_method_2_code
def yX0_copyFrom : MethodName := ⟨RX0, "copyFrom", "(LInvoiceBook$Bill;)V"⟩
abbrev cX0_write : ByteArray := prog_2_method_3_code
def yX0_write : MethodName := ⟨RX0, "write", "(IIIII)V"⟩
abbrev cX0_is : ByteArray := prog_2_method_4_code
def yX0_is : MethodName := ⟨RX0, "is", "(II)Z"⟩
abbrev cX0_owed : ByteArray := prog_2_method_5_code
def yX0_owed : MethodName := ⟨RX0, "owed", "()I"⟩
abbrev cX0_dueDay : ByteArray := prog_2_method_6_code
def yX0_dueDay : MethodName := ⟨RX0, "dueDay", "()I"⟩
abbrev cX0_isOverdue : ByteArray := prog_2_method_7_code
def yX0_isOverdue : MethodName := ⟨RX0, "isOverdue", "(I)Z"⟩
abbrev cX0_whyNoReminder : ByteArray := prog_2_method_8_code
def yX0_whyNoReminder : MethodName := ⟨RX0, "whyNoReminder", "(II)I"⟩
abbrev cX0_awaitsReminder : ByteArray := prog_2_method_9_code
def yX0_awaitsReminder : MethodName := ⟨RX0, "awaitsReminder", "()Z"⟩
abbrev cX0_reminderDay : ByteArray := prog_2_method_10_code
def yX0_reminderDay : MethodName := ⟨RX0, "reminderDay", "(I)I"⟩
abbrev cX0_addReminder : ByteArray := prog_2_method_11_code
def yX0_addReminder : MethodName := ⟨RX0, "addReminder", "(II)V"⟩
abbrev cX0_canBeWrittenOff : ByteArray := prog_2_method_12_code
def yX0_canBeWrittenOff : MethodName := ⟨RX0, "canBeWrittenOff", "(II)Z"⟩
abbrev cX0_takeMoney : ByteArray := prog_2_method_13_code
def yX0_takeMoney : MethodName := ⟨RX0, "takeMoney", "(III)V"⟩
abbrev cX0_taxIn : ByteArray := prog_2_method_14_code
def yX0_taxIn : MethodName := ⟨RX0, "taxIn", "(I)I"⟩
def RX1 : String := "InvoiceBook$Book"
def TX1 : u_T := fun k => match k with
  | 0 => ("InvoiceBook$Book", "bills", "[LInvoiceBook$Bill;", true)
  | 1 => ("InvoiceBook$Book", "credits", "[I", true)
  | 2 => ("InvoiceBook$Book", "taxPaid", "[I", true)
  | 3 => ("InvoiceBook$Book", "taxClosed", "[I", true)
  | 4 => ("InvoiceBook$Book", "settings", "LInvoiceBook$Settings;", true)
  | 5 => ("InvoiceBook$Book", "day", "I", false)
  | 6 => ("InvoiceBook$Book", "closedYears", "I", false)
  | _ => ("InvoiceBook$Book", "paidBack", "I", false)
def tyX1 : Nat → FieldType := fun k => match k with
  | 0 => .array (.object "InvoiceBook$Bill")
  | 1 => .array .int
  | 2 => .array .int
  | 3 => .array .int
  | 4 => .object "InvoiceBook$Settings"
  | 5 => .int
  | 6 => .int
  | _ => .int
abbrev wsX10 : List Cond := u_ws RX1 TX1 8
theorem nmX1 : ∀ a, a < 8 → ∀ b, b < 8 → a ≠ b → (TX1 a).2.1 ≠ (TX1 b).2.1 := by decide +kernel
theorem tyX1_ok : ∀ k, k < 8 → parseFieldDescriptor (TX1 k).2.2.1 = some (tyX1 k) := by decide +kernel
abbrev cX1_init : ByteArray := prog_3_method_1_code
def yX1_init : MethodName := ⟨RX1, "<init>", "()V"⟩
abbrev cX1_copyFrom : ByteArray := prog_3_method_2_code
def yX1_copyFrom : MethodName := ⟨RX1, "copyFrom", "(LInvoiceBook$Book;)V"⟩
abbrev cX1_billAt : ByteArray := prog_3_method_3_code
def yX1_billAt : MethodName := ⟨RX1, "billAt", "(I)LInvoiceBook$Bill;"⟩
abbrev cX1_creditOf : ByteArray := prog_3_method_4_code
def yX1_creditOf : MethodName := ⟨RX1, "creditOf", "(I)I"⟩
abbrev cX1_setCredit : ByteArray := prog_3_method_5_code
def yX1_setCredit : MethodName := ⟨RX1, "setCredit", "(II)V"⟩
abbrev cX1_writeBill : ByteArray := prog_3_method_6_code
def yX1_writeBill : MethodName := ⟨RX1, "writeBill", "(IIII)I"⟩
abbrev cX1_takePayment : ByteArray := prog_3_method_7_code
def yX1_takePayment : MethodName := ⟨RX1, "takePayment", "(II)I"⟩
abbrev cX1_takePaymentFor : ByteArray := prog_3_method_8_code
def yX1_takePaymentFor : MethodName := ⟨RX1, "takePaymentFor", "(II)I"⟩
abbrev cX1_payOn : ByteArray := prog_3_method_10_code
def yX1_payOn : MethodName := ⟨RX1, "payOn", "(LInvoiceBook$Bill;I)I"⟩
abbrev cX1_discountOn : ByteArray := prog_3_method_11_code
def yX1_discountOn : MethodName := ⟨RX1, "discountOn", "(LInvoiceBook$Bill;)I"⟩
abbrev cX1_addCredit : ByteArray := prog_3_method_12_code
def yX1_addCredit : MethodName := ⟨RX1, "addCredit", "(II)Z"⟩
abbrev cX1_returnCredit : ByteArray := prog_3_method_13_code
def yX1_returnCredit : MethodName := ⟨RX1, "returnCredit", "(I)I"⟩
abbrev cX1_goOn : ByteArray := prog_3_method_14_code
def yX1_goOn : MethodName := ⟨RX1, "goOn", "(I)I"⟩
abbrev cX1_sendReminders : ByteArray := prog_3_method_15_code
def yX1_sendReminders : MethodName := ⟨RX1, "sendReminders", "()I"⟩
abbrev cX1_giveUp : ByteArray := prog_3_method_16_code
def yX1_giveUp : MethodName := ⟨RX1, "giveUp", "(I)I"⟩
abbrev cX1_endYear : ByteArray := prog_3_method_17_code
def yX1_endYear : MethodName := ⟨RX1, "endYear", "(I)I"⟩
abbrev cX1_taxOf : ByteArray := prog_3_method_18_code
def yX1_taxOf : MethodName := ⟨RX1, "taxOf", "(II)I"⟩
abbrev cX1_taxTold : ByteArray := prog_3_method_19_code
def yX1_taxTold : MethodName := ⟨RX1, "taxTold", "(I)I"⟩
abbrev cX1_countBills : ByteArray := prog_3_method_20_code
def yX1_countBills : MethodName := ⟨RX1, "countBills", "(II)I"⟩
abbrev cX1_countOverdue : ByteArray := prog_3_method_21_code
def yX1_countOverdue : MethodName := ⟨RX1, "countOverdue", "()I"⟩
abbrev cX1_owedOn : ByteArray := prog_3_method_22_code
def yX1_owedOn : MethodName := ⟨RX1, "owedOn", "(II)I"⟩
abbrev cX1_leastToPayAll : ByteArray := prog_3_method_23_code
def yX1_leastToPayAll : MethodName := ⟨RX1, "leastToPayAll", "(I)I"⟩
abbrev cX1_oldestOpenBill : ByteArray := prog_3_method_24_code
def yX1_oldestOpenBill : MethodName := ⟨RX1, "oldestOpenBill", "(I)I"⟩
abbrev cX1_paidOn : ByteArray := prog_3_method_25_code
def yX1_paidOn : MethodName := ⟨RX1, "paidOn", "(I)I"⟩
abbrev cX1_allCredit : ByteArray := prog_3_method_26_code
def yX1_allCredit : MethodName := ⟨RX1, "allCredit", "()I"⟩
abbrev cX1_allDiscounts : ByteArray := prog_3_method_27_code
def yX1_allDiscounts : MethodName := ⟨RX1, "allDiscounts", "()I"⟩
abbrev cX1_allFees : ByteArray := prog_3_method_28_code
def yX1_allFees : MethodName := ⟨RX1, "allFees", "()I"⟩
abbrev cX1_allReminders : ByteArray := prog_3_method_29_code
def yX1_allReminders : MethodName := ⟨RX1, "allReminders", "()I"⟩
def RX2 : String := "InvoiceBook$History"
def TX2 : u_T := fun k => match k with
  | 0 => ("InvoiceBook$History", "states", "[LInvoiceBook$Book;", true)
  | _ => ("InvoiceBook$History", "count", "I", false)
def tyX2 : Nat → FieldType := fun k => match k with
  | 0 => .array (.object "InvoiceBook$Book")
  | _ => .int
abbrev wsX20 : List Cond := u_ws RX2 TX2 2
theorem nmX2 : ∀ a, a < 2 → ∀ b, b < 2 → a ≠ b → (TX2 a).2.1 ≠ (TX2 b).2.1 := by decide +kernel
theorem tyX2_ok : ∀ k, k < 2 → parseFieldDescriptor (TX2 k).2.2.1 = some (tyX2 k) := by decide +kernel
abbrev cX2_init : ByteArray := prog_4_method_1_code
def yX2_init : MethodName := ⟨RX2, "<init>", "()V"⟩
abbrev cX2_add : ByteArray := prog_4_method_2_code
def yX2_add : MethodName := ⟨RX2, "add", "(LInvoiceBook$Book;)LInvoiceBook$Book;"⟩
abbrev cX2_takeLatest : ByteArray := prog_4_method_3_code
def yX2_takeLatest : MethodName := ⟨RX2, "takeLatest", "(LInvoiceBook$Book;)LInvoiceBook$Book;"⟩
def RX3 : String := "InvoiceBook$Settings"
def TX3 : u_T := fun k => match k with
  | _ => ("InvoiceBook$Settings", "values", "[I", true)
def tyX3 : Nat → FieldType := fun k => match k with
  | _ => .array .int
abbrev wsX30 : List Cond := u_ws RX3 TX3 1
theorem nmX3 : ∀ a, a < 1 → ∀ b, b < 1 → a ≠ b → (TX3 a).2.1 ≠ (TX3 b).2.1 := by decide +kernel
theorem tyX3_ok : ∀ k, k < 1 → parseFieldDescriptor (TX3 k).2.2.1 = some (tyX3 k) := by decide +kernel
abbrev cX3_init : ByteArray := prog_5_method_1_code
def yX3_init : MethodName := ⟨RX3, "<init>", "()V"⟩
abbrev cX3_copyFrom : ByteArray := prog_5_method_2_code
def yX3_copyFrom : MethodName := ⟨RX3, "copyFrom", "(LInvoiceBook$Settings;)V"⟩
abbrev cX3_change : ByteArray := prog_5_method_3_code
def yX3_change : MethodName := ⟨RX3, "change", "(II)I"⟩
abbrev cX3_discountDays : ByteArray := prog_5_method_4_code
def yX3_discountDays : MethodName := ⟨RX3, "discountDays", "()I"⟩
abbrev cX3_discountPercent : ByteArray := prog_5_method_5_code
def yX3_discountPercent : MethodName := ⟨RX3, "discountPercent", "()I"⟩
abbrev cX3_reminderDays : ByteArray := prog_5_method_6_code
def yX3_reminderDays : MethodName := ⟨RX3, "reminderDays", "()I"⟩
abbrev cX3_reminderFee : ByteArray := prog_5_method_7_code
def yX3_reminderFee : MethodName := ⟨RX3, "reminderFee", "()I"⟩
abbrev cX3_taxWay : ByteArray := prog_5_method_8_code
def yX3_taxWay : MethodName := ⟨RX3, "taxWay", "()I"⟩
def RX4 : String := "InvoiceBook$Text"
def TX4 : u_T := fun k => match k with
  | 0 => ("InvoiceBook$Text", "signs", "[C", true)
  | 1 => ("InvoiceBook$Text", "length", "I", false)
  | 2 => ("InvoiceBook$Text", "place", "I", false)
  | 3 => ("InvoiceBook$Text", "kind", "I", false)
  | 4 => ("InvoiceBook$Text", "customer", "I", false)
  | 5 => ("InvoiceBook$Text", "amount", "I", false)
  | 6 => ("InvoiceBook$Text", "rate", "I", false)
  | 7 => ("InvoiceBook$Text", "days", "I", false)
  | _ => ("InvoiceBook$Text", "bill", "I", false)
def tyX4 : Nat → FieldType := fun k => match k with
  | 0 => .array .char
  | 1 => .int
  | 2 => .int
  | 3 => .int
  | 4 => .int
  | 5 => .int
  | 6 => .int
  | 7 => .int
  | _ => .int
abbrev wsX40 : List Cond := u_ws RX4 TX4 9
theorem nmX4 : ∀ a, a < 9 → ∀ b, b < 9 → a ≠ b → (TX4 a).2.1 ≠ (TX4 b).2.1 := by decide +kernel
theorem tyX4_ok : ∀ k, k < 9 → parseFieldDescriptor (TX4 k).2.2.1 = some (tyX4 k) := by decide +kernel
abbrev cX4_init : ByteArray := prog_6_method_1_code
def yX4_init : MethodName := ⟨RX4, "<init>", "()V"⟩
def RX5 : String := "InvoiceBook"
def TX5 : u_T := fun k => match k with
  | 0 => ("InvoiceBook", "now", "LInvoiceBook$Book;", false)
  | 1 => ("InvoiceBook", "spare", "LInvoiceBook$Book;", false)
  | 2 => ("InvoiceBook", "snapshot", "LInvoiceBook$Book;", true)
  | 3 => ("InvoiceBook", "hasSnapshot", "Z", false)
  | 4 => ("InvoiceBook", "history", "LInvoiceBook$History;", true)
  | 5 => ("InvoiceBook", "text", "LInvoiceBook$Text;", true)
  | 6 => ("InvoiceBook", "hasStop", "Z", false)
  | 7 => ("InvoiceBook", "stopNumber", "I", false)
  | _ => ("InvoiceBook", "stopError", "I", false)
def tyX5 : Nat → FieldType := fun k => match k with
  | 0 => .object "InvoiceBook$Book"
  | 1 => .object "InvoiceBook$Book"
  | 2 => .object "InvoiceBook$Book"
  | 3 => .boolean
  | 4 => .object "InvoiceBook$History"
  | 5 => .object "InvoiceBook$Text"
  | 6 => .boolean
  | 7 => .int
  | _ => .int
abbrev wsX50 : List Cond := u_ws RX5 TX5 9
theorem nmX5 : ∀ a, a < 9 → ∀ b, b < 9 → a ≠ b → (TX5 a).2.1 ≠ (TX5 b).2.1 := by decide +kernel
theorem tyX5_ok : ∀ k, k < 9 → parseFieldDescriptor (TX5 k).2.2.1 = some (tyX5 k) := by decide +kernel
abbrev cX5_init : ByteArray := prog_1_method_1_code
def yX5_init : MethodName := ⟨RX5, "<init>", "()V"⟩
abbrev cX5_bill : ByteArray := prog_1_method_2_code
def yX5_bill : MethodName := ⟨RX5, "bill", "(IIII)I"⟩
abbrev cX5_pay : ByteArray := prog_1_method_3_code
def yX5_pay : MethodName := ⟨RX5, "pay", "(II)I"⟩
abbrev cX5_payBill : ByteArray := prog_1_method_4_code
def yX5_payBill : MethodName := ⟨RX5, "payBill", "(II)I"⟩
abbrev cX5_payBack : ByteArray := prog_1_method_5_code
def yX5_payBack : MethodName := ⟨RX5, "payBack", "(I)I"⟩
abbrev cX5_pass : ByteArray := prog_1_method_6_code
def yX5_pass : MethodName := ⟨RX5, "pass", "(I)I"⟩
abbrev cX5_remind : ByteArray := prog_1_method_7_code
def yX5_remind : MethodName := ⟨RX5, "remind", "()I"⟩
abbrev cX5_writeOff : ByteArray := prog_1_method_8_code
def yX5_writeOff : MethodName := ⟨RX5, "writeOff", "(I)I"⟩
abbrev cX5_closeYear : ByteArray := prog_1_method_9_code
def yX5_closeYear : MethodName := ⟨RX5, "closeYear", "(I)I"⟩
abbrev cX5_set : ByteArray := prog_1_method_10_code
def yX5_set : MethodName := ⟨RX5, "set", "(II)I"⟩
abbrev cX5_undo : ByteArray := prog_1_method_15_code
def yX5_undo : MethodName := ⟨RX5, "undo", "()I"⟩
abbrev cX5_billOf : ByteArray := prog_1_method_18_code
def yX5_billOf : MethodName := ⟨RX5, "billOf", "(II)I"⟩
abbrev cX5_customer : ByteArray := prog_1_method_19_code
def yX5_customer : MethodName := ⟨RX5, "customer", "(II)I"⟩
abbrev cX5_tax : ByteArray := prog_1_method_20_code
def yX5_tax : MethodName := ⟨RX5, "tax", "(II)I"⟩
abbrev cX5_reason : ByteArray := prog_1_method_21_code
def yX5_reason : MethodName := ⟨RX5, "reason", "(I)I"⟩
abbrev cX5_ifPaid : ByteArray := prog_1_method_22_code
def yX5_ifPaid : MethodName := ⟨RX5, "ifPaid", "(III)I"⟩
abbrev cX5_settles : ByteArray := prog_1_method_23_code
def yX5_settles : MethodName := ⟨RX5, "settles", "(I)I"⟩
abbrev cX5_nextReminder : ByteArray := prog_1_method_24_code
def yX5_nextReminder : MethodName := ⟨RX5, "nextReminder", "(I)I"⟩
abbrev cX5_worst : ByteArray := prog_1_method_25_code
def yX5_worst : MethodName := ⟨RX5, "worst", "()I"⟩
abbrev cX5_count : ByteArray := prog_1_method_26_code
def yX5_count : MethodName := ⟨RX5, "count", "(I)I"⟩
abbrev cX5_startAct : ByteArray := prog_1_method_27_code
def yX5_startAct : MethodName := ⟨RX5, "startAct", "()V"⟩
abbrev cX5_endAct : ByteArray := prog_1_method_28_code
def yX5_endAct : MethodName := ⟨RX5, "endAct", "(I)I"⟩
abbrev cX5_isCustomer : ByteArray := prog_1_method_31_code
def yX5_isCustomer : MethodName := ⟨RX5, "isCustomer", "(I)Z"⟩
abbrev cX5_isYear : ByteArray := prog_1_method_32_code
def yX5_isYear : MethodName := ⟨RX5, "isYear", "(I)Z"⟩
abbrev cX5_isAmount : ByteArray := prog_1_method_33_code
def yX5_isAmount : MethodName := ⟨RX5, "isAmount", "(I)Z"⟩
def RX6 : String := "InvoiceBookModel"
def TX6 : u_T := fun k => match k with
  | _ => ("", "", "", false)
def tyX6 : Nat → FieldType := fun k => match k with
  | _ => .int
abbrev wsX60 : List Cond := u_ws RX6 TX6 0
theorem nmX6 : ∀ a, a < 0 → ∀ b, b < 0 → a ≠ b → (TX6 a).2.1 ≠ (TX6 b).2.1 := by decide +kernel
theorem tyX6_ok : ∀ k, k < 0 → parseFieldDescriptor (TX6 k).2.2.1 = some (tyX6 k) := by decide +kernel
def RJ9 : String := "java/lang/Math"
def TJ9 : u_T := fun k => match k with
  | _ => ("", "", "", false)
def tyJ9 : Nat → FieldType := fun k => match k with
  | _ => .int
abbrev wsJ90 : List Cond := u_ws RJ9 TJ9 0
theorem nmJ9 : ∀ a, a < 0 → ∀ b, b < 0 → a ≠ b → (TJ9 a).2.1 ≠ (TJ9 b).2.1 := by decide +kernel
theorem tyJ9_ok : ∀ k, k < 0 → parseFieldDescriptor (TJ9 k).2.2.1 = some (tyJ9 k) := by decide +kernel
abbrev cJ9_max_7cf53 : ByteArray := prog_9_method_65_code
def yJ9_max_7cf53 : MethodName := ⟨RJ9, "max", "(II)I"⟩
abbrev cJ9_min_7cf53 : ByteArray := prog_9_method_69_code
def yJ9_min_7cf53 : MethodName := ⟨RJ9, "min", "(II)I"⟩
def RJ10 : String := "java/lang/System"
def TJ10 : u_T := fun k => match k with
  | _ => ("", "", "", false)
def tyJ10 : Nat → FieldType := fun k => match k with
  | _ => .int
abbrev wsJ100 : List Cond := u_ws RJ10 TJ10 0
theorem nmJ10 : ∀ a, a < 0 → ∀ b, b < 0 → a ≠ b → (TJ10 a).2.1 ≠ (TJ10 b).2.1 := by decide +kernel
theorem tyJ10_ok : ∀ k, k < 0 → parseFieldDescriptor (TJ10 k).2.2.1 = some (tyJ10 k) := by decide +kernel
def RL : String := "InvoiceBookLaw"
abbrev cL_cell : ByteArray := method_2_code
def yL_cell : MethodName := ⟨RL, "cell", "([II)I"⟩
abbrev cL_low : ByteArray := method_3_code
def yL_low : MethodName := ⟨RL, "low", "(II)I"⟩
abbrev cL_act : ByteArray := method_4_code
def yL_act : MethodName := ⟨RL, "act", "(LInvoiceBook;III)I"⟩
abbrev cL_isBill : ByteArray := method_5_code
def yL_isBill : MethodName := ⟨RL, "isBill", "(LInvoiceBook;I)Z"⟩
abbrev cL_holds : ByteArray := method_6_code
def yL_holds : MethodName := ⟨RL, "holds", "(LInvoiceBook;)Z"⟩
abbrev cL_tries : ByteArray := method_7_code
def yL_tries : MethodName := ⟨RL, "tries", "(LInvoiceBook;I)Z"⟩
abbrev cL_law : ByteArray := code
def yL_law : MethodName := ⟨RL, "law", "([I)Z"⟩
def wsJ9_max_7cf53 : List Cond := .code yJ9_max_7cf53 cJ9_max_7cf53 2 (some .int) :: ([])
def wsJ9_min_7cf53 : List Cond := .code yJ9_min_7cf53 cJ9_min_7cf53 2 (some .int) :: ([])
def wsL_law_r1 : List Cond := [Cond.classLink RL 16 RX5, Cond.instantiable RX5 9, Cond.initialized RX5, Cond.methodLink RL 84 yX5_init, Cond.instanceMethod yX5_init, Cond.code yX5_init cX5_init 1 none, Cond.methodLink RX5 1 objectInit, Cond.instanceMethod objectInit, Cond.code objectInit ⟨#[0xb1]⟩ 1 none, Cond.classLink RX5 7 RX1, Cond.instantiable RX1 8, Cond.initialized RX1, Cond.fieldLink RX5 10 "InvoiceBook" "now" "LInvoiceBook$Book;", Cond.fieldLink RX5 16 "InvoiceBook" "spare" "LInvoiceBook$Book;", Cond.fieldLink RX5 19 "InvoiceBook" "snapshot" "LInvoiceBook$Book;", Cond.classLink RX5 22 RX2, Cond.instantiable RX2 2, Cond.initialized RX2, Cond.fieldLink RX5 25 "InvoiceBook" "history" "LInvoiceBook$History;", Cond.classLink RX5 29 RX4, Cond.instantiable RX4 9, Cond.initialized RX4, Cond.fieldLink RX5 32 "InvoiceBook" "text" "LInvoiceBook$Text;", Cond.methodLink RX5 9 yX1_init]
def wsL_law_r2 : List Cond := [Cond.instanceMethod yX1_init, Cond.code yX1_init cX1_init 2 none, Cond.methodLink RX1 3 objectInit, Cond.classLink RX1 9 RX0, Cond.fieldLink RX1 11 "InvoiceBook$Book" "bills" "[LInvoiceBook$Bill;", Cond.arrayClass .int, Cond.fieldLink RX1 17 "InvoiceBook$Book" "credits" "[I", Cond.fieldLink RX1 21 "InvoiceBook$Book" "taxPaid" "[I", Cond.fieldLink RX1 24 "InvoiceBook$Book" "taxClosed" "[I", Cond.classLink RX1 27 RX3, Cond.instantiable RX3 1, Cond.initialized RX3, Cond.fieldLink RX1 30 "InvoiceBook$Book" "settings" "LInvoiceBook$Settings;", Cond.instantiable RX0 14, Cond.initialized RX0, Cond.instanceMethod yX3_init, Cond.code yX3_init cX3_init 1 none, Cond.methodLink RX3 3 objectInit, Cond.fieldLink RX3 9 "InvoiceBook$Settings" "values" "[I", Cond.instanceMethod yX0_init, Cond.code yX0_init cX0_init 1 none, Cond.methodLink RX0 3 objectInit, Cond.fieldLink RX0 11 "InvoiceBook$Bill" "state" "I", Cond.fieldLink RX0 15 "InvoiceBook$Bill" "lastPayment" "I"]
def wsL_law_r3 : List Cond := [Cond.methodLink RX5 24 yX2_init, Cond.instanceMethod yX2_init, Cond.code yX2_init cX2_init 2 none, Cond.methodLink RX2 3 objectInit, Cond.classLink RX2 9 RX1, Cond.fieldLink RX2 11 "InvoiceBook$History" "states" "[LInvoiceBook$Book;", Cond.methodLink RX2 17 yX1_init, Cond.instanceMethod yX4_init, Cond.code yX4_init cX4_init 1 none, Cond.methodLink RX4 3 objectInit, Cond.arrayClass .char, Cond.fieldLink RX4 9 "InvoiceBook$Text" "signs" "[C", Cond.methodLink RL 85 yL_holds, Cond.static yL_holds, Cond.initialized RL, Cond.code yL_holds cL_holds 11 (some .boolean), Cond.methodLink RL 24 yX5_count, Cond.instanceMethod yX5_count, Cond.selects RX5 yX5_count yX5_count, Cond.code yX5_count cX5_count 2 (some .int), Cond.fieldLink RX5 117 "InvoiceBook$Book" "day" "I", Cond.fieldLink RX5 227 "InvoiceBook$Book" "paidBack" "I", Cond.fieldLink RX5 236 "InvoiceBook$Book" "closedYears" "I", Cond.fieldLink RX5 70 "InvoiceBook$Book" "settings" "LInvoiceBook$Settings;"]
def wsL_law_r4 : List Cond := [Cond.fieldLink RX5 103 "InvoiceBook$History" "count" "I", Cond.fieldLink RX5 83 "InvoiceBook$Text" "length" "I", Cond.methodLink RX5 170 yX1_countBills, Cond.instanceMethod yX1_countBills, Cond.selects RX1 yX1_countBills yX1_countBills, Cond.code yX1_countBills cX1_countBills 8 (some .int), Cond.methodLink RX1 88 yX0_is, Cond.instanceMethod yX0_is, Cond.selects RX0 yX0_is yX0_is, Cond.code yX0_is cX0_is 3 (some .boolean), Cond.fieldLink RX0 18 "InvoiceBook$Bill" "customer" "I", Cond.methodLink RX5 221 yX1_countOverdue, Cond.instanceMethod yX1_countOverdue, Cond.selects RX1 yX1_countOverdue yX1_countOverdue, Cond.code yX1_countOverdue cX1_countOverdue 6 (some .int), Cond.fieldLink RX1 48 "InvoiceBook$Book" "day" "I", Cond.methodLink RX1 166 yX0_isOverdue, Cond.instanceMethod yX0_isOverdue, Cond.selects RX0 yX0_isOverdue yX0_isOverdue, Cond.code yX0_isOverdue cX0_isOverdue 2 (some .boolean), Cond.fieldLink RX0 33 "InvoiceBook$Bill" "day" "I", Cond.fieldLink RX0 36 "InvoiceBook$Bill" "due" "I", Cond.methodLink RX5 173 yX1_owedOn, Cond.instanceMethod yX1_owedOn]
def wsL_law_r5 : List Cond := [Cond.selects RX1 yX1_owedOn yX1_owedOn, Cond.code yX1_owedOn cX1_owedOn 8 (some .int), Cond.methodLink RX1 102 yX0_owed, Cond.instanceMethod yX0_owed, Cond.selects RX0 yX0_owed yX0_owed, Cond.code yX0_owed cX0_owed 1 (some .int), Cond.fieldLink RX0 30 "InvoiceBook$Bill" "sum" "I", Cond.fieldLink RX0 45 "InvoiceBook$Bill" "fees" "I", Cond.fieldLink RX0 39 "InvoiceBook$Bill" "paid" "I", Cond.fieldLink RX0 42 "InvoiceBook$Bill" "discount" "I", Cond.methodLink RX5 224 yX1_allCredit, Cond.instanceMethod yX1_allCredit, Cond.selects RX1 yX1_allCredit yX1_allCredit, Cond.code yX1_allCredit cX1_allCredit 6 (some .int), Cond.methodLink RX5 179 yX1_paidOn, Cond.instanceMethod yX1_paidOn, Cond.selects RX1 yX1_paidOn yX1_paidOn, Cond.code yX1_paidOn cX1_paidOn 7 (some .int), Cond.fieldLink RX1 169 "InvoiceBook$Bill" "paid" "I", Cond.methodLink RX5 203 yX1_allDiscounts, Cond.instanceMethod yX1_allDiscounts, Cond.selects RX1 yX1_allDiscounts yX1_allDiscounts, Cond.code yX1_allDiscounts cX1_allDiscounts 6 (some .int), Cond.fieldLink RX1 172 "InvoiceBook$Bill" "discount" "I"]
def wsL_law_r6 : List Cond := [Cond.methodLink RX5 230 yX1_allFees, Cond.instanceMethod yX1_allFees, Cond.selects RX1 yX1_allFees yX1_allFees, Cond.code yX1_allFees cX1_allFees 6 (some .int), Cond.fieldLink RX1 175 "InvoiceBook$Bill" "fees" "I", Cond.methodLink RX5 233 yX1_allReminders, Cond.instanceMethod yX1_allReminders, Cond.selects RX1 yX1_allReminders yX1_allReminders, Cond.code yX1_allReminders cX1_allReminders 6 (some .int), Cond.fieldLink RX1 120 "InvoiceBook$Bill" "reminders" "I", Cond.methodLink RX5 239 yX3_discountDays, Cond.instanceMethod yX3_discountDays, Cond.selects RX3 yX3_discountDays yX3_discountDays, Cond.code yX3_discountDays cX3_discountDays 1 (some .int), Cond.methodLink RX5 242 yX3_discountPercent, Cond.instanceMethod yX3_discountPercent, Cond.selects RX3 yX3_discountPercent yX3_discountPercent, Cond.code yX3_discountPercent cX3_discountPercent 1 (some .int), Cond.methodLink RX5 194 yX3_reminderDays, Cond.instanceMethod yX3_reminderDays, Cond.selects RX3 yX3_reminderDays yX3_reminderDays, Cond.code yX3_reminderDays cX3_reminderDays 1 (some .int), Cond.methodLink RX5 245 yX3_reminderFee, Cond.instanceMethod yX3_reminderFee]
def wsL_law_r7 : List Cond := [Cond.selects RX3 yX3_reminderFee yX3_reminderFee, Cond.code yX3_reminderFee cX3_reminderFee 1 (some .int), Cond.methodLink RX5 248 yX3_taxWay, Cond.instanceMethod yX3_taxWay, Cond.selects RX3 yX3_taxWay yX3_taxWay, Cond.code yX3_taxWay cX3_taxWay 1 (some .int), Cond.methodLink RL 53 yX5_billOf, Cond.instanceMethod yX5_billOf, Cond.selects RX5 yX5_billOf yX5_billOf, Cond.code yX5_billOf cX5_billOf 4 (some .int), Cond.fieldLink RX5 124 "InvoiceBook$Bill" "customer" "I", Cond.fieldLink RX5 129 "InvoiceBook$Bill" "net" "I", Cond.fieldLink RX5 132 "InvoiceBook$Bill" "tax" "I", Cond.fieldLink RX5 135 "InvoiceBook$Bill" "sum" "I", Cond.fieldLink RX5 138 "InvoiceBook$Bill" "day" "I", Cond.fieldLink RX5 142 "InvoiceBook$Bill" "state" "I", Cond.fieldLink RX5 145 "InvoiceBook$Bill" "paid" "I", Cond.fieldLink RX5 148 "InvoiceBook$Bill" "discount" "I", Cond.fieldLink RX5 151 "InvoiceBook$Bill" "fees" "I", Cond.fieldLink RX5 157 "InvoiceBook$Bill" "reminders" "I", Cond.fieldLink RX5 160 "InvoiceBook$Bill" "lastPayment" "I", Cond.methodLink RX5 120 yX1_billAt, Cond.instanceMethod yX1_billAt, Cond.selects RX1 yX1_billAt yX1_billAt]
def wsL_law_r8 : List Cond := [Cond.code yX1_billAt cX1_billAt 2 (some (.object "InvoiceBook$Bill")), Cond.fieldLink RX1 58 "InvoiceBook$Bill" "state" "I", Cond.methodLink RX5 139 yX0_dueDay, Cond.instanceMethod yX0_dueDay, Cond.selects RX0 yX0_dueDay yX0_dueDay, Cond.code yX0_dueDay cX0_dueDay 1 (some .int), Cond.methodLink RX5 154 yX0_owed, Cond.methodLink RX5 163 yX0_isOverdue, Cond.methodLink RL 62 yL_isBill, Cond.static yL_isBill, Cond.code yL_isBill cL_isBill 10 (some .boolean), Cond.methodLink RL 56 yX5_reason, Cond.instanceMethod yX5_reason, Cond.selects RX5 yX5_reason yX5_reason, Cond.code yX5_reason cX5_reason 3 (some .int), Cond.methodLink RX5 197 yX0_whyNoReminder, Cond.instanceMethod yX0_whyNoReminder, Cond.selects RX0 yX0_whyNoReminder yX0_whyNoReminder, Cond.code yX0_whyNoReminder cX0_whyNoReminder 3 (some .int), Cond.fieldLink RX0 48 "InvoiceBook$Bill" "reminders" "I", Cond.methodLink RX0 54 yX0_isOverdue, Cond.methodLink RX0 58 yX0_reminderDay, Cond.instanceMethod yX0_reminderDay, Cond.selects RX0 yX0_reminderDay yX0_reminderDay]
def wsL_law_r9 : List Cond := [Cond.code yX0_reminderDay cX0_reminderDay 2 (some .int), Cond.fieldLink RX0 51 "InvoiceBook$Bill" "lastReminder" "I", Cond.methodLink RX0 62 yX0_dueDay, Cond.methodLink RL 59 yX5_nextReminder, Cond.instanceMethod yX5_nextReminder, Cond.selects RX5 yX5_nextReminder yX5_nextReminder, Cond.code yX5_nextReminder cX5_nextReminder 4 (some .int), Cond.methodLink RX5 216 Lib.Math.max.name, Cond.static Lib.Math.max.name, Cond.initialized "java/lang/Math", Cond.code Lib.Math.max.name Lib.Math.max.code 2 (some .int), Cond.methodLink RX5 209 yX0_awaitsReminder, Cond.instanceMethod yX0_awaitsReminder, Cond.selects RX0 yX0_awaitsReminder yX0_awaitsReminder, Cond.code yX0_awaitsReminder cX0_awaitsReminder 1 (some .boolean), Cond.methodLink RX5 213 yX0_reminderDay, Cond.methodLink RL 66 yX5_worst, Cond.instanceMethod yX5_worst, Cond.selects RX5 yX5_worst yX5_worst, Cond.code yX5_worst cX5_worst 5 (some .int), Cond.methodLink RL 69 yX5_customer, Cond.instanceMethod yX5_customer, Cond.selects RX5 yX5_customer yX5_customer, Cond.code yX5_customer cX5_customer 3 (some .int)]
def wsL_law_r10 : List Cond := [Cond.methodLink RX5 167 yX5_isCustomer, Cond.static yX5_isCustomer, Cond.code yX5_isCustomer cX5_isCustomer 1 (some .boolean), Cond.methodLink RX5 176 yX1_creditOf, Cond.instanceMethod yX1_creditOf, Cond.selects RX1 yX1_creditOf yX1_creditOf, Cond.code yX1_creditOf cX1_creditOf 2 (some .int), Cond.methodLink RX5 182 yX1_oldestOpenBill, Cond.instanceMethod yX1_oldestOpenBill, Cond.selects RX1 yX1_oldestOpenBill yX1_oldestOpenBill, Cond.code yX1_oldestOpenBill cX1_oldestOpenBill 3 (some .int), Cond.methodLink RL 72 yX5_settles, Cond.instanceMethod yX5_settles, Cond.selects RX5 yX5_settles yX5_settles, Cond.code yX5_settles cX5_settles 2 (some .int), Cond.methodLink RX5 206 yX1_leastToPayAll, Cond.instanceMethod yX1_leastToPayAll, Cond.selects RX1 yX1_leastToPayAll yX1_leastToPayAll, Cond.code yX1_leastToPayAll cX1_leastToPayAll 7 (some .int), Cond.methodLink RX1 106 yX1_discountOn, Cond.instanceMethod yX1_discountOn, Cond.selects RX1 yX1_discountOn yX1_discountOn, Cond.code yX1_discountOn cX1_discountOn 2 (some .int), Cond.fieldLink RX1 123 "InvoiceBook$Bill" "day" "I"]
def wsL_law_r11 : List Cond := [Cond.fieldLink RX1 127 "InvoiceBook$Bill" "sum" "I", Cond.methodLink RX1 133 Lib.Math.min.name, Cond.static Lib.Math.min.name, Cond.code Lib.Math.min.name Lib.Math.min.code 2 (some .int), Cond.methodLink RX1 124 yX3_discountDays, Cond.methodLink RX1 130 yX3_discountPercent, Cond.methodLink RL 75 yX5_tax, Cond.instanceMethod yX5_tax, Cond.selects RX5 yX5_tax yX5_tax, Cond.code yX5_tax cX5_tax 3 (some .int), Cond.methodLink RX5 185 yX5_isYear, Cond.static yX5_isYear, Cond.code yX5_isYear cX5_isYear 1 (some .boolean), Cond.methodLink RX5 188 yX1_taxTold, Cond.instanceMethod yX1_taxTold, Cond.selects RX1 yX1_taxTold yX1_taxTold, Cond.code yX1_taxTold cX1_taxTold 2 (some .int), Cond.fieldLink RX1 52 "InvoiceBook$Book" "closedYears" "I", Cond.methodLink RX5 191 yX1_taxOf, Cond.instanceMethod yX1_taxOf, Cond.selects RX1 yX1_taxOf yX1_taxOf, Cond.code yX1_taxOf cX1_taxOf 8 (some .int), Cond.fieldLink RX1 163 "InvoiceBook$Bill" "tax" "I", Cond.methodLink RL 50 yX5_undo]
def wsL_law_r12 : List Cond := [Cond.instanceMethod yX5_undo, Cond.selects RX5 yX5_undo yX5_undo, Cond.code yX5_undo cX5_undo 1 (some .int), Cond.methodLink RX5 106 yX2_takeLatest, Cond.instanceMethod yX2_takeLatest, Cond.selects RX2 yX2_takeLatest yX2_takeLatest, Cond.code yX2_takeLatest cX2_takeLatest 3 (some (.object "InvoiceBook$Book")), Cond.fieldLink RX2 18 "InvoiceBook$History" "count" "I", Cond.methodLink RL 89 yL_cell, Cond.static yL_cell, Cond.code yL_cell cL_cell 2 (some .int), Cond.constant RL 7 (40503), Cond.methodLink RL 9 yL_low, Cond.static yL_low, Cond.code yL_low cL_low 2 (some .int), Cond.constant RL 8 (2147483647), Cond.methodLink RL 93 yL_act, Cond.static yL_act, Cond.code yL_act cL_act 5 (some .int), Cond.methodLink RL 15 yX5_bill, Cond.instanceMethod yX5_bill, Cond.selects RX5 yX5_bill yX5_bill, Cond.code yX5_bill cX5_bill 5 (some .int), Cond.methodLink RX5 36 yX5_startAct]
def wsL_law_r13 : List Cond := [Cond.instanceMethod yX5_startAct, Cond.selects RX5 yX5_startAct yX5_startAct, Cond.code yX5_startAct cX5_startAct 1 none, Cond.methodLink RX5 110 yX1_copyFrom, Cond.instanceMethod yX1_copyFrom, Cond.selects RX1 yX1_copyFrom yX1_copyFrom, Cond.code yX1_copyFrom cX1_copyFrom 3 none, Cond.methodLink RX1 39 arraycopyName, Cond.native arraycopyName, Cond.static arraycopyName, Cond.initialized "java/lang/System", Cond.fieldLink RX1 55 "InvoiceBook$Book" "paidBack" "I", Cond.methodLink RX1 35 yX0_copyFrom, Cond.instanceMethod yX0_copyFrom, Cond.selects RX0 yX0_copyFrom yX0_copyFrom, Cond.code yX0_copyFrom cX0_copyFrom 2 none, Cond.fieldLink RX0 21 "InvoiceBook$Bill" "net" "I", Cond.fieldLink RX0 24 "InvoiceBook$Bill" "rate" "I", Cond.fieldLink RX0 27 "InvoiceBook$Bill" "tax" "I", Cond.methodLink RX1 45 yX3_copyFrom, Cond.instanceMethod yX3_copyFrom, Cond.selects RX3 yX3_copyFrom yX3_copyFrom, Cond.code yX3_copyFrom cX3_copyFrom 2 none, Cond.methodLink RX3 15 arraycopyName]
def wsL_law_r14 : List Cond := [Cond.methodLink RX5 39 yX1_writeBill, Cond.instanceMethod yX1_writeBill, Cond.selects RX1 yX1_writeBill yX1_writeBill, Cond.code yX1_writeBill cX1_writeBill 8 (some .int), Cond.methodLink RX1 65 yX1_countBills, Cond.methodLink RX1 69 yX0_write, Cond.instanceMethod yX0_write, Cond.selects RX0 yX0_write yX0_write, Cond.code yX0_write cX0_write 6 none, Cond.methodLink RX1 73 yX1_creditOf, Cond.methodLink RX1 77 yX1_payOn, Cond.instanceMethod yX1_payOn, Cond.selects RX1 yX1_payOn yX1_payOn, Cond.code yX1_payOn cX1_payOn 8 (some .int), Cond.methodLink RX1 110 yX0_takeMoney, Cond.instanceMethod yX0_takeMoney, Cond.selects RX0 yX0_takeMoney yX0_takeMoney, Cond.code yX0_takeMoney cX0_takeMoney 4 none, Cond.methodLink RX0 66 yX0_owed, Cond.methodLink RX1 117 yX0_taxIn, Cond.instanceMethod yX0_taxIn, Cond.selects RX0 yX0_taxIn yX0_taxIn, Cond.code yX0_taxIn cX0_taxIn 3 (some .int), Cond.methodLink RX1 81 yX1_setCredit]
def wsL_law_r15 : List Cond := [Cond.instanceMethod yX1_setCredit, Cond.selects RX1 yX1_setCredit yX1_setCredit, Cond.code yX1_setCredit cX1_setCredit 3 none, Cond.methodLink RX5 43 yX5_endAct, Cond.instanceMethod yX5_endAct, Cond.selects RX5 yX5_endAct yX5_endAct, Cond.code yX5_endAct cX5_endAct 3 (some .int), Cond.methodLink RX5 251 yX2_add, Cond.instanceMethod yX2_add, Cond.selects RX2 yX2_add yX2_add, Cond.code yX2_add cX2_add 4 (some (.object "InvoiceBook$Book")), Cond.methodLink RL 21 yX5_pay, Cond.instanceMethod yX5_pay, Cond.selects RX5 yX5_pay yX5_pay, Cond.code yX5_pay cX5_pay 3 (some .int), Cond.methodLink RX5 47 yX1_takePayment, Cond.instanceMethod yX1_takePayment, Cond.selects RX1 yX1_takePayment yX1_takePayment, Cond.code yX1_takePayment cX1_takePayment 9 (some .int), Cond.static yX5_isAmount, Cond.code yX5_isAmount cX5_isAmount 1 (some .boolean), Cond.constant RX5 285 (99999), Cond.methodLink RX1 92 yX1_addCredit, Cond.instanceMethod yX1_addCredit]
def wsL_law_r16 : List Cond := [Cond.selects RX1 yX1_addCredit yX1_addCredit, Cond.code yX1_addCredit cX1_addCredit 4 (some .boolean), Cond.constant RX1 138 (999999), Cond.methodLink RL 28 yX5_payBill, Cond.instanceMethod yX5_payBill, Cond.selects RX5 yX5_payBill yX5_payBill, Cond.code yX5_payBill cX5_payBill 3 (some .int), Cond.methodLink RX5 51 yX1_takePaymentFor, Cond.instanceMethod yX1_takePaymentFor, Cond.selects RX1 yX1_takePaymentFor yX1_takePaymentFor, Cond.code yX1_takePaymentFor cX1_takePaymentFor 5 (some .int), Cond.fieldLink RX1 99 "InvoiceBook$Bill" "customer" "I", Cond.methodLink RX1 95 yX1_billAt, Cond.methodLink RL 31 yX5_payBack, Cond.instanceMethod yX5_payBack, Cond.selects RX5 yX5_payBack yX5_payBack, Cond.code yX5_payBack cX5_payBack 2 (some .int), Cond.methodLink RX5 54 yX1_returnCredit, Cond.instanceMethod yX1_returnCredit, Cond.selects RX1 yX1_returnCredit yX1_returnCredit, Cond.code yX1_returnCredit cX1_returnCredit 3 (some .int), Cond.methodLink RL 34 yX5_pass, Cond.instanceMethod yX5_pass, Cond.selects RX5 yX5_pass yX5_pass]
def wsL_law_r17 : List Cond := [Cond.code yX5_pass cX5_pass 2 (some .int), Cond.methodLink RX5 57 yX1_goOn, Cond.instanceMethod yX1_goOn, Cond.selects RX1 yX1_goOn yX1_goOn, Cond.code yX1_goOn cX1_goOn 2 (some .int), Cond.methodLink RX1 139 yX1_countOverdue, Cond.methodLink RL 37 yX5_remind, Cond.instanceMethod yX5_remind, Cond.selects RX5 yX5_remind yX5_remind, Cond.code yX5_remind cX5_remind 1 (some .int), Cond.methodLink RX5 60 yX1_sendReminders, Cond.instanceMethod yX1_sendReminders, Cond.selects RX1 yX1_sendReminders yX1_sendReminders, Cond.code yX1_sendReminders cX1_sendReminders 6 (some .int), Cond.methodLink RX1 142 yX3_reminderDays, Cond.methodLink RX1 145 yX0_whyNoReminder, Cond.methodLink RX1 148 yX3_reminderFee, Cond.methodLink RX1 151 yX0_addReminder, Cond.instanceMethod yX0_addReminder, Cond.selects RX0 yX0_addReminder yX0_addReminder, Cond.code yX0_addReminder cX0_addReminder 3 none, Cond.methodLink RL 41 yX5_writeOff, Cond.instanceMethod yX5_writeOff, Cond.selects RX5 yX5_writeOff yX5_writeOff]
def wsL_law_r18 : List Cond := [Cond.code yX5_writeOff cX5_writeOff 2 (some .int), Cond.methodLink RX5 64 yX1_giveUp, Cond.instanceMethod yX1_giveUp, Cond.selects RX1 yX1_giveUp yX1_giveUp, Cond.code yX1_giveUp cX1_giveUp 3 (some .int), Cond.methodLink RX1 154 yX0_canBeWrittenOff, Cond.instanceMethod yX0_canBeWrittenOff, Cond.selects RX0 yX0_canBeWrittenOff yX0_canBeWrittenOff, Cond.code yX0_canBeWrittenOff cX0_canBeWrittenOff 3 (some .boolean), Cond.methodLink RL 44 yX5_closeYear, Cond.instanceMethod yX5_closeYear, Cond.selects RX5 yX5_closeYear yX5_closeYear, Cond.code yX5_closeYear cX5_closeYear 2 (some .int), Cond.methodLink RX5 67 yX1_endYear, Cond.instanceMethod yX1_endYear, Cond.selects RX1 yX1_endYear yX1_endYear, Cond.code yX1_endYear cX1_endYear 2 (some .int), Cond.methodLink RX1 157 yX3_taxWay, Cond.methodLink RX1 160 yX1_taxOf, Cond.methodLink RL 47 yX5_set, Cond.instanceMethod yX5_set, Cond.selects RX5 yX5_set yX5_set, Cond.code yX5_set cX5_set 3 (some .int), Cond.methodLink RX5 74 yX3_change]
def wsL_law_r19 : List Cond := [Cond.instanceMethod yX3_change, Cond.selects RX3 yX3_change yX3_change, Cond.code yX3_change cX3_change 4 (some .int), Cond.fieldLink RX3 21 "InvoiceBook$Settings" "LEAST" "[I", Cond.fieldLink RX3 24 "InvoiceBook$Settings" "MOST" "[I", Cond.methodLink RL 97 yL_tries, Cond.static yL_tries, Cond.code yL_tries cL_tries 16 (some .boolean), Cond.constant RL 78 (99999), Cond.constant RL 79 (999999), Cond.methodLink RL 80 yX5_ifPaid, Cond.instanceMethod yX5_ifPaid, Cond.selects RX5 yX5_ifPaid yX5_ifPaid, Cond.code yX5_ifPaid cX5_ifPaid 5 (some .int), Cond.methodLink RX5 200 yX5_isAmount]
def wsL_law : List Cond := (wsL_law_r1 ++ (wsL_law_r2 ++ (wsL_law_r3 ++ (wsL_law_r4 ++ (wsL_law_r5 ++ (wsL_law_r6 ++ (wsL_law_r7 ++ (wsL_law_r8 ++ (wsL_law_r9 ++ (wsL_law_r10 ++ (wsL_law_r11 ++ (wsL_law_r12 ++ (wsL_law_r13 ++ (wsL_law_r14 ++ (wsL_law_r15 ++ (wsL_law_r16 ++ (wsL_law_r17 ++ (wsL_law_r18 ++ wsL_law_r19)))))))))))))))))) ++ wsX50 ++ wsX10 ++ wsX20 ++ wsX40 ++ wsX30 ++ wsX00 ++ ([] : List Cond)
set_option maxRecDepth 20000 in
theorem inlX0 : ∀ w ∈ wsX00, w ∈ wsL_law := fun _ h => List.mem_append_left _ (List.mem_append_right _ h)
theorem inlX1 : ∀ w ∈ wsX10, w ∈ wsL_law := fun _ h => List.mem_append_left _ (List.mem_append_left _ (List.mem_append_left _ (List.mem_append_left _ (List.mem_append_left _ (List.mem_append_right _ h)))))
theorem inlX2 : ∀ w ∈ wsX20, w ∈ wsL_law := fun _ h => List.mem_append_left _ (List.mem_append_left _ (List.mem_append_left _ (List.mem_append_left _ (List.mem_append_right _ h))))
theorem inlX3 : ∀ w ∈ wsX30, w ∈ wsL_law := fun _ h => List.mem_append_left _ (List.mem_append_left _ (List.mem_append_right _ h))
theorem inlX4 : ∀ w ∈ wsX40, w ∈ wsL_law := fun _ h => List.mem_append_left _ (List.mem_append_left _ (List.mem_append_left _ (List.mem_append_right _ h)))
theorem inlX5 : ∀ w ∈ wsX50, w ∈ wsL_law := fun _ h => List.mem_append_left _ (List.mem_append_left _ (List.mem_append_left _ (List.mem_append_left _ (List.mem_append_left _ (List.mem_append_left _ (List.mem_append_right _ h))))))
