section
-- ===== PART A: goes FIRST, ahead of the names: the tables' words, and 'selects' of the private methods out of them =====
/-- a private method of a class that the tables say can be made, by its rows of tables_1 -/
def lw_okq (q : MethodName × Nat) : Prop := (q.1.cls ≠ "java/lang/invoke/MethodHandle" ∧ q.1.cls ≠ "java/lang/invoke/VarHandle") ∧ Cond.instantiable q.1.cls q.2 ∈ tables_1 ∧ Cond.privateMethod q.1 ∈ tables_1 ∧ Cond.instanceMethod q.1 ∈ tables_1
theorem lw_p0 : lw_okq (⟨"MailAgent$Aliases", "reachedFrom", "(I)J"⟩, 1) := ⟨⟨by decide +kernel, by decide +kernel⟩, List.mem_of_getElem? (i := 30) (by decide +kernel), List.mem_of_getElem? (i := 297) (by decide +kernel), List.mem_of_getElem? (i := 298) (by decide +kernel)⟩
theorem lw_p1 : lw_okq (⟨"MailAgent", "makeDurable", "()V"⟩, 13) := ⟨⟨by decide +kernel, by decide +kernel⟩, List.mem_of_getElem? (i := 13) (by decide +kernel), List.mem_of_getElem? (i := 344) (by decide +kernel), List.mem_of_getElem? (i := 345) (by decide +kernel)⟩
theorem lw_p2 : lw_okq (⟨"MailAgent", "tryRecipients", "(LMailAgent$Message;)I"⟩, 13) := ⟨⟨by decide +kernel, by decide +kernel⟩, List.mem_of_getElem? (i := 13) (by decide +kernel), List.mem_of_getElem? (i := 361) (by decide +kernel), List.mem_of_getElem? (i := 362) (by decide +kernel)⟩
theorem lw_p3 : lw_okq (⟨"MailAgent", "carry", "(I)I"⟩, 13) := ⟨⟨by decide +kernel, by decide +kernel⟩, List.mem_of_getElem? (i := 13) (by decide +kernel), List.mem_of_getElem? (i := 365) (by decide +kernel), List.mem_of_getElem? (i := 366) (by decide +kernel)⟩
theorem lw_p4 : lw_okq (⟨"MailAgent", "failOverdue", "(LMailAgent$Message;)V"⟩, 13) := ⟨⟨by decide +kernel, by decide +kernel⟩, List.mem_of_getElem? (i := 13) (by decide +kernel), List.mem_of_getElem? (i := 373) (by decide +kernel), List.mem_of_getElem? (i := 374) (by decide +kernel)⟩
theorem lw_p5 : lw_okq (⟨"MailAgent", "settle", "(LMailAgent$Message;)Z"⟩, 13) := ⟨⟨by decide +kernel, by decide +kernel⟩, List.mem_of_getElem? (i := 13) (by decide +kernel), List.mem_of_getElem? (i := 381) (by decide +kernel), List.mem_of_getElem? (i := 382) (by decide +kernel)⟩
theorem lw_p6 : lw_okq (⟨"MailAgent", "keepChangesFew", "()V"⟩, 13) := ⟨⟨by decide +kernel, by decide +kernel⟩, List.mem_of_getElem? (i := 13) (by decide +kernel), List.mem_of_getElem? (i := 403) (by decide +kernel), List.mem_of_getElem? (i := 404) (by decide +kernel)⟩
theorem lw_p7 : lw_okq (⟨"MailAgentModel", "reached", "(I)J"⟩, 24) := ⟨⟨by decide +kernel, by decide +kernel⟩, List.mem_of_getElem? (i := 463) (by decide +kernel), List.mem_of_getElem? (i := 576) (by decide +kernel), List.mem_of_getElem? (i := 577) (by decide +kernel)⟩
theorem lw_p8 : lw_okq (⟨"MailAgentModel", "named", "(I)Z"⟩, 24) := ⟨⟨by decide +kernel, by decide +kernel⟩, List.mem_of_getElem? (i := 463) (by decide +kernel), List.mem_of_getElem? (i := 580) (by decide +kernel), List.mem_of_getElem? (i := 581) (by decide +kernel)⟩
theorem lw_p9 : lw_okq (⟨"MailAgentModel", "costs", "()I"⟩, 24) := ⟨⟨by decide +kernel, by decide +kernel⟩, List.mem_of_getElem? (i := 463) (by decide +kernel), List.mem_of_getElem? (i := 588) (by decide +kernel), List.mem_of_getElem? (i := 589) (by decide +kernel)⟩
theorem lw_p10 : lw_okq (⟨"MailAgentModel", "settle", "()I"⟩, 24) := ⟨⟨by decide +kernel, by decide +kernel⟩, List.mem_of_getElem? (i := 463) (by decide +kernel), List.mem_of_getElem? (i := 592) (by decide +kernel), List.mem_of_getElem? (i := 593) (by decide +kernel)⟩
theorem lw_p11 : lw_okq (⟨"MailAgentModel", "find", "(I)I"⟩, 24) := ⟨⟨by decide +kernel, by decide +kernel⟩, List.mem_of_getElem? (i := 463) (by decide +kernel), List.mem_of_getElem? (i := 601) (by decide +kernel), List.mem_of_getElem? (i := 602) (by decide +kernel)⟩
theorem lw_p12 : lw_okq (⟨"MailAgentModel", "attempt", "(I)I"⟩, 24) := ⟨⟨by decide +kernel, by decide +kernel⟩, List.mem_of_getElem? (i := 463) (by decide +kernel), List.mem_of_getElem? (i := 605) (by decide +kernel), List.mem_of_getElem? (i := 606) (by decide +kernel)⟩
theorem lw_p13 : lw_okq (⟨"MailAgentModel", "carrier", "(I)I"⟩, 24) := ⟨⟨by decide +kernel, by decide +kernel⟩, List.mem_of_getElem? (i := 463) (by decide +kernel), List.mem_of_getElem? (i := 609) (by decide +kernel), List.mem_of_getElem? (i := 610) (by decide +kernel)⟩
theorem lw_p14 : lw_okq (⟨"MailAgentModel", "mark", "(II)V"⟩, 24) := ⟨⟨by decide +kernel, by decide +kernel⟩, List.mem_of_getElem? (i := 463) (by decide +kernel), List.mem_of_getElem? (i := 613) (by decide +kernel), List.mem_of_getElem? (i := 614) (by decide +kernel)⟩
theorem lw_p15 : lw_okq (⟨"MailAgentModel", "deliver", "(II)V"⟩, 24) := ⟨⟨by decide +kernel, by decide +kernel⟩, List.mem_of_getElem? (i := 463) (by decide +kernel), List.mem_of_getElem? (i := 617) (by decide +kernel), List.mem_of_getElem? (i := 618) (by decide +kernel)⟩
def lw_privs_1 : List (MethodName × Nat) := [(⟨"MailAgent$Aliases", "reachedFrom", "(I)J"⟩, 1), (⟨"MailAgent", "makeDurable", "()V"⟩, 13), (⟨"MailAgent", "tryRecipients", "(LMailAgent$Message;)I"⟩, 13), (⟨"MailAgent", "carry", "(I)I"⟩, 13), (⟨"MailAgent", "failOverdue", "(LMailAgent$Message;)V"⟩, 13), (⟨"MailAgent", "settle", "(LMailAgent$Message;)Z"⟩, 13), (⟨"MailAgent", "keepChangesFew", "()V"⟩, 13), (⟨"MailAgentModel", "reached", "(I)J"⟩, 24), (⟨"MailAgentModel", "named", "(I)Z"⟩, 24), (⟨"MailAgentModel", "costs", "()I"⟩, 24), (⟨"MailAgentModel", "settle", "()I"⟩, 24), (⟨"MailAgentModel", "find", "(I)I"⟩, 24), (⟨"MailAgentModel", "attempt", "(I)I"⟩, 24), (⟨"MailAgentModel", "carrier", "(I)I"⟩, 24), (⟨"MailAgentModel", "mark", "(II)V"⟩, 24), (⟨"MailAgentModel", "deliver", "(II)V"⟩, 24)]
theorem lw_r1 : ∀ q ∈ lw_privs_1, lw_okq q := List.forall_mem_cons.mpr ⟨lw_p0, List.forall_mem_cons.mpr ⟨lw_p1, List.forall_mem_cons.mpr ⟨lw_p2, List.forall_mem_cons.mpr ⟨lw_p3, List.forall_mem_cons.mpr ⟨lw_p4, List.forall_mem_cons.mpr ⟨lw_p5, List.forall_mem_cons.mpr ⟨lw_p6, List.forall_mem_cons.mpr ⟨lw_p7, List.forall_mem_cons.mpr ⟨lw_p8, List.forall_mem_cons.mpr ⟨lw_p9, List.forall_mem_cons.mpr ⟨lw_p10, List.forall_mem_cons.mpr ⟨lw_p11, List.forall_mem_cons.mpr ⟨lw_p12, List.forall_mem_cons.mpr ⟨lw_p13, List.forall_mem_cons.mpr ⟨lw_p14, List.forall_mem_cons.mpr ⟨lw_p15, fun _ h => absurd h List.not_mem_nil⟩⟩⟩⟩⟩⟩⟩⟩⟩⟩⟩⟩⟩⟩⟩⟩
theorem lw_p16 : lw_okq (⟨"MailAgentModel", "states", "(II)I"⟩, 24) := ⟨⟨by decide +kernel, by decide +kernel⟩, List.mem_of_getElem? (i := 463) (by decide +kernel), List.mem_of_getElem? (i := 621) (by decide +kernel), List.mem_of_getElem? (i := 622) (by decide +kernel)⟩
theorem lw_p17 : lw_okq (⟨"MailAgentModel", "remove", "(I)V"⟩, 24) := ⟨⟨by decide +kernel, by decide +kernel⟩, List.mem_of_getElem? (i := 463) (by decide +kernel), List.mem_of_getElem? (i := 625) (by decide +kernel), List.mem_of_getElem? (i := 626) (by decide +kernel)⟩
theorem lw_p18 : lw_okq (⟨"MailAgentModel", "close", "()V"⟩, 24) := ⟨⟨by decide +kernel, by decide +kernel⟩, List.mem_of_getElem? (i := 463) (by decide +kernel), List.mem_of_getElem? (i := 629) (by decide +kernel), List.mem_of_getElem? (i := 630) (by decide +kernel)⟩
def lw_privs_2 : List (MethodName × Nat) := [(⟨"MailAgentModel", "states", "(II)I"⟩, 24), (⟨"MailAgentModel", "remove", "(I)V"⟩, 24), (⟨"MailAgentModel", "close", "()V"⟩, 24)]
theorem lw_r2 : ∀ q ∈ lw_privs_2, lw_okq q := List.forall_mem_cons.mpr ⟨lw_p16, List.forall_mem_cons.mpr ⟨lw_p17, List.forall_mem_cons.mpr ⟨lw_p18, fun _ h => absurd h List.not_mem_nil⟩⟩⟩
def lw_privs : List (MethodName × Nat) := lw_privs_1 ++ (lw_privs_2)
def lw_tbl : List Cond := k2_sels lw_privs ++ tables_1
theorem lw_privs_ok : ∀ q ∈ lw_privs, lw_okq q := by
  show ∀ q ∈ lw_privs_1 ++ (lw_privs_2), lw_okq q
  exact List.forall_mem_append.mpr ⟨lw_r1, lw_r2⟩
/-! names: classes with their fields, the tables' good words, methods -/
def T_Al : u_T := fun k => match k with
  | _ => ("MailAgent$Aliases", "goals", "[J", true)
def ty_Al : Nat → FieldType := fun k => match k with
  | _ => .array .long
theorem nm_Al : ∀ a, a < 1 → ∀ b, b < 1 → a ≠ b → (T_Al a).2.1 ≠ (T_Al b).2.1 := by decide +kernel
theorem tyok_Al : ∀ k, k < 1 → parseFieldDescriptor (T_Al k).2.2.1 = some (ty_Al k) := by decide +kernel
def T_De : u_T := fun k => match k with
  | 0 => ("MailAgent$Deliveries", "letters", "[I", true)
  | 1 => ("MailAgent$Deliveries", "reports", "[I", true)
  | 2 => ("MailAgent$Deliveries", "lastNumbers", "[I", true)
  | _ => ("MailAgent$Deliveries", "carried", "[I", true)
def ty_De : Nat → FieldType := fun k => match k with
  | 0 => .array .int
  | 1 => .array .int
  | 2 => .array .int
  | _ => .array .int
theorem nm_De : ∀ a, a < 4 → ∀ b, b < 4 → a ≠ b → (T_De a).2.1 ≠ (T_De b).2.1 := by decide +kernel
theorem tyok_De : ∀ k, k < 4 → parseFieldDescriptor (T_De k).2.2.1 = some (ty_De k) := by decide +kernel
def T_Me : u_T := fun k => match k with
  | 0 => ("MailAgent$Message", "recipients", "LMailAgent$Recipients;", true)
  | 1 => ("MailAgent$Message", "number", "I", false)
  | 2 => ("MailAgent$Message", "sender", "I", false)
  | 3 => ("MailAgent$Message", "size", "I", false)
  | 4 => ("MailAgent$Message", "start", "I", false)
  | 5 => ("MailAgent$Message", "due", "I", false)
  | 6 => ("MailAgent$Message", "gap", "I", false)
  | _ => ("MailAgent$Message", "isReport", "Z", false)
def ty_Me : Nat → FieldType := fun k => match k with
  | 0 => .object "MailAgent$Recipients"
  | 1 => .int
  | 2 => .int
  | 3 => .int
  | 4 => .int
  | 5 => .int
  | 6 => .int
  | _ => .boolean
theorem nm_Me : ∀ a, a < 8 → ∀ b, b < 8 → a ≠ b → (T_Me a).2.1 ≠ (T_Me b).2.1 := by decide +kernel
theorem tyok_Me : ∀ k, k < 8 → parseFieldDescriptor (T_Me k).2.2.1 = some (ty_Me k) := by decide +kernel
def T_Qu : u_T := fun k => match k with
  | 0 => ("MailAgent$Queue", "messages", "[LMailAgent$Message;", true)
  | _ => ("MailAgent$Queue", "size", "I", false)
def ty_Qu : Nat → FieldType := fun k => match k with
  | 0 => .array (.object "MailAgent$Message")
  | _ => .int
theorem nm_Qu : ∀ a, a < 2 → ∀ b, b < 2 → a ≠ b → (T_Qu a).2.1 ≠ (T_Qu b).2.1 := by decide +kernel
theorem tyok_Qu : ∀ k, k < 2 → parseFieldDescriptor (T_Qu k).2.2.1 = some (ty_Qu k) := by decide +kernel
def T_Re : u_T := fun k => match k with
  | 0 => ("MailAgent$Recipients", "addresses", "[I", true)
  | 1 => ("MailAgent$Recipients", "states", "[I", true)
  | _ => ("MailAgent$Recipients", "size", "I", false)
def ty_Re : Nat → FieldType := fun k => match k with
  | 0 => .array .int
  | 1 => .array .int
  | _ => .int
theorem nm_Re : ∀ a, a < 3 → ∀ b, b < 3 → a ≠ b → (T_Re a).2.1 ≠ (T_Re b).2.1 := by decide +kernel
theorem tyok_Re : ∀ k, k < 3 → parseFieldDescriptor (T_Re k).2.2.1 = some (ty_Re k) := by decide +kernel
def T_Ro : u_T := fun k => match k with
  | 0 => ("MailAgent$Routes", "hosts", "[I", true)
  | 1 => ("MailAgent$Routes", "preferences", "[I", true)
  | _ => ("MailAgent$Routes", "size", "I", false)
def ty_Ro : Nat → FieldType := fun k => match k with
  | 0 => .array .int
  | 1 => .array .int
  | _ => .int
theorem nm_Ro : ∀ a, a < 3 → ∀ b, b < 3 → a ≠ b → (T_Ro a).2.1 ≠ (T_Ro b).2.1 := by decide +kernel
theorem tyok_Ro : ∀ k, k < 3 → parseFieldDescriptor (T_Ro k).2.2.1 = some (ty_Ro k) := by decide +kernel
def T_Tr : u_T := fun k => match k with
  | 0 => ("MailAgent$Transaction", "recipients", "LMailAgent$Recipients;", true)
  | 1 => ("MailAgent$Transaction", "open", "Z", false)
  | _ => ("MailAgent$Transaction", "sender", "I", false)
def ty_Tr : Nat → FieldType := fun k => match k with
  | 0 => .object "MailAgent$Recipients"
  | 1 => .boolean
  | _ => .int
theorem nm_Tr : ∀ a, a < 3 → ∀ b, b < 3 → a ≠ b → (T_Tr a).2.1 ≠ (T_Tr b).2.1 := by decide +kernel
theorem tyok_Tr : ∀ k, k < 3 → parseFieldDescriptor (T_Tr k).2.2.1 = some (ty_Tr k) := by decide +kernel
def T_Ma : u_T := fun k => match k with
  | 0 => ("MailAgent", "minGap", "I", true)
  | 1 => ("MailAgent", "maxGap", "I", true)
  | 2 => ("MailAgent", "giveUp", "I", true)
  | 3 => ("MailAgent", "aliases", "LMailAgent$Aliases;", true)
  | 4 => ("MailAgent", "routes", "[LMailAgent$Routes;", true)
  | 5 => ("MailAgent", "hostStates", "[I", true)
  | 6 => ("MailAgent", "transaction", "LMailAgent$Transaction;", true)
  | 7 => ("MailAgent", "queue", "LMailAgent$Queue;", true)
  | 8 => ("MailAgent", "durable", "LMailAgent$Queue;", true)
  | 9 => ("MailAgent", "deliveries", "LMailAgent$Deliveries;", true)
  | 10 => ("MailAgent", "clock", "I", false)
  | 11 => ("MailAgent", "lastNumber", "I", false)
  | _ => ("MailAgent", "changes", "I", false)
def ty_Ma : Nat → FieldType := fun k => match k with
  | 0 => .int
  | 1 => .int
  | 2 => .int
  | 3 => .object "MailAgent$Aliases"
  | 4 => .array (.object "MailAgent$Routes")
  | 5 => .array .int
  | 6 => .object "MailAgent$Transaction"
  | 7 => .object "MailAgent$Queue"
  | 8 => .object "MailAgent$Queue"
  | 9 => .object "MailAgent$Deliveries"
  | 10 => .int
  | 11 => .int
  | _ => .int
theorem nm_Ma : ∀ a, a < 13 → ∀ b, b < 13 → a ≠ b → (T_Ma a).2.1 ≠ (T_Ma b).2.1 := by decide +kernel
theorem tyok_Ma : ∀ k, k < 13 → parseFieldDescriptor (T_Ma k).2.2.1 = some (ty_Ma k) := by decide +kernel
def T_Mo : u_T := fun k => match k with
  | 0 => ("MailAgentModel", "minGap", "I", true)
  | 1 => ("MailAgentModel", "maxGap", "I", true)
  | 2 => ("MailAgentModel", "giveUp", "I", true)
  | 3 => ("MailAgentModel", "goals", "[I", true)
  | 4 => ("MailAgentModel", "goalCount", "[I", true)
  | 5 => ("MailAgentModel", "routeHost", "[I", true)
  | 6 => ("MailAgentModel", "routeKey", "[I", true)
  | 7 => ("MailAgentModel", "routeCount", "[I", true)
  | 8 => ("MailAgentModel", "hosts", "[I", true)
  | 9 => ("MailAgentModel", "clock", "I", false)
  | 10 => ("MailAgentModel", "last", "I", false)
  | 11 => ("MailAgentModel", "queue", "[I", true)
  | 12 => ("MailAgentModel", "queued", "I", false)
  | 13 => ("MailAgentModel", "safe", "[I", true)
  | 14 => ("MailAgentModel", "safeQueued", "I", false)
  | 15 => ("MailAgentModel", "changes", "I", false)
  | 16 => ("MailAgentModel", "open", "Z", false)
  | 17 => ("MailAgentModel", "from", "I", false)
  | 18 => ("MailAgentModel", "to", "[I", true)
  | 19 => ("MailAgentModel", "toCount", "I", false)
  | 20 => ("MailAgentModel", "letters", "[I", true)
  | 21 => ("MailAgentModel", "reports", "[I", true)
  | 22 => ("MailAgentModel", "latest", "[I", true)
  | _ => ("MailAgentModel", "carried", "[I", true)
def ty_Mo : Nat → FieldType := fun k => match k with
  | 0 => .int
  | 1 => .int
  | 2 => .int
  | 3 => .array .int
  | 4 => .array .int
  | 5 => .array .int
  | 6 => .array .int
  | 7 => .array .int
  | 8 => .array .int
  | 9 => .int
  | 10 => .int
  | 11 => .array .int
  | 12 => .int
  | 13 => .array .int
  | 14 => .int
  | 15 => .int
  | 16 => .boolean
  | 17 => .int
  | 18 => .array .int
  | 19 => .int
  | 20 => .array .int
  | 21 => .array .int
  | 22 => .array .int
  | _ => .array .int
theorem nm_Mo : ∀ a, a < 24 → ∀ b, b < 24 → a ≠ b → (T_Mo a).2.1 ≠ (T_Mo b).2.1 := by decide +kernel
theorem tyok_Mo : ∀ k, k < 24 → parseFieldDescriptor (T_Mo k).2.2.1 = some (ty_Mo k) := by decide +kernel
abbrev jCl : List vw_C := [("MailAgent$Aliases", T_Al, 1), ("MailAgent$Deliveries", T_De, 4), ("MailAgent$Message", T_Me, 8), ("MailAgent$Queue", T_Qu, 2), ("MailAgent$Recipients", T_Re, 3), ("MailAgent$Routes", T_Ro, 3), ("MailAgent$Transaction", T_Tr, 3), ("MailAgent", T_Ma, 13), ("MailAgentModel", T_Mo, 24)]
def jTG : List Cond := lw_tbl.filter goodWord
theorem jTG_good : ∀ w ∈ jTG, goodWord w = true := fun w hw => (List.mem_filter.mp hw).2
def jTys (ta : Nat → ClassId) : List (ClassId × FieldType) := [(ta 0, .int), (ta 1, .long), (ta 2, .object "MailAgent$Message"), (ta 3, .object "MailAgent$Routes")]
def jNM : List (String × Nat × MethodName × String) := [("MailAgent", 25, ⟨"MailAgent$Aliases", "<init>", "()V"⟩, "MailAgent"), ("MailAgent", 36, ⟨"MailAgent$Routes", "<init>", "()V"⟩, "MailAgent"), ("MailAgent", 43, ⟨"MailAgent$Transaction", "<init>", "()V"⟩, "MailAgent"), ("MailAgent$Transaction", 11, ⟨"MailAgent$Recipients", "<init>", "()V"⟩, "MailAgent"), ("MailAgent$Queue", 21, ⟨"MailAgent$Message", "<init>", "()V"⟩, "MailAgent"), ("MailAgent$Message", 11, ⟨"MailAgent$Recipients", "<init>", "()V"⟩, "MailAgent"), ("MailAgent", 60, ⟨"MailAgent$Deliveries", "<init>", "()V"⟩, "MailAgent"), ("MailAgent$Queue", 33, ⟨"MailAgent", "costOf", "(II)I"⟩, "MailAgent")]
def jAO : List String := ["MailAgent$Routes", "MailAgent$Message"]
abbrev jM0 : Type := MethodName × ByteArray × Nat × Option FieldType
abbrev M_Ma_init : jM0 := (⟨"MailAgent", "<init>", "(III)V"⟩, prog_1_method_1_code, 5, none)
abbrev M_Ma_clamp : jM0 := (⟨"MailAgent", "clamp", "(III)I"⟩, prog_1_method_21_code, 3, (some .int))
abbrev M_Mt_min : jM0 := (⟨"java/lang/Math", "min", "(II)I"⟩, prog_12_method_69_code, 2, (some .int))
abbrev M_Mt_max : jM0 := (⟨"java/lang/Math", "max", "(II)I"⟩, prog_12_method_65_code, 2, (some .int))
abbrev M_Al_init : jM0 := (⟨"MailAgent$Aliases", "<init>", "()V"⟩, prog_2_method_1_code, 1, none)
abbrev M_Ro_init : jM0 := (⟨"MailAgent$Routes", "<init>", "()V"⟩, prog_7_method_1_code, 1, none)
abbrev M_Tr_init : jM0 := (⟨"MailAgent$Transaction", "<init>", "()V"⟩, prog_8_method_1_code, 1, none)
abbrev M_Re_init : jM0 := (⟨"MailAgent$Recipients", "<init>", "()V"⟩, prog_6_method_1_code, 1, none)
abbrev M_Qu_init : jM0 := (⟨"MailAgent$Queue", "<init>", "()V"⟩, prog_5_method_1_code, 2, none)
abbrev M_Me_init : jM0 := (⟨"MailAgent$Message", "<init>", "()V"⟩, prog_4_method_1_code, 1, none)
abbrev M_De_init : jM0 := (⟨"MailAgent$Deliveries", "<init>", "()V"⟩, prog_3_method_1_code, 1, none)
abbrev M_Ma_alias : jM0 := (⟨"MailAgent", "alias", "(II)I"⟩, prog_1_method_2_code, 3, (some .int))
abbrev M_Ma_isBelow : jM0 := (⟨"MailAgent", "isBelow", "(II)Z"⟩, prog_1_method_22_code, 2, (some .boolean))
abbrev M_Al_hasRoomFor : jM0 := (⟨"MailAgent$Aliases", "hasRoomFor", "(II)Z"⟩, prog_2_method_2_code, 3, (some .boolean))
abbrev M_Lo_bitCount : jM0 := (⟨"java/lang/Long", "bitCount", "(J)I"⟩, prog_11_method_50_code, 2, (some .int))
abbrev M_Al_add : jM0 := (⟨"MailAgent$Aliases", "add", "(II)I"⟩, prog_2_method_3_code, 3, (some .int))
abbrev M_Ma_unalias : jM0 := (⟨"MailAgent", "unalias", "(I)I"⟩, prog_1_method_3_code, 2, (some .int))
abbrev M_Al_clear : jM0 := (⟨"MailAgent$Aliases", "clear", "(I)I"⟩, prog_2_method_4_code, 3, (some .int))
abbrev M_Ma_route : jM0 := (⟨"MailAgent", "route", "(III)I"⟩, prog_1_method_4_code, 4, (some .int))
abbrev M_Ma_isForeign : jM0 := (⟨"MailAgent", "isForeign", "(I)Z"⟩, prog_1_method_23_code, 1, (some .boolean))
abbrev M_Ro_hasRoomFor : jM0 := (⟨"MailAgent$Routes", "hasRoomFor", "(I)Z"⟩, prog_7_method_2_code, 3, (some .boolean))
abbrev M_Ro_add : jM0 := (⟨"MailAgent$Routes", "add", "(II)I"⟩, prog_7_method_3_code, 4, (some .int))
abbrev M_Ma_unroute : jM0 := (⟨"MailAgent", "unroute", "(I)I"⟩, prog_1_method_5_code, 2, (some .int))
abbrev M_Ro_clear : jM0 := (⟨"MailAgent$Routes", "clear", "()I"⟩, prog_7_method_4_code, 2, (some .int))
abbrev M_Ma_host : jM0 := (⟨"MailAgent", "host", "(II)I"⟩, prog_1_method_6_code, 4, (some .int))
abbrev M_Ma_from : jM0 := (⟨"MailAgent", "from", "(I)I"⟩, prog_1_method_7_code, 2, (some .int))
abbrev M_Tr_start : jM0 := (⟨"MailAgent$Transaction", "start", "(I)V"⟩, prog_8_method_2_code, 2, none)
abbrev M_Ma_to : jM0 := (⟨"MailAgent", "to", "(I)I"⟩, prog_1_method_8_code, 7, (some .int))
abbrev M_Al_finalsOf : jM0 := (⟨"MailAgent$Aliases", "finalsOf", "(I)J"⟩, prog_2_method_5_code, 5, (some .long))
abbrev M_Al_reachedFrom : jM0 := (⟨"MailAgent$Aliases", "reachedFrom", "(I)J"⟩, prog_2_method_6_code, 6, (some .long))
abbrev M_Re_asBits : jM0 := (⟨"MailAgent$Recipients", "asBits", "()J"⟩, prog_6_method_4_code, 4, (some .long))
abbrev M_Re_addRising : jM0 := (⟨"MailAgent$Recipients", "addRising", "(J)V"⟩, prog_6_method_3_code, 4, none)
abbrev M_Re_add : jM0 := (⟨"MailAgent$Recipients", "add", "(I)V"⟩, prog_6_method_2_code, 2, none)
abbrev M_Ma_data : jM0 := (⟨"MailAgent", "data", "(I)I"⟩, prog_1_method_9_code, 4, (some .int))
abbrev M_Ma_costOf : jM0 := (⟨"MailAgent", "costOf", "(II)I"⟩, prog_1_method_24_code, 2, (some .int))
abbrev M_Qu_costs : jM0 := (⟨"MailAgent$Queue", "costs", "()I"⟩, prog_5_method_5_code, 3, (some .int))
abbrev M_Qu_addSpare : jM0 := (⟨"MailAgent$Queue", "addSpare", "()LMailAgent$Message;"⟩, prog_5_method_2_code, 2, (some (.object "MailAgent$Message")))
abbrev M_Me_accept : jM0 := (⟨"MailAgent$Message", "accept", "(IILMailAgent$Transaction;)V"⟩, prog_4_method_2_code, 4, none)
abbrev M_Re_copyFrom : jM0 := (⟨"MailAgent$Recipients", "copyFrom", "(LMailAgent$Recipients;)V"⟩, prog_6_method_8_code, 3, none)
abbrev M_Me_schedule : jM0 := (⟨"MailAgent$Message", "schedule", "(II)V"⟩, prog_4_method_3_code, 3, none)
abbrev M_Ma_makeDurable : jM0 := (⟨"MailAgent", "makeDurable", "()V"⟩, prog_1_method_30_code, 1, none)
abbrev M_Qu_copyFrom : jM0 := (⟨"MailAgent$Queue", "copyFrom", "(LMailAgent$Queue;)V"⟩, prog_5_method_7_code, 3, none)
abbrev M_Me_copyFrom : jM0 := (⟨"MailAgent$Message", "copyFrom", "(LMailAgent$Message;)V"⟩, prog_4_method_6_code, 2, none)
abbrev M_Ma_tick : jM0 := (⟨"MailAgent", "tick", "(I)I"⟩, prog_1_method_10_code, 7, (some .int))
abbrev M_Ma_tryRecipients : jM0 := (⟨"MailAgent", "tryRecipients", "(LMailAgent$Message;)I"⟩, prog_1_method_25_code, 7, (some .int))
abbrev M_Ma_carry : jM0 := (⟨"MailAgent", "carry", "(I)I"⟩, prog_1_method_26_code, 6, (some .int))
abbrev M_De_note : jM0 := (⟨"MailAgent$Deliveries", "note", "(ILMailAgent$Message;)V"⟩, prog_3_method_2_code, 3, none)
abbrev M_Ma_failOverdue : jM0 := (⟨"MailAgent", "failOverdue", "(LMailAgent$Message;)V"⟩, prog_1_method_27_code, 2, none)
abbrev M_Re_failWaiting : jM0 := (⟨"MailAgent$Recipients", "failWaiting", "()I"⟩, prog_6_method_7_code, 3, (some .int))
abbrev M_Ma_settle : jM0 := (⟨"MailAgent", "settle", "(LMailAgent$Message;)Z"⟩, prog_1_method_28_code, 2, (some .boolean))
abbrev M_Re_inState : jM0 := (⟨"MailAgent$Recipients", "inState", "(I)I"⟩, prog_6_method_6_code, 4, (some .int))
abbrev M_Me_putOff : jM0 := (⟨"MailAgent$Message", "putOff", "(II)V"⟩, prog_4_method_4_code, 3, none)
abbrev M_Me_becomeReport : jM0 := (⟨"MailAgent$Message", "becomeReport", "()V"⟩, prog_4_method_5_code, 1, none)
abbrev M_Qu_removeAt : jM0 := (⟨"MailAgent$Queue", "removeAt", "(I)V"⟩, prog_5_method_3_code, 4, none)
abbrev M_Ma_keepChangesFew : jM0 := (⟨"MailAgent", "keepChangesFew", "()V"⟩, prog_1_method_29_code, 1, none)
abbrev M_Ma_sync : jM0 := (⟨"MailAgent", "sync", "()I"⟩, prog_1_method_11_code, 2, (some .int))
abbrev M_Ma_crash : jM0 := (⟨"MailAgent", "crash", "()I"⟩, prog_1_method_12_code, 2, (some .int))
abbrev M_Ma_drop : jM0 := (⟨"MailAgent", "drop", "(I)I"⟩, prog_1_method_13_code, 3, (some .int))
abbrev M_Qu_indexOf : jM0 := (⟨"MailAgent$Queue", "indexOf", "(I)I"⟩, prog_5_method_4_code, 3, (some .int))
abbrev M_Ma_hurry : jM0 := (⟨"MailAgent", "hurry", "(I)I"⟩, prog_1_method_14_code, 3, (some .int))
abbrev M_Ma_count : jM0 := (⟨"MailAgent", "count", "(I)I"⟩, prog_1_method_15_code, 2, (some .int))
abbrev M_Qu_waitingRecipients : jM0 := (⟨"MailAgent$Queue", "waitingRecipients", "()I"⟩, prog_5_method_6_code, 3, (some .int))
abbrev M_Ma_message : jM0 := (⟨"MailAgent", "message", "(I)I"⟩, prog_1_method_16_code, 2, (some .int))
abbrev M_Ma_status : jM0 := (⟨"MailAgent", "status", "(II)I"⟩, prog_1_method_17_code, 4, (some .int))
abbrev M_Re_stateOf : jM0 := (⟨"MailAgent$Recipients", "stateOf", "(I)I"⟩, prog_6_method_5_code, 3, (some .int))
abbrev M_Ma_sender : jM0 := (⟨"MailAgent", "sender", "(I)I"⟩, prog_1_method_18_code, 3, (some .int))
abbrev M_Ma_due : jM0 := (⟨"MailAgent", "due", "(I)I"⟩, prog_1_method_19_code, 3, (some .int))
abbrev M_Ma_received : jM0 := (⟨"MailAgent", "received", "(II)I"⟩, prog_1_method_20_code, 3, (some .int))
abbrev M_La_cell : jM0 := (⟨"MailAgentLaw", "cell", "([II)I"⟩, method_2_code, 2, (some .int))
abbrev M_Mo_init : jM0 := (⟨"MailAgentModel", "<init>", "(III)V"⟩, prog_10_method_1_code, 4, none)
abbrev M_Mo_within : jM0 := (⟨"MailAgentModel", "within", "(III)I"⟩, prog_10_method_2_code, 3, (some .int))
abbrev M_Mo_alias : jM0 := (⟨"MailAgentModel", "alias", "(II)I"⟩, prog_10_method_4_code, 4, (some .int))
abbrev M_Mo_out : jM0 := (⟨"MailAgentModel", "out", "(II)Z"⟩, prog_10_method_3_code, 2, (some .boolean))
abbrev M_Mo_unalias : jM0 := (⟨"MailAgentModel", "unalias", "(I)I"⟩, prog_10_method_5_code, 3, (some .int))
abbrev M_Mo_route : jM0 := (⟨"MailAgentModel", "route", "(III)I"⟩, prog_10_method_6_code, 6, (some .int))
abbrev M_Mo_unroute : jM0 := (⟨"MailAgentModel", "unroute", "(I)I"⟩, prog_10_method_7_code, 3, (some .int))
abbrev M_Mo_host : jM0 := (⟨"MailAgentModel", "host", "(II)I"⟩, prog_10_method_8_code, 4, (some .int))
abbrev M_Mo_from : jM0 := (⟨"MailAgentModel", "from", "(I)I"⟩, prog_10_method_9_code, 2, (some .int))
abbrev M_Mo_to : jM0 := (⟨"MailAgentModel", "to", "(I)I"⟩, prog_10_method_12_code, 8, (some .int))
abbrev M_Mo_reached : jM0 := (⟨"MailAgentModel", "reached", "(I)J"⟩, prog_10_method_10_code, 6, (some .long))
abbrev M_Mo_named : jM0 := (⟨"MailAgentModel", "named", "(I)Z"⟩, prog_10_method_11_code, 3, (some .boolean))
abbrev M_Mo_data : jM0 := (⟨"MailAgentModel", "data", "(I)I"⟩, prog_10_method_15_code, 4, (some .int))
abbrev M_Mo_costs : jM0 := (⟨"MailAgentModel", "costs", "()I"⟩, prog_10_method_13_code, 3, (some .int))
abbrev M_Mo_settle : jM0 := (⟨"MailAgentModel", "settle", "()I"⟩, prog_10_method_14_code, 3, (some .int))
abbrev M_Mo_tick : jM0 := (⟨"MailAgentModel", "tick", "(I)I"⟩, prog_10_method_23_code, 5, (some .int))
abbrev M_Mo_find : jM0 := (⟨"MailAgentModel", "find", "(I)I"⟩, prog_10_method_26_code, 3, (some .int))
abbrev M_Mo_attempt : jM0 := (⟨"MailAgentModel", "attempt", "(I)I"⟩, prog_10_method_20_code, 6, (some .int))
abbrev M_Mo_carrier : jM0 := (⟨"MailAgentModel", "carrier", "(I)I"⟩, prog_10_method_16_code, 6, (some .int))
abbrev M_Mo_mark : jM0 := (⟨"MailAgentModel", "mark", "(II)V"⟩, prog_10_method_18_code, 3, none)
abbrev M_Mo_deliver : jM0 := (⟨"MailAgentModel", "deliver", "(II)V"⟩, prog_10_method_19_code, 3, none)
abbrev M_Mo_states : jM0 := (⟨"MailAgentModel", "states", "(II)I"⟩, prog_10_method_17_code, 5, (some .int))
abbrev M_Mo_remove : jM0 := (⟨"MailAgentModel", "remove", "(I)V"⟩, prog_10_method_21_code, 3, none)
abbrev M_Mo_close : jM0 := (⟨"MailAgentModel", "close", "()V"⟩, prog_10_method_22_code, 1, none)
abbrev M_Mo_sync : jM0 := (⟨"MailAgentModel", "sync", "()I"⟩, prog_10_method_24_code, 1, (some .int))
abbrev M_Mo_crash : jM0 := (⟨"MailAgentModel", "crash", "()I"⟩, prog_10_method_25_code, 2, (some .int))
abbrev M_Mo_drop : jM0 := (⟨"MailAgentModel", "drop", "(I)I"⟩, prog_10_method_27_code, 3, (some .int))
abbrev M_Mo_hurry : jM0 := (⟨"MailAgentModel", "hurry", "(I)I"⟩, prog_10_method_28_code, 3, (some .int))
abbrev M_Mo_count : jM0 := (⟨"MailAgentModel", "count", "(I)I"⟩, prog_10_method_29_code, 4, (some .int))
abbrev M_Mo_message : jM0 := (⟨"MailAgentModel", "message", "(I)I"⟩, prog_10_method_30_code, 2, (some .int))
abbrev M_Mo_status : jM0 := (⟨"MailAgentModel", "status", "(II)I"⟩, prog_10_method_31_code, 5, (some .int))
abbrev M_Mo_sender : jM0 := (⟨"MailAgentModel", "sender", "(I)I"⟩, prog_10_method_32_code, 3, (some .int))
abbrev M_Mo_due : jM0 := (⟨"MailAgentModel", "due", "(I)I"⟩, prog_10_method_33_code, 3, (some .int))
abbrev M_Mo_received : jM0 := (⟨"MailAgentModel", "received", "(II)I"⟩, prog_10_method_34_code, 3, (some .int))
end
section
/-! the tables' words, each by its place -/
theorem jin_1 {i : Nat} {w : Cond} (hi : tables_1_1[i]? = some w) (hg : goodWord w = true) : w ∈ jTG := by
  have h := List.mem_of_getElem? hi
  exact List.mem_filter.mpr ⟨List.mem_append_right _ (List.mem_append_left _ h), hg⟩
theorem jin_2 {i : Nat} {w : Cond} (hi : tables_1_2[i]? = some w) (hg : goodWord w = true) : w ∈ jTG := by
  have h := List.mem_of_getElem? hi
  exact List.mem_filter.mpr ⟨List.mem_append_right _ (List.mem_append_right _ (List.mem_append_left _ h)), hg⟩
theorem jin_3 {i : Nat} {w : Cond} (hi : tables_1_3[i]? = some w) (hg : goodWord w = true) : w ∈ jTG := by
  have h := List.mem_of_getElem? hi
  exact List.mem_filter.mpr ⟨List.mem_append_right _ (List.mem_append_right _ (List.mem_append_right _ (h))), hg⟩
theorem w_1_0 : (Cond.initialized "MailAgentLaw") ∈ jTG := jin_1 (i := 0) rfl rfl
theorem w_1_1 : (Cond.initialized "MailAgent") ∈ jTG := jin_1 (i := 1) rfl rfl
theorem w_1_2 : (Cond.initialized "java/lang/Math") ∈ jTG := jin_1 (i := 2) rfl rfl
theorem w_1_3 : (Cond.initialized "MailAgent$Aliases") ∈ jTG := jin_1 (i := 3) rfl rfl
theorem w_1_4 : (Cond.initialized "MailAgent$Routes") ∈ jTG := jin_1 (i := 4) rfl rfl
theorem w_1_5 : (Cond.initialized "MailAgent$Transaction") ∈ jTG := jin_1 (i := 5) rfl rfl
theorem w_1_6 : (Cond.initialized "MailAgent$Recipients") ∈ jTG := jin_1 (i := 6) rfl rfl
theorem w_1_7 : (Cond.initialized "MailAgent$Queue") ∈ jTG := jin_1 (i := 7) rfl rfl
theorem w_1_8 : (Cond.initialized "MailAgent$Message") ∈ jTG := jin_1 (i := 8) rfl rfl
theorem w_1_9 : (Cond.initialized "MailAgent$Deliveries") ∈ jTG := jin_1 (i := 9) rfl rfl
theorem w_1_10 : (Cond.initialized "MailAgentModel") ∈ jTG := jin_1 (i := 10) rfl rfl
theorem w_1_11 : (Cond.initialized "java/lang/Long") ∈ jTG := jin_1 (i := 11) rfl rfl
theorem w_1_12 : (Cond.classLink "MailAgentLaw" (7 : Nat) "MailAgent") ∈ jTG := jin_1 (i := 12) rfl rfl
theorem w_1_13 : (Cond.instantiable "MailAgent" (13 : Nat)) ∈ jTG := jin_1 (i := 13) rfl rfl
theorem w_1_14 : (Cond.methodLink "MailAgentLaw" (15 : Nat) ({ cls := "MailAgent", name := "<init>", desc := "(III)V" } : MethodName)) ∈ jTG := jin_1 (i := 14) rfl rfl
theorem w_1_15 : (Cond.instanceMethod ({ cls := "MailAgent", name := "<init>", desc := "(III)V" } : MethodName)) ∈ jTG := jin_1 (i := 15) rfl rfl
theorem w_1_16 : (Cond.code ({ cls := "MailAgent", name := "<init>", desc := "(III)V" } : MethodName) prog_1_method_1_code (5 : Nat) (Option.none : Option FieldType)) ∈ jTG := jin_1 (i := 16) rfl rfl
theorem w_1_17 : (Cond.methodLink "MailAgent" (1 : Nat) ({ cls := "java/lang/Object", name := "<init>", desc := "()V" } : MethodName)) ∈ jTG := jin_1 (i := 17) rfl rfl
theorem w_1_18 : (Cond.instanceMethod ({ cls := "java/lang/Object", name := "<init>", desc := "()V" } : MethodName)) ∈ jTG := jin_1 (i := 18) rfl rfl
theorem w_1_19 : (Cond.code ({ cls := "java/lang/Object", name := "<init>", desc := "()V" } : MethodName) object_method_1_code (1 : Nat) (Option.none : Option FieldType)) ∈ jTG := jin_1 (i := 19) rfl rfl
theorem w_1_20 : (Cond.methodLink "MailAgent" (7 : Nat) ({ cls := "MailAgent", name := "clamp", desc := "(III)I" } : MethodName)) ∈ jTG := jin_1 (i := 20) rfl rfl
theorem w_1_21 : (Cond.static ({ cls := "MailAgent", name := "clamp", desc := "(III)I" } : MethodName)) ∈ jTG := jin_1 (i := 21) rfl rfl
theorem w_1_22 : (Cond.code ({ cls := "MailAgent", name := "clamp", desc := "(III)I" } : MethodName) prog_1_method_21_code (3 : Nat) (Option.some FieldType.int)) ∈ jTG := jin_1 (i := 22) rfl rfl
theorem w_1_23 : (Cond.methodLink "MailAgent" (218 : Nat) ({ cls := "java/lang/Math", name := "min", desc := "(II)I" } : MethodName)) ∈ jTG := jin_1 (i := 23) rfl rfl
theorem w_1_24 : (Cond.static ({ cls := "java/lang/Math", name := "min", desc := "(II)I" } : MethodName)) ∈ jTG := jin_1 (i := 24) rfl rfl
theorem w_1_25 : (Cond.code ({ cls := "java/lang/Math", name := "min", desc := "(II)I" } : MethodName) prog_12_method_69_code (2 : Nat) (Option.some FieldType.int)) ∈ jTG := jin_1 (i := 25) rfl rfl
theorem w_1_26 : (Cond.methodLink "MailAgent" (223 : Nat) ({ cls := "java/lang/Math", name := "max", desc := "(II)I" } : MethodName)) ∈ jTG := jin_1 (i := 26) rfl rfl
theorem w_1_27 : (Cond.static ({ cls := "java/lang/Math", name := "max", desc := "(II)I" } : MethodName)) ∈ jTG := jin_1 (i := 27) rfl rfl
theorem w_1_28 : (Cond.code ({ cls := "java/lang/Math", name := "max", desc := "(II)I" } : MethodName) prog_12_method_65_code (2 : Nat) (Option.some FieldType.int)) ∈ jTG := jin_1 (i := 28) rfl rfl
theorem w_1_29 : (Cond.classLink "MailAgent" (23 : Nat) "MailAgent$Aliases") ∈ jTG := jin_1 (i := 29) rfl rfl
theorem w_1_30 : (Cond.instantiable "MailAgent$Aliases" (1 : Nat)) ∈ jTG := jin_1 (i := 30) rfl rfl
theorem w_1_32 : (Cond.instanceMethod ({ cls := "MailAgent$Aliases", name := "<init>", desc := "()V" } : MethodName)) ∈ jTG := jin_1 (i := 32) rfl rfl
theorem w_1_33 : (Cond.code ({ cls := "MailAgent$Aliases", name := "<init>", desc := "()V" } : MethodName) prog_2_method_1_code (1 : Nat) (Option.none : Option FieldType)) ∈ jTG := jin_1 (i := 33) rfl rfl
theorem w_1_34 : (Cond.methodLink "MailAgent$Aliases" (3 : Nat) ({ cls := "java/lang/Object", name := "<init>", desc := "()V" } : MethodName)) ∈ jTG := jin_1 (i := 34) rfl rfl
theorem w_1_35 : (Cond.fieldLink "MailAgent$Aliases" (9 : Nat) "MailAgent$Aliases" "goals" "[J") ∈ jTG := jin_1 (i := 35) rfl rfl
theorem w_1_36 : (Cond.laysFinal "MailAgent$Aliases" "MailAgent$Aliases" "goals" "[J") ∈ jTG := jin_1 (i := 36) rfl rfl
theorem w_1_39 : (Cond.arrayClass FieldType.long) ∈ jTG := jin_1 (i := 39) rfl rfl
theorem w_1_40 : (Cond.classLink "MailAgent" (30 : Nat) "MailAgent$Routes") ∈ jTG := jin_1 (i := 40) rfl rfl
theorem w_1_42 : (Cond.instantiable "MailAgent$Routes" (3 : Nat)) ∈ jTG := jin_1 (i := 42) rfl rfl
theorem w_1_44 : (Cond.instanceMethod ({ cls := "MailAgent$Routes", name := "<init>", desc := "()V" } : MethodName)) ∈ jTG := jin_1 (i := 44) rfl rfl
theorem w_1_45 : (Cond.code ({ cls := "MailAgent$Routes", name := "<init>", desc := "()V" } : MethodName) prog_7_method_1_code (1 : Nat) (Option.none : Option FieldType)) ∈ jTG := jin_1 (i := 45) rfl rfl
theorem w_1_46 : (Cond.methodLink "MailAgent$Routes" (3 : Nat) ({ cls := "java/lang/Object", name := "<init>", desc := "()V" } : MethodName)) ∈ jTG := jin_1 (i := 46) rfl rfl
theorem w_1_47 : (Cond.fieldLink "MailAgent$Routes" (9 : Nat) "MailAgent$Routes" "hosts" "[I") ∈ jTG := jin_1 (i := 47) rfl rfl
theorem w_1_48 : (Cond.fieldLink "MailAgent" (240 : Nat) "MailAgent$Routes" "hosts" "[I") ∈ jTG := jin_1 (i := 48) rfl rfl
theorem w_1_49 : (Cond.fieldLink "MailAgent$Routes" (15 : Nat) "MailAgent$Routes" "preferences" "[I") ∈ jTG := jin_1 (i := 49) rfl rfl
theorem w_1_50 : (Cond.fieldLink "MailAgent$Routes" (18 : Nat) "MailAgent$Routes" "size" "I") ∈ jTG := jin_1 (i := 50) rfl rfl
theorem w_1_51 : (Cond.fieldLink "MailAgent" (239 : Nat) "MailAgent$Routes" "size" "I") ∈ jTG := jin_1 (i := 51) rfl rfl
theorem w_1_52 : (Cond.laysFinal "MailAgent$Routes" "MailAgent$Routes" "hosts" "[I") ∈ jTG := jin_1 (i := 52) rfl rfl
theorem w_1_54 : (Cond.laysFinal "MailAgent$Routes" "MailAgent$Routes" "preferences" "[I") ∈ jTG := jin_1 (i := 54) rfl rfl
theorem w_1_56 : (Cond.lays "MailAgent$Routes" "MailAgent$Routes" "size" "I") ∈ jTG := jin_1 (i := 56) rfl rfl
theorem w_1_59 : (Cond.arrayClass FieldType.int) ∈ jTG := jin_1 (i := 59) rfl rfl
theorem w_1_60 : (Cond.classLink "MailAgent" (41 : Nat) "MailAgent$Transaction") ∈ jTG := jin_1 (i := 60) rfl rfl
theorem w_1_61 : (Cond.instantiable "MailAgent$Transaction" (3 : Nat)) ∈ jTG := jin_1 (i := 61) rfl rfl
theorem w_1_63 : (Cond.instanceMethod ({ cls := "MailAgent$Transaction", name := "<init>", desc := "()V" } : MethodName)) ∈ jTG := jin_1 (i := 63) rfl rfl
theorem w_1_64 : (Cond.code ({ cls := "MailAgent$Transaction", name := "<init>", desc := "()V" } : MethodName) prog_8_method_1_code (1 : Nat) (Option.none : Option FieldType)) ∈ jTG := jin_1 (i := 64) rfl rfl
theorem w_1_65 : (Cond.methodLink "MailAgent$Transaction" (3 : Nat) ({ cls := "java/lang/Object", name := "<init>", desc := "()V" } : MethodName)) ∈ jTG := jin_1 (i := 65) rfl rfl
theorem w_1_66 : (Cond.classLink "MailAgent$Transaction" (9 : Nat) "MailAgent$Recipients") ∈ jTG := jin_1 (i := 66) rfl rfl
theorem w_1_67 : (Cond.instantiable "MailAgent$Recipients" (3 : Nat)) ∈ jTG := jin_1 (i := 67) rfl rfl
theorem w_1_69 : (Cond.instanceMethod ({ cls := "MailAgent$Recipients", name := "<init>", desc := "()V" } : MethodName)) ∈ jTG := jin_1 (i := 69) rfl rfl
theorem w_1_70 : (Cond.code ({ cls := "MailAgent$Recipients", name := "<init>", desc := "()V" } : MethodName) prog_6_method_1_code (1 : Nat) (Option.none : Option FieldType)) ∈ jTG := jin_1 (i := 70) rfl rfl
theorem w_1_71 : (Cond.methodLink "MailAgent$Recipients" (3 : Nat) ({ cls := "java/lang/Object", name := "<init>", desc := "()V" } : MethodName)) ∈ jTG := jin_1 (i := 71) rfl rfl
theorem w_1_72 : (Cond.fieldLink "MailAgent$Recipients" (9 : Nat) "MailAgent$Recipients" "addresses" "[I") ∈ jTG := jin_1 (i := 72) rfl rfl
theorem w_1_73 : (Cond.fieldLink "MailAgent" (229 : Nat) "MailAgent$Recipients" "addresses" "[I") ∈ jTG := jin_1 (i := 73) rfl rfl
theorem w_1_74 : (Cond.fieldLink "MailAgent$Recipients" (15 : Nat) "MailAgent$Recipients" "states" "[I") ∈ jTG := jin_1 (i := 74) rfl rfl
theorem w_1_75 : (Cond.fieldLink "MailAgent" (226 : Nat) "MailAgent$Recipients" "states" "[I") ∈ jTG := jin_1 (i := 75) rfl rfl
theorem w_1_76 : (Cond.fieldLink "MailAgent$Recipients" (18 : Nat) "MailAgent$Recipients" "size" "I") ∈ jTG := jin_1 (i := 76) rfl rfl
theorem w_1_77 : (Cond.fieldLink "MailAgent$Transaction" (26 : Nat) "MailAgent$Recipients" "size" "I") ∈ jTG := jin_1 (i := 77) rfl rfl
theorem w_1_78 : (Cond.fieldLink "MailAgent$Message" (55 : Nat) "MailAgent$Recipients" "size" "I") ∈ jTG := jin_1 (i := 78) rfl rfl
theorem w_1_79 : (Cond.fieldLink "MailAgent$Queue" (30 : Nat) "MailAgent$Recipients" "size" "I") ∈ jTG := jin_1 (i := 79) rfl rfl
theorem w_1_80 : (Cond.fieldLink "MailAgent" (129 : Nat) "MailAgent$Recipients" "size" "I") ∈ jTG := jin_1 (i := 80) rfl rfl
theorem w_1_81 : (Cond.laysFinal "MailAgent$Recipients" "MailAgent$Recipients" "addresses" "[I") ∈ jTG := jin_1 (i := 81) rfl rfl
theorem w_1_83 : (Cond.laysFinal "MailAgent$Recipients" "MailAgent$Recipients" "states" "[I") ∈ jTG := jin_1 (i := 83) rfl rfl
theorem w_1_85 : (Cond.lays "MailAgent$Recipients" "MailAgent$Recipients" "size" "I") ∈ jTG := jin_1 (i := 85) rfl rfl
theorem w_1_88 : (Cond.fieldLink "MailAgent$Transaction" (12 : Nat) "MailAgent$Transaction" "recipients" "LMailAgent$Recipients;") ∈ jTG := jin_1 (i := 88) rfl rfl
theorem w_1_89 : (Cond.fieldLink "MailAgent$Message" (35 : Nat) "MailAgent$Transaction" "recipients" "LMailAgent$Recipients;") ∈ jTG := jin_1 (i := 89) rfl rfl
theorem w_1_90 : (Cond.fieldLink "MailAgent" (111 : Nat) "MailAgent$Transaction" "recipients" "LMailAgent$Recipients;") ∈ jTG := jin_1 (i := 90) rfl rfl
theorem w_1_91 : (Cond.fieldLink "MailAgent$Transaction" (18 : Nat) "MailAgent$Transaction" "open" "Z") ∈ jTG := jin_1 (i := 91) rfl rfl
theorem w_1_92 : (Cond.fieldLink "MailAgent" (103 : Nat) "MailAgent$Transaction" "open" "Z") ∈ jTG := jin_1 (i := 92) rfl rfl
theorem w_1_93 : (Cond.fieldLink "MailAgent$Transaction" (22 : Nat) "MailAgent$Transaction" "sender" "I") ∈ jTG := jin_1 (i := 93) rfl rfl
theorem w_1_94 : (Cond.fieldLink "MailAgent$Message" (22 : Nat) "MailAgent$Transaction" "sender" "I") ∈ jTG := jin_1 (i := 94) rfl rfl
theorem w_1_95 : (Cond.laysFinal "MailAgent$Transaction" "MailAgent$Transaction" "recipients" "LMailAgent$Recipients;") ∈ jTG := jin_1 (i := 95) rfl rfl
theorem w_1_97 : (Cond.lays "MailAgent$Transaction" "MailAgent$Transaction" "open" "Z") ∈ jTG := jin_1 (i := 97) rfl rfl
theorem w_1_99 : (Cond.lays "MailAgent$Transaction" "MailAgent$Transaction" "sender" "I") ∈ jTG := jin_1 (i := 99) rfl rfl
theorem w_1_102 : (Cond.classLink "MailAgent" (48 : Nat) "MailAgent$Queue") ∈ jTG := jin_1 (i := 102) rfl rfl
theorem w_1_103 : (Cond.instantiable "MailAgent$Queue" (2 : Nat)) ∈ jTG := jin_1 (i := 103) rfl rfl
theorem w_1_104 : (Cond.methodLink "MailAgent" (50 : Nat) ({ cls := "MailAgent$Queue", name := "<init>", desc := "()V" } : MethodName)) ∈ jTG := jin_1 (i := 104) rfl rfl
theorem w_1_105 : (Cond.instanceMethod ({ cls := "MailAgent$Queue", name := "<init>", desc := "()V" } : MethodName)) ∈ jTG := jin_1 (i := 105) rfl rfl
theorem w_1_106 : (Cond.code ({ cls := "MailAgent$Queue", name := "<init>", desc := "()V" } : MethodName) prog_5_method_1_code (2 : Nat) (Option.none : Option FieldType)) ∈ jTG := jin_1 (i := 106) rfl rfl
theorem w_1_107 : (Cond.methodLink "MailAgent$Queue" (3 : Nat) ({ cls := "java/lang/Object", name := "<init>", desc := "()V" } : MethodName)) ∈ jTG := jin_1 (i := 107) rfl rfl
theorem w_1_108 : (Cond.classLink "MailAgent$Queue" (9 : Nat) "MailAgent$Message") ∈ jTG := jin_1 (i := 108) rfl rfl
theorem w_1_110 : (Cond.instantiable "MailAgent$Message" (8 : Nat)) ∈ jTG := jin_1 (i := 110) rfl rfl
theorem w_1_112 : (Cond.instanceMethod ({ cls := "MailAgent$Message", name := "<init>", desc := "()V" } : MethodName)) ∈ jTG := jin_1 (i := 112) rfl rfl
theorem w_1_113 : (Cond.code ({ cls := "MailAgent$Message", name := "<init>", desc := "()V" } : MethodName) prog_4_method_1_code (1 : Nat) (Option.none : Option FieldType)) ∈ jTG := jin_1 (i := 113) rfl rfl
theorem w_1_114 : (Cond.methodLink "MailAgent$Message" (3 : Nat) ({ cls := "java/lang/Object", name := "<init>", desc := "()V" } : MethodName)) ∈ jTG := jin_1 (i := 114) rfl rfl
theorem w_1_115 : (Cond.classLink "MailAgent$Message" (9 : Nat) "MailAgent$Recipients") ∈ jTG := jin_1 (i := 115) rfl rfl
theorem w_1_117 : (Cond.fieldLink "MailAgent$Message" (12 : Nat) "MailAgent$Message" "recipients" "LMailAgent$Recipients;") ∈ jTG := jin_1 (i := 117) rfl rfl
theorem w_1_118 : (Cond.fieldLink "MailAgent$Queue" (26 : Nat) "MailAgent$Message" "recipients" "LMailAgent$Recipients;") ∈ jTG := jin_1 (i := 118) rfl rfl
theorem w_1_119 : (Cond.fieldLink "MailAgent" (199 : Nat) "MailAgent$Message" "recipients" "LMailAgent$Recipients;") ∈ jTG := jin_1 (i := 119) rfl rfl
theorem w_1_120 : (Cond.fieldLink "MailAgent$Message" (18 : Nat) "MailAgent$Message" "number" "I") ∈ jTG := jin_1 (i := 120) rfl rfl
theorem w_1_121 : (Cond.fieldLink "MailAgent$Deliveries" (30 : Nat) "MailAgent$Message" "number" "I") ∈ jTG := jin_1 (i := 121) rfl rfl
theorem w_1_122 : (Cond.fieldLink "MailAgent$Queue" (22 : Nat) "MailAgent$Message" "number" "I") ∈ jTG := jin_1 (i := 122) rfl rfl
theorem w_1_123 : (Cond.fieldLink "MailAgent" (196 : Nat) "MailAgent$Message" "number" "I") ∈ jTG := jin_1 (i := 123) rfl rfl
theorem w_1_124 : (Cond.fieldLink "MailAgent$Message" (27 : Nat) "MailAgent$Message" "sender" "I") ∈ jTG := jin_1 (i := 124) rfl rfl
theorem w_1_125 : (Cond.fieldLink "MailAgent" (203 : Nat) "MailAgent$Message" "sender" "I") ∈ jTG := jin_1 (i := 125) rfl rfl
theorem w_1_126 : (Cond.fieldLink "MailAgent$Message" (28 : Nat) "MailAgent$Message" "size" "I") ∈ jTG := jin_1 (i := 126) rfl rfl
theorem w_1_127 : (Cond.fieldLink "MailAgent$Queue" (25 : Nat) "MailAgent$Message" "size" "I") ∈ jTG := jin_1 (i := 127) rfl rfl
theorem w_1_128 : (Cond.fieldLink "MailAgent$Message" (40 : Nat) "MailAgent$Message" "start" "I") ∈ jTG := jin_1 (i := 128) rfl rfl
theorem w_1_129 : (Cond.fieldLink "MailAgent" (243 : Nat) "MailAgent$Message" "start" "I") ∈ jTG := jin_1 (i := 129) rfl rfl
theorem w_1_130 : (Cond.fieldLink "MailAgent$Message" (43 : Nat) "MailAgent$Message" "due" "I") ∈ jTG := jin_1 (i := 130) rfl rfl
theorem w_1_131 : (Cond.fieldLink "MailAgent" (165 : Nat) "MailAgent$Message" "due" "I") ∈ jTG := jin_1 (i := 131) rfl rfl
theorem w_1_132 : (Cond.fieldLink "MailAgent$Message" (46 : Nat) "MailAgent$Message" "gap" "I") ∈ jTG := jin_1 (i := 132) rfl rfl
theorem w_1_133 : (Cond.fieldLink "MailAgent$Deliveries" (24 : Nat) "MailAgent$Message" "isReport" "Z") ∈ jTG := jin_1 (i := 133) rfl rfl
theorem w_1_134 : (Cond.fieldLink "MailAgent$Message" (31 : Nat) "MailAgent$Message" "isReport" "Z") ∈ jTG := jin_1 (i := 134) rfl rfl
theorem w_1_135 : (Cond.laysFinal "MailAgent$Message" "MailAgent$Message" "recipients" "LMailAgent$Recipients;") ∈ jTG := jin_1 (i := 135) rfl rfl
theorem w_1_137 : (Cond.lays "MailAgent$Message" "MailAgent$Message" "number" "I") ∈ jTG := jin_1 (i := 137) rfl rfl
theorem w_1_139 : (Cond.lays "MailAgent$Message" "MailAgent$Message" "sender" "I") ∈ jTG := jin_1 (i := 139) rfl rfl
theorem w_1_141 : (Cond.lays "MailAgent$Message" "MailAgent$Message" "size" "I") ∈ jTG := jin_1 (i := 141) rfl rfl
theorem w_1_143 : (Cond.lays "MailAgent$Message" "MailAgent$Message" "start" "I") ∈ jTG := jin_1 (i := 143) rfl rfl
theorem w_1_145 : (Cond.lays "MailAgent$Message" "MailAgent$Message" "due" "I") ∈ jTG := jin_1 (i := 145) rfl rfl
theorem w_1_147 : (Cond.lays "MailAgent$Message" "MailAgent$Message" "gap" "I") ∈ jTG := jin_1 (i := 147) rfl rfl
theorem w_1_149 : (Cond.lays "MailAgent$Message" "MailAgent$Message" "isReport" "Z") ∈ jTG := jin_1 (i := 149) rfl rfl
theorem w_1_152 : (Cond.fieldLink "MailAgent$Queue" (11 : Nat) "MailAgent$Queue" "messages" "[LMailAgent$Message;") ∈ jTG := jin_1 (i := 152) rfl rfl
theorem w_1_153 : (Cond.fieldLink "MailAgent" (161 : Nat) "MailAgent$Queue" "messages" "[LMailAgent$Message;") ∈ jTG := jin_1 (i := 153) rfl rfl
theorem w_1_154 : (Cond.fieldLink "MailAgent$Queue" (17 : Nat) "MailAgent$Queue" "size" "I") ∈ jTG := jin_1 (i := 154) rfl rfl
theorem w_1_155 : (Cond.fieldLink "MailAgent" (139 : Nat) "MailAgent$Queue" "size" "I") ∈ jTG := jin_1 (i := 155) rfl rfl
theorem w_1_156 : (Cond.laysFinal "MailAgent$Queue" "MailAgent$Queue" "messages" "[LMailAgent$Message;") ∈ jTG := jin_1 (i := 156) rfl rfl
theorem w_1_158 : (Cond.lays "MailAgent$Queue" "MailAgent$Queue" "size" "I") ∈ jTG := jin_1 (i := 158) rfl rfl
theorem w_1_161 : (Cond.classLink "MailAgent" (58 : Nat) "MailAgent$Deliveries") ∈ jTG := jin_1 (i := 161) rfl rfl
theorem w_1_162 : (Cond.instantiable "MailAgent$Deliveries" (4 : Nat)) ∈ jTG := jin_1 (i := 162) rfl rfl
theorem w_1_164 : (Cond.instanceMethod ({ cls := "MailAgent$Deliveries", name := "<init>", desc := "()V" } : MethodName)) ∈ jTG := jin_1 (i := 164) rfl rfl
theorem w_1_165 : (Cond.code ({ cls := "MailAgent$Deliveries", name := "<init>", desc := "()V" } : MethodName) prog_3_method_1_code (1 : Nat) (Option.none : Option FieldType)) ∈ jTG := jin_1 (i := 165) rfl rfl
theorem w_1_166 : (Cond.methodLink "MailAgent$Deliveries" (3 : Nat) ({ cls := "java/lang/Object", name := "<init>", desc := "()V" } : MethodName)) ∈ jTG := jin_1 (i := 166) rfl rfl
theorem w_1_167 : (Cond.fieldLink "MailAgent$Deliveries" (9 : Nat) "MailAgent$Deliveries" "letters" "[I") ∈ jTG := jin_1 (i := 167) rfl rfl
theorem w_1_168 : (Cond.fieldLink "MailAgent" (206 : Nat) "MailAgent$Deliveries" "letters" "[I") ∈ jTG := jin_1 (i := 168) rfl rfl
theorem w_1_169 : (Cond.fieldLink "MailAgent$Deliveries" (15 : Nat) "MailAgent$Deliveries" "reports" "[I") ∈ jTG := jin_1 (i := 169) rfl rfl
theorem w_1_170 : (Cond.fieldLink "MailAgent" (209 : Nat) "MailAgent$Deliveries" "reports" "[I") ∈ jTG := jin_1 (i := 170) rfl rfl
theorem w_1_171 : (Cond.fieldLink "MailAgent$Deliveries" (18 : Nat) "MailAgent$Deliveries" "lastNumbers" "[I") ∈ jTG := jin_1 (i := 171) rfl rfl
theorem w_1_172 : (Cond.fieldLink "MailAgent" (212 : Nat) "MailAgent$Deliveries" "lastNumbers" "[I") ∈ jTG := jin_1 (i := 172) rfl rfl
theorem w_1_173 : (Cond.fieldLink "MailAgent$Deliveries" (21 : Nat) "MailAgent$Deliveries" "carried" "[I") ∈ jTG := jin_1 (i := 173) rfl rfl
theorem w_1_174 : (Cond.fieldLink "MailAgent" (215 : Nat) "MailAgent$Deliveries" "carried" "[I") ∈ jTG := jin_1 (i := 174) rfl rfl
theorem w_1_175 : (Cond.laysFinal "MailAgent$Deliveries" "MailAgent$Deliveries" "letters" "[I") ∈ jTG := jin_1 (i := 175) rfl rfl
theorem w_1_177 : (Cond.laysFinal "MailAgent$Deliveries" "MailAgent$Deliveries" "reports" "[I") ∈ jTG := jin_1 (i := 177) rfl rfl
theorem w_1_179 : (Cond.laysFinal "MailAgent$Deliveries" "MailAgent$Deliveries" "lastNumbers" "[I") ∈ jTG := jin_1 (i := 179) rfl rfl
theorem w_1_181 : (Cond.laysFinal "MailAgent$Deliveries" "MailAgent$Deliveries" "carried" "[I") ∈ jTG := jin_1 (i := 181) rfl rfl
theorem w_1_184 : (Cond.fieldLink "MailAgent" (13 : Nat) "MailAgent" "minGap" "I") ∈ jTG := jin_1 (i := 184) rfl rfl
theorem w_1_185 : (Cond.fieldLink "MailAgent" (17 : Nat) "MailAgent" "maxGap" "I") ∈ jTG := jin_1 (i := 185) rfl rfl
theorem w_1_186 : (Cond.fieldLink "MailAgent" (20 : Nat) "MailAgent" "giveUp" "I") ∈ jTG := jin_1 (i := 186) rfl rfl
theorem w_1_187 : (Cond.fieldLink "MailAgent" (26 : Nat) "MailAgent" "aliases" "LMailAgent$Aliases;") ∈ jTG := jin_1 (i := 187) rfl rfl
theorem w_1_188 : (Cond.fieldLink "MailAgent" (32 : Nat) "MailAgent" "routes" "[LMailAgent$Routes;") ∈ jTG := jin_1 (i := 188) rfl rfl
theorem w_1_189 : (Cond.fieldLink "MailAgent" (37 : Nat) "MailAgent" "hostStates" "[I") ∈ jTG := jin_1 (i := 189) rfl rfl
theorem w_1_190 : (Cond.fieldLink "MailAgent" (44 : Nat) "MailAgent" "transaction" "LMailAgent$Transaction;") ∈ jTG := jin_1 (i := 190) rfl rfl
theorem w_1_191 : (Cond.fieldLink "MailAgent" (51 : Nat) "MailAgent" "queue" "LMailAgent$Queue;") ∈ jTG := jin_1 (i := 191) rfl rfl
theorem w_1_192 : (Cond.fieldLink "MailAgent" (55 : Nat) "MailAgent" "durable" "LMailAgent$Queue;") ∈ jTG := jin_1 (i := 192) rfl rfl
theorem w_1_193 : (Cond.fieldLink "MailAgent" (61 : Nat) "MailAgent" "deliveries" "LMailAgent$Deliveries;") ∈ jTG := jin_1 (i := 193) rfl rfl
theorem w_1_194 : (Cond.fieldLink "MailAgent" (65 : Nat) "MailAgent" "clock" "I") ∈ jTG := jin_1 (i := 194) rfl rfl
theorem w_1_195 : (Cond.fieldLink "MailAgent" (68 : Nat) "MailAgent" "lastNumber" "I") ∈ jTG := jin_1 (i := 195) rfl rfl
theorem w_1_196 : (Cond.fieldLink "MailAgent" (71 : Nat) "MailAgent" "changes" "I") ∈ jTG := jin_1 (i := 196) rfl rfl
theorem w_1_197 : (Cond.laysFinal "MailAgent" "MailAgent" "minGap" "I") ∈ jTG := jin_1 (i := 197) rfl rfl
theorem w_1_199 : (Cond.laysFinal "MailAgent" "MailAgent" "maxGap" "I") ∈ jTG := jin_1 (i := 199) rfl rfl
theorem w_1_201 : (Cond.laysFinal "MailAgent" "MailAgent" "giveUp" "I") ∈ jTG := jin_1 (i := 201) rfl rfl
theorem w_1_203 : (Cond.laysFinal "MailAgent" "MailAgent" "aliases" "LMailAgent$Aliases;") ∈ jTG := jin_1 (i := 203) rfl rfl
theorem w_1_205 : (Cond.laysFinal "MailAgent" "MailAgent" "routes" "[LMailAgent$Routes;") ∈ jTG := jin_1 (i := 205) rfl rfl
theorem w_1_207 : (Cond.laysFinal "MailAgent" "MailAgent" "hostStates" "[I") ∈ jTG := jin_1 (i := 207) rfl rfl
theorem w_1_209 : (Cond.laysFinal "MailAgent" "MailAgent" "transaction" "LMailAgent$Transaction;") ∈ jTG := jin_1 (i := 209) rfl rfl
theorem w_1_211 : (Cond.laysFinal "MailAgent" "MailAgent" "queue" "LMailAgent$Queue;") ∈ jTG := jin_1 (i := 211) rfl rfl
theorem w_1_213 : (Cond.laysFinal "MailAgent" "MailAgent" "durable" "LMailAgent$Queue;") ∈ jTG := jin_1 (i := 213) rfl rfl
theorem w_1_215 : (Cond.laysFinal "MailAgent" "MailAgent" "deliveries" "LMailAgent$Deliveries;") ∈ jTG := jin_1 (i := 215) rfl rfl
theorem w_1_217 : (Cond.lays "MailAgent" "MailAgent" "clock" "I") ∈ jTG := jin_1 (i := 217) rfl rfl
theorem w_1_219 : (Cond.lays "MailAgent" "MailAgent" "lastNumber" "I") ∈ jTG := jin_1 (i := 219) rfl rfl
theorem w_1_221 : (Cond.lays "MailAgent" "MailAgent" "changes" "I") ∈ jTG := jin_1 (i := 221) rfl rfl
theorem w_1_224 : (Cond.methodLink "MailAgentLaw" (21 : Nat) ({ cls := "MailAgent", name := "alias", desc := "(II)I" } : MethodName)) ∈ jTG := jin_1 (i := 224) rfl rfl
theorem w_1_225 : (Cond.instanceMethod ({ cls := "MailAgent", name := "alias", desc := "(II)I" } : MethodName)) ∈ jTG := jin_1 (i := 225) rfl rfl
theorem w_1_226 : (Cond.selects "MailAgent" ({ cls := "MailAgent", name := "alias", desc := "(II)I" } : MethodName) ({ cls := "MailAgent", name := "alias", desc := "(II)I" } : MethodName)) ∈ jTG := jin_1 (i := 226) rfl rfl
theorem w_1_227 : (Cond.code ({ cls := "MailAgent", name := "alias", desc := "(II)I" } : MethodName) prog_1_method_2_code (3 : Nat) (Option.some FieldType.int)) ∈ jTG := jin_1 (i := 227) rfl rfl
theorem w_1_228 : (Cond.methodLink "MailAgent" (74 : Nat) ({ cls := "MailAgent", name := "isBelow", desc := "(II)Z" } : MethodName)) ∈ jTG := jin_1 (i := 228) rfl rfl
theorem w_1_229 : (Cond.static ({ cls := "MailAgent", name := "isBelow", desc := "(II)Z" } : MethodName)) ∈ jTG := jin_1 (i := 229) rfl rfl
theorem w_1_230 : (Cond.code ({ cls := "MailAgent", name := "isBelow", desc := "(II)Z" } : MethodName) prog_1_method_22_code (2 : Nat) (Option.some FieldType.boolean)) ∈ jTG := jin_1 (i := 230) rfl rfl
theorem w_1_231 : (Cond.methodLink "MailAgent" (78 : Nat) ({ cls := "MailAgent$Aliases", name := "hasRoomFor", desc := "(II)Z" } : MethodName)) ∈ jTG := jin_1 (i := 231) rfl rfl
theorem w_1_232 : (Cond.instanceMethod ({ cls := "MailAgent$Aliases", name := "hasRoomFor", desc := "(II)Z" } : MethodName)) ∈ jTG := jin_1 (i := 232) rfl rfl
theorem w_1_233 : (Cond.selects "MailAgent$Aliases" ({ cls := "MailAgent$Aliases", name := "hasRoomFor", desc := "(II)Z" } : MethodName) ({ cls := "MailAgent$Aliases", name := "hasRoomFor", desc := "(II)Z" } : MethodName)) ∈ jTG := jin_1 (i := 233) rfl rfl
theorem w_1_234 : (Cond.code ({ cls := "MailAgent$Aliases", name := "hasRoomFor", desc := "(II)Z" } : MethodName) prog_2_method_2_code (3 : Nat) (Option.some FieldType.boolean)) ∈ jTG := jin_1 (i := 234) rfl rfl
theorem w_1_235 : (Cond.methodLink "MailAgent$Aliases" (15 : Nat) ({ cls := "java/lang/Long", name := "bitCount", desc := "(J)I" } : MethodName)) ∈ jTG := jin_1 (i := 235) rfl rfl
theorem w_1_236 : (Cond.static ({ cls := "java/lang/Long", name := "bitCount", desc := "(J)I" } : MethodName)) ∈ jTG := jin_1 (i := 236) rfl rfl
theorem w_1_237 : (Cond.code ({ cls := "java/lang/Long", name := "bitCount", desc := "(J)I" } : MethodName) prog_11_method_50_code (2 : Nat) (Option.some FieldType.int)) ∈ jTG := jin_1 (i := 237) rfl rfl
theorem w_1_238 : (Cond.constantLong "java/lang/Long" (314 : Nat) (6148914691236517205 : Int64)) ∈ jTG := jin_1 (i := 238) rfl rfl
theorem w_1_239 : (Cond.constantLong "java/lang/Long" (316 : Nat) (3689348814741910323 : Int64)) ∈ jTG := jin_1 (i := 239) rfl rfl
theorem w_2_0 : (Cond.constantLong "java/lang/Long" (318 : Nat) (1085102592571150095 : Int64)) ∈ jTG := jin_2 (i := 0) rfl rfl
theorem w_2_1 : (Cond.methodLink "MailAgent" (81 : Nat) ({ cls := "MailAgent$Aliases", name := "add", desc := "(II)I" } : MethodName)) ∈ jTG := jin_2 (i := 1) rfl rfl
theorem w_2_2 : (Cond.instanceMethod ({ cls := "MailAgent$Aliases", name := "add", desc := "(II)I" } : MethodName)) ∈ jTG := jin_2 (i := 2) rfl rfl
theorem w_2_3 : (Cond.selects "MailAgent$Aliases" ({ cls := "MailAgent$Aliases", name := "add", desc := "(II)I" } : MethodName) ({ cls := "MailAgent$Aliases", name := "add", desc := "(II)I" } : MethodName)) ∈ jTG := jin_2 (i := 3) rfl rfl
theorem w_2_4 : (Cond.code ({ cls := "MailAgent$Aliases", name := "add", desc := "(II)I" } : MethodName) prog_2_method_3_code (3 : Nat) (Option.some FieldType.int)) ∈ jTG := jin_2 (i := 4) rfl rfl
theorem w_2_5 : (Cond.methodLink "MailAgentLaw" (26 : Nat) ({ cls := "MailAgent", name := "unalias", desc := "(I)I" } : MethodName)) ∈ jTG := jin_2 (i := 5) rfl rfl
theorem w_2_6 : (Cond.instanceMethod ({ cls := "MailAgent", name := "unalias", desc := "(I)I" } : MethodName)) ∈ jTG := jin_2 (i := 6) rfl rfl
theorem w_2_7 : (Cond.selects "MailAgent" ({ cls := "MailAgent", name := "unalias", desc := "(I)I" } : MethodName) ({ cls := "MailAgent", name := "unalias", desc := "(I)I" } : MethodName)) ∈ jTG := jin_2 (i := 7) rfl rfl
theorem w_2_8 : (Cond.code ({ cls := "MailAgent", name := "unalias", desc := "(I)I" } : MethodName) prog_1_method_3_code (2 : Nat) (Option.some FieldType.int)) ∈ jTG := jin_2 (i := 8) rfl rfl
theorem w_2_9 : (Cond.methodLink "MailAgent" (85 : Nat) ({ cls := "MailAgent$Aliases", name := "clear", desc := "(I)I" } : MethodName)) ∈ jTG := jin_2 (i := 9) rfl rfl
theorem w_2_10 : (Cond.instanceMethod ({ cls := "MailAgent$Aliases", name := "clear", desc := "(I)I" } : MethodName)) ∈ jTG := jin_2 (i := 10) rfl rfl
theorem w_2_11 : (Cond.selects "MailAgent$Aliases" ({ cls := "MailAgent$Aliases", name := "clear", desc := "(I)I" } : MethodName) ({ cls := "MailAgent$Aliases", name := "clear", desc := "(I)I" } : MethodName)) ∈ jTG := jin_2 (i := 11) rfl rfl
theorem w_2_12 : (Cond.code ({ cls := "MailAgent$Aliases", name := "clear", desc := "(I)I" } : MethodName) prog_2_method_4_code (3 : Nat) (Option.some FieldType.int)) ∈ jTG := jin_2 (i := 12) rfl rfl
theorem w_2_13 : (Cond.methodLink "MailAgentLaw" (31 : Nat) ({ cls := "MailAgent", name := "route", desc := "(III)I" } : MethodName)) ∈ jTG := jin_2 (i := 13) rfl rfl
theorem w_2_14 : (Cond.instanceMethod ({ cls := "MailAgent", name := "route", desc := "(III)I" } : MethodName)) ∈ jTG := jin_2 (i := 14) rfl rfl
theorem w_2_15 : (Cond.selects "MailAgent" ({ cls := "MailAgent", name := "route", desc := "(III)I" } : MethodName) ({ cls := "MailAgent", name := "route", desc := "(III)I" } : MethodName)) ∈ jTG := jin_2 (i := 15) rfl rfl
theorem w_2_16 : (Cond.code ({ cls := "MailAgent", name := "route", desc := "(III)I" } : MethodName) prog_1_method_4_code (4 : Nat) (Option.some FieldType.int)) ∈ jTG := jin_2 (i := 16) rfl rfl
theorem w_2_17 : (Cond.methodLink "MailAgent" (89 : Nat) ({ cls := "MailAgent", name := "isForeign", desc := "(I)Z" } : MethodName)) ∈ jTG := jin_2 (i := 17) rfl rfl
theorem w_2_18 : (Cond.static ({ cls := "MailAgent", name := "isForeign", desc := "(I)Z" } : MethodName)) ∈ jTG := jin_2 (i := 18) rfl rfl
theorem w_2_19 : (Cond.code ({ cls := "MailAgent", name := "isForeign", desc := "(I)Z" } : MethodName) prog_1_method_23_code (1 : Nat) (Option.some FieldType.boolean)) ∈ jTG := jin_2 (i := 19) rfl rfl
theorem w_2_20 : (Cond.methodLink "MailAgent" (93 : Nat) ({ cls := "MailAgent$Routes", name := "hasRoomFor", desc := "(I)Z" } : MethodName)) ∈ jTG := jin_2 (i := 20) rfl rfl
theorem w_2_21 : (Cond.instanceMethod ({ cls := "MailAgent$Routes", name := "hasRoomFor", desc := "(I)Z" } : MethodName)) ∈ jTG := jin_2 (i := 21) rfl rfl
theorem w_2_22 : (Cond.selects "MailAgent$Routes" ({ cls := "MailAgent$Routes", name := "hasRoomFor", desc := "(I)Z" } : MethodName) ({ cls := "MailAgent$Routes", name := "hasRoomFor", desc := "(I)Z" } : MethodName)) ∈ jTG := jin_2 (i := 22) rfl rfl
theorem w_2_23 : (Cond.code ({ cls := "MailAgent$Routes", name := "hasRoomFor", desc := "(I)Z" } : MethodName) prog_7_method_2_code (3 : Nat) (Option.some FieldType.boolean)) ∈ jTG := jin_2 (i := 23) rfl rfl
theorem w_2_24 : (Cond.methodLink "MailAgent" (95 : Nat) ({ cls := "MailAgent$Routes", name := "add", desc := "(II)I" } : MethodName)) ∈ jTG := jin_2 (i := 24) rfl rfl
theorem w_2_25 : (Cond.instanceMethod ({ cls := "MailAgent$Routes", name := "add", desc := "(II)I" } : MethodName)) ∈ jTG := jin_2 (i := 25) rfl rfl
theorem w_2_26 : (Cond.selects "MailAgent$Routes" ({ cls := "MailAgent$Routes", name := "add", desc := "(II)I" } : MethodName) ({ cls := "MailAgent$Routes", name := "add", desc := "(II)I" } : MethodName)) ∈ jTG := jin_2 (i := 26) rfl rfl
theorem w_2_27 : (Cond.code ({ cls := "MailAgent$Routes", name := "add", desc := "(II)I" } : MethodName) prog_7_method_3_code (4 : Nat) (Option.some FieldType.int)) ∈ jTG := jin_2 (i := 27) rfl rfl
theorem w_2_28 : (Cond.methodLink "MailAgentLaw" (36 : Nat) ({ cls := "MailAgent", name := "unroute", desc := "(I)I" } : MethodName)) ∈ jTG := jin_2 (i := 28) rfl rfl
theorem w_2_29 : (Cond.instanceMethod ({ cls := "MailAgent", name := "unroute", desc := "(I)I" } : MethodName)) ∈ jTG := jin_2 (i := 29) rfl rfl
theorem w_2_30 : (Cond.selects "MailAgent" ({ cls := "MailAgent", name := "unroute", desc := "(I)I" } : MethodName) ({ cls := "MailAgent", name := "unroute", desc := "(I)I" } : MethodName)) ∈ jTG := jin_2 (i := 30) rfl rfl
theorem w_2_31 : (Cond.code ({ cls := "MailAgent", name := "unroute", desc := "(I)I" } : MethodName) prog_1_method_5_code (2 : Nat) (Option.some FieldType.int)) ∈ jTG := jin_2 (i := 31) rfl rfl
theorem w_2_32 : (Cond.methodLink "MailAgent" (96 : Nat) ({ cls := "MailAgent$Routes", name := "clear", desc := "()I" } : MethodName)) ∈ jTG := jin_2 (i := 32) rfl rfl
theorem w_2_33 : (Cond.instanceMethod ({ cls := "MailAgent$Routes", name := "clear", desc := "()I" } : MethodName)) ∈ jTG := jin_2 (i := 33) rfl rfl
theorem w_2_34 : (Cond.selects "MailAgent$Routes" ({ cls := "MailAgent$Routes", name := "clear", desc := "()I" } : MethodName) ({ cls := "MailAgent$Routes", name := "clear", desc := "()I" } : MethodName)) ∈ jTG := jin_2 (i := 34) rfl rfl
theorem w_2_35 : (Cond.code ({ cls := "MailAgent$Routes", name := "clear", desc := "()I" } : MethodName) prog_7_method_4_code (2 : Nat) (Option.some FieldType.int)) ∈ jTG := jin_2 (i := 35) rfl rfl
theorem w_2_36 : (Cond.methodLink "MailAgentLaw" (40 : Nat) ({ cls := "MailAgent", name := "host", desc := "(II)I" } : MethodName)) ∈ jTG := jin_2 (i := 36) rfl rfl
theorem w_2_37 : (Cond.instanceMethod ({ cls := "MailAgent", name := "host", desc := "(II)I" } : MethodName)) ∈ jTG := jin_2 (i := 37) rfl rfl
theorem w_2_38 : (Cond.selects "MailAgent" ({ cls := "MailAgent", name := "host", desc := "(II)I" } : MethodName) ({ cls := "MailAgent", name := "host", desc := "(II)I" } : MethodName)) ∈ jTG := jin_2 (i := 38) rfl rfl
theorem w_2_39 : (Cond.code ({ cls := "MailAgent", name := "host", desc := "(II)I" } : MethodName) prog_1_method_6_code (4 : Nat) (Option.some FieldType.int)) ∈ jTG := jin_2 (i := 39) rfl rfl
theorem w_2_40 : (Cond.methodLink "MailAgentLaw" (44 : Nat) ({ cls := "MailAgent", name := "from", desc := "(I)I" } : MethodName)) ∈ jTG := jin_2 (i := 40) rfl rfl
theorem w_2_41 : (Cond.instanceMethod ({ cls := "MailAgent", name := "from", desc := "(I)I" } : MethodName)) ∈ jTG := jin_2 (i := 41) rfl rfl
theorem w_2_42 : (Cond.selects "MailAgent" ({ cls := "MailAgent", name := "from", desc := "(I)I" } : MethodName) ({ cls := "MailAgent", name := "from", desc := "(I)I" } : MethodName)) ∈ jTG := jin_2 (i := 42) rfl rfl
theorem w_2_43 : (Cond.code ({ cls := "MailAgent", name := "from", desc := "(I)I" } : MethodName) prog_1_method_7_code (2 : Nat) (Option.some FieldType.int)) ∈ jTG := jin_2 (i := 43) rfl rfl
theorem w_2_44 : (Cond.methodLink "MailAgent" (99 : Nat) ({ cls := "MailAgent$Transaction", name := "start", desc := "(I)V" } : MethodName)) ∈ jTG := jin_2 (i := 44) rfl rfl
theorem w_2_45 : (Cond.instanceMethod ({ cls := "MailAgent$Transaction", name := "start", desc := "(I)V" } : MethodName)) ∈ jTG := jin_2 (i := 45) rfl rfl
theorem w_2_46 : (Cond.selects "MailAgent$Transaction" ({ cls := "MailAgent$Transaction", name := "start", desc := "(I)V" } : MethodName) ({ cls := "MailAgent$Transaction", name := "start", desc := "(I)V" } : MethodName)) ∈ jTG := jin_2 (i := 46) rfl rfl
theorem w_2_47 : (Cond.code ({ cls := "MailAgent$Transaction", name := "start", desc := "(I)V" } : MethodName) prog_8_method_2_code (2 : Nat) (Option.none : Option FieldType)) ∈ jTG := jin_2 (i := 47) rfl rfl
theorem w_2_48 : (Cond.methodLink "MailAgentLaw" (48 : Nat) ({ cls := "MailAgent", name := "to", desc := "(I)I" } : MethodName)) ∈ jTG := jin_2 (i := 48) rfl rfl
theorem w_2_49 : (Cond.instanceMethod ({ cls := "MailAgent", name := "to", desc := "(I)I" } : MethodName)) ∈ jTG := jin_2 (i := 49) rfl rfl
theorem w_2_50 : (Cond.selects "MailAgent" ({ cls := "MailAgent", name := "to", desc := "(I)I" } : MethodName) ({ cls := "MailAgent", name := "to", desc := "(I)I" } : MethodName)) ∈ jTG := jin_2 (i := 50) rfl rfl
theorem w_2_51 : (Cond.code ({ cls := "MailAgent", name := "to", desc := "(I)I" } : MethodName) prog_1_method_8_code (7 : Nat) (Option.some FieldType.int)) ∈ jTG := jin_2 (i := 51) rfl rfl
theorem w_2_52 : (Cond.methodLink "MailAgent" (107 : Nat) ({ cls := "MailAgent$Aliases", name := "finalsOf", desc := "(I)J" } : MethodName)) ∈ jTG := jin_2 (i := 52) rfl rfl
theorem w_2_53 : (Cond.instanceMethod ({ cls := "MailAgent$Aliases", name := "finalsOf", desc := "(I)J" } : MethodName)) ∈ jTG := jin_2 (i := 53) rfl rfl
theorem w_2_54 : (Cond.selects "MailAgent$Aliases" ({ cls := "MailAgent$Aliases", name := "finalsOf", desc := "(I)J" } : MethodName) ({ cls := "MailAgent$Aliases", name := "finalsOf", desc := "(I)J" } : MethodName)) ∈ jTG := jin_2 (i := 54) rfl rfl
theorem w_2_55 : (Cond.code ({ cls := "MailAgent$Aliases", name := "finalsOf", desc := "(I)J" } : MethodName) prog_2_method_5_code (5 : Nat) (Option.some FieldType.long)) ∈ jTG := jin_2 (i := 55) rfl rfl
theorem w_2_56 : (Cond.methodLink "MailAgent$Aliases" (21 : Nat) ({ cls := "MailAgent$Aliases", name := "reachedFrom", desc := "(I)J" } : MethodName)) ∈ jTG := jin_2 (i := 56) rfl rfl
theorem w_2_58 : (Cond.instanceMethod ({ cls := "MailAgent$Aliases", name := "reachedFrom", desc := "(I)J" } : MethodName)) ∈ jTG := jin_2 (i := 58) rfl rfl
theorem w_2_59 : (Cond.code ({ cls := "MailAgent$Aliases", name := "reachedFrom", desc := "(I)J" } : MethodName) prog_2_method_6_code (6 : Nat) (Option.some FieldType.long)) ∈ jTG := jin_2 (i := 59) rfl rfl
theorem w_2_60 : (Cond.constantLong "MailAgent$Aliases" (25 : Nat) (-1 : Int64)) ∈ jTG := jin_2 (i := 60) rfl rfl
theorem w_2_61 : (Cond.methodLink "MailAgent" (115 : Nat) ({ cls := "MailAgent$Recipients", name := "asBits", desc := "()J" } : MethodName)) ∈ jTG := jin_2 (i := 61) rfl rfl
theorem w_2_62 : (Cond.instanceMethod ({ cls := "MailAgent$Recipients", name := "asBits", desc := "()J" } : MethodName)) ∈ jTG := jin_2 (i := 62) rfl rfl
theorem w_2_63 : (Cond.selects "MailAgent$Recipients" ({ cls := "MailAgent$Recipients", name := "asBits", desc := "()J" } : MethodName) ({ cls := "MailAgent$Recipients", name := "asBits", desc := "()J" } : MethodName)) ∈ jTG := jin_2 (i := 63) rfl rfl
theorem w_2_64 : (Cond.code ({ cls := "MailAgent$Recipients", name := "asBits", desc := "()J" } : MethodName) prog_6_method_4_code (4 : Nat) (Option.some FieldType.long)) ∈ jTG := jin_2 (i := 64) rfl rfl
theorem w_2_65 : (Cond.constantLong "MailAgent" (121 : Nat) (-1 : Int64)) ∈ jTG := jin_2 (i := 65) rfl rfl
theorem w_2_66 : (Cond.methodLink "MailAgent" (123 : Nat) ({ cls := "java/lang/Long", name := "bitCount", desc := "(J)I" } : MethodName)) ∈ jTG := jin_2 (i := 66) rfl rfl
theorem w_2_67 : (Cond.methodLink "MailAgent" (132 : Nat) ({ cls := "MailAgent$Recipients", name := "addRising", desc := "(J)V" } : MethodName)) ∈ jTG := jin_2 (i := 67) rfl rfl
theorem w_2_68 : (Cond.instanceMethod ({ cls := "MailAgent$Recipients", name := "addRising", desc := "(J)V" } : MethodName)) ∈ jTG := jin_2 (i := 68) rfl rfl
theorem w_2_69 : (Cond.selects "MailAgent$Recipients" ({ cls := "MailAgent$Recipients", name := "addRising", desc := "(J)V" } : MethodName) ({ cls := "MailAgent$Recipients", name := "addRising", desc := "(J)V" } : MethodName)) ∈ jTG := jin_2 (i := 69) rfl rfl
theorem w_2_70 : (Cond.code ({ cls := "MailAgent$Recipients", name := "addRising", desc := "(J)V" } : MethodName) prog_6_method_3_code (4 : Nat) (Option.none : Option FieldType)) ∈ jTG := jin_2 (i := 70) rfl rfl
theorem w_2_71 : (Cond.methodLink "MailAgent$Recipients" (22 : Nat) ({ cls := "MailAgent$Recipients", name := "add", desc := "(I)V" } : MethodName)) ∈ jTG := jin_2 (i := 71) rfl rfl
theorem w_2_72 : (Cond.instanceMethod ({ cls := "MailAgent$Recipients", name := "add", desc := "(I)V" } : MethodName)) ∈ jTG := jin_2 (i := 72) rfl rfl
theorem w_2_73 : (Cond.selects "MailAgent$Recipients" ({ cls := "MailAgent$Recipients", name := "add", desc := "(I)V" } : MethodName) ({ cls := "MailAgent$Recipients", name := "add", desc := "(I)V" } : MethodName)) ∈ jTG := jin_2 (i := 73) rfl rfl
theorem w_2_74 : (Cond.code ({ cls := "MailAgent$Recipients", name := "add", desc := "(I)V" } : MethodName) prog_6_method_2_code (2 : Nat) (Option.none : Option FieldType)) ∈ jTG := jin_2 (i := 74) rfl rfl
theorem w_2_75 : (Cond.methodLink "MailAgentLaw" (52 : Nat) ({ cls := "MailAgent", name := "data", desc := "(I)I" } : MethodName)) ∈ jTG := jin_2 (i := 75) rfl rfl
theorem w_2_76 : (Cond.instanceMethod ({ cls := "MailAgent", name := "data", desc := "(I)I" } : MethodName)) ∈ jTG := jin_2 (i := 76) rfl rfl
theorem w_2_77 : (Cond.selects "MailAgent" ({ cls := "MailAgent", name := "data", desc := "(I)I" } : MethodName) ({ cls := "MailAgent", name := "data", desc := "(I)I" } : MethodName)) ∈ jTG := jin_2 (i := 77) rfl rfl
theorem w_2_78 : (Cond.code ({ cls := "MailAgent", name := "data", desc := "(I)I" } : MethodName) prog_1_method_9_code (4 : Nat) (Option.some FieldType.int)) ∈ jTG := jin_2 (i := 78) rfl rfl
theorem w_2_79 : (Cond.methodLink "MailAgent" (136 : Nat) ({ cls := "MailAgent", name := "costOf", desc := "(II)I" } : MethodName)) ∈ jTG := jin_2 (i := 79) rfl rfl
theorem w_2_80 : (Cond.static ({ cls := "MailAgent", name := "costOf", desc := "(II)I" } : MethodName)) ∈ jTG := jin_2 (i := 80) rfl rfl
theorem w_2_81 : (Cond.code ({ cls := "MailAgent", name := "costOf", desc := "(II)I" } : MethodName) prog_1_method_24_code (2 : Nat) (Option.some FieldType.int)) ∈ jTG := jin_2 (i := 81) rfl rfl
theorem w_2_82 : (Cond.methodLink "MailAgent" (140 : Nat) ({ cls := "MailAgent$Queue", name := "costs", desc := "()I" } : MethodName)) ∈ jTG := jin_2 (i := 82) rfl rfl
theorem w_2_83 : (Cond.instanceMethod ({ cls := "MailAgent$Queue", name := "costs", desc := "()I" } : MethodName)) ∈ jTG := jin_2 (i := 83) rfl rfl
theorem w_2_84 : (Cond.selects "MailAgent$Queue" ({ cls := "MailAgent$Queue", name := "costs", desc := "()I" } : MethodName) ({ cls := "MailAgent$Queue", name := "costs", desc := "()I" } : MethodName)) ∈ jTG := jin_2 (i := 84) rfl rfl
theorem w_2_85 : (Cond.code ({ cls := "MailAgent$Queue", name := "costs", desc := "()I" } : MethodName) prog_5_method_5_code (3 : Nat) (Option.some FieldType.int)) ∈ jTG := jin_2 (i := 85) rfl rfl
theorem w_2_87 : (Cond.methodLink "MailAgent" (143 : Nat) ({ cls := "MailAgent$Queue", name := "addSpare", desc := "()LMailAgent$Message;" } : MethodName)) ∈ jTG := jin_2 (i := 87) rfl rfl
theorem w_2_88 : (Cond.instanceMethod ({ cls := "MailAgent$Queue", name := "addSpare", desc := "()LMailAgent$Message;" } : MethodName)) ∈ jTG := jin_2 (i := 88) rfl rfl
theorem w_2_89 : (Cond.selects "MailAgent$Queue" ({ cls := "MailAgent$Queue", name := "addSpare", desc := "()LMailAgent$Message;" } : MethodName) ({ cls := "MailAgent$Queue", name := "addSpare", desc := "()LMailAgent$Message;" } : MethodName)) ∈ jTG := jin_2 (i := 89) rfl rfl
theorem w_2_90 : (Cond.code ({ cls := "MailAgent$Queue", name := "addSpare", desc := "()LMailAgent$Message;" } : MethodName) prog_5_method_2_code (2 : Nat) (Option.some (FieldType.object "MailAgent$Message"))) ∈ jTG := jin_2 (i := 90) rfl rfl
theorem w_2_91 : (Cond.methodLink "MailAgent" (147 : Nat) ({ cls := "MailAgent$Message", name := "accept", desc := "(IILMailAgent$Transaction;)V" } : MethodName)) ∈ jTG := jin_2 (i := 91) rfl rfl
theorem w_2_92 : (Cond.instanceMethod ({ cls := "MailAgent$Message", name := "accept", desc := "(IILMailAgent$Transaction;)V" } : MethodName)) ∈ jTG := jin_2 (i := 92) rfl rfl
theorem w_2_93 : (Cond.selects "MailAgent$Message" ({ cls := "MailAgent$Message", name := "accept", desc := "(IILMailAgent$Transaction;)V" } : MethodName) ({ cls := "MailAgent$Message", name := "accept", desc := "(IILMailAgent$Transaction;)V" } : MethodName)) ∈ jTG := jin_2 (i := 93) rfl rfl
theorem w_2_94 : (Cond.code ({ cls := "MailAgent$Message", name := "accept", desc := "(IILMailAgent$Transaction;)V" } : MethodName) prog_4_method_2_code (4 : Nat) (Option.none : Option FieldType)) ∈ jTG := jin_2 (i := 94) rfl rfl
theorem w_2_95 : (Cond.methodLink "MailAgent$Message" (36 : Nat) ({ cls := "MailAgent$Recipients", name := "copyFrom", desc := "(LMailAgent$Recipients;)V" } : MethodName)) ∈ jTG := jin_2 (i := 95) rfl rfl
theorem w_2_96 : (Cond.instanceMethod ({ cls := "MailAgent$Recipients", name := "copyFrom", desc := "(LMailAgent$Recipients;)V" } : MethodName)) ∈ jTG := jin_2 (i := 96) rfl rfl
theorem w_2_97 : (Cond.selects "MailAgent$Recipients" ({ cls := "MailAgent$Recipients", name := "copyFrom", desc := "(LMailAgent$Recipients;)V" } : MethodName) ({ cls := "MailAgent$Recipients", name := "copyFrom", desc := "(LMailAgent$Recipients;)V" } : MethodName)) ∈ jTG := jin_2 (i := 97) rfl rfl
theorem w_2_98 : (Cond.code ({ cls := "MailAgent$Recipients", name := "copyFrom", desc := "(LMailAgent$Recipients;)V" } : MethodName) prog_6_method_8_code (3 : Nat) (Option.none : Option FieldType)) ∈ jTG := jin_2 (i := 98) rfl rfl
theorem w_2_99 : (Cond.methodLink "MailAgent" (153 : Nat) ({ cls := "MailAgent$Message", name := "schedule", desc := "(II)V" } : MethodName)) ∈ jTG := jin_2 (i := 99) rfl rfl
theorem w_2_100 : (Cond.instanceMethod ({ cls := "MailAgent$Message", name := "schedule", desc := "(II)V" } : MethodName)) ∈ jTG := jin_2 (i := 100) rfl rfl
theorem w_2_101 : (Cond.selects "MailAgent$Message" ({ cls := "MailAgent$Message", name := "schedule", desc := "(II)V" } : MethodName) ({ cls := "MailAgent$Message", name := "schedule", desc := "(II)V" } : MethodName)) ∈ jTG := jin_2 (i := 101) rfl rfl
theorem w_2_102 : (Cond.code ({ cls := "MailAgent$Message", name := "schedule", desc := "(II)V" } : MethodName) prog_4_method_3_code (3 : Nat) (Option.none : Option FieldType)) ∈ jTG := jin_2 (i := 102) rfl rfl
theorem w_2_103 : (Cond.methodLink "MailAgent" (157 : Nat) ({ cls := "MailAgent", name := "makeDurable", desc := "()V" } : MethodName)) ∈ jTG := jin_2 (i := 103) rfl rfl
theorem w_2_105 : (Cond.instanceMethod ({ cls := "MailAgent", name := "makeDurable", desc := "()V" } : MethodName)) ∈ jTG := jin_2 (i := 105) rfl rfl
theorem w_2_106 : (Cond.code ({ cls := "MailAgent", name := "makeDurable", desc := "()V" } : MethodName) prog_1_method_30_code (1 : Nat) (Option.none : Option FieldType)) ∈ jTG := jin_2 (i := 106) rfl rfl
theorem w_2_107 : (Cond.methodLink "MailAgent" (186 : Nat) ({ cls := "MailAgent$Queue", name := "copyFrom", desc := "(LMailAgent$Queue;)V" } : MethodName)) ∈ jTG := jin_2 (i := 107) rfl rfl
theorem w_2_108 : (Cond.instanceMethod ({ cls := "MailAgent$Queue", name := "copyFrom", desc := "(LMailAgent$Queue;)V" } : MethodName)) ∈ jTG := jin_2 (i := 108) rfl rfl
theorem w_2_109 : (Cond.selects "MailAgent$Queue" ({ cls := "MailAgent$Queue", name := "copyFrom", desc := "(LMailAgent$Queue;)V" } : MethodName) ({ cls := "MailAgent$Queue", name := "copyFrom", desc := "(LMailAgent$Queue;)V" } : MethodName)) ∈ jTG := jin_2 (i := 109) rfl rfl
theorem w_2_110 : (Cond.code ({ cls := "MailAgent$Queue", name := "copyFrom", desc := "(LMailAgent$Queue;)V" } : MethodName) prog_5_method_7_code (3 : Nat) (Option.none : Option FieldType)) ∈ jTG := jin_2 (i := 110) rfl rfl
theorem w_2_111 : (Cond.methodLink "MailAgent$Queue" (41 : Nat) ({ cls := "MailAgent$Message", name := "copyFrom", desc := "(LMailAgent$Message;)V" } : MethodName)) ∈ jTG := jin_2 (i := 111) rfl rfl
theorem w_2_112 : (Cond.instanceMethod ({ cls := "MailAgent$Message", name := "copyFrom", desc := "(LMailAgent$Message;)V" } : MethodName)) ∈ jTG := jin_2 (i := 112) rfl rfl
theorem w_2_113 : (Cond.selects "MailAgent$Message" ({ cls := "MailAgent$Message", name := "copyFrom", desc := "(LMailAgent$Message;)V" } : MethodName) ({ cls := "MailAgent$Message", name := "copyFrom", desc := "(LMailAgent$Message;)V" } : MethodName)) ∈ jTG := jin_2 (i := 113) rfl rfl
theorem w_2_114 : (Cond.code ({ cls := "MailAgent$Message", name := "copyFrom", desc := "(LMailAgent$Message;)V" } : MethodName) prog_4_method_6_code (2 : Nat) (Option.none : Option FieldType)) ∈ jTG := jin_2 (i := 114) rfl rfl
theorem w_2_115 : (Cond.methodLink "MailAgentLaw" (56 : Nat) ({ cls := "MailAgent", name := "tick", desc := "(I)I" } : MethodName)) ∈ jTG := jin_2 (i := 115) rfl rfl
theorem w_2_116 : (Cond.instanceMethod ({ cls := "MailAgent", name := "tick", desc := "(I)I" } : MethodName)) ∈ jTG := jin_2 (i := 116) rfl rfl
theorem w_2_117 : (Cond.selects "MailAgent" ({ cls := "MailAgent", name := "tick", desc := "(I)I" } : MethodName) ({ cls := "MailAgent", name := "tick", desc := "(I)I" } : MethodName)) ∈ jTG := jin_2 (i := 117) rfl rfl
theorem w_2_118 : (Cond.code ({ cls := "MailAgent", name := "tick", desc := "(I)I" } : MethodName) prog_1_method_10_code (7 : Nat) (Option.some FieldType.int)) ∈ jTG := jin_2 (i := 118) rfl rfl
theorem w_2_119 : (Cond.constant "MailAgent" (160 : Nat) (1000000 : Int32)) ∈ jTG := jin_2 (i := 119) rfl rfl
theorem w_2_120 : (Cond.methodLink "MailAgent" (168 : Nat) ({ cls := "MailAgent", name := "tryRecipients", desc := "(LMailAgent$Message;)I" } : MethodName)) ∈ jTG := jin_2 (i := 120) rfl rfl
theorem w_2_122 : (Cond.instanceMethod ({ cls := "MailAgent", name := "tryRecipients", desc := "(LMailAgent$Message;)I" } : MethodName)) ∈ jTG := jin_2 (i := 122) rfl rfl
theorem w_2_123 : (Cond.code ({ cls := "MailAgent", name := "tryRecipients", desc := "(LMailAgent$Message;)I" } : MethodName) prog_1_method_25_code (7 : Nat) (Option.some FieldType.int)) ∈ jTG := jin_2 (i := 123) rfl rfl
theorem w_2_124 : (Cond.methodLink "MailAgent" (232 : Nat) ({ cls := "MailAgent", name := "carry", desc := "(I)I" } : MethodName)) ∈ jTG := jin_2 (i := 124) rfl rfl
theorem w_2_126 : (Cond.instanceMethod ({ cls := "MailAgent", name := "carry", desc := "(I)I" } : MethodName)) ∈ jTG := jin_2 (i := 126) rfl rfl
theorem w_2_127 : (Cond.code ({ cls := "MailAgent", name := "carry", desc := "(I)I" } : MethodName) prog_1_method_26_code (6 : Nat) (Option.some FieldType.int)) ∈ jTG := jin_2 (i := 127) rfl rfl
theorem w_2_128 : (Cond.methodLink "MailAgent" (235 : Nat) ({ cls := "MailAgent$Deliveries", name := "note", desc := "(ILMailAgent$Message;)V" } : MethodName)) ∈ jTG := jin_2 (i := 128) rfl rfl
theorem w_2_129 : (Cond.instanceMethod ({ cls := "MailAgent$Deliveries", name := "note", desc := "(ILMailAgent$Message;)V" } : MethodName)) ∈ jTG := jin_2 (i := 129) rfl rfl
theorem w_2_130 : (Cond.selects "MailAgent$Deliveries" ({ cls := "MailAgent$Deliveries", name := "note", desc := "(ILMailAgent$Message;)V" } : MethodName) ({ cls := "MailAgent$Deliveries", name := "note", desc := "(ILMailAgent$Message;)V" } : MethodName)) ∈ jTG := jin_2 (i := 130) rfl rfl
theorem w_2_131 : (Cond.code ({ cls := "MailAgent$Deliveries", name := "note", desc := "(ILMailAgent$Message;)V" } : MethodName) prog_3_method_2_code (3 : Nat) (Option.none : Option FieldType)) ∈ jTG := jin_2 (i := 131) rfl rfl
theorem w_2_132 : (Cond.methodLink "MailAgent" (172 : Nat) ({ cls := "MailAgent", name := "failOverdue", desc := "(LMailAgent$Message;)V" } : MethodName)) ∈ jTG := jin_2 (i := 132) rfl rfl
theorem w_2_134 : (Cond.instanceMethod ({ cls := "MailAgent", name := "failOverdue", desc := "(LMailAgent$Message;)V" } : MethodName)) ∈ jTG := jin_2 (i := 134) rfl rfl
theorem w_2_135 : (Cond.code ({ cls := "MailAgent", name := "failOverdue", desc := "(LMailAgent$Message;)V" } : MethodName) prog_1_method_27_code (2 : Nat) (Option.none : Option FieldType)) ∈ jTG := jin_2 (i := 135) rfl rfl
theorem w_2_136 : (Cond.methodLink "MailAgent" (245 : Nat) ({ cls := "MailAgent$Recipients", name := "failWaiting", desc := "()I" } : MethodName)) ∈ jTG := jin_2 (i := 136) rfl rfl
theorem w_2_137 : (Cond.instanceMethod ({ cls := "MailAgent$Recipients", name := "failWaiting", desc := "()I" } : MethodName)) ∈ jTG := jin_2 (i := 137) rfl rfl
theorem w_2_138 : (Cond.selects "MailAgent$Recipients" ({ cls := "MailAgent$Recipients", name := "failWaiting", desc := "()I" } : MethodName) ({ cls := "MailAgent$Recipients", name := "failWaiting", desc := "()I" } : MethodName)) ∈ jTG := jin_2 (i := 138) rfl rfl
theorem w_2_139 : (Cond.code ({ cls := "MailAgent$Recipients", name := "failWaiting", desc := "()I" } : MethodName) prog_6_method_7_code (3 : Nat) (Option.some FieldType.int)) ∈ jTG := jin_2 (i := 139) rfl rfl
theorem w_2_140 : (Cond.methodLink "MailAgent" (176 : Nat) ({ cls := "MailAgent", name := "settle", desc := "(LMailAgent$Message;)Z" } : MethodName)) ∈ jTG := jin_2 (i := 140) rfl rfl
theorem w_2_142 : (Cond.instanceMethod ({ cls := "MailAgent", name := "settle", desc := "(LMailAgent$Message;)Z" } : MethodName)) ∈ jTG := jin_2 (i := 142) rfl rfl
theorem w_2_143 : (Cond.code ({ cls := "MailAgent", name := "settle", desc := "(LMailAgent$Message;)Z" } : MethodName) prog_1_method_28_code (2 : Nat) (Option.some FieldType.boolean)) ∈ jTG := jin_2 (i := 143) rfl rfl
theorem w_2_144 : (Cond.methodLink "MailAgent" (248 : Nat) ({ cls := "MailAgent$Recipients", name := "inState", desc := "(I)I" } : MethodName)) ∈ jTG := jin_2 (i := 144) rfl rfl
theorem w_2_145 : (Cond.instanceMethod ({ cls := "MailAgent$Recipients", name := "inState", desc := "(I)I" } : MethodName)) ∈ jTG := jin_2 (i := 145) rfl rfl
theorem w_2_146 : (Cond.selects "MailAgent$Recipients" ({ cls := "MailAgent$Recipients", name := "inState", desc := "(I)I" } : MethodName) ({ cls := "MailAgent$Recipients", name := "inState", desc := "(I)I" } : MethodName)) ∈ jTG := jin_2 (i := 146) rfl rfl
theorem w_2_147 : (Cond.code ({ cls := "MailAgent$Recipients", name := "inState", desc := "(I)I" } : MethodName) prog_6_method_6_code (4 : Nat) (Option.some FieldType.int)) ∈ jTG := jin_2 (i := 147) rfl rfl
theorem w_2_148 : (Cond.methodLink "MailAgent" (251 : Nat) ({ cls := "MailAgent$Message", name := "putOff", desc := "(II)V" } : MethodName)) ∈ jTG := jin_2 (i := 148) rfl rfl
theorem w_2_149 : (Cond.instanceMethod ({ cls := "MailAgent$Message", name := "putOff", desc := "(II)V" } : MethodName)) ∈ jTG := jin_2 (i := 149) rfl rfl
theorem w_2_150 : (Cond.selects "MailAgent$Message" ({ cls := "MailAgent$Message", name := "putOff", desc := "(II)V" } : MethodName) ({ cls := "MailAgent$Message", name := "putOff", desc := "(II)V" } : MethodName)) ∈ jTG := jin_2 (i := 150) rfl rfl
theorem w_2_151 : (Cond.code ({ cls := "MailAgent$Message", name := "putOff", desc := "(II)V" } : MethodName) prog_4_method_4_code (3 : Nat) (Option.none : Option FieldType)) ∈ jTG := jin_2 (i := 151) rfl rfl
theorem w_2_152 : (Cond.methodLink "MailAgent$Message" (49 : Nat) ({ cls := "java/lang/Math", name := "min", desc := "(II)I" } : MethodName)) ∈ jTG := jin_2 (i := 152) rfl rfl
theorem w_2_153 : (Cond.methodLink "MailAgent" (254 : Nat) ({ cls := "MailAgent$Message", name := "becomeReport", desc := "()V" } : MethodName)) ∈ jTG := jin_2 (i := 153) rfl rfl
theorem w_2_154 : (Cond.instanceMethod ({ cls := "MailAgent$Message", name := "becomeReport", desc := "()V" } : MethodName)) ∈ jTG := jin_2 (i := 154) rfl rfl
theorem w_2_155 : (Cond.selects "MailAgent$Message" ({ cls := "MailAgent$Message", name := "becomeReport", desc := "()V" } : MethodName) ({ cls := "MailAgent$Message", name := "becomeReport", desc := "()V" } : MethodName)) ∈ jTG := jin_2 (i := 155) rfl rfl
theorem w_2_156 : (Cond.code ({ cls := "MailAgent$Message", name := "becomeReport", desc := "()V" } : MethodName) prog_4_method_5_code (1 : Nat) (Option.none : Option FieldType)) ∈ jTG := jin_2 (i := 156) rfl rfl
theorem w_2_157 : (Cond.methodLink "MailAgent$Message" (56 : Nat) ({ cls := "MailAgent$Recipients", name := "add", desc := "(I)V" } : MethodName)) ∈ jTG := jin_2 (i := 157) rfl rfl
theorem w_2_158 : (Cond.methodLink "MailAgent" (180 : Nat) ({ cls := "MailAgent$Queue", name := "removeAt", desc := "(I)V" } : MethodName)) ∈ jTG := jin_2 (i := 158) rfl rfl
theorem w_2_159 : (Cond.instanceMethod ({ cls := "MailAgent$Queue", name := "removeAt", desc := "(I)V" } : MethodName)) ∈ jTG := jin_2 (i := 159) rfl rfl
theorem w_2_160 : (Cond.selects "MailAgent$Queue" ({ cls := "MailAgent$Queue", name := "removeAt", desc := "(I)V" } : MethodName) ({ cls := "MailAgent$Queue", name := "removeAt", desc := "(I)V" } : MethodName)) ∈ jTG := jin_2 (i := 160) rfl rfl
theorem w_2_161 : (Cond.code ({ cls := "MailAgent$Queue", name := "removeAt", desc := "(I)V" } : MethodName) prog_5_method_3_code (4 : Nat) (Option.none : Option FieldType)) ∈ jTG := jin_2 (i := 161) rfl rfl
theorem w_2_162 : (Cond.methodLink "MailAgent" (183 : Nat) ({ cls := "MailAgent", name := "keepChangesFew", desc := "()V" } : MethodName)) ∈ jTG := jin_2 (i := 162) rfl rfl
theorem w_2_164 : (Cond.instanceMethod ({ cls := "MailAgent", name := "keepChangesFew", desc := "()V" } : MethodName)) ∈ jTG := jin_2 (i := 164) rfl rfl
theorem w_2_165 : (Cond.code ({ cls := "MailAgent", name := "keepChangesFew", desc := "()V" } : MethodName) prog_1_method_29_code (1 : Nat) (Option.none : Option FieldType)) ∈ jTG := jin_2 (i := 165) rfl rfl
theorem w_2_166 : (Cond.methodLink "MailAgentLaw" (60 : Nat) ({ cls := "MailAgent", name := "sync", desc := "()I" } : MethodName)) ∈ jTG := jin_2 (i := 166) rfl rfl
theorem w_2_167 : (Cond.instanceMethod ({ cls := "MailAgent", name := "sync", desc := "()I" } : MethodName)) ∈ jTG := jin_2 (i := 167) rfl rfl
theorem w_2_168 : (Cond.selects "MailAgent" ({ cls := "MailAgent", name := "sync", desc := "()I" } : MethodName) ({ cls := "MailAgent", name := "sync", desc := "()I" } : MethodName)) ∈ jTG := jin_2 (i := 168) rfl rfl
theorem w_2_169 : (Cond.code ({ cls := "MailAgent", name := "sync", desc := "()I" } : MethodName) prog_1_method_11_code (2 : Nat) (Option.some FieldType.int)) ∈ jTG := jin_2 (i := 169) rfl rfl
theorem w_2_170 : (Cond.methodLink "MailAgentLaw" (65 : Nat) ({ cls := "MailAgent", name := "crash", desc := "()I" } : MethodName)) ∈ jTG := jin_2 (i := 170) rfl rfl
theorem w_2_171 : (Cond.instanceMethod ({ cls := "MailAgent", name := "crash", desc := "()I" } : MethodName)) ∈ jTG := jin_2 (i := 171) rfl rfl
theorem w_2_172 : (Cond.selects "MailAgent" ({ cls := "MailAgent", name := "crash", desc := "()I" } : MethodName) ({ cls := "MailAgent", name := "crash", desc := "()I" } : MethodName)) ∈ jTG := jin_2 (i := 172) rfl rfl
theorem w_2_173 : (Cond.code ({ cls := "MailAgent", name := "crash", desc := "()I" } : MethodName) prog_1_method_12_code (2 : Nat) (Option.some FieldType.int)) ∈ jTG := jin_2 (i := 173) rfl rfl
theorem w_2_174 : (Cond.methodLink "MailAgentLaw" (69 : Nat) ({ cls := "MailAgent", name := "drop", desc := "(I)I" } : MethodName)) ∈ jTG := jin_2 (i := 174) rfl rfl
theorem w_2_175 : (Cond.instanceMethod ({ cls := "MailAgent", name := "drop", desc := "(I)I" } : MethodName)) ∈ jTG := jin_2 (i := 175) rfl rfl
theorem w_2_176 : (Cond.selects "MailAgent" ({ cls := "MailAgent", name := "drop", desc := "(I)I" } : MethodName) ({ cls := "MailAgent", name := "drop", desc := "(I)I" } : MethodName)) ∈ jTG := jin_2 (i := 176) rfl rfl
theorem w_2_177 : (Cond.code ({ cls := "MailAgent", name := "drop", desc := "(I)I" } : MethodName) prog_1_method_13_code (3 : Nat) (Option.some FieldType.int)) ∈ jTG := jin_2 (i := 177) rfl rfl
theorem w_2_178 : (Cond.methodLink "MailAgent" (190 : Nat) ({ cls := "MailAgent$Queue", name := "indexOf", desc := "(I)I" } : MethodName)) ∈ jTG := jin_2 (i := 178) rfl rfl
theorem w_2_179 : (Cond.instanceMethod ({ cls := "MailAgent$Queue", name := "indexOf", desc := "(I)I" } : MethodName)) ∈ jTG := jin_2 (i := 179) rfl rfl
theorem w_2_180 : (Cond.selects "MailAgent$Queue" ({ cls := "MailAgent$Queue", name := "indexOf", desc := "(I)I" } : MethodName) ({ cls := "MailAgent$Queue", name := "indexOf", desc := "(I)I" } : MethodName)) ∈ jTG := jin_2 (i := 180) rfl rfl
theorem w_2_181 : (Cond.code ({ cls := "MailAgent$Queue", name := "indexOf", desc := "(I)I" } : MethodName) prog_5_method_4_code (3 : Nat) (Option.some FieldType.int)) ∈ jTG := jin_2 (i := 181) rfl rfl
theorem w_2_182 : (Cond.methodLink "MailAgentLaw" (73 : Nat) ({ cls := "MailAgent", name := "hurry", desc := "(I)I" } : MethodName)) ∈ jTG := jin_2 (i := 182) rfl rfl
theorem w_2_183 : (Cond.instanceMethod ({ cls := "MailAgent", name := "hurry", desc := "(I)I" } : MethodName)) ∈ jTG := jin_2 (i := 183) rfl rfl
theorem w_2_184 : (Cond.selects "MailAgent" ({ cls := "MailAgent", name := "hurry", desc := "(I)I" } : MethodName) ({ cls := "MailAgent", name := "hurry", desc := "(I)I" } : MethodName)) ∈ jTG := jin_2 (i := 184) rfl rfl
theorem w_2_185 : (Cond.code ({ cls := "MailAgent", name := "hurry", desc := "(I)I" } : MethodName) prog_1_method_14_code (3 : Nat) (Option.some FieldType.int)) ∈ jTG := jin_2 (i := 185) rfl rfl
theorem w_2_186 : (Cond.methodLink "MailAgentLaw" (77 : Nat) ({ cls := "MailAgent", name := "count", desc := "(I)I" } : MethodName)) ∈ jTG := jin_2 (i := 186) rfl rfl
theorem w_2_187 : (Cond.instanceMethod ({ cls := "MailAgent", name := "count", desc := "(I)I" } : MethodName)) ∈ jTG := jin_2 (i := 187) rfl rfl
theorem w_2_188 : (Cond.selects "MailAgent" ({ cls := "MailAgent", name := "count", desc := "(I)I" } : MethodName) ({ cls := "MailAgent", name := "count", desc := "(I)I" } : MethodName)) ∈ jTG := jin_2 (i := 188) rfl rfl
theorem w_2_189 : (Cond.code ({ cls := "MailAgent", name := "count", desc := "(I)I" } : MethodName) prog_1_method_15_code (2 : Nat) (Option.some FieldType.int)) ∈ jTG := jin_2 (i := 189) rfl rfl
theorem w_2_190 : (Cond.methodLink "MailAgent" (193 : Nat) ({ cls := "MailAgent$Queue", name := "waitingRecipients", desc := "()I" } : MethodName)) ∈ jTG := jin_2 (i := 190) rfl rfl
theorem w_2_191 : (Cond.instanceMethod ({ cls := "MailAgent$Queue", name := "waitingRecipients", desc := "()I" } : MethodName)) ∈ jTG := jin_2 (i := 191) rfl rfl
theorem w_2_192 : (Cond.selects "MailAgent$Queue" ({ cls := "MailAgent$Queue", name := "waitingRecipients", desc := "()I" } : MethodName) ({ cls := "MailAgent$Queue", name := "waitingRecipients", desc := "()I" } : MethodName)) ∈ jTG := jin_2 (i := 192) rfl rfl
theorem w_2_193 : (Cond.code ({ cls := "MailAgent$Queue", name := "waitingRecipients", desc := "()I" } : MethodName) prog_5_method_6_code (3 : Nat) (Option.some FieldType.int)) ∈ jTG := jin_2 (i := 193) rfl rfl
theorem w_2_194 : (Cond.methodLink "MailAgent$Queue" (37 : Nat) ({ cls := "MailAgent$Recipients", name := "inState", desc := "(I)I" } : MethodName)) ∈ jTG := jin_2 (i := 194) rfl rfl
theorem w_2_195 : (Cond.methodLink "MailAgentLaw" (81 : Nat) ({ cls := "MailAgent", name := "message", desc := "(I)I" } : MethodName)) ∈ jTG := jin_2 (i := 195) rfl rfl
theorem w_2_196 : (Cond.instanceMethod ({ cls := "MailAgent", name := "message", desc := "(I)I" } : MethodName)) ∈ jTG := jin_2 (i := 196) rfl rfl
theorem w_2_197 : (Cond.selects "MailAgent" ({ cls := "MailAgent", name := "message", desc := "(I)I" } : MethodName) ({ cls := "MailAgent", name := "message", desc := "(I)I" } : MethodName)) ∈ jTG := jin_2 (i := 197) rfl rfl
theorem w_2_198 : (Cond.code ({ cls := "MailAgent", name := "message", desc := "(I)I" } : MethodName) prog_1_method_16_code (2 : Nat) (Option.some FieldType.int)) ∈ jTG := jin_2 (i := 198) rfl rfl
theorem w_2_199 : (Cond.methodLink "MailAgentLaw" (85 : Nat) ({ cls := "MailAgent", name := "status", desc := "(II)I" } : MethodName)) ∈ jTG := jin_2 (i := 199) rfl rfl
theorem w_2_200 : (Cond.instanceMethod ({ cls := "MailAgent", name := "status", desc := "(II)I" } : MethodName)) ∈ jTG := jin_2 (i := 200) rfl rfl
theorem w_2_201 : (Cond.selects "MailAgent" ({ cls := "MailAgent", name := "status", desc := "(II)I" } : MethodName) ({ cls := "MailAgent", name := "status", desc := "(II)I" } : MethodName)) ∈ jTG := jin_2 (i := 201) rfl rfl
theorem w_2_202 : (Cond.code ({ cls := "MailAgent", name := "status", desc := "(II)I" } : MethodName) prog_1_method_17_code (4 : Nat) (Option.some FieldType.int)) ∈ jTG := jin_2 (i := 202) rfl rfl
theorem w_2_203 : (Cond.methodLink "MailAgent" (200 : Nat) ({ cls := "MailAgent$Recipients", name := "stateOf", desc := "(I)I" } : MethodName)) ∈ jTG := jin_2 (i := 203) rfl rfl
theorem w_2_204 : (Cond.instanceMethod ({ cls := "MailAgent$Recipients", name := "stateOf", desc := "(I)I" } : MethodName)) ∈ jTG := jin_2 (i := 204) rfl rfl
theorem w_2_205 : (Cond.selects "MailAgent$Recipients" ({ cls := "MailAgent$Recipients", name := "stateOf", desc := "(I)I" } : MethodName) ({ cls := "MailAgent$Recipients", name := "stateOf", desc := "(I)I" } : MethodName)) ∈ jTG := jin_2 (i := 205) rfl rfl
theorem w_2_206 : (Cond.code ({ cls := "MailAgent$Recipients", name := "stateOf", desc := "(I)I" } : MethodName) prog_6_method_5_code (3 : Nat) (Option.some FieldType.int)) ∈ jTG := jin_2 (i := 206) rfl rfl
theorem w_2_207 : (Cond.methodLink "MailAgentLaw" (89 : Nat) ({ cls := "MailAgent", name := "sender", desc := "(I)I" } : MethodName)) ∈ jTG := jin_2 (i := 207) rfl rfl
theorem w_2_208 : (Cond.instanceMethod ({ cls := "MailAgent", name := "sender", desc := "(I)I" } : MethodName)) ∈ jTG := jin_2 (i := 208) rfl rfl
theorem w_2_209 : (Cond.selects "MailAgent" ({ cls := "MailAgent", name := "sender", desc := "(I)I" } : MethodName) ({ cls := "MailAgent", name := "sender", desc := "(I)I" } : MethodName)) ∈ jTG := jin_2 (i := 209) rfl rfl
theorem w_2_210 : (Cond.code ({ cls := "MailAgent", name := "sender", desc := "(I)I" } : MethodName) prog_1_method_18_code (3 : Nat) (Option.some FieldType.int)) ∈ jTG := jin_2 (i := 210) rfl rfl
theorem w_2_211 : (Cond.methodLink "MailAgentLaw" (93 : Nat) ({ cls := "MailAgent", name := "due", desc := "(I)I" } : MethodName)) ∈ jTG := jin_2 (i := 211) rfl rfl
theorem w_2_212 : (Cond.instanceMethod ({ cls := "MailAgent", name := "due", desc := "(I)I" } : MethodName)) ∈ jTG := jin_2 (i := 212) rfl rfl
theorem w_2_213 : (Cond.selects "MailAgent" ({ cls := "MailAgent", name := "due", desc := "(I)I" } : MethodName) ({ cls := "MailAgent", name := "due", desc := "(I)I" } : MethodName)) ∈ jTG := jin_2 (i := 213) rfl rfl
theorem w_2_214 : (Cond.code ({ cls := "MailAgent", name := "due", desc := "(I)I" } : MethodName) prog_1_method_19_code (3 : Nat) (Option.some FieldType.int)) ∈ jTG := jin_2 (i := 214) rfl rfl
theorem w_2_215 : (Cond.methodLink "MailAgentLaw" (97 : Nat) ({ cls := "MailAgent", name := "received", desc := "(II)I" } : MethodName)) ∈ jTG := jin_2 (i := 215) rfl rfl
theorem w_2_216 : (Cond.instanceMethod ({ cls := "MailAgent", name := "received", desc := "(II)I" } : MethodName)) ∈ jTG := jin_2 (i := 216) rfl rfl
theorem w_2_217 : (Cond.selects "MailAgent" ({ cls := "MailAgent", name := "received", desc := "(II)I" } : MethodName) ({ cls := "MailAgent", name := "received", desc := "(II)I" } : MethodName)) ∈ jTG := jin_2 (i := 217) rfl rfl
theorem w_2_218 : (Cond.code ({ cls := "MailAgent", name := "received", desc := "(II)I" } : MethodName) prog_1_method_20_code (3 : Nat) (Option.some FieldType.int)) ∈ jTG := jin_2 (i := 218) rfl rfl
theorem w_2_219 : (Cond.methodLink "MailAgentLaw" (9 : Nat) ({ cls := "MailAgentLaw", name := "cell", desc := "([II)I" } : MethodName)) ∈ jTG := jin_2 (i := 219) rfl rfl
theorem w_2_220 : (Cond.static ({ cls := "MailAgentLaw", name := "cell", desc := "([II)I" } : MethodName)) ∈ jTG := jin_2 (i := 220) rfl rfl
theorem w_2_221 : (Cond.code ({ cls := "MailAgentLaw", name := "cell", desc := "([II)I" } : MethodName) method_2_code (2 : Nat) (Option.some FieldType.int)) ∈ jTG := jin_2 (i := 221) rfl rfl
theorem w_2_222 : (Cond.classLink "MailAgentLaw" (18 : Nat) "MailAgentModel") ∈ jTG := jin_2 (i := 222) rfl rfl
theorem w_2_223 : (Cond.instantiable "MailAgentModel" (24 : Nat)) ∈ jTG := jin_2 (i := 223) rfl rfl
theorem w_2_224 : (Cond.methodLink "MailAgentLaw" (20 : Nat) ({ cls := "MailAgentModel", name := "<init>", desc := "(III)V" } : MethodName)) ∈ jTG := jin_2 (i := 224) rfl rfl
theorem w_2_225 : (Cond.instanceMethod ({ cls := "MailAgentModel", name := "<init>", desc := "(III)V" } : MethodName)) ∈ jTG := jin_2 (i := 225) rfl rfl
theorem w_2_226 : (Cond.code ({ cls := "MailAgentModel", name := "<init>", desc := "(III)V" } : MethodName) prog_10_method_1_code (4 : Nat) (Option.none : Option FieldType)) ∈ jTG := jin_2 (i := 226) rfl rfl
theorem w_2_227 : (Cond.methodLink "MailAgentModel" (1 : Nat) ({ cls := "java/lang/Object", name := "<init>", desc := "()V" } : MethodName)) ∈ jTG := jin_2 (i := 227) rfl rfl
theorem w_2_228 : (Cond.methodLink "MailAgentModel" (49 : Nat) ({ cls := "MailAgentModel", name := "within", desc := "(III)I" } : MethodName)) ∈ jTG := jin_2 (i := 228) rfl rfl
theorem w_2_229 : (Cond.static ({ cls := "MailAgentModel", name := "within", desc := "(III)I" } : MethodName)) ∈ jTG := jin_2 (i := 229) rfl rfl
theorem w_2_230 : (Cond.code ({ cls := "MailAgentModel", name := "within", desc := "(III)I" } : MethodName) prog_10_method_2_code (3 : Nat) (Option.some FieldType.int)) ∈ jTG := jin_2 (i := 230) rfl rfl
theorem w_2_231 : (Cond.fieldLink "MailAgentModel" (53 : Nat) "MailAgentModel" "minGap" "I") ∈ jTG := jin_2 (i := 231) rfl rfl
theorem w_2_232 : (Cond.fieldLink "MailAgentModel" (57 : Nat) "MailAgentModel" "maxGap" "I") ∈ jTG := jin_2 (i := 232) rfl rfl
theorem w_2_233 : (Cond.fieldLink "MailAgentModel" (60 : Nat) "MailAgentModel" "giveUp" "I") ∈ jTG := jin_2 (i := 233) rfl rfl
theorem w_2_234 : (Cond.fieldLink "MailAgentModel" (7 : Nat) "MailAgentModel" "goals" "[I") ∈ jTG := jin_2 (i := 234) rfl rfl
theorem w_2_235 : (Cond.fieldLink "MailAgentModel" (13 : Nat) "MailAgentModel" "goalCount" "[I") ∈ jTG := jin_2 (i := 235) rfl rfl
theorem w_2_236 : (Cond.fieldLink "MailAgentModel" (16 : Nat) "MailAgentModel" "routeHost" "[I") ∈ jTG := jin_2 (i := 236) rfl rfl
theorem w_2_237 : (Cond.fieldLink "MailAgentModel" (19 : Nat) "MailAgentModel" "routeKey" "[I") ∈ jTG := jin_2 (i := 237) rfl rfl
theorem w_2_238 : (Cond.fieldLink "MailAgentModel" (22 : Nat) "MailAgentModel" "routeCount" "[I") ∈ jTG := jin_2 (i := 238) rfl rfl
theorem w_2_239 : (Cond.fieldLink "MailAgentModel" (25 : Nat) "MailAgentModel" "hosts" "[I") ∈ jTG := jin_2 (i := 239) rfl rfl
theorem w_3_0 : (Cond.fieldLink "MailAgentModel" (101 : Nat) "MailAgentModel" "clock" "I") ∈ jTG := jin_3 (i := 0) rfl rfl
theorem w_3_1 : (Cond.fieldLink "MailAgentModel" (98 : Nat) "MailAgentModel" "last" "I") ∈ jTG := jin_3 (i := 1) rfl rfl
theorem w_3_2 : (Cond.fieldLink "MailAgentModel" (28 : Nat) "MailAgentModel" "queue" "[I") ∈ jTG := jin_3 (i := 2) rfl rfl
theorem w_3_3 : (Cond.fieldLink "MailAgentModel" (85 : Nat) "MailAgentModel" "queued" "I") ∈ jTG := jin_3 (i := 3) rfl rfl
theorem w_3_4 : (Cond.fieldLink "MailAgentModel" (31 : Nat) "MailAgentModel" "safe" "[I") ∈ jTG := jin_3 (i := 4) rfl rfl
theorem w_3_5 : (Cond.fieldLink "MailAgentModel" (91 : Nat) "MailAgentModel" "safeQueued" "I") ∈ jTG := jin_3 (i := 5) rfl rfl
theorem w_3_6 : (Cond.fieldLink "MailAgentModel" (88 : Nat) "MailAgentModel" "changes" "I") ∈ jTG := jin_3 (i := 6) rfl rfl
theorem w_3_7 : (Cond.fieldLink "MailAgentModel" (67 : Nat) "MailAgentModel" "open" "Z") ∈ jTG := jin_3 (i := 7) rfl rfl
theorem w_3_8 : (Cond.fieldLink "MailAgentModel" (71 : Nat) "MailAgentModel" "from" "I") ∈ jTG := jin_3 (i := 8) rfl rfl
theorem w_3_9 : (Cond.fieldLink "MailAgentModel" (34 : Nat) "MailAgentModel" "to" "[I") ∈ jTG := jin_3 (i := 9) rfl rfl
theorem w_3_10 : (Cond.fieldLink "MailAgentModel" (74 : Nat) "MailAgentModel" "toCount" "I") ∈ jTG := jin_3 (i := 10) rfl rfl
theorem w_3_11 : (Cond.fieldLink "MailAgentModel" (37 : Nat) "MailAgentModel" "letters" "[I") ∈ jTG := jin_3 (i := 11) rfl rfl
theorem w_3_12 : (Cond.fieldLink "MailAgentModel" (40 : Nat) "MailAgentModel" "reports" "[I") ∈ jTG := jin_3 (i := 12) rfl rfl
theorem w_3_13 : (Cond.fieldLink "MailAgentModel" (43 : Nat) "MailAgentModel" "latest" "[I") ∈ jTG := jin_3 (i := 13) rfl rfl
theorem w_3_14 : (Cond.fieldLink "MailAgentModel" (46 : Nat) "MailAgentModel" "carried" "[I") ∈ jTG := jin_3 (i := 14) rfl rfl
theorem w_3_15 : (Cond.laysFinal "MailAgentModel" "MailAgentModel" "minGap" "I") ∈ jTG := jin_3 (i := 15) rfl rfl
theorem w_3_17 : (Cond.laysFinal "MailAgentModel" "MailAgentModel" "maxGap" "I") ∈ jTG := jin_3 (i := 17) rfl rfl
theorem w_3_19 : (Cond.laysFinal "MailAgentModel" "MailAgentModel" "giveUp" "I") ∈ jTG := jin_3 (i := 19) rfl rfl
theorem w_3_21 : (Cond.laysFinal "MailAgentModel" "MailAgentModel" "goals" "[I") ∈ jTG := jin_3 (i := 21) rfl rfl
theorem w_3_23 : (Cond.laysFinal "MailAgentModel" "MailAgentModel" "goalCount" "[I") ∈ jTG := jin_3 (i := 23) rfl rfl
theorem w_3_25 : (Cond.laysFinal "MailAgentModel" "MailAgentModel" "routeHost" "[I") ∈ jTG := jin_3 (i := 25) rfl rfl
theorem w_3_27 : (Cond.laysFinal "MailAgentModel" "MailAgentModel" "routeKey" "[I") ∈ jTG := jin_3 (i := 27) rfl rfl
theorem w_3_29 : (Cond.laysFinal "MailAgentModel" "MailAgentModel" "routeCount" "[I") ∈ jTG := jin_3 (i := 29) rfl rfl
theorem w_3_31 : (Cond.laysFinal "MailAgentModel" "MailAgentModel" "hosts" "[I") ∈ jTG := jin_3 (i := 31) rfl rfl
theorem w_3_33 : (Cond.lays "MailAgentModel" "MailAgentModel" "clock" "I") ∈ jTG := jin_3 (i := 33) rfl rfl
theorem w_3_35 : (Cond.lays "MailAgentModel" "MailAgentModel" "last" "I") ∈ jTG := jin_3 (i := 35) rfl rfl
theorem w_3_37 : (Cond.laysFinal "MailAgentModel" "MailAgentModel" "queue" "[I") ∈ jTG := jin_3 (i := 37) rfl rfl
theorem w_3_39 : (Cond.lays "MailAgentModel" "MailAgentModel" "queued" "I") ∈ jTG := jin_3 (i := 39) rfl rfl
theorem w_3_41 : (Cond.laysFinal "MailAgentModel" "MailAgentModel" "safe" "[I") ∈ jTG := jin_3 (i := 41) rfl rfl
theorem w_3_43 : (Cond.lays "MailAgentModel" "MailAgentModel" "safeQueued" "I") ∈ jTG := jin_3 (i := 43) rfl rfl
theorem w_3_45 : (Cond.lays "MailAgentModel" "MailAgentModel" "changes" "I") ∈ jTG := jin_3 (i := 45) rfl rfl
theorem w_3_47 : (Cond.lays "MailAgentModel" "MailAgentModel" "open" "Z") ∈ jTG := jin_3 (i := 47) rfl rfl
theorem w_3_49 : (Cond.lays "MailAgentModel" "MailAgentModel" "from" "I") ∈ jTG := jin_3 (i := 49) rfl rfl
theorem w_3_51 : (Cond.laysFinal "MailAgentModel" "MailAgentModel" "to" "[I") ∈ jTG := jin_3 (i := 51) rfl rfl
theorem w_3_53 : (Cond.lays "MailAgentModel" "MailAgentModel" "toCount" "I") ∈ jTG := jin_3 (i := 53) rfl rfl
theorem w_3_55 : (Cond.laysFinal "MailAgentModel" "MailAgentModel" "letters" "[I") ∈ jTG := jin_3 (i := 55) rfl rfl
theorem w_3_57 : (Cond.laysFinal "MailAgentModel" "MailAgentModel" "reports" "[I") ∈ jTG := jin_3 (i := 57) rfl rfl
theorem w_3_59 : (Cond.laysFinal "MailAgentModel" "MailAgentModel" "latest" "[I") ∈ jTG := jin_3 (i := 59) rfl rfl
theorem w_3_61 : (Cond.laysFinal "MailAgentModel" "MailAgentModel" "carried" "[I") ∈ jTG := jin_3 (i := 61) rfl rfl
theorem w_3_64 : (Cond.methodLink "MailAgentLaw" (25 : Nat) ({ cls := "MailAgentModel", name := "alias", desc := "(II)I" } : MethodName)) ∈ jTG := jin_3 (i := 64) rfl rfl
theorem w_3_65 : (Cond.instanceMethod ({ cls := "MailAgentModel", name := "alias", desc := "(II)I" } : MethodName)) ∈ jTG := jin_3 (i := 65) rfl rfl
theorem w_3_66 : (Cond.selects "MailAgentModel" ({ cls := "MailAgentModel", name := "alias", desc := "(II)I" } : MethodName) ({ cls := "MailAgentModel", name := "alias", desc := "(II)I" } : MethodName)) ∈ jTG := jin_3 (i := 66) rfl rfl
theorem w_3_67 : (Cond.code ({ cls := "MailAgentModel", name := "alias", desc := "(II)I" } : MethodName) prog_10_method_4_code (4 : Nat) (Option.some FieldType.int)) ∈ jTG := jin_3 (i := 67) rfl rfl
theorem w_3_68 : (Cond.methodLink "MailAgentModel" (63 : Nat) ({ cls := "MailAgentModel", name := "out", desc := "(II)Z" } : MethodName)) ∈ jTG := jin_3 (i := 68) rfl rfl
theorem w_3_69 : (Cond.static ({ cls := "MailAgentModel", name := "out", desc := "(II)Z" } : MethodName)) ∈ jTG := jin_3 (i := 69) rfl rfl
theorem w_3_70 : (Cond.code ({ cls := "MailAgentModel", name := "out", desc := "(II)Z" } : MethodName) prog_10_method_3_code (2 : Nat) (Option.some FieldType.boolean)) ∈ jTG := jin_3 (i := 70) rfl rfl
theorem w_3_71 : (Cond.methodLink "MailAgentLaw" (30 : Nat) ({ cls := "MailAgentModel", name := "unalias", desc := "(I)I" } : MethodName)) ∈ jTG := jin_3 (i := 71) rfl rfl
theorem w_3_72 : (Cond.instanceMethod ({ cls := "MailAgentModel", name := "unalias", desc := "(I)I" } : MethodName)) ∈ jTG := jin_3 (i := 72) rfl rfl
theorem w_3_73 : (Cond.selects "MailAgentModel" ({ cls := "MailAgentModel", name := "unalias", desc := "(I)I" } : MethodName) ({ cls := "MailAgentModel", name := "unalias", desc := "(I)I" } : MethodName)) ∈ jTG := jin_3 (i := 73) rfl rfl
theorem w_3_74 : (Cond.code ({ cls := "MailAgentModel", name := "unalias", desc := "(I)I" } : MethodName) prog_10_method_5_code (3 : Nat) (Option.some FieldType.int)) ∈ jTG := jin_3 (i := 74) rfl rfl
theorem w_3_75 : (Cond.methodLink "MailAgentLaw" (35 : Nat) ({ cls := "MailAgentModel", name := "route", desc := "(III)I" } : MethodName)) ∈ jTG := jin_3 (i := 75) rfl rfl
theorem w_3_76 : (Cond.instanceMethod ({ cls := "MailAgentModel", name := "route", desc := "(III)I" } : MethodName)) ∈ jTG := jin_3 (i := 76) rfl rfl
theorem w_3_77 : (Cond.selects "MailAgentModel" ({ cls := "MailAgentModel", name := "route", desc := "(III)I" } : MethodName) ({ cls := "MailAgentModel", name := "route", desc := "(III)I" } : MethodName)) ∈ jTG := jin_3 (i := 77) rfl rfl
theorem w_3_78 : (Cond.code ({ cls := "MailAgentModel", name := "route", desc := "(III)I" } : MethodName) prog_10_method_6_code (6 : Nat) (Option.some FieldType.int)) ∈ jTG := jin_3 (i := 78) rfl rfl
theorem w_3_79 : (Cond.methodLink "MailAgentLaw" (39 : Nat) ({ cls := "MailAgentModel", name := "unroute", desc := "(I)I" } : MethodName)) ∈ jTG := jin_3 (i := 79) rfl rfl
theorem w_3_80 : (Cond.instanceMethod ({ cls := "MailAgentModel", name := "unroute", desc := "(I)I" } : MethodName)) ∈ jTG := jin_3 (i := 80) rfl rfl
theorem w_3_81 : (Cond.selects "MailAgentModel" ({ cls := "MailAgentModel", name := "unroute", desc := "(I)I" } : MethodName) ({ cls := "MailAgentModel", name := "unroute", desc := "(I)I" } : MethodName)) ∈ jTG := jin_3 (i := 81) rfl rfl
theorem w_3_82 : (Cond.code ({ cls := "MailAgentModel", name := "unroute", desc := "(I)I" } : MethodName) prog_10_method_7_code (3 : Nat) (Option.some FieldType.int)) ∈ jTG := jin_3 (i := 82) rfl rfl
theorem w_3_83 : (Cond.methodLink "MailAgentLaw" (43 : Nat) ({ cls := "MailAgentModel", name := "host", desc := "(II)I" } : MethodName)) ∈ jTG := jin_3 (i := 83) rfl rfl
theorem w_3_84 : (Cond.instanceMethod ({ cls := "MailAgentModel", name := "host", desc := "(II)I" } : MethodName)) ∈ jTG := jin_3 (i := 84) rfl rfl
theorem w_3_85 : (Cond.selects "MailAgentModel" ({ cls := "MailAgentModel", name := "host", desc := "(II)I" } : MethodName) ({ cls := "MailAgentModel", name := "host", desc := "(II)I" } : MethodName)) ∈ jTG := jin_3 (i := 85) rfl rfl
theorem w_3_86 : (Cond.code ({ cls := "MailAgentModel", name := "host", desc := "(II)I" } : MethodName) prog_10_method_8_code (4 : Nat) (Option.some FieldType.int)) ∈ jTG := jin_3 (i := 86) rfl rfl
theorem w_3_87 : (Cond.methodLink "MailAgentLaw" (47 : Nat) ({ cls := "MailAgentModel", name := "from", desc := "(I)I" } : MethodName)) ∈ jTG := jin_3 (i := 87) rfl rfl
theorem w_3_88 : (Cond.instanceMethod ({ cls := "MailAgentModel", name := "from", desc := "(I)I" } : MethodName)) ∈ jTG := jin_3 (i := 88) rfl rfl
theorem w_3_89 : (Cond.selects "MailAgentModel" ({ cls := "MailAgentModel", name := "from", desc := "(I)I" } : MethodName) ({ cls := "MailAgentModel", name := "from", desc := "(I)I" } : MethodName)) ∈ jTG := jin_3 (i := 89) rfl rfl
theorem w_3_90 : (Cond.code ({ cls := "MailAgentModel", name := "from", desc := "(I)I" } : MethodName) prog_10_method_9_code (2 : Nat) (Option.some FieldType.int)) ∈ jTG := jin_3 (i := 90) rfl rfl
theorem w_3_91 : (Cond.methodLink "MailAgentLaw" (51 : Nat) ({ cls := "MailAgentModel", name := "to", desc := "(I)I" } : MethodName)) ∈ jTG := jin_3 (i := 91) rfl rfl
theorem w_3_92 : (Cond.instanceMethod ({ cls := "MailAgentModel", name := "to", desc := "(I)I" } : MethodName)) ∈ jTG := jin_3 (i := 92) rfl rfl
theorem w_3_93 : (Cond.selects "MailAgentModel" ({ cls := "MailAgentModel", name := "to", desc := "(I)I" } : MethodName) ({ cls := "MailAgentModel", name := "to", desc := "(I)I" } : MethodName)) ∈ jTG := jin_3 (i := 93) rfl rfl
theorem w_3_94 : (Cond.code ({ cls := "MailAgentModel", name := "to", desc := "(I)I" } : MethodName) prog_10_method_12_code (8 : Nat) (Option.some FieldType.int)) ∈ jTG := jin_3 (i := 94) rfl rfl
theorem w_3_95 : (Cond.methodLink "MailAgentModel" (77 : Nat) ({ cls := "MailAgentModel", name := "reached", desc := "(I)J" } : MethodName)) ∈ jTG := jin_3 (i := 95) rfl rfl
theorem w_3_97 : (Cond.instanceMethod ({ cls := "MailAgentModel", name := "reached", desc := "(I)J" } : MethodName)) ∈ jTG := jin_3 (i := 97) rfl rfl
theorem w_3_98 : (Cond.code ({ cls := "MailAgentModel", name := "reached", desc := "(I)J" } : MethodName) prog_10_method_10_code (6 : Nat) (Option.some FieldType.long)) ∈ jTG := jin_3 (i := 98) rfl rfl
theorem w_3_99 : (Cond.methodLink "MailAgentModel" (81 : Nat) ({ cls := "MailAgentModel", name := "named", desc := "(I)Z" } : MethodName)) ∈ jTG := jin_3 (i := 99) rfl rfl
theorem w_3_101 : (Cond.instanceMethod ({ cls := "MailAgentModel", name := "named", desc := "(I)Z" } : MethodName)) ∈ jTG := jin_3 (i := 101) rfl rfl
theorem w_3_102 : (Cond.code ({ cls := "MailAgentModel", name := "named", desc := "(I)Z" } : MethodName) prog_10_method_11_code (3 : Nat) (Option.some FieldType.boolean)) ∈ jTG := jin_3 (i := 102) rfl rfl
theorem w_3_103 : (Cond.methodLink "MailAgentLaw" (55 : Nat) ({ cls := "MailAgentModel", name := "data", desc := "(I)I" } : MethodName)) ∈ jTG := jin_3 (i := 103) rfl rfl
theorem w_3_104 : (Cond.instanceMethod ({ cls := "MailAgentModel", name := "data", desc := "(I)I" } : MethodName)) ∈ jTG := jin_3 (i := 104) rfl rfl
theorem w_3_105 : (Cond.selects "MailAgentModel" ({ cls := "MailAgentModel", name := "data", desc := "(I)I" } : MethodName) ({ cls := "MailAgentModel", name := "data", desc := "(I)I" } : MethodName)) ∈ jTG := jin_3 (i := 105) rfl rfl
theorem w_3_106 : (Cond.code ({ cls := "MailAgentModel", name := "data", desc := "(I)I" } : MethodName) prog_10_method_15_code (4 : Nat) (Option.some FieldType.int)) ∈ jTG := jin_3 (i := 106) rfl rfl
theorem w_3_107 : (Cond.methodLink "MailAgentModel" (94 : Nat) ({ cls := "MailAgentModel", name := "costs", desc := "()I" } : MethodName)) ∈ jTG := jin_3 (i := 107) rfl rfl
theorem w_3_109 : (Cond.instanceMethod ({ cls := "MailAgentModel", name := "costs", desc := "()I" } : MethodName)) ∈ jTG := jin_3 (i := 109) rfl rfl
theorem w_3_110 : (Cond.code ({ cls := "MailAgentModel", name := "costs", desc := "()I" } : MethodName) prog_10_method_13_code (3 : Nat) (Option.some FieldType.int)) ∈ jTG := jin_3 (i := 110) rfl rfl
theorem w_3_111 : (Cond.methodLink "MailAgentModel" (104 : Nat) ({ cls := "MailAgentModel", name := "settle", desc := "()I" } : MethodName)) ∈ jTG := jin_3 (i := 111) rfl rfl
theorem w_3_113 : (Cond.instanceMethod ({ cls := "MailAgentModel", name := "settle", desc := "()I" } : MethodName)) ∈ jTG := jin_3 (i := 113) rfl rfl
theorem w_3_114 : (Cond.code ({ cls := "MailAgentModel", name := "settle", desc := "()I" } : MethodName) prog_10_method_14_code (3 : Nat) (Option.some FieldType.int)) ∈ jTG := jin_3 (i := 114) rfl rfl
theorem w_3_115 : (Cond.methodLink "MailAgentLaw" (59 : Nat) ({ cls := "MailAgentModel", name := "tick", desc := "(I)I" } : MethodName)) ∈ jTG := jin_3 (i := 115) rfl rfl
theorem w_3_116 : (Cond.instanceMethod ({ cls := "MailAgentModel", name := "tick", desc := "(I)I" } : MethodName)) ∈ jTG := jin_3 (i := 116) rfl rfl
theorem w_3_117 : (Cond.selects "MailAgentModel" ({ cls := "MailAgentModel", name := "tick", desc := "(I)I" } : MethodName) ({ cls := "MailAgentModel", name := "tick", desc := "(I)I" } : MethodName)) ∈ jTG := jin_3 (i := 117) rfl rfl
theorem w_3_118 : (Cond.code ({ cls := "MailAgentModel", name := "tick", desc := "(I)I" } : MethodName) prog_10_method_23_code (5 : Nat) (Option.some FieldType.int)) ∈ jTG := jin_3 (i := 118) rfl rfl
theorem w_3_119 : (Cond.constant "MailAgentModel" (126 : Nat) (1000000 : Int32)) ∈ jTG := jin_3 (i := 119) rfl rfl
theorem w_3_120 : (Cond.methodLink "MailAgentModel" (127 : Nat) ({ cls := "MailAgentModel", name := "find", desc := "(I)I" } : MethodName)) ∈ jTG := jin_3 (i := 120) rfl rfl
theorem w_3_122 : (Cond.instanceMethod ({ cls := "MailAgentModel", name := "find", desc := "(I)I" } : MethodName)) ∈ jTG := jin_3 (i := 122) rfl rfl
theorem w_3_123 : (Cond.code ({ cls := "MailAgentModel", name := "find", desc := "(I)I" } : MethodName) prog_10_method_26_code (3 : Nat) (Option.some FieldType.int)) ∈ jTG := jin_3 (i := 123) rfl rfl
theorem w_3_124 : (Cond.methodLink "MailAgentModel" (130 : Nat) ({ cls := "MailAgentModel", name := "attempt", desc := "(I)I" } : MethodName)) ∈ jTG := jin_3 (i := 124) rfl rfl
theorem w_3_126 : (Cond.instanceMethod ({ cls := "MailAgentModel", name := "attempt", desc := "(I)I" } : MethodName)) ∈ jTG := jin_3 (i := 126) rfl rfl
theorem w_3_127 : (Cond.code ({ cls := "MailAgentModel", name := "attempt", desc := "(I)I" } : MethodName) prog_10_method_20_code (6 : Nat) (Option.some FieldType.int)) ∈ jTG := jin_3 (i := 127) rfl rfl
theorem w_3_128 : (Cond.methodLink "MailAgentModel" (107 : Nat) ({ cls := "MailAgentModel", name := "carrier", desc := "(I)I" } : MethodName)) ∈ jTG := jin_3 (i := 128) rfl rfl
theorem w_3_130 : (Cond.instanceMethod ({ cls := "MailAgentModel", name := "carrier", desc := "(I)I" } : MethodName)) ∈ jTG := jin_3 (i := 130) rfl rfl
theorem w_3_131 : (Cond.code ({ cls := "MailAgentModel", name := "carrier", desc := "(I)I" } : MethodName) prog_10_method_16_code (6 : Nat) (Option.some FieldType.int)) ∈ jTG := jin_3 (i := 131) rfl rfl
theorem w_3_132 : (Cond.methodLink "MailAgentModel" (111 : Nat) ({ cls := "MailAgentModel", name := "mark", desc := "(II)V" } : MethodName)) ∈ jTG := jin_3 (i := 132) rfl rfl
theorem w_3_134 : (Cond.instanceMethod ({ cls := "MailAgentModel", name := "mark", desc := "(II)V" } : MethodName)) ∈ jTG := jin_3 (i := 134) rfl rfl
theorem w_3_135 : (Cond.code ({ cls := "MailAgentModel", name := "mark", desc := "(II)V" } : MethodName) prog_10_method_18_code (3 : Nat) (Option.none : Option FieldType)) ∈ jTG := jin_3 (i := 135) rfl rfl
theorem w_3_136 : (Cond.methodLink "MailAgentModel" (115 : Nat) ({ cls := "MailAgentModel", name := "deliver", desc := "(II)V" } : MethodName)) ∈ jTG := jin_3 (i := 136) rfl rfl
theorem w_3_138 : (Cond.instanceMethod ({ cls := "MailAgentModel", name := "deliver", desc := "(II)V" } : MethodName)) ∈ jTG := jin_3 (i := 138) rfl rfl
theorem w_3_139 : (Cond.code ({ cls := "MailAgentModel", name := "deliver", desc := "(II)V" } : MethodName) prog_10_method_19_code (3 : Nat) (Option.none : Option FieldType)) ∈ jTG := jin_3 (i := 139) rfl rfl
theorem w_3_140 : (Cond.methodLink "MailAgentModel" (118 : Nat) ({ cls := "MailAgentModel", name := "states", desc := "(II)I" } : MethodName)) ∈ jTG := jin_3 (i := 140) rfl rfl
theorem w_3_142 : (Cond.instanceMethod ({ cls := "MailAgentModel", name := "states", desc := "(II)I" } : MethodName)) ∈ jTG := jin_3 (i := 142) rfl rfl
theorem w_3_143 : (Cond.code ({ cls := "MailAgentModel", name := "states", desc := "(II)I" } : MethodName) prog_10_method_17_code (5 : Nat) (Option.some FieldType.int)) ∈ jTG := jin_3 (i := 143) rfl rfl
theorem w_3_144 : (Cond.methodLink "MailAgentModel" (122 : Nat) ({ cls := "MailAgentModel", name := "remove", desc := "(I)V" } : MethodName)) ∈ jTG := jin_3 (i := 144) rfl rfl
theorem w_3_146 : (Cond.instanceMethod ({ cls := "MailAgentModel", name := "remove", desc := "(I)V" } : MethodName)) ∈ jTG := jin_3 (i := 146) rfl rfl
theorem w_3_147 : (Cond.code ({ cls := "MailAgentModel", name := "remove", desc := "(I)V" } : MethodName) prog_10_method_21_code (3 : Nat) (Option.none : Option FieldType)) ∈ jTG := jin_3 (i := 147) rfl rfl
theorem w_3_148 : (Cond.methodLink "MailAgentModel" (133 : Nat) ({ cls := "MailAgentModel", name := "close", desc := "()V" } : MethodName)) ∈ jTG := jin_3 (i := 148) rfl rfl
theorem w_3_150 : (Cond.instanceMethod ({ cls := "MailAgentModel", name := "close", desc := "()V" } : MethodName)) ∈ jTG := jin_3 (i := 150) rfl rfl
theorem w_3_151 : (Cond.code ({ cls := "MailAgentModel", name := "close", desc := "()V" } : MethodName) prog_10_method_22_code (1 : Nat) (Option.none : Option FieldType)) ∈ jTG := jin_3 (i := 151) rfl rfl
theorem w_3_152 : (Cond.methodLink "MailAgentLaw" (64 : Nat) ({ cls := "MailAgentModel", name := "sync", desc := "()I" } : MethodName)) ∈ jTG := jin_3 (i := 152) rfl rfl
theorem w_3_153 : (Cond.instanceMethod ({ cls := "MailAgentModel", name := "sync", desc := "()I" } : MethodName)) ∈ jTG := jin_3 (i := 153) rfl rfl
theorem w_3_154 : (Cond.selects "MailAgentModel" ({ cls := "MailAgentModel", name := "sync", desc := "()I" } : MethodName) ({ cls := "MailAgentModel", name := "sync", desc := "()I" } : MethodName)) ∈ jTG := jin_3 (i := 154) rfl rfl
theorem w_3_155 : (Cond.code ({ cls := "MailAgentModel", name := "sync", desc := "()I" } : MethodName) prog_10_method_24_code (1 : Nat) (Option.some FieldType.int)) ∈ jTG := jin_3 (i := 155) rfl rfl
theorem w_3_156 : (Cond.methodLink "MailAgentLaw" (68 : Nat) ({ cls := "MailAgentModel", name := "crash", desc := "()I" } : MethodName)) ∈ jTG := jin_3 (i := 156) rfl rfl
theorem w_3_157 : (Cond.instanceMethod ({ cls := "MailAgentModel", name := "crash", desc := "()I" } : MethodName)) ∈ jTG := jin_3 (i := 157) rfl rfl
theorem w_3_158 : (Cond.selects "MailAgentModel" ({ cls := "MailAgentModel", name := "crash", desc := "()I" } : MethodName) ({ cls := "MailAgentModel", name := "crash", desc := "()I" } : MethodName)) ∈ jTG := jin_3 (i := 158) rfl rfl
theorem w_3_159 : (Cond.code ({ cls := "MailAgentModel", name := "crash", desc := "()I" } : MethodName) prog_10_method_25_code (2 : Nat) (Option.some FieldType.int)) ∈ jTG := jin_3 (i := 159) rfl rfl
theorem w_3_160 : (Cond.methodLink "MailAgentLaw" (72 : Nat) ({ cls := "MailAgentModel", name := "drop", desc := "(I)I" } : MethodName)) ∈ jTG := jin_3 (i := 160) rfl rfl
theorem w_3_161 : (Cond.instanceMethod ({ cls := "MailAgentModel", name := "drop", desc := "(I)I" } : MethodName)) ∈ jTG := jin_3 (i := 161) rfl rfl
theorem w_3_162 : (Cond.selects "MailAgentModel" ({ cls := "MailAgentModel", name := "drop", desc := "(I)I" } : MethodName) ({ cls := "MailAgentModel", name := "drop", desc := "(I)I" } : MethodName)) ∈ jTG := jin_3 (i := 162) rfl rfl
theorem w_3_163 : (Cond.code ({ cls := "MailAgentModel", name := "drop", desc := "(I)I" } : MethodName) prog_10_method_27_code (3 : Nat) (Option.some FieldType.int)) ∈ jTG := jin_3 (i := 163) rfl rfl
theorem w_3_164 : (Cond.methodLink "MailAgentLaw" (76 : Nat) ({ cls := "MailAgentModel", name := "hurry", desc := "(I)I" } : MethodName)) ∈ jTG := jin_3 (i := 164) rfl rfl
theorem w_3_165 : (Cond.instanceMethod ({ cls := "MailAgentModel", name := "hurry", desc := "(I)I" } : MethodName)) ∈ jTG := jin_3 (i := 165) rfl rfl
theorem w_3_166 : (Cond.selects "MailAgentModel" ({ cls := "MailAgentModel", name := "hurry", desc := "(I)I" } : MethodName) ({ cls := "MailAgentModel", name := "hurry", desc := "(I)I" } : MethodName)) ∈ jTG := jin_3 (i := 166) rfl rfl
theorem w_3_167 : (Cond.code ({ cls := "MailAgentModel", name := "hurry", desc := "(I)I" } : MethodName) prog_10_method_28_code (3 : Nat) (Option.some FieldType.int)) ∈ jTG := jin_3 (i := 167) rfl rfl
theorem w_3_168 : (Cond.methodLink "MailAgentLaw" (80 : Nat) ({ cls := "MailAgentModel", name := "count", desc := "(I)I" } : MethodName)) ∈ jTG := jin_3 (i := 168) rfl rfl
theorem w_3_169 : (Cond.instanceMethod ({ cls := "MailAgentModel", name := "count", desc := "(I)I" } : MethodName)) ∈ jTG := jin_3 (i := 169) rfl rfl
theorem w_3_170 : (Cond.selects "MailAgentModel" ({ cls := "MailAgentModel", name := "count", desc := "(I)I" } : MethodName) ({ cls := "MailAgentModel", name := "count", desc := "(I)I" } : MethodName)) ∈ jTG := jin_3 (i := 170) rfl rfl
theorem w_3_171 : (Cond.code ({ cls := "MailAgentModel", name := "count", desc := "(I)I" } : MethodName) prog_10_method_29_code (4 : Nat) (Option.some FieldType.int)) ∈ jTG := jin_3 (i := 171) rfl rfl
theorem w_3_172 : (Cond.methodLink "MailAgentLaw" (84 : Nat) ({ cls := "MailAgentModel", name := "message", desc := "(I)I" } : MethodName)) ∈ jTG := jin_3 (i := 172) rfl rfl
theorem w_3_173 : (Cond.instanceMethod ({ cls := "MailAgentModel", name := "message", desc := "(I)I" } : MethodName)) ∈ jTG := jin_3 (i := 173) rfl rfl
theorem w_3_174 : (Cond.selects "MailAgentModel" ({ cls := "MailAgentModel", name := "message", desc := "(I)I" } : MethodName) ({ cls := "MailAgentModel", name := "message", desc := "(I)I" } : MethodName)) ∈ jTG := jin_3 (i := 174) rfl rfl
theorem w_3_175 : (Cond.code ({ cls := "MailAgentModel", name := "message", desc := "(I)I" } : MethodName) prog_10_method_30_code (2 : Nat) (Option.some FieldType.int)) ∈ jTG := jin_3 (i := 175) rfl rfl
theorem w_3_176 : (Cond.methodLink "MailAgentLaw" (88 : Nat) ({ cls := "MailAgentModel", name := "status", desc := "(II)I" } : MethodName)) ∈ jTG := jin_3 (i := 176) rfl rfl
theorem w_3_177 : (Cond.instanceMethod ({ cls := "MailAgentModel", name := "status", desc := "(II)I" } : MethodName)) ∈ jTG := jin_3 (i := 177) rfl rfl
theorem w_3_178 : (Cond.selects "MailAgentModel" ({ cls := "MailAgentModel", name := "status", desc := "(II)I" } : MethodName) ({ cls := "MailAgentModel", name := "status", desc := "(II)I" } : MethodName)) ∈ jTG := jin_3 (i := 178) rfl rfl
theorem w_3_179 : (Cond.code ({ cls := "MailAgentModel", name := "status", desc := "(II)I" } : MethodName) prog_10_method_31_code (5 : Nat) (Option.some FieldType.int)) ∈ jTG := jin_3 (i := 179) rfl rfl
theorem w_3_180 : (Cond.methodLink "MailAgentLaw" (92 : Nat) ({ cls := "MailAgentModel", name := "sender", desc := "(I)I" } : MethodName)) ∈ jTG := jin_3 (i := 180) rfl rfl
theorem w_3_181 : (Cond.instanceMethod ({ cls := "MailAgentModel", name := "sender", desc := "(I)I" } : MethodName)) ∈ jTG := jin_3 (i := 181) rfl rfl
theorem w_3_182 : (Cond.selects "MailAgentModel" ({ cls := "MailAgentModel", name := "sender", desc := "(I)I" } : MethodName) ({ cls := "MailAgentModel", name := "sender", desc := "(I)I" } : MethodName)) ∈ jTG := jin_3 (i := 182) rfl rfl
theorem w_3_183 : (Cond.code ({ cls := "MailAgentModel", name := "sender", desc := "(I)I" } : MethodName) prog_10_method_32_code (3 : Nat) (Option.some FieldType.int)) ∈ jTG := jin_3 (i := 183) rfl rfl
theorem w_3_184 : (Cond.methodLink "MailAgentLaw" (96 : Nat) ({ cls := "MailAgentModel", name := "due", desc := "(I)I" } : MethodName)) ∈ jTG := jin_3 (i := 184) rfl rfl
theorem w_3_185 : (Cond.instanceMethod ({ cls := "MailAgentModel", name := "due", desc := "(I)I" } : MethodName)) ∈ jTG := jin_3 (i := 185) rfl rfl
theorem w_3_186 : (Cond.selects "MailAgentModel" ({ cls := "MailAgentModel", name := "due", desc := "(I)I" } : MethodName) ({ cls := "MailAgentModel", name := "due", desc := "(I)I" } : MethodName)) ∈ jTG := jin_3 (i := 186) rfl rfl
theorem w_3_187 : (Cond.code ({ cls := "MailAgentModel", name := "due", desc := "(I)I" } : MethodName) prog_10_method_33_code (3 : Nat) (Option.some FieldType.int)) ∈ jTG := jin_3 (i := 187) rfl rfl
theorem w_3_188 : (Cond.methodLink "MailAgentLaw" (100 : Nat) ({ cls := "MailAgentModel", name := "received", desc := "(II)I" } : MethodName)) ∈ jTG := jin_3 (i := 188) rfl rfl
theorem w_3_189 : (Cond.instanceMethod ({ cls := "MailAgentModel", name := "received", desc := "(II)I" } : MethodName)) ∈ jTG := jin_3 (i := 189) rfl rfl
theorem w_3_190 : (Cond.selects "MailAgentModel" ({ cls := "MailAgentModel", name := "received", desc := "(II)I" } : MethodName) ({ cls := "MailAgentModel", name := "received", desc := "(II)I" } : MethodName)) ∈ jTG := jin_3 (i := 190) rfl rfl
theorem w_3_191 : (Cond.code ({ cls := "MailAgentModel", name := "received", desc := "(II)I" } : MethodName) prog_10_method_34_code (3 : Nat) (Option.some FieldType.int)) ∈ jTG := jin_3 (i := 191) rfl rfl
theorem w_s_0 : Cond.selects "MailAgent$Aliases" ⟨"MailAgent$Aliases", "reachedFrom", "(I)J"⟩ ⟨"MailAgent$Aliases", "reachedFrom", "(I)J"⟩ ∈ jTG := List.mem_filter.mpr ⟨List.mem_append_left _ (List.mem_map.mpr ⟨lw_privs[0], List.getElem_mem _, rfl⟩), rfl⟩
theorem w_s_1 : Cond.selects "MailAgent" ⟨"MailAgent", "makeDurable", "()V"⟩ ⟨"MailAgent", "makeDurable", "()V"⟩ ∈ jTG := List.mem_filter.mpr ⟨List.mem_append_left _ (List.mem_map.mpr ⟨lw_privs[1], List.getElem_mem _, rfl⟩), rfl⟩
theorem w_s_2 : Cond.selects "MailAgent" ⟨"MailAgent", "tryRecipients", "(LMailAgent$Message;)I"⟩ ⟨"MailAgent", "tryRecipients", "(LMailAgent$Message;)I"⟩ ∈ jTG := List.mem_filter.mpr ⟨List.mem_append_left _ (List.mem_map.mpr ⟨lw_privs[2], List.getElem_mem _, rfl⟩), rfl⟩
theorem w_s_3 : Cond.selects "MailAgent" ⟨"MailAgent", "carry", "(I)I"⟩ ⟨"MailAgent", "carry", "(I)I"⟩ ∈ jTG := List.mem_filter.mpr ⟨List.mem_append_left _ (List.mem_map.mpr ⟨lw_privs[3], List.getElem_mem _, rfl⟩), rfl⟩
theorem w_s_4 : Cond.selects "MailAgent" ⟨"MailAgent", "failOverdue", "(LMailAgent$Message;)V"⟩ ⟨"MailAgent", "failOverdue", "(LMailAgent$Message;)V"⟩ ∈ jTG := List.mem_filter.mpr ⟨List.mem_append_left _ (List.mem_map.mpr ⟨lw_privs[4], List.getElem_mem _, rfl⟩), rfl⟩
theorem w_s_5 : Cond.selects "MailAgent" ⟨"MailAgent", "settle", "(LMailAgent$Message;)Z"⟩ ⟨"MailAgent", "settle", "(LMailAgent$Message;)Z"⟩ ∈ jTG := List.mem_filter.mpr ⟨List.mem_append_left _ (List.mem_map.mpr ⟨lw_privs[5], List.getElem_mem _, rfl⟩), rfl⟩
theorem w_s_6 : Cond.selects "MailAgent" ⟨"MailAgent", "keepChangesFew", "()V"⟩ ⟨"MailAgent", "keepChangesFew", "()V"⟩ ∈ jTG := List.mem_filter.mpr ⟨List.mem_append_left _ (List.mem_map.mpr ⟨lw_privs[6], List.getElem_mem _, rfl⟩), rfl⟩
theorem w_s_7 : Cond.selects "MailAgentModel" ⟨"MailAgentModel", "reached", "(I)J"⟩ ⟨"MailAgentModel", "reached", "(I)J"⟩ ∈ jTG := List.mem_filter.mpr ⟨List.mem_append_left _ (List.mem_map.mpr ⟨lw_privs[7], List.getElem_mem _, rfl⟩), rfl⟩
theorem w_s_8 : Cond.selects "MailAgentModel" ⟨"MailAgentModel", "named", "(I)Z"⟩ ⟨"MailAgentModel", "named", "(I)Z"⟩ ∈ jTG := List.mem_filter.mpr ⟨List.mem_append_left _ (List.mem_map.mpr ⟨lw_privs[8], List.getElem_mem _, rfl⟩), rfl⟩
theorem w_s_9 : Cond.selects "MailAgentModel" ⟨"MailAgentModel", "costs", "()I"⟩ ⟨"MailAgentModel", "costs", "()I"⟩ ∈ jTG := List.mem_filter.mpr ⟨List.mem_append_left _ (List.mem_map.mpr ⟨lw_privs[9], List.getElem_mem _, rfl⟩), rfl⟩
theorem w_s_10 : Cond.selects "MailAgentModel" ⟨"MailAgentModel", "settle", "()I"⟩ ⟨"MailAgentModel", "settle", "()I"⟩ ∈ jTG := List.mem_filter.mpr ⟨List.mem_append_left _ (List.mem_map.mpr ⟨lw_privs[10], List.getElem_mem _, rfl⟩), rfl⟩
theorem w_s_11 : Cond.selects "MailAgentModel" ⟨"MailAgentModel", "find", "(I)I"⟩ ⟨"MailAgentModel", "find", "(I)I"⟩ ∈ jTG := List.mem_filter.mpr ⟨List.mem_append_left _ (List.mem_map.mpr ⟨lw_privs[11], List.getElem_mem _, rfl⟩), rfl⟩
theorem w_s_12 : Cond.selects "MailAgentModel" ⟨"MailAgentModel", "attempt", "(I)I"⟩ ⟨"MailAgentModel", "attempt", "(I)I"⟩ ∈ jTG := List.mem_filter.mpr ⟨List.mem_append_left _ (List.mem_map.mpr ⟨lw_privs[12], List.getElem_mem _, rfl⟩), rfl⟩
theorem w_s_13 : Cond.selects "MailAgentModel" ⟨"MailAgentModel", "carrier", "(I)I"⟩ ⟨"MailAgentModel", "carrier", "(I)I"⟩ ∈ jTG := List.mem_filter.mpr ⟨List.mem_append_left _ (List.mem_map.mpr ⟨lw_privs[13], List.getElem_mem _, rfl⟩), rfl⟩
theorem w_s_14 : Cond.selects "MailAgentModel" ⟨"MailAgentModel", "mark", "(II)V"⟩ ⟨"MailAgentModel", "mark", "(II)V"⟩ ∈ jTG := List.mem_filter.mpr ⟨List.mem_append_left _ (List.mem_map.mpr ⟨lw_privs[14], List.getElem_mem _, rfl⟩), rfl⟩
theorem w_s_15 : Cond.selects "MailAgentModel" ⟨"MailAgentModel", "deliver", "(II)V"⟩ ⟨"MailAgentModel", "deliver", "(II)V"⟩ ∈ jTG := List.mem_filter.mpr ⟨List.mem_append_left _ (List.mem_map.mpr ⟨lw_privs[15], List.getElem_mem _, rfl⟩), rfl⟩
theorem w_s_16 : Cond.selects "MailAgentModel" ⟨"MailAgentModel", "states", "(II)I"⟩ ⟨"MailAgentModel", "states", "(II)I"⟩ ∈ jTG := List.mem_filter.mpr ⟨List.mem_append_left _ (List.mem_map.mpr ⟨lw_privs[16], List.getElem_mem _, rfl⟩), rfl⟩
theorem w_s_17 : Cond.selects "MailAgentModel" ⟨"MailAgentModel", "remove", "(I)V"⟩ ⟨"MailAgentModel", "remove", "(I)V"⟩ ∈ jTG := List.mem_filter.mpr ⟨List.mem_append_left _ (List.mem_map.mpr ⟨lw_privs[17], List.getElem_mem _, rfl⟩), rfl⟩
theorem w_s_18 : Cond.selects "MailAgentModel" ⟨"MailAgentModel", "close", "()V"⟩ ⟨"MailAgentModel", "close", "()V"⟩ ∈ jTG := List.mem_filter.mpr ⟨List.mem_append_left _ (List.mem_map.mpr ⟨lw_privs[18], List.getElem_mem _, rfl⟩), rfl⟩
end
section
/-! Walking kit: abstract heaps (an address to a cell), one judgement jJ for a method's body, one row an instruction, contracts jC. -/
abbrev jH : Type := Nat → Option va_E
def jset (h : jH) (a : Nat) (e : va_E) : jH := fun q => if q = a then some e else h q
theorem jset_s {h : jH} {a : Nat} {e : va_E} : jset h a e a = some e := if_pos rfl
theorem jset_n {h : jH} {a q : Nat} {e : va_E} (hq : q ≠ a) : jset h a e q = h q := if_neg hq
abbrev jE : Type := va_G × (Nat → ClassId) × Nat
abbrev jI (E : jE) (n : Nat) (f : Nat → Int32) : va_E := .inl (E.2.1 0, n, .inl f)
abbrev jL (E : jE) (n : Nat) (f : Nat → Int64) : va_E := .inl (E.2.1 1, n, .inr (.inl f))
abbrev jQa (E : jE) (t n : Nat) (f : Nat → Option Nat) : va_E := .inl (E.2.1 t, n, .inr (.inr (.inr (.inr f))))
abbrev jO (ci : Nat) (fs : List Value) : va_E := .inr (ci, fs)
def jR (E : jE) (h : jH) (sz : Nat) (H : Heap) : Prop := H.size = sz ∧ ∀ (a : Nat) (e : va_E), h a = some e → E.2.2 ≤ a ∧ va_at E.1 jCl (a, e) H
def jK (E : jE) (U : State) : Prop := va_K E.1 jCl (jTys E.2.1) U ∧ (∀ q ∈ jNM, va_Nw (.methodLinkNest q.1 q.2.1 q.2.2.1 q.2.2.2) U) ∧ ∀ C ∈ jAO, va_AO C U
theorem jK.warm {E : jE} {s U : State} (hW : s.WarmedH U.vm) (h : jK E s) : jK E U :=
  ⟨va_K.moved hW.alike h.1, fun q hq => va_Nw.warmM hW (h.2.1 q hq), fun C hC => va_AO.moved hW.alike (h.2.2 C hC)⟩
theorem jK.same {E : jE} {u U : State} (hv : u.vm = U.vm) (h : jK E u) : jK E U :=
  ⟨va_K.moved (by rw [← hv]; exact Vm.Alike.refl _) h.1, fun q hq => va_Nw.same rfl hv (h.2.1 q hq), fun C hC => va_AO.moved (by rw [← hv]; exact Vm.Alike.refl _) (h.2.2 C hC)⟩
theorem jR.set {E : jE} {h : jH} {sz a : Nat} {e0 e : va_E} {H H1 : Heap} (hR : jR E h sz H) (ha : h a = some e0) (he : va_at E.1 jCl (a, e) H1) (z : H1.size = H.size) (oq : ∀ q : Nat, q ≠ a → H1[q]? = H[q]?) : jR E (jset h a e) sz H1 := by
  refine ⟨z.trans hR.1, fun b e1 hb => ?_⟩
  by_cases hba : b = a
  · subst hba
    rw [jset_s] at hb
    cases hb
    exact ⟨(hR.2 b e0 ha).1, he⟩
  · rw [jset_n hba] at hb
    exact ⟨(hR.2 b e1 hb).1, (hR.2 b e1 hb).2.kept (oq b hba)⟩
theorem jR.push {E : jE} {h : jH} {sz : Nat} {e : va_E} {H H1 : Heap} (hR : jR E h sz H) (hB : E.2.2 ≤ sz) (he : va_at E.1 jCl (sz, e) H1) (z : H1.size = sz + 1) (oq : ∀ q : Nat, q < sz → H1[q]? = H[q]?) : jR E (jset h sz e) (sz + 1) H1 := by
  refine ⟨z, fun b e1 hb => ?_⟩
  by_cases hba : b = sz
  · subst hba
    rw [jset_s] at hb
    cases hb
    exact ⟨hB, he⟩
  · rw [jset_n hba] at hb
    have hlt : b < sz := by have := (hR.2 b e1 hb).2.lt; rw [hR.1] at this; exact this
    exact ⟨(hR.2 b e1 hb).1, (hR.2 b e1 hb).2.kept (oq b hlt)⟩
theorem jR.one {E : jE} {h : jH} {sz a : Nat} {e : va_E} {H : Heap} (hR : jR E h sz H) (ha : h a = some e) : va_P E.1 jCl [(a, e)] H := by
  intro k q hk
  cases k with
  | zero => rw [List.getElem?_cons_zero] at hk; cases hk; exact (hR.2 a e ha).2
  | succ n => simp at hk
/-- the context of a method's body -/
abbrev jX : Type := Program × Launch × Env × Room × State × MethodId × Array Value × List Frame × Method × Code
abbrev jxR (x : jX) : Room := x.2.2.2.1
abbrev jxs (x : jX) : State := x.2.2.2.2.1
abbrev jxm (x : jX) : MethodId := x.2.2.2.2.2.1
abbrev jxa (x : jX) : Array Value := x.2.2.2.2.2.2.1
abbrev jxb (x : jX) : List Frame := x.2.2.2.2.2.2.2.1
abbrev jxe (x : jX) : Method := x.2.2.2.2.2.2.2.2.1
abbrev jxc (x : jX) : Code := x.2.2.2.2.2.2.2.2.2
abbrev jW (x : jX) (H : Heap) (locs : List Loc) (ce sl : Nat) (Q : State → Prop) (g : JFrame) : Prop := W x.1 x.2.1 x.2.2.1 (jxR x) (jxs x) (jxm x) (jxa x) (jxb x) (jxe x) (jxc x) H locs ce sl Q g
/-- a method: name, code, locals, return type -/
abbrev jM : Type := jM0
def jOk (x : jX) (M : jM) (E : jE) (d mc ms : Nat) : Prop :=
  x.1.tables.exec = Jvm.exec ∧ (jxc x).code = M.2.1 ∧ (jxc x).maxLocals = M.2.2.1 ∧ (jxs x).vm.findClass M.1.cls = some (jxm x).cls ∧ (∀ w ∈ jTG, w.before (jxa x) (jxs x) = true) ∧ jK E (jxs x) ∧
  (d ≤ (jxR x).frames ∧ 40 * d ≤ (jxR x).locals ∧ mc ≤ (jxR x).cells ∧ ms ≤ (jxR x).slots) ∧ (jxe x).sig.returnType = M.2.2.2 ∧ (jxe x).locks = false ∧ E.2.2 ≤ (jxs x).heap.size ∧ (jxe x).name = M.1.name
theorem jOk.exec {x : jX} {M : jM} {E : jE} {d mc ms : Nat} (h : jOk x M E d mc ms) : x.1.tables.exec = Jvm.exec := h.1
theorem jOk.code {x : jX} {M : jM} {E : jE} {d mc ms : Nat} (h : jOk x M E d mc ms) : (jxc x).code = M.2.1 := h.2.1
theorem jOk.maxl {x : jX} {M : jM} {E : jE} {d mc ms : Nat} (h : jOk x M E d mc ms) : (jxc x).maxLocals = M.2.2.1 := h.2.2.1
theorem jOk.own {x : jX} {M : jM} {E : jE} {d mc ms : Nat} (h : jOk x M E d mc ms) : (jxs x).vm.findClass M.1.cls = some (jxm x).cls := h.2.2.2.1
theorem jOk.ts {x : jX} {M : jM} {E : jE} {d mc ms : Nat} (h : jOk x M E d mc ms) : ∀ w ∈ jTG, w.before (jxa x) (jxs x) = true := h.2.2.2.2.1
theorem jOk.K {x : jX} {M : jM} {E : jE} {d mc ms : Nat} (h : jOk x M E d mc ms) : jK E (jxs x) := h.2.2.2.2.2.1
theorem jOk.room {x : jX} {M : jM} {E : jE} {d mc ms : Nat} (h : jOk x M E d mc ms) : d ≤ (jxR x).frames ∧ 40 * d ≤ (jxR x).locals ∧ mc ≤ (jxR x).cells ∧ ms ≤ (jxR x).slots := h.2.2.2.2.2.2.1
theorem jOk.ret {x : jX} {M : jM} {E : jE} {d mc ms : Nat} (h : jOk x M E d mc ms) : (jxe x).sig.returnType = M.2.2.2 := h.2.2.2.2.2.2.2.1
theorem jOk.locks {x : jX} {M : jM} {E : jE} {d mc ms : Nat} (h : jOk x M E d mc ms) : (jxe x).locks = false := h.2.2.2.2.2.2.2.2.1
theorem jOk.base {x : jX} {M : jM} {E : jE} {d mc ms : Nat} (h : jOk x M E d mc ms) : E.2.2 ≤ (jxs x).heap.size := h.2.2.2.2.2.2.2.2.2.1
theorem jOk.name {x : jX} {M : jM} {E : jE} {d mc ms : Nat} (h : jOk x M E d mc ms) : (jxe x).name = M.1.name := h.2.2.2.2.2.2.2.2.2.2
def jJ (x : jX) (M : jM) (E : jE) (Q : State → Prop) (h : jH) (sz ce sl : Nat) (lv : List (Nat × Value)) (pc : Nat) (st : List Value) : Prop :=
  ∀ (H : Heap) (locs : List Loc) (ls : Array Slot), jR E h sz H → va_S (fun q => E.2.2 ≤ q) (jxs x).heap H locs → lv_has ls M.2.2.1 lv → jW x H locs ce sl Q (F0 (jxm x) pc ls st)
def jlv (lv : List (Nat × Value)) (i : Nat) : Option Value := (lv.find? (fun q => q.1 == i)).map (fun q => q.2)
def jst1 (lv : List (Nat × Value)) (i : Nat) (v : Value) : List (Nat × Value) := (i, v) :: lv.filter (fun q => !(q.1 == i) && !(q.1 + 1 == i && q.2.category == 2))
def jst2 (lv : List (Nat × Value)) (i : Nat) (v : Value) : List (Nat × Value) := (i, v) :: lv.filter (fun q => !(q.1 == i) && (!(q.1 == i + 1) && !(q.1 + 1 == i && q.2.category == 2)))
theorem jlv_mem {lv : List (Nat × Value)} {i : Nat} {v : Value} (h : jlv lv i = some v) : (i, v) ∈ lv := by
  unfold jlv at h
  cases hf : lv.find? (fun q => q.1 == i) with
  | none => rw [hf] at h; cases h
  | some q =>
    rw [hf] at h
    have h1 := List.find?_some hf
    have h2 := List.mem_of_find?_eq_some hf
    have h3 : q.1 = i := by simpa using h1
    have h4 : q.2 = v := by simpa using h
    rw [← h3, ← h4]
    exact h2
theorem jlv_at {ls : Array Slot} {nL : Nat} {lv : List (Nat × Value)} {i : Nat} {v : Value} (hl : lv_has ls nL lv) (h : jlv lv i = some v) : ls[i]? = some (.val v) := hl.2.2 (i, v) (jlv_mem h)
/-- the locals lv bear at least what lv' says -/
def jSub (lv : List (Nat × Value)) : List (Nat × Value) → Prop
  | [] => True
  | q :: r => jlv lv q.1 = some q.2 ∧ jSub lv r
theorem jSub_all {lv : List (Nat × Value)} : ∀ {lv' : List (Nat × Value)}, jSub lv lv' → ∀ q ∈ lv', q ∈ lv
  | [], _, q, hq => absurd hq List.not_mem_nil
  | r :: lv', h, q, hq => by
    rcases List.mem_cons.mp hq with e | e
    · subst e; exact jlv_mem h.1
    · exact jSub_all h.2 q e
section JRules
variable {x : jX} {M : jM} {E : jE} {Q : State → Prop} {h : jH} {sz ce sl d mc ms pc : Nat} {lv : List (Nat × Value)} {st : List Value}
theorem j_lv {lv' : List (Nat × Value)} (hs : jSub lv lv') (kk : jJ x M E Q h sz ce sl lv' pc st) : jJ x M E Q h sz ce sl lv pc st := fun H locs ls hR hS hl => kk H locs ls hR hS ⟨hl.1, hl.2.1, fun q hq => hl.2.2 q (jSub_all hs q hq)⟩
theorem j_cs {ce' sl' : Nat} (h1 : ce ≤ ce') (h2 : sl ≤ sl') (kk : jJ x M E Q h sz ce' sl' lv pc st) : jJ x M E Q h sz ce sl lv pc st := fun H locs ls hR hS hl => W.widen h1 h2 (kk H locs ls hR hS hl)
theorem j_eq {h' : jH} {sz' ce' sl' pc' : Nat} {lv' : List (Nat × Value)} {st' : List Value} (kk : jJ x M E Q h' sz' ce' sl' lv' pc' st') (e1 : h = h') (e2 : sz = sz') (e3 : ce = ce') (e4 : sl = sl') (e5 : lv = lv') (e6 : pc = pc') (e7 : st = st') : jJ x M E Q h sz ce sl lv pc st := by
  subst e1; subst e2; subst e3; subst e4; subst e5; subst e6; subst e7; exact kk
theorem j_top {v v' : Value} (e : v = v') (kk : jJ x M E Q h sz ce sl lv pc (v' :: st)) : jJ x M E Q h sz ce sl lv pc (v :: st) := e ▸ kk
theorem j_iconst (C0 : jOk x M E d mc ms) {n : Int} {v : Int32} (hd : decode M.2.1 pc = .ok (.iconst n, 1)) (hv : Int32.ofInt n = v) (kk : jJ x M E Q h sz ce sl lv (pc + 1) (.int v :: st)) : jJ x M E Q h sz ce sl lv pc (st) := fun H locs ls hR hS hl => lv_iconst C0.exec C0.code hd hv (kk H locs ls hR hS hl)
theorem j_bipush (C0 : jOk x M E d mc ms) {n : Int} {v : Int32} (hd : decode M.2.1 pc = .ok (.bipush n, 2)) (hv : (Int8.ofInt n).toInt32 = v) (kk : jJ x M E Q h sz ce sl lv (pc + 2) (.int v :: st)) : jJ x M E Q h sz ce sl lv pc (st) := fun H locs ls hR hS hl => lv_bipush C0.exec C0.code hd hv (kk H locs ls hR hS hl)
theorem j_sipush (C0 : jOk x M E d mc ms) {n : Int} {v : Int32} (hd : decode M.2.1 pc = .ok (.sipush n, 3)) (hv : (Int16.ofInt n).toInt32 = v) (kk : jJ x M E Q h sz ce sl lv (pc + 3) (.int v :: st)) : jJ x M E Q h sz ce sl lv pc (st) := fun H locs ls hR hS hl => lv_sipush C0.exec C0.code hd hv (kk H locs ls hR hS hl)
theorem j_lconst (C0 : jOk x M E d mc ms) {n : Fin 2} {v : Int64} (hd : decode M.2.1 pc = .ok (.lconst n, 1)) (hv : Int64.ofNat (n : Nat) = v) (kk : jJ x M E Q h sz ce sl lv (pc + 1) (.long v :: st)) : jJ x M E Q h sz ce sl lv pc (st) := fun H locs ls hR hS hl => lv_lconst C0.exec C0.code hd hv (kk H locs ls hR hS hl)
theorem j_ldc (C0 : jOk x M E d mc ms) {idx : Nat} {v : Int32} (hd : decode M.2.1 pc = .ok (.ldc idx, 2)) (hw : Cond.constant M.1.cls idx v ∈ jTG) (kk : jJ x M E Q h sz ce sl lv (pc + 2) (.int v :: st)) : jJ x M E Q h sz ce sl lv pc (st) := fun H locs ls hR hS hl => lv_ldc C0.exec C0.code C0.own (C0.ts _ hw) hd (kk H locs ls hR hS hl)
theorem j_ldc2 (C0 : jOk x M E d mc ms) {idx : Nat} {v : Int64} (hd : decode M.2.1 pc = .ok (.ldc2_w idx, 3)) (hw : Cond.constantLong M.1.cls idx v ∈ jTG) (kk : jJ x M E Q h sz ce sl lv (pc + 3) (.long v :: st)) : jJ x M E Q h sz ce sl lv pc (st) := fun H locs ls hR hS hl => lv_ldc2 C0.exec C0.code C0.own (C0.ts _ hw) hd (kk H locs ls hR hS hl)
theorem j_iload_n (C0 : jOk x M E d mc ms) {k : Fin 4} {i : Nat} {v : Int32} (hd : decode M.2.1 pc = .ok (.iload_n k, 1)) (hi : (k : Nat) = i) (hv : jlv lv i = some (.int v)) (kk : jJ x M E Q h sz ce sl lv (pc + 1) (.int v :: st)) : jJ x M E Q h sz ce sl lv pc (st) := fun H locs ls hR hS hl => lv_iload_n C0.exec C0.code hd hi (jlv_at hl hv) (kk H locs ls hR hS hl)
theorem j_iload (C0 : jOk x M E d mc ms) {i : Nat} {v : Int32} (hd : decode M.2.1 pc = .ok (.iload i, 2)) (hv : jlv lv i = some (.int v)) (kk : jJ x M E Q h sz ce sl lv (pc + 2) (.int v :: st)) : jJ x M E Q h sz ce sl lv pc (st) := fun H locs ls hR hS hl => lv_iload C0.exec C0.code hd (jlv_at hl hv) (kk H locs ls hR hS hl)
theorem j_istore_n (C0 : jOk x M E d mc ms) {k : Fin 4} {i : Nat} {v : Int32} (hd : decode M.2.1 pc = .ok (.istore_n k, 1)) (hi : (k : Nat) = i) (hn : i < M.2.2.1) (kk : jJ x M E Q h sz ce sl (jst1 lv i (.int v)) (pc + 1) (st)) : jJ x M E Q h sz ce sl lv pc (.int v :: st) := fun H locs ls hR hS hl => lv_istore_n C0.exec C0.code hd hi hl hn rfl (fun ls hl => kk H locs ls hR hS hl)
theorem j_istore (C0 : jOk x M E d mc ms) {i : Nat} {v : Int32} (hd : decode M.2.1 pc = .ok (.istore i, 2)) (hn : i < M.2.2.1) (kk : jJ x M E Q h sz ce sl (jst1 lv i (.int v)) (pc + 2) (st)) : jJ x M E Q h sz ce sl lv pc (.int v :: st) := fun H locs ls hR hS hl => lv_istore C0.exec C0.code hd hl hn rfl (fun ls hl => kk H locs ls hR hS hl)
theorem j_lload_n (C0 : jOk x M E d mc ms) {k : Fin 4} {i : Nat} {v : Int64} (hd : decode M.2.1 pc = .ok (.lload_n k, 1)) (hi : (k : Nat) = i) (hv : jlv lv i = some (.long v)) (kk : jJ x M E Q h sz ce sl lv (pc + 1) (.long v :: st)) : jJ x M E Q h sz ce sl lv pc (st) := fun H locs ls hR hS hl => lv_lload_n C0.exec C0.code hd hi (jlv_at hl hv) (kk H locs ls hR hS hl)
theorem j_lload (C0 : jOk x M E d mc ms) {i : Nat} {v : Int64} (hd : decode M.2.1 pc = .ok (.lload i, 2)) (hv : jlv lv i = some (.long v)) (kk : jJ x M E Q h sz ce sl lv (pc + 2) (.long v :: st)) : jJ x M E Q h sz ce sl lv pc (st) := fun H locs ls hR hS hl => lv_lload C0.exec C0.code hd (jlv_at hl hv) (kk H locs ls hR hS hl)
theorem j_lstore_n (C0 : jOk x M E d mc ms) {k : Fin 4} {i : Nat} {v : Int64} (hd : decode M.2.1 pc = .ok (.lstore_n k, 1)) (hi : (k : Nat) = i) (hn : i + 1 < M.2.2.1) (kk : jJ x M E Q h sz ce sl (jst2 lv i (.long v)) (pc + 1) (st)) : jJ x M E Q h sz ce sl lv pc (.long v :: st) := fun H locs ls hR hS hl => lv_lstore_n C0.exec C0.code hd hi hl hn rfl (fun ls hl => kk H locs ls hR hS hl)
theorem j_lstore (C0 : jOk x M E d mc ms) {i : Nat} {v : Int64} (hd : decode M.2.1 pc = .ok (.lstore i, 2)) (hn : i + 1 < M.2.2.1) (kk : jJ x M E Q h sz ce sl (jst2 lv i (.long v)) (pc + 2) (st)) : jJ x M E Q h sz ce sl lv pc (.long v :: st) := fun H locs ls hR hS hl => lv_lstore C0.exec C0.code hd hl hn rfl (fun ls hl => kk H locs ls hR hS hl)
theorem j_aload_n (C0 : jOk x M E d mc ms) {k : Fin 4} {i : Nat} {v : Nat} (hd : decode M.2.1 pc = .ok (.aload_n k, 1)) (hi : (k : Nat) = i) (hv : jlv lv i = some (.ref v)) (kk : jJ x M E Q h sz ce sl lv (pc + 1) (.ref v :: st)) : jJ x M E Q h sz ce sl lv pc (st) := fun H locs ls hR hS hl => lv_aload_n C0.exec C0.code hd hi (jlv_at hl hv) (kk H locs ls hR hS hl)
theorem j_aload (C0 : jOk x M E d mc ms) {i : Nat} {v : Nat} (hd : decode M.2.1 pc = .ok (.aload i, 2)) (hv : jlv lv i = some (.ref v)) (kk : jJ x M E Q h sz ce sl lv (pc + 2) (.ref v :: st)) : jJ x M E Q h sz ce sl lv pc (st) := fun H locs ls hR hS hl => lv_aload C0.exec C0.code hd (jlv_at hl hv) (kk H locs ls hR hS hl)
theorem j_astore_n (C0 : jOk x M E d mc ms) {k : Fin 4} {i : Nat} {v : Nat} (hd : decode M.2.1 pc = .ok (.astore_n k, 1)) (hi : (k : Nat) = i) (hn : i < M.2.2.1) (kk : jJ x M E Q h sz ce sl (jst1 lv i (.ref v)) (pc + 1) (st)) : jJ x M E Q h sz ce sl lv pc (.ref v :: st) := fun H locs ls hR hS hl => lv_astore_n C0.exec C0.code hd hi hl hn rfl (fun ls hl => kk H locs ls hR hS hl)
theorem j_astore (C0 : jOk x M E d mc ms) {i : Nat} {v : Nat} (hd : decode M.2.1 pc = .ok (.astore i, 2)) (hn : i < M.2.2.1) (kk : jJ x M E Q h sz ce sl (jst1 lv i (.ref v)) (pc + 2) (st)) : jJ x M E Q h sz ce sl lv pc (.ref v :: st) := fun H locs ls hR hS hl => lv_astore C0.exec C0.code hd hl hn rfl (fun ls hl => kk H locs ls hR hS hl)
theorem j_iinc (C0 : jOk x M E d mc ms) {i : Nat} {n : Int} {v v' : Int32} (hd : decode M.2.1 pc = .ok (.iinc i n, 3)) (hv : jlv lv i = some (.int v)) (hv' : v + Int32.ofInt n = v') (hn : i < M.2.2.1) (kk : jJ x M E Q h sz ce sl (jst1 lv i (.int v')) (pc + 3) st) : jJ x M E Q h sz ce sl lv pc st := by
  intro H locs ls hR hS hl
  obtain ⟨k, hk⟩ := List.getElem?_of_mem (jlv_mem hv)
  exact lv_iinc C0.exec C0.code hd hl hk hv' hn rfl (fun ls hl => kk H locs ls hR hS hl)
theorem j_iadd (C0 : jOk x M E d mc ms) {v w : Int32} (hd : decode M.2.1 pc = .ok (.iadd, 1)) (kk : jJ x M E Q h sz ce sl lv (pc + 1) (.int (v + w) :: st)) : jJ x M E Q h sz ce sl lv pc (.int w :: .int v :: st) := fun H locs ls hR hS hl => lv_iadd C0.exec C0.code hd (kk H locs ls hR hS hl)
theorem j_isub (C0 : jOk x M E d mc ms) {v w : Int32} (hd : decode M.2.1 pc = .ok (.isub, 1)) (kk : jJ x M E Q h sz ce sl lv (pc + 1) (.int (v - w) :: st)) : jJ x M E Q h sz ce sl lv pc (.int w :: .int v :: st) := fun H locs ls hR hS hl => lv_isub C0.exec C0.code hd (kk H locs ls hR hS hl)
theorem j_imul (C0 : jOk x M E d mc ms) {v w : Int32} (hd : decode M.2.1 pc = .ok (.imul, 1)) (kk : jJ x M E Q h sz ce sl lv (pc + 1) (.int (v * w) :: st)) : jJ x M E Q h sz ce sl lv pc (.int w :: .int v :: st) := fun H locs ls hR hS hl => lv_imul C0.exec C0.code hd (kk H locs ls hR hS hl)
theorem j_iand (C0 : jOk x M E d mc ms) {v w : Int32} (hd : decode M.2.1 pc = .ok (.iand, 1)) (kk : jJ x M E Q h sz ce sl lv (pc + 1) (.int (v &&& w) :: st)) : jJ x M E Q h sz ce sl lv pc (.int w :: .int v :: st) := fun H locs ls hR hS hl => lv_iand C0.exec C0.code hd (kk H locs ls hR hS hl)
theorem j_ior (C0 : jOk x M E d mc ms) {v w : Int32} (hd : decode M.2.1 pc = .ok (.ior, 1)) (kk : jJ x M E Q h sz ce sl lv (pc + 1) (.int (v ||| w) :: st)) : jJ x M E Q h sz ce sl lv pc (.int w :: .int v :: st) := fun H locs ls hR hS hl => lv_ior C0.exec C0.code hd (kk H locs ls hR hS hl)
theorem j_ixor (C0 : jOk x M E d mc ms) {v w : Int32} (hd : decode M.2.1 pc = .ok (.ixor, 1)) (kk : jJ x M E Q h sz ce sl lv (pc + 1) (.int (v ^^^ w) :: st)) : jJ x M E Q h sz ce sl lv pc (.int w :: .int v :: st) := fun H locs ls hR hS hl => lv_ixor C0.exec C0.code hd (kk H locs ls hR hS hl)
theorem j_ladd (C0 : jOk x M E d mc ms) {v w : Int64} (hd : decode M.2.1 pc = .ok (.ladd, 1)) (kk : jJ x M E Q h sz ce sl lv (pc + 1) (.long (v + w) :: st)) : jJ x M E Q h sz ce sl lv pc (.long w :: .long v :: st) := fun H locs ls hR hS hl => lv_ladd C0.exec C0.code hd (kk H locs ls hR hS hl)
theorem j_lsub (C0 : jOk x M E d mc ms) {v w : Int64} (hd : decode M.2.1 pc = .ok (.lsub, 1)) (kk : jJ x M E Q h sz ce sl lv (pc + 1) (.long (v - w) :: st)) : jJ x M E Q h sz ce sl lv pc (.long w :: .long v :: st) := fun H locs ls hR hS hl => lv_lsub C0.exec C0.code hd (kk H locs ls hR hS hl)
theorem j_lmul (C0 : jOk x M E d mc ms) {v w : Int64} (hd : decode M.2.1 pc = .ok (.lmul, 1)) (kk : jJ x M E Q h sz ce sl lv (pc + 1) (.long (v * w) :: st)) : jJ x M E Q h sz ce sl lv pc (.long w :: .long v :: st) := fun H locs ls hR hS hl => lv_lmul C0.exec C0.code hd (kk H locs ls hR hS hl)
theorem j_land (C0 : jOk x M E d mc ms) {v w : Int64} (hd : decode M.2.1 pc = .ok (.land, 1)) (kk : jJ x M E Q h sz ce sl lv (pc + 1) (.long (v &&& w) :: st)) : jJ x M E Q h sz ce sl lv pc (.long w :: .long v :: st) := fun H locs ls hR hS hl => lv_land C0.exec C0.code hd (kk H locs ls hR hS hl)
theorem j_lor (C0 : jOk x M E d mc ms) {v w : Int64} (hd : decode M.2.1 pc = .ok (.lor, 1)) (kk : jJ x M E Q h sz ce sl lv (pc + 1) (.long (v ||| w) :: st)) : jJ x M E Q h sz ce sl lv pc (.long w :: .long v :: st) := fun H locs ls hR hS hl => lv_lor C0.exec C0.code hd (kk H locs ls hR hS hl)
theorem j_lxor (C0 : jOk x M E d mc ms) {v w : Int64} (hd : decode M.2.1 pc = .ok (.lxor, 1)) (kk : jJ x M E Q h sz ce sl lv (pc + 1) (.long (v ^^^ w) :: st)) : jJ x M E Q h sz ce sl lv pc (.long w :: .long v :: st) := fun H locs ls hR hS hl => lv_lxor C0.exec C0.code hd (kk H locs ls hR hS hl)
theorem j_ineg (C0 : jOk x M E d mc ms) {v : Int32} (hd : decode M.2.1 pc = .ok (.ineg, 1)) (kk : jJ x M E Q h sz ce sl lv (pc + 1) (.int (-v) :: st)) : jJ x M E Q h sz ce sl lv pc (.int v :: st) := fun H locs ls hR hS hl => lv_ineg C0.exec C0.code hd (kk H locs ls hR hS hl)
theorem j_idiv (C0 : jOk x M E d mc ms) {v w : Int32} (hd : decode M.2.1 pc = .ok (.idiv, 1)) (hne : ¬ w = 0) (kk : jJ x M E Q h sz ce sl lv (pc + 1) (.int (v / w) :: st)) : jJ x M E Q h sz ce sl lv pc (.int w :: .int v :: st) := fun H locs ls hR hS hl => lv_idiv C0.exec C0.code hd hne (kk H locs ls hR hS hl)
theorem j_irem (C0 : jOk x M E d mc ms) {v w : Int32} (hd : decode M.2.1 pc = .ok (.irem, 1)) (hne : ¬ w = 0) (kk : jJ x M E Q h sz ce sl lv (pc + 1) (.int (v - v / w * w) :: st)) : jJ x M E Q h sz ce sl lv pc (.int w :: .int v :: st) := fun H locs ls hR hS hl => lv_irem C0.exec C0.code hd hne (kk H locs ls hR hS hl)
theorem j_ishl (C0 : jOk x M E d mc ms) {v w : Int32} (hd : decode M.2.1 pc = .ok (.ishl, 1)) (kk : jJ x M E Q h sz ce sl lv (pc + 1) (.int (v <<< (w &&& 31)) :: st)) : jJ x M E Q h sz ce sl lv pc (.int w :: .int v :: st) := fun H locs ls hR hS hl => lv_ishl C0.exec C0.code hd (kk H locs ls hR hS hl)
theorem j_ishr (C0 : jOk x M E d mc ms) {v w : Int32} (hd : decode M.2.1 pc = .ok (.ishr, 1)) (kk : jJ x M E Q h sz ce sl lv (pc + 1) (.int (v >>> (w &&& 31)) :: st)) : jJ x M E Q h sz ce sl lv pc (.int w :: .int v :: st) := fun H locs ls hR hS hl => lv_ishr C0.exec C0.code hd (kk H locs ls hR hS hl)
theorem j_iushr (C0 : jOk x M E d mc ms) {v w u : Int32} (hd : decode M.2.1 pc = .ok (.iushr, 1)) (hv : (v.toUInt32 >>> (w.toUInt32 &&& Int32.toUInt32 31)).toInt32 = u) (kk : jJ x M E Q h sz ce sl lv (pc + 1) (.int u :: st)) : jJ x M E Q h sz ce sl lv pc (.int w :: .int v :: st) := fun H locs ls hR hS hl => lv_iushr C0.exec C0.code hd hv (kk H locs ls hR hS hl)
theorem j_lshl (C0 : jOk x M E d mc ms) {v u : Int64} {w : Int32} (hd : decode M.2.1 pc = .ok (.lshl, 1)) (hv : v <<< (w.toInt64 &&& 63) = u) (kk : jJ x M E Q h sz ce sl lv (pc + 1) (.long u :: st)) : jJ x M E Q h sz ce sl lv pc (.int w :: .long v :: st) := fun H locs ls hR hS hl => lv_lshl C0.exec C0.code hd hv (kk H locs ls hR hS hl)
theorem j_lshr (C0 : jOk x M E d mc ms) {v u : Int64} {w : Int32} (hd : decode M.2.1 pc = .ok (.lshr, 1)) (hv : v >>> (w.toInt64 &&& 63) = u) (kk : jJ x M E Q h sz ce sl lv (pc + 1) (.long u :: st)) : jJ x M E Q h sz ce sl lv pc (.int w :: .long v :: st) := fun H locs ls hR hS hl => lv_lshr C0.exec C0.code hd hv (kk H locs ls hR hS hl)
theorem j_lushr (C0 : jOk x M E d mc ms) {v u : Int64} {w : Int32} (hd : decode M.2.1 pc = .ok (.lushr, 1)) (hv : (v.toUInt64 >>> (w.toInt64.toUInt64 &&& Int64.toUInt64 63)).toInt64 = u) (kk : jJ x M E Q h sz ce sl lv (pc + 1) (.long u :: st)) : jJ x M E Q h sz ce sl lv pc (.int w :: .long v :: st) := fun H locs ls hR hS hl => lv_lushr C0.exec C0.code hd hv (kk H locs ls hR hS hl)
theorem j_i2l (C0 : jOk x M E d mc ms) {v : Int32} {u : Int64} (hd : decode M.2.1 pc = .ok (.i2l, 1)) (hv : v.toInt64 = u) (kk : jJ x M E Q h sz ce sl lv (pc + 1) (.long u :: st)) : jJ x M E Q h sz ce sl lv pc (.int v :: st) := fun H locs ls hR hS hl => lv_i2l C0.exec C0.code hd hv (kk H locs ls hR hS hl)
theorem j_l2i (C0 : jOk x M E d mc ms) {v : Int64} {u : Int32} (hd : decode M.2.1 pc = .ok (.l2i, 1)) (hv : v.toInt32 = u) (kk : jJ x M E Q h sz ce sl lv (pc + 1) (.int u :: st)) : jJ x M E Q h sz ce sl lv pc (.long v :: st) := fun H locs ls hR hS hl => lv_l2i C0.exec C0.code hd hv (kk H locs ls hR hS hl)
theorem j_lcmp (C0 : jOk x M E d mc ms) {v w : Int64} (hd : decode M.2.1 pc = .ok (.lcmp, 1)) (kk : jJ x M E Q h sz ce sl lv (pc + 1) (.int (lg_cmp v w) :: st)) : jJ x M E Q h sz ce sl lv pc (.long w :: .long v :: st) := fun H locs ls hR hS hl => W.lcmp C0.exec C0.code hd (kk H locs ls hR hS hl)
theorem j_dup (C0 : jOk x M E d mc ms) {va : Value} (hd : decode M.2.1 pc = .ok (.dup, 1)) (ha : va.category = 1) (kk : jJ x M E Q h sz ce sl lv (pc + 1) (va :: va :: st)) : jJ x M E Q h sz ce sl lv pc (va :: st) := fun H locs ls hR hS hl => lv_dup C0.exec C0.code hd ha (kk H locs ls hR hS hl)
theorem j_pop (C0 : jOk x M E d mc ms) {va : Value} (hd : decode M.2.1 pc = .ok (.pop, 1)) (ha : va.category = 1) (kk : jJ x M E Q h sz ce sl lv (pc + 1) (st)) : jJ x M E Q h sz ce sl lv pc (va :: st) := fun H locs ls hR hS hl => lv_pop C0.exec C0.code hd ha (kk H locs ls hR hS hl)
theorem j_dup_x1 (C0 : jOk x M E d mc ms) {va vb : Value} (hd : decode M.2.1 pc = .ok (.dup_x1, 1)) (ha : va.category = 1) (hb : vb.category = 1) (kk : jJ x M E Q h sz ce sl lv (pc + 1) (va :: vb :: va :: st)) : jJ x M E Q h sz ce sl lv pc (va :: vb :: st) := fun H locs ls hR hS hl => lv_dup_x1 C0.exec C0.code hd ha hb (kk H locs ls hR hS hl)
theorem j_dup_x2 (C0 : jOk x M E d mc ms) {va vb vd : Value} (hd : decode M.2.1 pc = .ok (.dup_x2, 1)) (ha : va.category = 1) (hb : vb.category = 1) (hc : vd.category = 1) (kk : jJ x M E Q h sz ce sl lv (pc + 1) (va :: vb :: vd :: va :: st)) : jJ x M E Q h sz ce sl lv pc (va :: vb :: vd :: st) := fun H locs ls hR hS hl => lv_dup_x2 C0.exec C0.code hd ha hb hc (kk H locs ls hR hS hl)
theorem j_dup2_11 (C0 : jOk x M E d mc ms) {va vb : Value} (hd : decode M.2.1 pc = .ok (.dup2, 1)) (ha : va.category = 1) (hb : vb.category = 1) (kk : jJ x M E Q h sz ce sl lv (pc + 1) (va :: vb :: va :: vb :: st)) : jJ x M E Q h sz ce sl lv pc (va :: vb :: st) := fun H locs ls hR hS hl => lv_dup2_11 C0.exec C0.code hd ha hb (kk H locs ls hR hS hl)
theorem j_dup2_2 (C0 : jOk x M E d mc ms) {va : Value} (hd : decode M.2.1 pc = .ok (.dup2, 1)) (ha : va.category = 2) (kk : jJ x M E Q h sz ce sl lv (pc + 1) (va :: va :: st)) : jJ x M E Q h sz ce sl lv pc (va :: st) := fun H locs ls hR hS hl => lv_dup2_2 C0.exec C0.code hd ha (kk H locs ls hR hS hl)
theorem j_dup2_x1_2 (C0 : jOk x M E d mc ms) {va vb : Value} (hd : decode M.2.1 pc = .ok (.dup2_x1, 1)) (ha : va.category = 2) (hb : vb.category = 1) (kk : jJ x M E Q h sz ce sl lv (pc + 1) (va :: vb :: va :: st)) : jJ x M E Q h sz ce sl lv pc (va :: vb :: st) := fun H locs ls hR hS hl => lv_dup2_x1_2 C0.exec C0.code hd ha hb (kk H locs ls hR hS hl)
theorem j_dup2_x2_2 (C0 : jOk x M E d mc ms) {va vb vd : Value} (hd : decode M.2.1 pc = .ok (.dup2_x2, 1)) (ha : va.category = 2) (hb : vb.category = 1) (hc : vd.category = 1) (kk : jJ x M E Q h sz ce sl lv (pc + 1) (va :: vb :: vd :: va :: st)) : jJ x M E Q h sz ce sl lv pc (va :: vb :: vd :: st) := fun H locs ls hR hS hl => lv_dup2_x2_2 C0.exec C0.code hd ha hb hc (kk H locs ls hR hS hl)
theorem j_if_eq (C0 : jOk x M E d mc ms) {v : Int32} {off : Int} {tgt : Nat} (hd : decode M.2.1 pc = .ok (.ifCond .eq off, 3)) (ht : (pc : Int) + off = (tgt : Int)) (kt : v = 0 → jJ x M E Q h sz ce sl lv tgt st) (kf : ¬ v = 0 → jJ x M E Q h sz ce sl lv (pc + 3) st) : jJ x M E Q h sz ce sl lv pc (.int v :: st) := fun H locs ls hR hS hl => lv_if_eq C0.exec C0.code hd ht (fun hc => kt hc H locs ls hR hS hl) (fun hc => kf hc H locs ls hR hS hl)
theorem j_icmp_eq (C0 : jOk x M E d mc ms) {v w : Int32} {off : Int} {tgt : Nat} (hd : decode M.2.1 pc = .ok (.if_icmp .eq off, 3)) (ht : (pc : Int) + off = (tgt : Int)) (kt : v = w → jJ x M E Q h sz ce sl lv tgt st) (kf : ¬ v = w → jJ x M E Q h sz ce sl lv (pc + 3) st) : jJ x M E Q h sz ce sl lv pc (.int w :: .int v :: st) := fun H locs ls hR hS hl => lv_icmp_eq C0.exec C0.code hd ht (fun hc => kt hc H locs ls hR hS hl) (fun hc => kf hc H locs ls hR hS hl)
theorem j_if_ne (C0 : jOk x M E d mc ms) {v : Int32} {off : Int} {tgt : Nat} (hd : decode M.2.1 pc = .ok (.ifCond .ne off, 3)) (ht : (pc : Int) + off = (tgt : Int)) (kt : ¬ v = 0 → jJ x M E Q h sz ce sl lv tgt st) (kf : v = 0 → jJ x M E Q h sz ce sl lv (pc + 3) st) : jJ x M E Q h sz ce sl lv pc (.int v :: st) := fun H locs ls hR hS hl => lv_if_ne C0.exec C0.code hd ht (fun hc => kt hc H locs ls hR hS hl) (fun hc => kf hc H locs ls hR hS hl)
theorem j_icmp_ne (C0 : jOk x M E d mc ms) {v w : Int32} {off : Int} {tgt : Nat} (hd : decode M.2.1 pc = .ok (.if_icmp .ne off, 3)) (ht : (pc : Int) + off = (tgt : Int)) (kt : ¬ v = w → jJ x M E Q h sz ce sl lv tgt st) (kf : v = w → jJ x M E Q h sz ce sl lv (pc + 3) st) : jJ x M E Q h sz ce sl lv pc (.int w :: .int v :: st) := fun H locs ls hR hS hl => lv_icmp_ne C0.exec C0.code hd ht (fun hc => kt hc H locs ls hR hS hl) (fun hc => kf hc H locs ls hR hS hl)
theorem j_if_lt (C0 : jOk x M E d mc ms) {v : Int32} {off : Int} {tgt : Nat} (hd : decode M.2.1 pc = .ok (.ifCond .lt off, 3)) (ht : (pc : Int) + off = (tgt : Int)) (kt : v < 0 → jJ x M E Q h sz ce sl lv tgt st) (kf : ¬ v < 0 → jJ x M E Q h sz ce sl lv (pc + 3) st) : jJ x M E Q h sz ce sl lv pc (.int v :: st) := fun H locs ls hR hS hl => lv_if_lt C0.exec C0.code hd ht (fun hc => kt hc H locs ls hR hS hl) (fun hc => kf hc H locs ls hR hS hl)
theorem j_icmp_lt (C0 : jOk x M E d mc ms) {v w : Int32} {off : Int} {tgt : Nat} (hd : decode M.2.1 pc = .ok (.if_icmp .lt off, 3)) (ht : (pc : Int) + off = (tgt : Int)) (kt : v < w → jJ x M E Q h sz ce sl lv tgt st) (kf : ¬ v < w → jJ x M E Q h sz ce sl lv (pc + 3) st) : jJ x M E Q h sz ce sl lv pc (.int w :: .int v :: st) := fun H locs ls hR hS hl => lv_icmp_lt C0.exec C0.code hd ht (fun hc => kt hc H locs ls hR hS hl) (fun hc => kf hc H locs ls hR hS hl)
theorem j_if_ge (C0 : jOk x M E d mc ms) {v : Int32} {off : Int} {tgt : Nat} (hd : decode M.2.1 pc = .ok (.ifCond .ge off, 3)) (ht : (pc : Int) + off = (tgt : Int)) (kt : 0 ≤ v → jJ x M E Q h sz ce sl lv tgt st) (kf : ¬ 0 ≤ v → jJ x M E Q h sz ce sl lv (pc + 3) st) : jJ x M E Q h sz ce sl lv pc (.int v :: st) := fun H locs ls hR hS hl => lv_if_ge C0.exec C0.code hd ht (fun hc => kt hc H locs ls hR hS hl) (fun hc => kf hc H locs ls hR hS hl)
theorem j_icmp_ge (C0 : jOk x M E d mc ms) {v w : Int32} {off : Int} {tgt : Nat} (hd : decode M.2.1 pc = .ok (.if_icmp .ge off, 3)) (ht : (pc : Int) + off = (tgt : Int)) (kt : w ≤ v → jJ x M E Q h sz ce sl lv tgt st) (kf : ¬ w ≤ v → jJ x M E Q h sz ce sl lv (pc + 3) st) : jJ x M E Q h sz ce sl lv pc (.int w :: .int v :: st) := fun H locs ls hR hS hl => lv_icmp_ge C0.exec C0.code hd ht (fun hc => kt hc H locs ls hR hS hl) (fun hc => kf hc H locs ls hR hS hl)
theorem j_if_gt (C0 : jOk x M E d mc ms) {v : Int32} {off : Int} {tgt : Nat} (hd : decode M.2.1 pc = .ok (.ifCond .gt off, 3)) (ht : (pc : Int) + off = (tgt : Int)) (kt : 0 < v → jJ x M E Q h sz ce sl lv tgt st) (kf : ¬ 0 < v → jJ x M E Q h sz ce sl lv (pc + 3) st) : jJ x M E Q h sz ce sl lv pc (.int v :: st) := fun H locs ls hR hS hl => lv_if_gt C0.exec C0.code hd ht (fun hc => kt hc H locs ls hR hS hl) (fun hc => kf hc H locs ls hR hS hl)
theorem j_icmp_gt (C0 : jOk x M E d mc ms) {v w : Int32} {off : Int} {tgt : Nat} (hd : decode M.2.1 pc = .ok (.if_icmp .gt off, 3)) (ht : (pc : Int) + off = (tgt : Int)) (kt : w < v → jJ x M E Q h sz ce sl lv tgt st) (kf : ¬ w < v → jJ x M E Q h sz ce sl lv (pc + 3) st) : jJ x M E Q h sz ce sl lv pc (.int w :: .int v :: st) := fun H locs ls hR hS hl => lv_icmp_gt C0.exec C0.code hd ht (fun hc => kt hc H locs ls hR hS hl) (fun hc => kf hc H locs ls hR hS hl)
theorem j_if_le (C0 : jOk x M E d mc ms) {v : Int32} {off : Int} {tgt : Nat} (hd : decode M.2.1 pc = .ok (.ifCond .le off, 3)) (ht : (pc : Int) + off = (tgt : Int)) (kt : v ≤ 0 → jJ x M E Q h sz ce sl lv tgt st) (kf : ¬ v ≤ 0 → jJ x M E Q h sz ce sl lv (pc + 3) st) : jJ x M E Q h sz ce sl lv pc (.int v :: st) := fun H locs ls hR hS hl => lv_if_le C0.exec C0.code hd ht (fun hc => kt hc H locs ls hR hS hl) (fun hc => kf hc H locs ls hR hS hl)
theorem j_icmp_le (C0 : jOk x M E d mc ms) {v w : Int32} {off : Int} {tgt : Nat} (hd : decode M.2.1 pc = .ok (.if_icmp .le off, 3)) (ht : (pc : Int) + off = (tgt : Int)) (kt : v ≤ w → jJ x M E Q h sz ce sl lv tgt st) (kf : ¬ v ≤ w → jJ x M E Q h sz ce sl lv (pc + 3) st) : jJ x M E Q h sz ce sl lv pc (.int w :: .int v :: st) := fun H locs ls hR hS hl => lv_icmp_le C0.exec C0.code hd ht (fun hc => kt hc H locs ls hR hS hl) (fun hc => kf hc H locs ls hR hS hl)
theorem j_goto (C0 : jOk x M E d mc ms) {off : Int} {tgt : Nat} (hd : decode M.2.1 pc = .ok (.goto off, 3)) (ht : (pc : Int) + off = (tgt : Int)) (kk : jJ x M E Q h sz ce sl lv tgt st) : jJ x M E Q h sz ce sl lv pc st := fun H locs ls hR hS hl => lv_goto C0.exec C0.code hd ht (kk H locs ls hR hS hl)
theorem j_tableOut (C0 : jOk x M E d mc ms) {dflt lo hi : Int} {offs : Array Int} {len : Nat} {v : Int32} {tgt : Nat} (hd : decode M.2.1 pc = .ok (.tableswitch dflt lo hi offs, len)) (hv : v.toInt < lo ∨ hi < v.toInt) (ht : (pc : Int) + dflt = (tgt : Int)) (kk : jJ x M E Q h sz ce sl lv tgt st) : jJ x M E Q h sz ce sl lv pc (.int v :: st) := fun H locs ls hR hS hl => lv_tableOut C0.exec C0.code hd hv ht (kk H locs ls hR hS hl)
theorem j_tableIn (C0 : jOk x M E d mc ms) {dflt lo hi : Int} {offs : Array Int} {len : Nat} {v : Int32} {off : Int} {tgt : Nat} (hd : decode M.2.1 pc = .ok (.tableswitch dflt lo hi offs, len)) (h1 : ¬ v.toInt < lo) (h2 : ¬ hi < v.toInt) (ho : offs[(v.toInt - lo).toNat]? = some off) (ht : (pc : Int) + off = (tgt : Int)) (kk : jJ x M E Q h sz ce sl lv tgt st) : jJ x M E Q h sz ce sl lv pc (.int v :: st) := fun H locs ls hR hS hl => lv_tableIn C0.exec C0.code hd h1 h2 ho ht (kk H locs ls hR hS hl)
/-- field links: in class own, pool place idx means field k of class number ci -/
def jFL (own : String) (idx ci k : Nat) : Prop := ∃ (C : String) (T : u_T) (N : Nat), jCl[ci]? = some (C, T, N) ∧ k < N ∧ (∀ w ∈ u_ws C T N, w ∈ jTG) ∧ Cond.fieldLink own idx (T k).1 (T k).2.1 (T k).2.2.1 ∈ jTG
def jFP (own : String) (idx ci k : Nat) (ty : FieldType) (fin : Bool) : Prop := ∃ (C : String) (T : u_T) (N : Nat) (ty0 : Nat → FieldType), jCl[ci]? = some (C, T, N) ∧ k < N ∧ (∀ w ∈ u_ws C T N, w ∈ jTG) ∧ Cond.fieldLink own idx (T k).1 (T k).2.1 (T k).2.2.1 ∈ jTG ∧ (T k).2.2.2 = fin ∧ parseFieldDescriptor (T k).2.2.1 = some ty ∧ (∀ k, k < N → parseFieldDescriptor (T k).2.2.1 = some (ty0 k)) ∧ (∀ a, a < N → ∀ b, b < N → a ≠ b → (T a).2.1 ≠ (T b).2.1) ∧ (fin = true → (T k).1 = own)
theorem j_getf (C0 : jOk x M E d mc ms) {idx a ci k : Nat} {fs : List Value} {v : Value} (hd : decode M.2.1 pc = .ok (.getfield idx, 3)) (hf : jFL M.1.cls idx ci k) (ha : h a = some (.inr (ci, fs))) (hv : fs[k]? = some v) (kk : jJ x M E Q h sz ce sl lv (pc + 3) (v :: st)) : jJ x M E Q h sz ce sl lv pc (.ref a :: st) := by
  intro H locs ls hR hS hl
  obtain ⟨C, T, N, h1, h2, h3, h4⟩ := hf
  exact va_get C0.exec C0.code C0.ts h3 C0.own C0.K.1 (hR.one ha) 0 rfl h1 k h2 (C0.ts _ h4) (fun _ q => q) hv hd (kk H locs ls hR hS hl)
theorem j_putf (C0 : jOk x M E d mc ms) {idx a ci k : Nat} {fs : List Value} {ty : FieldType} {v : Value} (hd : decode M.2.1 pc = .ok (.putfield idx, 3)) (hf : jFP M.1.cls idx ci k ty false) (ha : h a = some (.inr (ci, fs))) (hlen : k < fs.length) (hn : narrow ty v = v) (hfit : fits ty v = true) (kk : jJ x M E Q (jset h a (.inr (ci, fs.set k v))) sz ce sl lv (pc + 3) st) : jJ x M E Q h sz ce sl lv pc (v :: .ref a :: st) := by
  intro H locs ls hR hS hl
  obtain ⟨C, T, N, ty0, hc, hk, hin1, hlk, hfin, hpd, hty, hnm, hdecl⟩ := hf
  have hts := C0.ts
  have hK := C0.K.1
  have hown := C0.own
  have hap := va_apart (own := M.1.cls) hts hin1 ty0 hty hnm hK hc
  obtain ⟨r, h1, cell, q1, q2, q3, q4⟩ := (hR.2 a _ ha).2
  have hr : r = (C, T, N) := Option.some.inj (h1.symm.trans hc)
  subst hr
  obtain ⟨hSl, hfc, kC, hkC, hkind⟩ := hK.1 ci _ hc
  obtain ⟨cf, kf, fi, f, hi, hsl⟩ := hSl k hk
  have hlay := hts _ (hin1 _ (u_in_lay hk))
  unfold u_lay at hlay
  have hst := (u_facts hfc hkC (u_lays hts hin1 hk) hi).1
  rw [if_neg (by rw [hfin]; decide)] at hlay
  have h6 := u_store hfc hkC hkind hlay hi hpd hn hfit
  refine W.putK C0.exec C0.code (f := f) ⟨hown, hts _ hlk, ⟨_, _, _, hi⟩, hst⟩ (by rw [q2]; exact h6) q1 q3 (by rw [hsl]; exact k2_hasslot (q4 k hk)) rfl rfl hd fun H' e1 e2 e3 => ?_
  rw [hsl] at e1 ⊢
  exact kk H' _ ls (hR.set ha ⟨_, hc, t_OB.to (V := updV (vp_V fs) k v) ⟨_, e1, q2, q3, t_set q4 hap hk v⟩ (fun j _ => vp_updV_set hlen v j)⟩ e2 e3) (hS.put e2 e3 (hR.2 a _ ha).1) hl
theorem j_putF (C0 : jOk x M E d mc ms) {idx a ci k : Nat} {fs : List Value} {ty : FieldType} {v : Value} (hd : decode M.2.1 pc = .ok (.putfield idx, 3)) (hf : jFP M.1.cls idx ci k ty true) (ha : h a = some (.inr (ci, fs))) (hlen : k < fs.length) (hn : narrow ty v = v) (hfit : fits ty v = true) (hin : M.1.name = "<init>") (kk : jJ x M E Q (jset h a (.inr (ci, fs.set k v))) sz ce sl lv (pc + 3) st) : jJ x M E Q h sz ce sl lv pc (v :: .ref a :: st) := by
  intro H locs ls hR hS hl
  obtain ⟨C, T, N, ty0, hc, hk, hin1, hlk, hfin, hpd, hty, hnm, hdecl⟩ := hf
  have hts := C0.ts
  have hK := C0.K.1
  have hown := C0.own
  have hap := va_apart (own := M.1.cls) hts hin1 ty0 hty hnm hK hc
  obtain ⟨r, h1, cell, q1, q2, q3, q4⟩ := (hR.2 a _ ha).2
  have hr : r = (C, T, N) := Option.some.inj (h1.symm.trans hc)
  subst hr
  obtain ⟨hSl, hfc, kC, hkC, hkind⟩ := hK.1 ci _ hc
  obtain ⟨cf, kf, fi, f, hi, hsl⟩ := hSl k hk
  have hlay := hts _ (hin1 _ (u_in_lay hk))
  unfold u_lay at hlay
  have hst := (u_facts hfc hkC (u_lays hts hin1 hk) hi).1
  rw [if_pos hfin] at hlay
  have hcf : (jxm x).cls = cf := by
    obtain ⟨_, _, c', _, _, _, -, -, hf', -, -, -, hown2, -⟩ := Cond.laysFinal_spec hlay
    have e1 : c' = cf := by have := hi.symm.trans hf'; simp at this; exact this.1.symm
    rw [hdecl rfl] at hown2
    rw [← e1]; exact Option.some.inj (hown.symm.trans hown2)
  have h6 := u_fits hfc hkC hkind (Or.inr hlay) hi hpd hn hfit
  refine W.putFinK C0.exec C0.code hown (hts _ hlk) hi hst hcf (C0.name.trans hin) (by rw [q2]; exact h6) q1 q3 (by rw [hsl]; exact k2_hasslot (q4 k hk)) rfl rfl hd fun H' e1 e2 e3 => ?_
  rw [hsl] at e1 ⊢
  exact kk H' _ ls (hR.set ha ⟨_, hc, t_OB.to (V := updV (vp_V fs) k v) ⟨_, e1, q2, q3, t_set q4 hap hk v⟩ (fun j _ => vp_updV_set hlen v j)⟩ e2 e3) (hS.put e2 e3 (hR.2 a _ ha).1) hl
theorem j_iald (C0 : jOk x M E d mc ms) {a n k : Nat} {f : Nat → Int32} {i : Int32} (hd : decode M.2.1 pc = .ok (.iaload, 1)) (ha : h a = some (jI E n f)) (hi : i = nI k) (hk : k < n) (hn : n < 2 ^ 31) (kk : jJ x M E Q h sz ce sl lv (pc + 1) (.int (f k) :: st)) : jJ x M E Q h sz ce sl lv pc (.int i :: .ref a :: st) := by
  intro H locs ls hR hS hl
  subst hi
  have hcl : (nI k).toNatClampNeg = k := nI_clamp (by omega)
  refine va_iald (i := nI k) C0.exec C0.code C0.K.1 (hR.one ha) 0 0 rfl rfl (vp_in_nI hk hn) hd ?_
  rw [hcl]
  exact kk H locs ls hR hS hl
theorem j_lald (C0 : jOk x M E d mc ms) {a n k : Nat} {f : Nat → Int64} {i : Int32} (hd : decode M.2.1 pc = .ok (.laload, 1)) (ha : h a = some (jL E n f)) (hi : i = nI k) (hk : k < n) (hn : n < 2 ^ 31) (kk : jJ x M E Q h sz ce sl lv (pc + 1) (.long (f k) :: st)) : jJ x M E Q h sz ce sl lv pc (.int i :: .ref a :: st) := by
  intro H locs ls hR hS hl
  subst hi
  have hcl : (nI k).toNatClampNeg = k := nI_clamp (by omega)
  refine va_lald (i := nI k) C0.exec C0.code C0.K.1 (hR.one ha) 0 1 rfl rfl (vp_in_nI hk hn) hd ?_
  rw [hcl]
  exact kk H locs ls hR hS hl
theorem j_iast (C0 : jOk x M E d mc ms) {a n k : Nat} {f : Nat → Int32} {i : Int32} {w : Int32} (hd : decode M.2.1 pc = .ok (.iastore, 1)) (ha : h a = some (jI E n f)) (hi : i = nI k) (hk : k < n) (hn : n < 2 ^ 31) (kk : jJ x M E Q (jset h a (jI E n (upd f k (w)))) sz ce sl lv (pc + 1) st) : jJ x M E Q h sz ce sl lv pc (.int w :: .int i :: .ref a :: st) := by
  intro H locs ls hR hS hl
  subst hi
  have hcl : (nI k).toNatClampNeg = k := nI_clamp (by omega)
  have hin := vp_in_nI hk hn
  refine W.iast C0.exec C0.code (hR.2 a _ ha).2 ((C0.K.1.2 0 _ rfl).1 n (fun j => .int (f j))) (fun q => by cases q) (by show ¬ (nI k < 0 ∨ (arrV _ _ _).slots.size ≤ _); rw [arrV_size]; exact hin) rfl rfl hd fun H1 e z oq => ?_
  refine kk H1 _ ls (hR.set ha ?_ z oq) (hS.put z oq (hR.2 a _ ha).1) hl
  show H1[a]? = some (vp_cell _ _)
  rw [e, hcl]
  rw [vp_cell_i, vp_cell_i, arrV_store]
  congr 2
  funext q
  by_cases hq : q = k
  · subst hq
    simp [updV, upd]
    try rfl
  · simp [updV, upd, hq]
theorem j_last (C0 : jOk x M E d mc ms) {a n k : Nat} {f : Nat → Int64} {i : Int32} {w : Int64} (hd : decode M.2.1 pc = .ok (.lastore, 1)) (ha : h a = some (jL E n f)) (hi : i = nI k) (hk : k < n) (hn : n < 2 ^ 31) (kk : jJ x M E Q (jset h a (jL E n (vp_updL f k (w)))) sz ce sl lv (pc + 1) st) : jJ x M E Q h sz ce sl lv pc (.long w :: .int i :: .ref a :: st) := by
  intro H locs ls hR hS hl
  subst hi
  have hcl : (nI k).toNatClampNeg = k := nI_clamp (by omega)
  have hin := vp_in_nI hk hn
  refine W.last C0.exec C0.code (hR.2 a _ ha).2 ((C0.K.1.2 1 _ rfl).1 n (fun j => .long (f j))) (fun q => by cases q) (by show ¬ (nI k < 0 ∨ (arrV _ _ _).slots.size ≤ _); rw [arrV_size]; exact hin) rfl rfl hd fun H1 e z oq => ?_
  refine kk H1 _ ls (hR.set ha ?_ z oq) (hS.put z oq (hR.2 a _ ha).1) hl
  show H1[a]? = some (vp_cell _ _)
  rw [e, hcl]
  rw [vp_cell_l, vp_cell_l, arrV_store]
  congr 2
  funext q
  by_cases hq : q = k
  · subst hq
    simp [updV, vp_updL]
    try rfl
  · simp [updV, vp_updL, hq]
theorem j_alen (C0 : jOk x M E d mc ms) {a t : Nat} {y : vp_A} {ty : FieldType} {v : Int32} (hd : decode M.2.1 pc = .ok (.arraylength, 1)) (ha : h a = some (.inl (E.2.1 t, y))) (ht : (jTys E.2.1)[t]? = some (E.2.1 t, ty)) (hv : Int32.ofNat y.1 = v) (kk : jJ x M E Q h sz ce sl lv (pc + 1) (.int v :: st)) : jJ x M E Q h sz ce sl lv pc (.ref a :: st) :=
  fun H locs ls hR hS hl => va_alen C0.exec C0.code C0.K.1 (hR.one ha) 0 t rfl ht hv hd (kk H locs ls hR hS hl)
theorem j_aald (C0 : jOk x M E d mc ms) {a t n k q : Nat} {C : String} {f : Nat → Option Nat} {i : Int32} (hd : decode M.2.1 pc = .ok (.aaload, 1)) (ha : h a = some (jQa E t n f)) (ht : (jTys E.2.1)[t]? = some (E.2.1 t, .object C)) (hi : i = nI k) (hk : k < n) (hn : n < 2 ^ 31) (hq : f k = some q) (kk : jJ x M E Q h sz ce sl lv (pc + 1) (.ref q :: st)) : jJ x M E Q h sz ce sl lv pc (.int i :: .ref a :: st) := by
  intro H locs ls hR hS hl
  subst hi
  have hcl : (nI k).toNatClampNeg = k := nI_clamp (by omega)
  refine va_aldq (i := nI k) C0.exec C0.code C0.K.1 (hR.one ha) 0 t rfl ht (vp_in_nI hk hn) hd ?_
  rw [hcl, hq]
  exact kk H locs ls hR hS hl
theorem j_aast (C0 : jOk x M E d mc ms) {a v t n k ci : Nat} {f : Nat → Option Nat} {vs : List Value} {r : vw_C} {i : Int32} (hd : decode M.2.1 pc = .ok (.aastore, 1)) (ha : h a = some (jQa E t n f)) (hv : h v = some (.inr (ci, vs))) (hc : jCl[ci]? = some r) (ht : (jTys E.2.1)[t]? = some (E.2.1 t, .object r.1)) (hi : i = nI k) (hk : k < n) (hn : n < 2 ^ 31) (kk : jJ x M E Q (jset h a (jQa E t n (va_up f k (some v)))) sz ce sl lv (pc + 1) st) : jJ x M E Q h sz ce sl lv pc (.ref v :: .int i :: .ref a :: st) := by
  intro H locs ls hR hS hl
  subst hi
  have hcl : (nI k).toNatClampNeg = k := nI_clamp (by omega)
  obtain ⟨r', hr', cellV, g1, g2, g3, -⟩ := (hR.2 v _ hv).2
  have hcls := (C0.K.1.1 ci r hc).2
  obtain ⟨kA, comp, k1, k2, k3, -⟩ := (C0.K.1.2 t _ ht).2
  have hcomp : comp = E.1.1 ci := Option.some.inj (k3.symm.trans hcls.1)
  subst hcomp
  obtain ⟨kC, hkC, -⟩ := hcls.2
  refine W.aast C0.exec C0.code (hR.2 a _ ha).2 (fun q h => by cases h) (fun h => by cases h) k1 k2 rfl hkC ⟨nI_pos (by omega), by rw [hcl]; show _ < (arrV _ _ _).slots.size; rw [arrV_size]; exact hk⟩ g1 (fun q h => by rw [g3] at h; cases h) (by rw [g2]; exact hkC) (by rw [g2]; exact va_assign hcls) rfl rfl hd fun H1 e z oq => ?_
  refine kk H1 _ ls (hR.set ha ?_ z oq) (hS.put z oq (hR.2 a _ ha).1) hl
  show H1[a]? = some (vp_cell _ _)
  rw [e, hcl]
  rw [vp_cell_q, vp_cell_q, arrV_store]
  congr 2
  funext q
  by_cases hq : q = k
  · subst hq
    simp [updV, va_up, va_rf]
  · simp [updV, va_up, hq]
theorem j_newi (C0 : jOk x M E d mc ms) {n : Int32} {N : Nat} (hd : decode M.2.1 pc = .ok (.newarray .int, 2)) (hw : Cond.arrayClass .int ∈ jTG) (hn : n = nI N) (hN : N < 1000000) (hce : ce + 1 ≤ mc) (hsl : sl + N ≤ ms) (kk : jJ x M E Q (jset h sz (jI E N (fun _ => 0))) (sz + 1) (ce + 1) (sl + N) lv (pc + 2) (.ref sz :: st)) : jJ x M E Q h sz ce sl lv pc (.int n :: st) := by
  intro H locs ls hR hS hl
  subst hn
  have hsz : H.size = sz := hR.1
  have hB : E.2.2 ≤ sz := by rw [← hsz]; exact Nat.le_trans C0.base hS.1
  refine va_newaK (atype := .int) C0.exec C0.code (C0.ts _ hw) rfl hd rfl (nI_pos (by omega)) (nI_clamp (by omega)) (by show N * 4 ≤ _; omega) (Nat.le_trans hce C0.room.2.2.1) (Nat.le_trans hsl C0.room.2.2.2) hsz fun H1 cA e1 z1 o1 _ hNm => ?_
  have hcA : cA = E.2.1 0 := Option.some.inj (hNm.symm.trans (C0.K.1.2 0 _ rfl).2)
  subst hcA
  exact kk H1 locs ls (hR.push hB e1 z1 (fun q hq => o1 q hq)) ⟨by rw [z1]; exact Nat.le_trans hS.1 (by rw [hsz]; omega), fun q g1 g2 => (o1 q (by rw [← hsz]; exact Nat.lt_of_lt_of_le g1 hS.1)).trans (hS.2.1 q g1 g2), hS.2.2⟩ hl
theorem j_newl (C0 : jOk x M E d mc ms) {n : Int32} {N : Nat} (hd : decode M.2.1 pc = .ok (.newarray .long, 2)) (hw : Cond.arrayClass .long ∈ jTG) (hn : n = nI N) (hN : N < 1000000) (hce : ce + 1 ≤ mc) (hsl : sl + N ≤ ms) (kk : jJ x M E Q (jset h sz (jL E N (fun _ => 0))) (sz + 1) (ce + 1) (sl + N) lv (pc + 2) (.ref sz :: st)) : jJ x M E Q h sz ce sl lv pc (.int n :: st) := by
  intro H locs ls hR hS hl
  subst hn
  have hsz : H.size = sz := hR.1
  have hB : E.2.2 ≤ sz := by rw [← hsz]; exact Nat.le_trans C0.base hS.1
  refine va_newaK (atype := .long) C0.exec C0.code (C0.ts _ hw) rfl hd rfl (nI_pos (by omega)) (nI_clamp (by omega)) (by show N * 8 ≤ _; omega) (Nat.le_trans hce C0.room.2.2.1) (Nat.le_trans hsl C0.room.2.2.2) hsz fun H1 cA e1 z1 o1 _ hNm => ?_
  have hcA : cA = E.2.1 1 := Option.some.inj (hNm.symm.trans (C0.K.1.2 1 _ rfl).2)
  subst hcA
  exact kk H1 locs ls (hR.push hB e1 z1 (fun q hq => o1 q hq)) ⟨by rw [z1]; exact Nat.le_trans hS.1 (by rw [hsz]; omega), fun q g1 g2 => (o1 q (by rw [← hsz]; exact Nat.lt_of_lt_of_le g1 hS.1)).trans (hS.2.1 q g1 g2), hS.2.2⟩ hl
theorem j_newq (C0 : jOk x M E d mc ms) {idx t N : Nat} {n : Int32} {C : String} (hd : decode M.2.1 pc = .ok (.anewarray idx, 3)) (hw : Cond.classLink M.1.cls idx C ∈ jTG) (ho : C ∈ jAO) (ht : (jTys E.2.1)[t]? = some (E.2.1 t, .object C)) (hn : n = nI N) (hN : N < 1000000) (hce : ce + 1 ≤ mc) (hsl : sl + N ≤ ms) (kk : jJ x M E Q (jset h sz (jQa E t N (fun _ => none))) (sz + 1) (ce + 1) (sl + N) lv (pc + 3) (.ref sz :: st)) : jJ x M E Q h sz ce sl lv pc (.int n :: st) := by
  intro H locs ls hR hS hl
  subst hn
  have hsz : H.size = sz := hR.1
  have hB : E.2.2 ≤ sz := by rw [← hsz]; exact Nat.le_trans C0.base hS.1
  have hcl : (nI N).toNatClampNeg = N := nI_clamp (by omega)
  refine W.anew C0.exec C0.code C0.own (C0.ts _ hw) (va_AO.use (C0.K.2.2 C ho)) rfl hd rfl (nI_pos (by omega)) (by rw [hcl]; omega) (Nat.le_trans hce C0.room.2.2.1) (by rw [hcl]; exact Nat.le_trans hsl C0.room.2.2.2) fun cA kA comp f1 f2 f3 f4 => ?_
  rw [hcl, hsz]
  obtain ⟨kA', comp', _, _, _, g4⟩ := (C0.K.1.2 t _ ht).2
  have hcA : cA = E.2.1 t := Option.some.inj (f1.symm.trans g4)
  subst hcA
  generalize hH1 : H.push ({ cls := E.2.1 t, slots := Array.replicate N .null, vm := .none } : Cell) = H1
  have z1 : H1.size = sz + 1 := by rw [← hH1, Array.size_push, hsz]
  have e1 : H1[sz]? = some (arrV (E.2.1 t) N (fun _ => .null)) := by rw [← hH1, ← hsz, Array.getElem?_push_size, ← arrV_new]
  have o1 : ∀ q : Nat, q < sz → H1[q]? = H[q]? := fun q hq => by rw [← hH1, Array.getElem?_push, if_neg (by rw [hsz]; exact Nat.ne_of_lt hq)]
  exact kk H1 locs ls (hR.push hB e1 z1 o1) ⟨by rw [z1]; exact Nat.le_trans hS.1 (by rw [hsz]; omega), fun q g1 g2 => (o1 q (by rw [← hsz]; exact Nat.lt_of_lt_of_le g1 hS.1)).trans (hS.2.1 q g1 g2), hS.2.2⟩ hl
def jNW (own : String) (idx ci N : Nat) (fs : List Value) : Prop := ∃ (C : String) (T : u_T) (ty : Nat → FieldType), jCl[ci]? = some (C, T, N) ∧ (∀ w ∈ u_ws C T N, w ∈ jTG) ∧ (∀ k, k < N → parseFieldDescriptor (T k).2.2.1 = some (ty k)) ∧ Cond.classLink own idx C ∈ jTG ∧ Cond.instantiable C N ∈ jTG ∧ Cond.initialized C ∈ jTG ∧ ∀ j, j < N → defaultValue (ty j) = vp_V fs j
theorem j_new (C0 : jOk x M E d mc ms) {idx ci N : Nat} {fs : List Value} (hd : decode M.2.1 pc = .ok (.new idx, 3)) (hf : jNW M.1.cls idx ci N fs) (hce : ce + 1 ≤ mc) (hsl : sl + N ≤ ms) (kk : jJ x M E Q (jset h sz (.inr (ci, fs))) (sz + 1) (ce + 1) (sl + N) lv (pc + 3) (.ref sz :: st)) : jJ x M E Q h sz ce sl lv pc st := by
  intro H locs ls hR hS hl
  obtain ⟨C, T, ty, hc, hin, hty, w1, w2, w3, hfs⟩ := hf
  have hsz : H.size = sz := hR.1
  have hB : E.2.2 ≤ sz := by rw [← hsz]; exact Nat.le_trans C0.base hS.1
  have hKn := C0.K.1.1 ci _ hc
  refine W.newcK C0.exec C0.code C0.own (C0.ts _ w1) (C0.ts _ w2) (C0.ts _ w3) rfl hd (Nat.le_trans hce C0.room.2.2.1) (Nat.le_trans hsl C0.room.2.2.2) hKn.2.1 hsz fun H1 kC hkC e1 z1 o1 => ?_
  exact kk H1 locs ls (hR.push hB ⟨_, hc, (u_born ty C0.ts hin hKn hkC e1 hty).to hfs⟩ z1 o1) ⟨by rw [z1]; exact Nat.le_trans hS.1 (by rw [hsz]; omega), fun q g1 g2 => (o1 q (by rw [← hsz]; exact Nat.lt_of_lt_of_le g1 hS.1)).trans (hS.2.1 q g1 g2), hS.2.2⟩ hl
theorem j_obj (C0 : jOk x M E d mc ms) {idx a : Nat} (hd : decode M.2.1 pc = .ok (.invokespecial idx, 3)) (w1 : Cond.methodLink M.1.cls idx Lib.objectInit ∈ jTG) (w2 : Cond.instanceMethod Lib.objectInit ∈ jTG) (w3 : Cond.code Lib.objectInit ⟨#[0xb1]⟩ 1 none ∈ jTG) (hdd : 1 ≤ d) (hst : (st.map fun v => v.category).sum ≤ 8) (kk : jJ x M E Q h sz ce sl lv (pc + 3) st) : jJ x M E Q h sz ce sl lv pc (.ref a :: st) := by
  intro H locs ls hR hS hl
  exact W.objInit C0.exec C0.code C0.own (C0.ts _ w1) (C0.ts _ w2) (C0.ts _ w3) rfl (by rw [C0.maxl]; exact hl.1) rfl hd (Nat.le_trans hdd C0.room.1) (by have := C0.room.2.1; show 2 * 0 + _ + 12 ≤ _; omega) (kk H locs ls hR hS hl)
/-- what a method's end says, and its contract -/
def jQc (E : jE) (Post : Option Value → jH → Nat → Prop) : Array Value → State → Outcome → State → Prop := fun _ st0 oc t => (∃ (r : Option Value) (h1 : jH), oc = .returned r ∧ Post r h1 t.heap.size ∧ jR E h1 t.heap.size t.heap) ∧ va_F (fun q => E.2.2 ≤ q) st0 t
abbrev jQ (x : jX) (E : jE) (mc ms : Nat) (Post : Option Value → jH → Nat → Prop) : State → Prop := MQ (jxb x) (jQc E Post) (jxa x) (jxs x) mc ms (fun q => E.2.2 ≤ q)
def jC (l : Launch) (M : jM) (d : Nat) (E : jE) (vs : List Value) (h : jH) (sz mc ms : Nat) (Post : Option Value → jH → Nat → Prop) : Prop :=
  Met l M.1 (.code M.1 M.2.1 M.2.2.1 M.2.2.2 :: jTG) { frames := d, cells := mc, slots := ms, locals := 40 * d } (va_Pc vs (fun U => jR E h sz U.heap ∧ jK E U ∧ E.2.2 ≤ sz)) (jQc E Post) mc ms (fun q => E.2.2 ≤ q)
theorem jC.of {l : Launch} {vs : List Value} {Post : Option Value → jH → Nat → Prop} (hy : plainName M.1.cls = true) (hn : (lg_sl vs).length ≤ M.2.2.1) (body : ∀ x : jX, jOk x M E d mc ms → x.2.1 = l → jJ x M E (jQ x E mc ms Post) h sz 0 0 (lv_args 0 vs) 0 []) : jC l M d E vs h sz mc ms Post := by
  refine Met.ofW (cc := M.2.1) (maxL := M.2.2.1) (ret := M.2.2.2) hy rfl ?_
  intro p e s m args below meth c s₁ B hml hv
  obtain ⟨rfl, hR, hK, hB⟩ := hv
  rw [lg_entry_eq]
  have hts := atoms_spec (ws := .code M.1 M.2.1 M.2.2.1 M.2.2.2 :: jTG) B.pre
  exact body (p, l, e, { frames := d, cells := mc, slots := ms, locals := 40 * d }, s, m, vs.toArray, below, meth, c)
    ⟨B.exec, B.bytes, hml, findClass_of_methodNamed B.named, fun w hw => hts w (List.mem_cons_of_mem _ hw), hK, ⟨Nat.le_refl _, Nat.le_refl _, Nat.le_refl _, Nat.le_refl _⟩, B.returns, B.notSynchronized, by rw [← hR.1] at hB; exact hB, (name_of_methodNamed B.named B.method).1⟩ rfl
    s.heap [] _ hR va_S.rf (lv_entry vs hn)
variable {Post : Option Value → jH → Nat → Prop}
theorem j_iret (C0 : jOk x M E d mc ms) {v : Int32} (hd : decode M.2.1 pc = .ok (.ireturn, 1)) (hr : M.2.2.2 = some .int) (hc : ce ≤ mc) (hs : sl ≤ ms) (hp : Post (some (.int v)) h sz) : jJ x M E (jQ x E mc ms Post) h sz ce sl lv pc [.int v] := by
  intro H locs ls hR hS hl
  refine W.widen hc hs ?_
  exact W.iret C0.exec C0.code (C0.ret.trans hr) (fun t ht _ => ⟨⟨_, h, rfl, by rw [ht, hR.1]; exact hp, by rw [ht]; exact ⟨rfl, hR.2⟩⟩, hS.F ht⟩) hS.2.2 hd C0.locks
theorem j_zret (C0 : jOk x M E d mc ms) {v : Int32} (hd : decode M.2.1 pc = .ok (.ireturn, 1)) (hr : M.2.2.2 = some .boolean) (hn : narrow .boolean (.int v) = .int v) (hc : ce ≤ mc) (hs : sl ≤ ms) (hp : Post (some (.int v)) h sz) : jJ x M E (jQ x E mc ms Post) h sz ce sl lv pc [.int v] := by
  intro H locs ls hR hS hl
  refine W.widen hc hs ?_
  exact W.zret C0.exec C0.code (C0.ret.trans hr) hn (fun t ht _ => ⟨⟨_, h, rfl, by rw [ht, hR.1]; exact hp, by rw [ht]; exact ⟨rfl, hR.2⟩⟩, hS.F ht⟩) hS.2.2 hd C0.locks
theorem j_lret (C0 : jOk x M E d mc ms) {v : Int64} (hd : decode M.2.1 pc = .ok (.lreturn, 1)) (hr : M.2.2.2 = some .long) (hc : ce ≤ mc) (hs : sl ≤ ms) (hp : Post (some (.long v)) h sz) : jJ x M E (jQ x E mc ms Post) h sz ce sl lv pc [.long v] := by
  intro H locs ls hR hS hl
  refine W.widen hc hs ?_
  exact W.lret C0.exec C0.code (C0.ret.trans hr) (fun t ht _ => ⟨⟨_, h, rfl, by rw [ht, hR.1]; exact hp, by rw [ht]; exact ⟨rfl, hR.2⟩⟩, hS.F ht⟩) hS.2.2 hd C0.locks
theorem j_aret (C0 : jOk x M E d mc ms) {a : Nat} {C : String} (hd : decode M.2.1 pc = .ok (.areturn, 1)) (hr : M.2.2.2 = some (.object C)) (hc : ce ≤ mc) (hs : sl ≤ ms) (hp : Post (some (.ref a)) h sz) : jJ x M E (jQ x E mc ms Post) h sz ce sl lv pc [.ref a] := by
  intro H locs ls hR hS hl
  refine W.widen hc hs ?_
  exact W.aret C0.exec C0.code (C0.ret.trans hr) (Or.inl ⟨C, rfl⟩) (Or.inr ⟨a, rfl⟩) (fun t ht _ => ⟨⟨_, h, rfl, by rw [ht, hR.1]; exact hp, by rw [ht]; exact ⟨rfl, hR.2⟩⟩, hS.F ht⟩) hS.2.2 hd C0.locks
theorem j_vret (C0 : jOk x M E d mc ms) (hd : decode M.2.1 pc = .ok (.return_, 1)) (hr : M.2.2.2 = none) (hc : ce ≤ mc) (hs : sl ≤ ms) (hp : Post none h sz) : jJ x M E (jQ x E mc ms Post) h sz ce sl lv pc [] := by
  intro H locs ls hR hS hl
  refine W.widen hc hs ?_
  exact W.vret C0.exec C0.code (C0.ret.trans hr) (fun t ht _ => ⟨⟨_, h, rfl, by rw [ht, hR.1]; exact hp, by rw [ht]; exact ⟨rfl, hR.2⟩⟩, hS.F ht⟩) hS.2.2 hd C0.locks
/-- behind a call -/
theorem j_run {a : Array Value} {mc' ms' : Nat} {H : Heap} {locs : List Loc} {ls : Array Slot} {stk : List Value} (hr : va_Run x.1 x.2.1 x.2.2.1 (jxR x) (jxs x) (jxm x) (jxa x) (jxb x) (jxe x) (jxc x) H locs ce sl mc' ms' (F0 (jxm x) pc ls stk) st (jQc E Post a) (fun q => E.2.2 ≤ q)) (hS : va_S (fun q => E.2.2 ≤ q) (jxs x).heap H locs) (hl : lv_has ls M.2.2.1 lv)
    (kk : ∀ (r : Option Value) (h' : jH) (sz' : Nat), Post r h' sz' → jJ x M E Q h' sz' (ce + mc') (sl + ms') lv (pc + 3) (r.toList ++ st)) : jW x H locs ce sl Q (F0 (jxm x) pc ls stk) := by
  intro T hT X
  obtain ⟨v, st₀, t, T', L, h0, X', hL, e1, e2, ⟨⟨r, h', hv, hp, hR'⟩, hz, hk⟩, hst⟩ := hr T hT X
  cases hv
  rw [h0] at hz hk
  obtain ⟨t2, a1, b1⟩ := kk v h' t.heap.size hp T'.heap (locs ++ L) ls (by rw [e1]; exact hR') ⟨Nat.le_trans hS.1 (by rw [e1]; exact hz), fun q g1 g2 => by rw [e1, hk q (Nat.lt_of_lt_of_le g1 hS.1) g2]; exact hS.2.1 q g1 g2, fun q hq => by
      rcases List.mem_append.mp hq with h | h
      · exact hS.2.2 q h
      · exact hL q h⟩ hl T' rfl X'
  exact ⟨t2, hst t2 a1, b1⟩
theorem jBlind {E : jE} {h : jH} {sz : Nat} {vs : List Value} : FrameBlind (va_Pc vs (fun U => jR E h sz U.heap ∧ jK E U ∧ E.2.2 ≤ sz)) :=
  fun _ _ _ _ q => ⟨q.1, q.2.1, jK.same rfl q.2.2.1, q.2.2.2⟩
theorem jTG_in (own : String) (w : Cond) (hw : w ∈ jTG) : w ∈ jTG ∧ ((w.onTables && w.keeps) = true ∨ ∃ ty, w = .arrayClass ty) := ⟨hw, good_of_word (jTG_good w hw)⟩
theorem jGood {M : jM} (hc : Cond.code M.1 M.2.1 M.2.2.1 M.2.2.2 ∈ jTG) : GoodIn jTG (.code M.1 M.2.1 M.2.2.1 M.2.2.2 :: jTG) := by
  intro w hw
  rcases List.mem_cons.mp hw with e | e
  · subst e; exact jTG_in "" _ hc
  · exact jTG_in "" _ e
/-- call links -/
def jCL (own : String) (idx : Nat) (M : jM) (n : Nat) : Prop := Cond.methodLink own idx M.1 ∈ jTG ∧ Cond.initialized M.1.cls ∈ jTG ∧ Cond.code M.1 M.2.1 M.2.2.1 M.2.2.2 ∈ jTG ∧ (M.1.cls ≠ "java/lang/invoke/MethodHandle" ∧ M.1.cls ≠ "java/lang/invoke/VarHandle" ∧ (parseMethodDescriptor M.1.desc).map (fun d => d.parameters.length) = some n)
def jCN (own : String) (idx : Nat) (M : jM) (host : String) (n : Nat) : Prop := (own, idx, M.1, host) ∈ jNM ∧ Cond.initialized M.1.cls ∈ jTG ∧ Cond.code M.1 M.2.1 M.2.2.1 M.2.2.2 ∈ jTG ∧ (M.1.cls ≠ "java/lang/invoke/MethodHandle" ∧ M.1.cls ≠ "java/lang/invoke/VarHandle" ∧ (parseMethodDescriptor M.1.desc).map (fun d => d.parameters.length) = some n)
theorem j_callV (C0 : jOk x M E d mc ms) {idx n : Nat} {Mc : jM} {d' mc' ms' : Nat} {b ci N : Nat} {T : u_T} {fs As stk : List Value} (hd : decode M.2.1 pc = .ok (.invokevirtual idx, 3)) (hcl : jCL M.1.cls idx Mc n) (hv : Cond.instanceMethod Mc.1 ∈ jTG ∧ Cond.selects Mc.1.cls Mc.1 Mc.1 ∈ jTG) (ct : jC x.2.1 Mc d' E (.ref b :: As) h sz mc' ms' Post) (hobj : h b = some (.inr (ci, fs))) (hC : jCl[ci]? = some (Mc.1.cls, T, N)) (hAs : As.length = n) (hstk : stk = As.reverse ++ .ref b :: st) (hR : d' + 1 ≤ d ∧ 8 + (Mc.2.2.1 + 11) + 40 * d' ≤ 40 * d) (hf : ce + mc' ≤ mc ∧ sl + ms' ≤ ms) (hst : (st.map fun v => v.category).sum ≤ 8) (kk : ∀ (r : Option Value) (h' : jH) (sz' : Nat), Post r h' sz' → jJ x M E Q h' sz' (ce + mc') (sl + ms') lv (pc + 3) (r.toList ++ st)) : jJ x M E Q h sz ce sl lv pc stk := by
  intro H locs ls hR0 hS hl
  have hB : E.2.2 ≤ sz := by rw [← hR0.1]; exact Nat.le_trans C0.base hS.1
  obtain ⟨w1, w2, w3, hd3⟩ := hcl
  obtain ⟨r', h1, cell, g1, g2, g3, -⟩ := (hR0.2 b _ hobj).2
  refine j_run (M := M) (a := (Value.ref b :: As).toArray) (va_runV (bytes := Mc.2.1) (maxL := Mc.2.2.1) (ret := Mc.2.2.2) (C := Mc.1.cls) (n := n) ⟨C0.exec, C0.code, C0.maxl, C0.own, C0.ts⟩ ct ⟨callB_of n C0.ts (jGood w3) rfl rfl rfl (C0.ts _ w2) (C0.ts _ w1) hd3 ⟨Nat.le_trans hR.1 C0.room.1, Nat.le_trans hR.2 C0.room.2.1⟩, C0.ts _ hv.1, C0.ts _ hv.2⟩ ⟨jBlind, ⟨cell, g1, by rw [g3]; rfl, by rw [g2]; exact (C0.K.1.1 ci _ hC).2.1⟩, fun U hU hW => ⟨rfl, by rw [hU]; exact hR0, C0.K.warm hW, hB⟩⟩ rfl hAs hl.1 hstk (lv_room hst) hd ⟨Nat.le_trans hf.1 C0.room.2.2.1, Nat.le_trans hf.2 C0.room.2.2.2⟩) hS hl kk
theorem j_callS (C0 : jOk x M E d mc ms) {idx n : Nat} {Mc : jM} {d' mc' ms' : Nat} {As stk : List Value} (hd : decode M.2.1 pc = .ok (.invokestatic idx, 3)) (hcl : jCL M.1.cls idx Mc n) (hv : Cond.static Mc.1 ∈ jTG) (ct : jC x.2.1 Mc d' E As h sz mc' ms' Post) (hAs : As.length = n) (hstk : stk = As.reverse ++ st) (hR : d' + 1 ≤ d ∧ 8 + (Mc.2.2.1 + 11) + 40 * d' ≤ 40 * d) (hf : ce + mc' ≤ mc ∧ sl + ms' ≤ ms) (hst : (st.map fun v => v.category).sum ≤ 8) (kk : ∀ (r : Option Value) (h' : jH) (sz' : Nat), Post r h' sz' → jJ x M E Q h' sz' (ce + mc') (sl + ms') lv (pc + 3) (r.toList ++ st)) : jJ x M E Q h sz ce sl lv pc stk := by
  intro H locs ls hR0 hS hl
  have hB : E.2.2 ≤ sz := by rw [← hR0.1]; exact Nat.le_trans C0.base hS.1
  obtain ⟨w1, w2, w3, hd3⟩ := hcl
  refine j_run (M := M) (a := As.toArray) (va_runS (bytes := Mc.2.1) (maxL := Mc.2.2.1) (ret := Mc.2.2.2) (n := n) ⟨C0.exec, C0.code, C0.maxl, C0.own, C0.ts⟩ ct ⟨callB_of n C0.ts (jGood w3) rfl rfl rfl (C0.ts _ w2) (C0.ts _ w1) hd3 ⟨Nat.le_trans hR.1 C0.room.1, Nat.le_trans hR.2 C0.room.2.1⟩, C0.ts _ hv⟩ ⟨jBlind, fun U hU hW => ⟨rfl, by rw [hU]; exact hR0, C0.K.warm hW, hB⟩⟩ rfl hAs hl.1 hstk (lv_room hst) hd ⟨Nat.le_trans hf.1 C0.room.2.2.1, Nat.le_trans hf.2 C0.room.2.2.2⟩) hS hl kk
theorem j_callI (C0 : jOk x M E d mc ms) {idx n : Nat} {Mc : jM} {d' mc' ms' : Nat} {b : Nat} {As stk : List Value} (hd : decode M.2.1 pc = .ok (.invokespecial idx, 3)) (hcl : jCL M.1.cls idx Mc n) (hv : Cond.instanceMethod Mc.1 ∈ jTG) (hy : Mc.1.name = "<init>") (hret : Mc.2.2.2 = none) (ct : jC x.2.1 Mc d' E (.ref b :: As) h sz mc' ms' Post) (hAs : As.length = n) (hstk : stk = As.reverse ++ .ref b :: st) (hR : d' + 1 ≤ d ∧ 8 + (Mc.2.2.1 + 11) + 40 * d' ≤ 40 * d) (hf : ce + mc' ≤ mc ∧ sl + ms' ≤ ms) (hst : (st.map fun v => v.category).sum ≤ 8) (kk : ∀ (r : Option Value) (h' : jH) (sz' : Nat), Post r h' sz' → jJ x M E Q h' sz' (ce + mc') (sl + ms') lv (pc + 3) (r.toList ++ st)) : jJ x M E Q h sz ce sl lv pc stk := by
  intro H locs ls hR0 hS hl
  have hB : E.2.2 ≤ sz := by rw [← hR0.1]; exact Nat.le_trans C0.base hS.1
  obtain ⟨w1, w2, w3, hd3⟩ := hcl
  have cb := callB_of (own := M.1.cls) (index := idx) (R := jxR x) (mc := mc') (ms := ms') (rm := { frames := d', cells := mc', slots := ms', locals := 40 * d' }) n C0.ts (jGood w3) rfl rfl rfl (C0.ts _ w2) (C0.ts _ w1) hd3 ⟨Nat.le_trans hR.1 C0.room.1, Nat.le_trans hR.2 C0.room.2.1⟩
  have ct' := ct
  unfold jC at ct'
  rw [hret] at cb ct'
  refine j_run (M := M) (a := (Value.ref b :: As).toArray) (va_runI (bytes := Mc.2.1) (maxL := Mc.2.2.1) (n := n) ⟨C0.exec, C0.code, C0.maxl, C0.own, C0.ts⟩ ct' ⟨cb, hy, C0.ts _ hv⟩ ⟨jBlind, fun U hU hW => ⟨rfl, by rw [hU]; exact hR0, C0.K.warm hW, hB⟩⟩ rfl hAs hl.1 hstk (lv_room hst) hd ⟨Nat.le_trans hf.1 C0.room.2.2.1, Nat.le_trans hf.2 C0.room.2.2.2⟩) hS hl kk
theorem j_callIN (C0 : jOk x M E d mc ms) {idx n : Nat} {Mc : jM} {d' mc' ms' : Nat} {b : Nat} {host : String} {As stk : List Value} (hd : decode M.2.1 pc = .ok (.invokespecial idx, 3)) (hcl : jCN M.1.cls idx Mc host n) (hv : Cond.instanceMethod Mc.1 ∈ jTG) (hy : Mc.1.name = "<init>") (hret : Mc.2.2.2 = none) (ct : jC x.2.1 Mc d' E (.ref b :: As) h sz mc' ms' Post) (hAs : As.length = n) (hstk : stk = As.reverse ++ .ref b :: st) (hR : d' + 1 ≤ d ∧ 8 + (Mc.2.2.1 + 11) + 40 * d' ≤ 40 * d) (hf : ce + mc' ≤ mc ∧ sl + ms' ≤ ms) (hst : (st.map fun v => v.category).sum ≤ 8) (kk : ∀ (r : Option Value) (h' : jH) (sz' : Nat), Post r h' sz' → jJ x M E Q h' sz' (ce + mc') (sl + ms') lv (pc + 3) (r.toList ++ st)) : jJ x M E Q h sz ce sl lv pc stk := by
  intro H locs ls hR0 hS hl
  have hB : E.2.2 ≤ sz := by rw [← hR0.1]; exact Nat.le_trans C0.base hS.1
  obtain ⟨w1, w2, w3, hd3⟩ := hcl
  have cb := va_cnB (own := M.1.cls) (host := host) (index := idx) (R := jxR x) (mc := mc') (ms := ms') (rm := { frames := d', cells := mc', slots := ms', locals := 40 * d' }) n C0.ts (jGood w3) rfl rfl rfl (C0.K.2.1 _ w1) (C0.ts _ w2) hd3 ⟨Nat.le_trans hR.1 C0.room.1, Nat.le_trans hR.2 C0.room.2.1⟩
  have ct' := ct
  unfold jC at ct'
  rw [hret] at cb ct'
  refine j_run (M := M) (a := (Value.ref b :: As).toArray) (va_runIN (bytes := Mc.2.1) (maxL := Mc.2.2.1) (n := n) ⟨C0.exec, C0.code, C0.maxl, C0.own, C0.ts⟩ ct' ⟨cb, hy, C0.ts _ hv⟩ ⟨jBlind, fun U hU hW => ⟨rfl, by rw [hU]; exact hR0, C0.K.warm hW, hB⟩⟩ rfl hAs hl.1 hstk (lv_room hst) hd ⟨Nat.le_trans hf.1 C0.room.2.2.1, Nat.le_trans hf.2 C0.room.2.2.2⟩) hS hl kk
theorem j_callSN (C0 : jOk x M E d mc ms) {idx n : Nat} {Mc : jM} {d' mc' ms' : Nat} {host : String} {As stk : List Value} (hd : decode M.2.1 pc = .ok (.invokestatic idx, 3)) (hcl : jCN M.1.cls idx Mc host n) (hv : Cond.static Mc.1 ∈ jTG) (ct : jC x.2.1 Mc d' E As h sz mc' ms' Post) (hAs : As.length = n) (hstk : stk = As.reverse ++ st) (hR : d' + 1 ≤ d ∧ 8 + (Mc.2.2.1 + 11) + 40 * d' ≤ 40 * d) (hf : ce + mc' ≤ mc ∧ sl + ms' ≤ ms) (hst : (st.map fun v => v.category).sum ≤ 8) (kk : ∀ (r : Option Value) (h' : jH) (sz' : Nat), Post r h' sz' → jJ x M E Q h' sz' (ce + mc') (sl + ms') lv (pc + 3) (r.toList ++ st)) : jJ x M E Q h sz ce sl lv pc stk := by
  intro H locs ls hR0 hS hl
  have hB : E.2.2 ≤ sz := by rw [← hR0.1]; exact Nat.le_trans C0.base hS.1
  obtain ⟨w1, w2, w3, hd3⟩ := hcl
  refine j_run (M := M) (a := As.toArray) (va_runSN (bytes := Mc.2.1) (maxL := Mc.2.2.1) (ret := Mc.2.2.2) (n := n) ⟨C0.exec, C0.code, C0.maxl, C0.own, C0.ts⟩ ct ⟨va_cnB n C0.ts (jGood w3) rfl rfl rfl (C0.K.2.1 _ w1) (C0.ts _ w2) hd3 ⟨Nat.le_trans hR.1 C0.room.1, Nat.le_trans hR.2 C0.room.2.1⟩, C0.ts _ hv, trivial⟩ ⟨jBlind, fun U hU hW => ⟨rfl, by rw [hU]; exact hR0, C0.K.warm hW, hB⟩⟩ rfl hAs hl.1 hstk (lv_room hst) hd ⟨Nat.le_trans hf.1 C0.room.2.2.1, Nat.le_trans hf.2 C0.room.2.2.2⟩) hS hl kk
theorem j_mmin (C0 : jOk x M E d mc ms) {idx : Nat} {v w : Int32} (hd : decode M.2.1 pc = .ok (.invokestatic idx, 3)) (w1 : Cond.methodLink M.1.cls idx Lib.Math.min.name ∈ jTG) (w2 : Cond.static Lib.Math.min.name ∈ jTG) (w3 : Cond.initialized "java/lang/Math" ∈ jTG) (w4 : Cond.code Lib.Math.min.name Lib.Math.min.code 2 (some .int) ∈ jTG) (hdd : 1 ≤ d) (hst : (st.map fun v => v.category).sum ≤ 8) (hc : ce ≤ mc) (hs : sl ≤ ms) (kk : jJ x M E Q h sz ce sl lv (pc + 3) (.int (if w < v then w else v) :: st)) : jJ x M E Q h sz ce sl lv pc (.int w :: .int v :: st) :=
  fun H locs ls hR hS hl => va_mmin C0.exec C0.code (C0.maxl.trans hl.1.symm) C0.own (C0.ts _ w1) (C0.ts _ w2) (C0.ts _ w3) (C0.ts _ w4) (Nat.le_trans hdd C0.room.1) (by have := C0.room.2.1; omega) (Nat.le_trans hc C0.room.2.2.1) (Nat.le_trans hs C0.room.2.2.2) hd (kk H locs ls hR hS hl)
theorem j_mmax (C0 : jOk x M E d mc ms) {idx : Nat} {v w : Int32} (hd : decode M.2.1 pc = .ok (.invokestatic idx, 3)) (w1 : Cond.methodLink M.1.cls idx Lib.Math.max.name ∈ jTG) (w2 : Cond.static Lib.Math.max.name ∈ jTG) (w3 : Cond.initialized "java/lang/Math" ∈ jTG) (w4 : Cond.code Lib.Math.max.name Lib.Math.max.code 2 (some .int) ∈ jTG) (hdd : 1 ≤ d) (hst : (st.map fun v => v.category).sum ≤ 8) (hc : ce ≤ mc) (hs : sl ≤ ms) (kk : jJ x M E Q h sz ce sl lv (pc + 3) (.int (if v < w then w else v) :: st)) : jJ x M E Q h sz ce sl lv pc (.int w :: .int v :: st) :=
  fun H locs ls hR hS hl => va_mmax C0.exec C0.code (C0.maxl.trans hl.1.symm) C0.own (C0.ts _ w1) (C0.ts _ w2) (C0.ts _ w3) (C0.ts _ w4) (Nat.le_trans hdd C0.room.1) (by have := C0.room.2.1; omega) (Nat.le_trans hc C0.room.2.2.1) (Nat.le_trans hs C0.room.2.2.2) hd (kk H locs ls hR hS hl)
theorem jC.weaken {l : Launch} {vs : List Value} {Post' : Option Value → jH → Nat → Prop} (ct : jC l M d E vs h sz mc ms Post) (hp : ∀ r h' sz', Post r h' sz' → Post' r h' sz') : jC l M d E vs h sz mc ms Post' := by
  unfold jC Met at ct ⊢
  intro p e ha hc hk s m args below hf happ hP hK
  obtain ⟨k, o, h1, h2, h3, ⟨⟨r, h', e1, e2, e3⟩, hF⟩, L, hL⟩ := ct p e ha hc hk s m args below hf happ hP hK
  exact ⟨k, o, h1, h2, h3, ⟨⟨r, h', e1, hp _ _ _ e2, e3⟩, hF⟩, L, hL⟩
end JRules
end
section
/-! links -/
theorem iw_Al : ∀ w ∈ u_ws "MailAgent$Aliases" T_Al 1, w ∈ jTG := by
  intro w hw
  obtain ⟨k, hk, rfl⟩ := List.mem_map.mp hw
  have hk := List.mem_range.mp hk
  match k, hk with
  | 0, _ => exact w_1_36
  | k + 1, h => exact absurd h (by omega)
theorem iw_De : ∀ w ∈ u_ws "MailAgent$Deliveries" T_De 4, w ∈ jTG := by
  intro w hw
  obtain ⟨k, hk, rfl⟩ := List.mem_map.mp hw
  have hk := List.mem_range.mp hk
  match k, hk with
  | 0, _ => exact w_1_175
  | 1, _ => exact w_1_177
  | 2, _ => exact w_1_179
  | 3, _ => exact w_1_181
  | k + 4, h => exact absurd h (by omega)
theorem iw_Me : ∀ w ∈ u_ws "MailAgent$Message" T_Me 8, w ∈ jTG := by
  intro w hw
  obtain ⟨k, hk, rfl⟩ := List.mem_map.mp hw
  have hk := List.mem_range.mp hk
  match k, hk with
  | 0, _ => exact w_1_135
  | 1, _ => exact w_1_137
  | 2, _ => exact w_1_139
  | 3, _ => exact w_1_141
  | 4, _ => exact w_1_143
  | 5, _ => exact w_1_145
  | 6, _ => exact w_1_147
  | 7, _ => exact w_1_149
  | k + 8, h => exact absurd h (by omega)
theorem iw_Qu : ∀ w ∈ u_ws "MailAgent$Queue" T_Qu 2, w ∈ jTG := by
  intro w hw
  obtain ⟨k, hk, rfl⟩ := List.mem_map.mp hw
  have hk := List.mem_range.mp hk
  match k, hk with
  | 0, _ => exact w_1_156
  | 1, _ => exact w_1_158
  | k + 2, h => exact absurd h (by omega)
theorem iw_Re : ∀ w ∈ u_ws "MailAgent$Recipients" T_Re 3, w ∈ jTG := by
  intro w hw
  obtain ⟨k, hk, rfl⟩ := List.mem_map.mp hw
  have hk := List.mem_range.mp hk
  match k, hk with
  | 0, _ => exact w_1_81
  | 1, _ => exact w_1_83
  | 2, _ => exact w_1_85
  | k + 3, h => exact absurd h (by omega)
theorem iw_Ro : ∀ w ∈ u_ws "MailAgent$Routes" T_Ro 3, w ∈ jTG := by
  intro w hw
  obtain ⟨k, hk, rfl⟩ := List.mem_map.mp hw
  have hk := List.mem_range.mp hk
  match k, hk with
  | 0, _ => exact w_1_52
  | 1, _ => exact w_1_54
  | 2, _ => exact w_1_56
  | k + 3, h => exact absurd h (by omega)
theorem iw_Tr : ∀ w ∈ u_ws "MailAgent$Transaction" T_Tr 3, w ∈ jTG := by
  intro w hw
  obtain ⟨k, hk, rfl⟩ := List.mem_map.mp hw
  have hk := List.mem_range.mp hk
  match k, hk with
  | 0, _ => exact w_1_95
  | 1, _ => exact w_1_97
  | 2, _ => exact w_1_99
  | k + 3, h => exact absurd h (by omega)
theorem iw_Ma : ∀ w ∈ u_ws "MailAgent" T_Ma 13, w ∈ jTG := by
  intro w hw
  obtain ⟨k, hk, rfl⟩ := List.mem_map.mp hw
  have hk := List.mem_range.mp hk
  match k, hk with
  | 0, _ => exact w_1_197
  | 1, _ => exact w_1_199
  | 2, _ => exact w_1_201
  | 3, _ => exact w_1_203
  | 4, _ => exact w_1_205
  | 5, _ => exact w_1_207
  | 6, _ => exact w_1_209
  | 7, _ => exact w_1_211
  | 8, _ => exact w_1_213
  | 9, _ => exact w_1_215
  | 10, _ => exact w_1_217
  | 11, _ => exact w_1_219
  | 12, _ => exact w_1_221
  | k + 13, h => exact absurd h (by omega)
theorem iw_Mo : ∀ w ∈ u_ws "MailAgentModel" T_Mo 24, w ∈ jTG := by
  intro w hw
  obtain ⟨k, hk, rfl⟩ := List.mem_map.mp hw
  have hk := List.mem_range.mp hk
  match k, hk with
  | 0, _ => exact w_3_15
  | 1, _ => exact w_3_17
  | 2, _ => exact w_3_19
  | 3, _ => exact w_3_21
  | 4, _ => exact w_3_23
  | 5, _ => exact w_3_25
  | 6, _ => exact w_3_27
  | 7, _ => exact w_3_29
  | 8, _ => exact w_3_31
  | 9, _ => exact w_3_33
  | 10, _ => exact w_3_35
  | 11, _ => exact w_3_37
  | 12, _ => exact w_3_39
  | 13, _ => exact w_3_41
  | 14, _ => exact w_3_43
  | 15, _ => exact w_3_45
  | 16, _ => exact w_3_47
  | 17, _ => exact w_3_49
  | 18, _ => exact w_3_51
  | 19, _ => exact w_3_53
  | 20, _ => exact w_3_55
  | 21, _ => exact w_3_57
  | 22, _ => exact w_3_59
  | 23, _ => exact w_3_61
  | k + 24, h => exact absurd h (by omega)
theorem nw_La_7 : jNW "MailAgentLaw" 7 7 13 [.int 0, .int 0, .int 0, .null, .null, .null, .null, .null, .null, .null, .int 0, .int 0, .int 0] := ⟨_, _, ty_Ma, rfl, iw_Ma, tyok_Ma, w_1_12, w_1_13, w_1_1, by
  intro j hj
  match j, hj with
  | 0, _ => rfl
  | 1, _ => rfl
  | 2, _ => rfl
  | 3, _ => rfl
  | 4, _ => rfl
  | 5, _ => rfl
  | 6, _ => rfl
  | 7, _ => rfl
  | 8, _ => rfl
  | 9, _ => rfl
  | 10, _ => rfl
  | 11, _ => rfl
  | 12, _ => rfl
  | j + 13, h => exact absurd h (by omega)⟩
theorem nw_Ma_23 : jNW "MailAgent" 23 0 1 [.null] := ⟨_, _, ty_Al, rfl, iw_Al, tyok_Al, w_1_29, w_1_30, w_1_3, by
  intro j hj
  match j, hj with
  | 0, _ => rfl
  | j + 1, h => exact absurd h (by omega)⟩
theorem fl_Al_9 : jFL "MailAgent$Aliases" 9 0 0 := ⟨_, _, _, rfl, by decide, iw_Al, w_1_35⟩
theorem fp_Al_9 : jFP "MailAgent$Aliases" 9 0 0 (.array .long) true := ⟨_, _, _, ty_Al, rfl, by decide, iw_Al, w_1_35, rfl, by decide +kernel, tyok_Al, nm_Al, fun _ => rfl⟩
theorem nw_Ma_30 : jNW "MailAgent" 30 5 3 [.null, .null, .int 0] := ⟨_, _, ty_Ro, rfl, iw_Ro, tyok_Ro, w_1_40, w_1_42, w_1_4, by
  intro j hj
  match j, hj with
  | 0, _ => rfl
  | 1, _ => rfl
  | 2, _ => rfl
  | j + 3, h => exact absurd h (by omega)⟩
theorem fl_Ro_9 : jFL "MailAgent$Routes" 9 5 0 := ⟨_, _, _, rfl, by decide, iw_Ro, w_1_47⟩
theorem fp_Ro_9 : jFP "MailAgent$Routes" 9 5 0 (.array .int) true := ⟨_, _, _, ty_Ro, rfl, by decide, iw_Ro, w_1_47, rfl, by decide +kernel, tyok_Ro, nm_Ro, fun _ => rfl⟩
theorem fl_Ma_240 : jFL "MailAgent" 240 5 0 := ⟨_, _, _, rfl, by decide, iw_Ro, w_1_48⟩
theorem fl_Ro_15 : jFL "MailAgent$Routes" 15 5 1 := ⟨_, _, _, rfl, by decide, iw_Ro, w_1_49⟩
theorem fp_Ro_15 : jFP "MailAgent$Routes" 15 5 1 (.array .int) true := ⟨_, _, _, ty_Ro, rfl, by decide, iw_Ro, w_1_49, rfl, by decide +kernel, tyok_Ro, nm_Ro, fun _ => rfl⟩
theorem fl_Ro_18 : jFL "MailAgent$Routes" 18 5 2 := ⟨_, _, _, rfl, by decide, iw_Ro, w_1_50⟩
theorem fp_Ro_18 : jFP "MailAgent$Routes" 18 5 2 (.int) false := ⟨_, _, _, ty_Ro, rfl, by decide, iw_Ro, w_1_50, rfl, by decide +kernel, tyok_Ro, nm_Ro, fun h => by cases h⟩
theorem fl_Ma_239 : jFL "MailAgent" 239 5 2 := ⟨_, _, _, rfl, by decide, iw_Ro, w_1_51⟩
theorem fp_Ma_239 : jFP "MailAgent" 239 5 2 (.int) false := ⟨_, _, _, ty_Ro, rfl, by decide, iw_Ro, w_1_51, rfl, by decide +kernel, tyok_Ro, nm_Ro, fun h => by cases h⟩
theorem nw_Ma_41 : jNW "MailAgent" 41 6 3 [.null, .int 0, .int 0] := ⟨_, _, ty_Tr, rfl, iw_Tr, tyok_Tr, w_1_60, w_1_61, w_1_5, by
  intro j hj
  match j, hj with
  | 0, _ => rfl
  | 1, _ => rfl
  | 2, _ => rfl
  | j + 3, h => exact absurd h (by omega)⟩
theorem nw_Tr_9 : jNW "MailAgent$Transaction" 9 4 3 [.null, .null, .int 0] := ⟨_, _, ty_Re, rfl, iw_Re, tyok_Re, w_1_66, w_1_67, w_1_6, by
  intro j hj
  match j, hj with
  | 0, _ => rfl
  | 1, _ => rfl
  | 2, _ => rfl
  | j + 3, h => exact absurd h (by omega)⟩
theorem fl_Re_9 : jFL "MailAgent$Recipients" 9 4 0 := ⟨_, _, _, rfl, by decide, iw_Re, w_1_72⟩
theorem fp_Re_9 : jFP "MailAgent$Recipients" 9 4 0 (.array .int) true := ⟨_, _, _, ty_Re, rfl, by decide, iw_Re, w_1_72, rfl, by decide +kernel, tyok_Re, nm_Re, fun _ => rfl⟩
theorem fl_Ma_229 : jFL "MailAgent" 229 4 0 := ⟨_, _, _, rfl, by decide, iw_Re, w_1_73⟩
theorem fl_Re_15 : jFL "MailAgent$Recipients" 15 4 1 := ⟨_, _, _, rfl, by decide, iw_Re, w_1_74⟩
theorem fp_Re_15 : jFP "MailAgent$Recipients" 15 4 1 (.array .int) true := ⟨_, _, _, ty_Re, rfl, by decide, iw_Re, w_1_74, rfl, by decide +kernel, tyok_Re, nm_Re, fun _ => rfl⟩
theorem fl_Ma_226 : jFL "MailAgent" 226 4 1 := ⟨_, _, _, rfl, by decide, iw_Re, w_1_75⟩
theorem fl_Re_18 : jFL "MailAgent$Recipients" 18 4 2 := ⟨_, _, _, rfl, by decide, iw_Re, w_1_76⟩
theorem fp_Re_18 : jFP "MailAgent$Recipients" 18 4 2 (.int) false := ⟨_, _, _, ty_Re, rfl, by decide, iw_Re, w_1_76, rfl, by decide +kernel, tyok_Re, nm_Re, fun h => by cases h⟩
theorem fl_Tr_26 : jFL "MailAgent$Transaction" 26 4 2 := ⟨_, _, _, rfl, by decide, iw_Re, w_1_77⟩
theorem fp_Tr_26 : jFP "MailAgent$Transaction" 26 4 2 (.int) false := ⟨_, _, _, ty_Re, rfl, by decide, iw_Re, w_1_77, rfl, by decide +kernel, tyok_Re, nm_Re, fun h => by cases h⟩
theorem fl_Me_55 : jFL "MailAgent$Message" 55 4 2 := ⟨_, _, _, rfl, by decide, iw_Re, w_1_78⟩
theorem fp_Me_55 : jFP "MailAgent$Message" 55 4 2 (.int) false := ⟨_, _, _, ty_Re, rfl, by decide, iw_Re, w_1_78, rfl, by decide +kernel, tyok_Re, nm_Re, fun h => by cases h⟩
theorem fl_Qu_30 : jFL "MailAgent$Queue" 30 4 2 := ⟨_, _, _, rfl, by decide, iw_Re, w_1_79⟩
theorem fp_Qu_30 : jFP "MailAgent$Queue" 30 4 2 (.int) false := ⟨_, _, _, ty_Re, rfl, by decide, iw_Re, w_1_79, rfl, by decide +kernel, tyok_Re, nm_Re, fun h => by cases h⟩
theorem fl_Ma_129 : jFL "MailAgent" 129 4 2 := ⟨_, _, _, rfl, by decide, iw_Re, w_1_80⟩
theorem fp_Ma_129 : jFP "MailAgent" 129 4 2 (.int) false := ⟨_, _, _, ty_Re, rfl, by decide, iw_Re, w_1_80, rfl, by decide +kernel, tyok_Re, nm_Re, fun h => by cases h⟩
theorem fl_Tr_12 : jFL "MailAgent$Transaction" 12 6 0 := ⟨_, _, _, rfl, by decide, iw_Tr, w_1_88⟩
theorem fp_Tr_12 : jFP "MailAgent$Transaction" 12 6 0 (.object "MailAgent$Recipients") true := ⟨_, _, _, ty_Tr, rfl, by decide, iw_Tr, w_1_88, rfl, by decide +kernel, tyok_Tr, nm_Tr, fun _ => rfl⟩
theorem fl_Me_35 : jFL "MailAgent$Message" 35 6 0 := ⟨_, _, _, rfl, by decide, iw_Tr, w_1_89⟩
theorem fl_Ma_111 : jFL "MailAgent" 111 6 0 := ⟨_, _, _, rfl, by decide, iw_Tr, w_1_90⟩
theorem fl_Tr_18 : jFL "MailAgent$Transaction" 18 6 1 := ⟨_, _, _, rfl, by decide, iw_Tr, w_1_91⟩
theorem fp_Tr_18 : jFP "MailAgent$Transaction" 18 6 1 (.boolean) false := ⟨_, _, _, ty_Tr, rfl, by decide, iw_Tr, w_1_91, rfl, by decide +kernel, tyok_Tr, nm_Tr, fun h => by cases h⟩
theorem fl_Ma_103 : jFL "MailAgent" 103 6 1 := ⟨_, _, _, rfl, by decide, iw_Tr, w_1_92⟩
theorem fp_Ma_103 : jFP "MailAgent" 103 6 1 (.boolean) false := ⟨_, _, _, ty_Tr, rfl, by decide, iw_Tr, w_1_92, rfl, by decide +kernel, tyok_Tr, nm_Tr, fun h => by cases h⟩
theorem fl_Tr_22 : jFL "MailAgent$Transaction" 22 6 2 := ⟨_, _, _, rfl, by decide, iw_Tr, w_1_93⟩
theorem fp_Tr_22 : jFP "MailAgent$Transaction" 22 6 2 (.int) false := ⟨_, _, _, ty_Tr, rfl, by decide, iw_Tr, w_1_93, rfl, by decide +kernel, tyok_Tr, nm_Tr, fun h => by cases h⟩
theorem fl_Me_22 : jFL "MailAgent$Message" 22 6 2 := ⟨_, _, _, rfl, by decide, iw_Tr, w_1_94⟩
theorem fp_Me_22 : jFP "MailAgent$Message" 22 6 2 (.int) false := ⟨_, _, _, ty_Tr, rfl, by decide, iw_Tr, w_1_94, rfl, by decide +kernel, tyok_Tr, nm_Tr, fun h => by cases h⟩
theorem nw_Ma_48 : jNW "MailAgent" 48 3 2 [.null, .int 0] := ⟨_, _, ty_Qu, rfl, iw_Qu, tyok_Qu, w_1_102, w_1_103, w_1_7, by
  intro j hj
  match j, hj with
  | 0, _ => rfl
  | 1, _ => rfl
  | j + 2, h => exact absurd h (by omega)⟩
theorem nw_Qu_9 : jNW "MailAgent$Queue" 9 2 8 [.null, .int 0, .int 0, .int 0, .int 0, .int 0, .int 0, .int 0] := ⟨_, _, ty_Me, rfl, iw_Me, tyok_Me, w_1_108, w_1_110, w_1_8, by
  intro j hj
  match j, hj with
  | 0, _ => rfl
  | 1, _ => rfl
  | 2, _ => rfl
  | 3, _ => rfl
  | 4, _ => rfl
  | 5, _ => rfl
  | 6, _ => rfl
  | 7, _ => rfl
  | j + 8, h => exact absurd h (by omega)⟩
theorem nw_Me_9 : jNW "MailAgent$Message" 9 4 3 [.null, .null, .int 0] := ⟨_, _, ty_Re, rfl, iw_Re, tyok_Re, w_1_115, w_1_67, w_1_6, by
  intro j hj
  match j, hj with
  | 0, _ => rfl
  | 1, _ => rfl
  | 2, _ => rfl
  | j + 3, h => exact absurd h (by omega)⟩
theorem fl_Me_12 : jFL "MailAgent$Message" 12 2 0 := ⟨_, _, _, rfl, by decide, iw_Me, w_1_117⟩
theorem fp_Me_12 : jFP "MailAgent$Message" 12 2 0 (.object "MailAgent$Recipients") true := ⟨_, _, _, ty_Me, rfl, by decide, iw_Me, w_1_117, rfl, by decide +kernel, tyok_Me, nm_Me, fun _ => rfl⟩
theorem fl_Qu_26 : jFL "MailAgent$Queue" 26 2 0 := ⟨_, _, _, rfl, by decide, iw_Me, w_1_118⟩
theorem fl_Ma_199 : jFL "MailAgent" 199 2 0 := ⟨_, _, _, rfl, by decide, iw_Me, w_1_119⟩
theorem fl_Me_18 : jFL "MailAgent$Message" 18 2 1 := ⟨_, _, _, rfl, by decide, iw_Me, w_1_120⟩
theorem fp_Me_18 : jFP "MailAgent$Message" 18 2 1 (.int) false := ⟨_, _, _, ty_Me, rfl, by decide, iw_Me, w_1_120, rfl, by decide +kernel, tyok_Me, nm_Me, fun h => by cases h⟩
theorem fl_De_30 : jFL "MailAgent$Deliveries" 30 2 1 := ⟨_, _, _, rfl, by decide, iw_Me, w_1_121⟩
theorem fp_De_30 : jFP "MailAgent$Deliveries" 30 2 1 (.int) false := ⟨_, _, _, ty_Me, rfl, by decide, iw_Me, w_1_121, rfl, by decide +kernel, tyok_Me, nm_Me, fun h => by cases h⟩
theorem fl_Qu_22 : jFL "MailAgent$Queue" 22 2 1 := ⟨_, _, _, rfl, by decide, iw_Me, w_1_122⟩
theorem fp_Qu_22 : jFP "MailAgent$Queue" 22 2 1 (.int) false := ⟨_, _, _, ty_Me, rfl, by decide, iw_Me, w_1_122, rfl, by decide +kernel, tyok_Me, nm_Me, fun h => by cases h⟩
theorem fl_Ma_196 : jFL "MailAgent" 196 2 1 := ⟨_, _, _, rfl, by decide, iw_Me, w_1_123⟩
theorem fp_Ma_196 : jFP "MailAgent" 196 2 1 (.int) false := ⟨_, _, _, ty_Me, rfl, by decide, iw_Me, w_1_123, rfl, by decide +kernel, tyok_Me, nm_Me, fun h => by cases h⟩
theorem fl_Me_27 : jFL "MailAgent$Message" 27 2 2 := ⟨_, _, _, rfl, by decide, iw_Me, w_1_124⟩
theorem fp_Me_27 : jFP "MailAgent$Message" 27 2 2 (.int) false := ⟨_, _, _, ty_Me, rfl, by decide, iw_Me, w_1_124, rfl, by decide +kernel, tyok_Me, nm_Me, fun h => by cases h⟩
theorem fl_Ma_203 : jFL "MailAgent" 203 2 2 := ⟨_, _, _, rfl, by decide, iw_Me, w_1_125⟩
theorem fp_Ma_203 : jFP "MailAgent" 203 2 2 (.int) false := ⟨_, _, _, ty_Me, rfl, by decide, iw_Me, w_1_125, rfl, by decide +kernel, tyok_Me, nm_Me, fun h => by cases h⟩
theorem fl_Me_28 : jFL "MailAgent$Message" 28 2 3 := ⟨_, _, _, rfl, by decide, iw_Me, w_1_126⟩
theorem fp_Me_28 : jFP "MailAgent$Message" 28 2 3 (.int) false := ⟨_, _, _, ty_Me, rfl, by decide, iw_Me, w_1_126, rfl, by decide +kernel, tyok_Me, nm_Me, fun h => by cases h⟩
theorem fl_Qu_25 : jFL "MailAgent$Queue" 25 2 3 := ⟨_, _, _, rfl, by decide, iw_Me, w_1_127⟩
theorem fp_Qu_25 : jFP "MailAgent$Queue" 25 2 3 (.int) false := ⟨_, _, _, ty_Me, rfl, by decide, iw_Me, w_1_127, rfl, by decide +kernel, tyok_Me, nm_Me, fun h => by cases h⟩
theorem fl_Me_40 : jFL "MailAgent$Message" 40 2 4 := ⟨_, _, _, rfl, by decide, iw_Me, w_1_128⟩
theorem fp_Me_40 : jFP "MailAgent$Message" 40 2 4 (.int) false := ⟨_, _, _, ty_Me, rfl, by decide, iw_Me, w_1_128, rfl, by decide +kernel, tyok_Me, nm_Me, fun h => by cases h⟩
theorem fl_Ma_243 : jFL "MailAgent" 243 2 4 := ⟨_, _, _, rfl, by decide, iw_Me, w_1_129⟩
theorem fp_Ma_243 : jFP "MailAgent" 243 2 4 (.int) false := ⟨_, _, _, ty_Me, rfl, by decide, iw_Me, w_1_129, rfl, by decide +kernel, tyok_Me, nm_Me, fun h => by cases h⟩
theorem fl_Me_43 : jFL "MailAgent$Message" 43 2 5 := ⟨_, _, _, rfl, by decide, iw_Me, w_1_130⟩
theorem fp_Me_43 : jFP "MailAgent$Message" 43 2 5 (.int) false := ⟨_, _, _, ty_Me, rfl, by decide, iw_Me, w_1_130, rfl, by decide +kernel, tyok_Me, nm_Me, fun h => by cases h⟩
theorem fl_Ma_165 : jFL "MailAgent" 165 2 5 := ⟨_, _, _, rfl, by decide, iw_Me, w_1_131⟩
theorem fp_Ma_165 : jFP "MailAgent" 165 2 5 (.int) false := ⟨_, _, _, ty_Me, rfl, by decide, iw_Me, w_1_131, rfl, by decide +kernel, tyok_Me, nm_Me, fun h => by cases h⟩
theorem fl_Me_46 : jFL "MailAgent$Message" 46 2 6 := ⟨_, _, _, rfl, by decide, iw_Me, w_1_132⟩
theorem fp_Me_46 : jFP "MailAgent$Message" 46 2 6 (.int) false := ⟨_, _, _, ty_Me, rfl, by decide, iw_Me, w_1_132, rfl, by decide +kernel, tyok_Me, nm_Me, fun h => by cases h⟩
theorem fl_De_24 : jFL "MailAgent$Deliveries" 24 2 7 := ⟨_, _, _, rfl, by decide, iw_Me, w_1_133⟩
theorem fp_De_24 : jFP "MailAgent$Deliveries" 24 2 7 (.boolean) false := ⟨_, _, _, ty_Me, rfl, by decide, iw_Me, w_1_133, rfl, by decide +kernel, tyok_Me, nm_Me, fun h => by cases h⟩
theorem fl_Me_31 : jFL "MailAgent$Message" 31 2 7 := ⟨_, _, _, rfl, by decide, iw_Me, w_1_134⟩
theorem fp_Me_31 : jFP "MailAgent$Message" 31 2 7 (.boolean) false := ⟨_, _, _, ty_Me, rfl, by decide, iw_Me, w_1_134, rfl, by decide +kernel, tyok_Me, nm_Me, fun h => by cases h⟩
theorem fl_Qu_11 : jFL "MailAgent$Queue" 11 3 0 := ⟨_, _, _, rfl, by decide, iw_Qu, w_1_152⟩
theorem fp_Qu_11 : jFP "MailAgent$Queue" 11 3 0 (.array (.object "MailAgent$Message")) true := ⟨_, _, _, ty_Qu, rfl, by decide, iw_Qu, w_1_152, rfl, by decide +kernel, tyok_Qu, nm_Qu, fun _ => rfl⟩
theorem fl_Ma_161 : jFL "MailAgent" 161 3 0 := ⟨_, _, _, rfl, by decide, iw_Qu, w_1_153⟩
theorem fl_Qu_17 : jFL "MailAgent$Queue" 17 3 1 := ⟨_, _, _, rfl, by decide, iw_Qu, w_1_154⟩
theorem fp_Qu_17 : jFP "MailAgent$Queue" 17 3 1 (.int) false := ⟨_, _, _, ty_Qu, rfl, by decide, iw_Qu, w_1_154, rfl, by decide +kernel, tyok_Qu, nm_Qu, fun h => by cases h⟩
theorem fl_Ma_139 : jFL "MailAgent" 139 3 1 := ⟨_, _, _, rfl, by decide, iw_Qu, w_1_155⟩
theorem fp_Ma_139 : jFP "MailAgent" 139 3 1 (.int) false := ⟨_, _, _, ty_Qu, rfl, by decide, iw_Qu, w_1_155, rfl, by decide +kernel, tyok_Qu, nm_Qu, fun h => by cases h⟩
theorem nw_Ma_58 : jNW "MailAgent" 58 1 4 [.null, .null, .null, .null] := ⟨_, _, ty_De, rfl, iw_De, tyok_De, w_1_161, w_1_162, w_1_9, by
  intro j hj
  match j, hj with
  | 0, _ => rfl
  | 1, _ => rfl
  | 2, _ => rfl
  | 3, _ => rfl
  | j + 4, h => exact absurd h (by omega)⟩
theorem fl_De_9 : jFL "MailAgent$Deliveries" 9 1 0 := ⟨_, _, _, rfl, by decide, iw_De, w_1_167⟩
theorem fp_De_9 : jFP "MailAgent$Deliveries" 9 1 0 (.array .int) true := ⟨_, _, _, ty_De, rfl, by decide, iw_De, w_1_167, rfl, by decide +kernel, tyok_De, nm_De, fun _ => rfl⟩
theorem fl_Ma_206 : jFL "MailAgent" 206 1 0 := ⟨_, _, _, rfl, by decide, iw_De, w_1_168⟩
theorem fl_De_15 : jFL "MailAgent$Deliveries" 15 1 1 := ⟨_, _, _, rfl, by decide, iw_De, w_1_169⟩
theorem fp_De_15 : jFP "MailAgent$Deliveries" 15 1 1 (.array .int) true := ⟨_, _, _, ty_De, rfl, by decide, iw_De, w_1_169, rfl, by decide +kernel, tyok_De, nm_De, fun _ => rfl⟩
theorem fl_Ma_209 : jFL "MailAgent" 209 1 1 := ⟨_, _, _, rfl, by decide, iw_De, w_1_170⟩
theorem fl_De_18 : jFL "MailAgent$Deliveries" 18 1 2 := ⟨_, _, _, rfl, by decide, iw_De, w_1_171⟩
theorem fp_De_18 : jFP "MailAgent$Deliveries" 18 1 2 (.array .int) true := ⟨_, _, _, ty_De, rfl, by decide, iw_De, w_1_171, rfl, by decide +kernel, tyok_De, nm_De, fun _ => rfl⟩
theorem fl_Ma_212 : jFL "MailAgent" 212 1 2 := ⟨_, _, _, rfl, by decide, iw_De, w_1_172⟩
theorem fl_De_21 : jFL "MailAgent$Deliveries" 21 1 3 := ⟨_, _, _, rfl, by decide, iw_De, w_1_173⟩
theorem fp_De_21 : jFP "MailAgent$Deliveries" 21 1 3 (.array .int) true := ⟨_, _, _, ty_De, rfl, by decide, iw_De, w_1_173, rfl, by decide +kernel, tyok_De, nm_De, fun _ => rfl⟩
theorem fl_Ma_215 : jFL "MailAgent" 215 1 3 := ⟨_, _, _, rfl, by decide, iw_De, w_1_174⟩
theorem fl_Ma_13 : jFL "MailAgent" 13 7 0 := ⟨_, _, _, rfl, by decide, iw_Ma, w_1_184⟩
theorem fp_Ma_13 : jFP "MailAgent" 13 7 0 (.int) true := ⟨_, _, _, ty_Ma, rfl, by decide, iw_Ma, w_1_184, rfl, by decide +kernel, tyok_Ma, nm_Ma, fun _ => rfl⟩
theorem fl_Ma_17 : jFL "MailAgent" 17 7 1 := ⟨_, _, _, rfl, by decide, iw_Ma, w_1_185⟩
theorem fp_Ma_17 : jFP "MailAgent" 17 7 1 (.int) true := ⟨_, _, _, ty_Ma, rfl, by decide, iw_Ma, w_1_185, rfl, by decide +kernel, tyok_Ma, nm_Ma, fun _ => rfl⟩
theorem fl_Ma_20 : jFL "MailAgent" 20 7 2 := ⟨_, _, _, rfl, by decide, iw_Ma, w_1_186⟩
theorem fp_Ma_20 : jFP "MailAgent" 20 7 2 (.int) true := ⟨_, _, _, ty_Ma, rfl, by decide, iw_Ma, w_1_186, rfl, by decide +kernel, tyok_Ma, nm_Ma, fun _ => rfl⟩
theorem fl_Ma_26 : jFL "MailAgent" 26 7 3 := ⟨_, _, _, rfl, by decide, iw_Ma, w_1_187⟩
theorem fp_Ma_26 : jFP "MailAgent" 26 7 3 (.object "MailAgent$Aliases") true := ⟨_, _, _, ty_Ma, rfl, by decide, iw_Ma, w_1_187, rfl, by decide +kernel, tyok_Ma, nm_Ma, fun _ => rfl⟩
theorem fl_Ma_32 : jFL "MailAgent" 32 7 4 := ⟨_, _, _, rfl, by decide, iw_Ma, w_1_188⟩
theorem fp_Ma_32 : jFP "MailAgent" 32 7 4 (.array (.object "MailAgent$Routes")) true := ⟨_, _, _, ty_Ma, rfl, by decide, iw_Ma, w_1_188, rfl, by decide +kernel, tyok_Ma, nm_Ma, fun _ => rfl⟩
theorem fl_Ma_37 : jFL "MailAgent" 37 7 5 := ⟨_, _, _, rfl, by decide, iw_Ma, w_1_189⟩
theorem fp_Ma_37 : jFP "MailAgent" 37 7 5 (.array .int) true := ⟨_, _, _, ty_Ma, rfl, by decide, iw_Ma, w_1_189, rfl, by decide +kernel, tyok_Ma, nm_Ma, fun _ => rfl⟩
theorem fl_Ma_44 : jFL "MailAgent" 44 7 6 := ⟨_, _, _, rfl, by decide, iw_Ma, w_1_190⟩
theorem fp_Ma_44 : jFP "MailAgent" 44 7 6 (.object "MailAgent$Transaction") true := ⟨_, _, _, ty_Ma, rfl, by decide, iw_Ma, w_1_190, rfl, by decide +kernel, tyok_Ma, nm_Ma, fun _ => rfl⟩
theorem fl_Ma_51 : jFL "MailAgent" 51 7 7 := ⟨_, _, _, rfl, by decide, iw_Ma, w_1_191⟩
theorem fp_Ma_51 : jFP "MailAgent" 51 7 7 (.object "MailAgent$Queue") true := ⟨_, _, _, ty_Ma, rfl, by decide, iw_Ma, w_1_191, rfl, by decide +kernel, tyok_Ma, nm_Ma, fun _ => rfl⟩
theorem fl_Ma_55 : jFL "MailAgent" 55 7 8 := ⟨_, _, _, rfl, by decide, iw_Ma, w_1_192⟩
theorem fp_Ma_55 : jFP "MailAgent" 55 7 8 (.object "MailAgent$Queue") true := ⟨_, _, _, ty_Ma, rfl, by decide, iw_Ma, w_1_192, rfl, by decide +kernel, tyok_Ma, nm_Ma, fun _ => rfl⟩
theorem fl_Ma_61 : jFL "MailAgent" 61 7 9 := ⟨_, _, _, rfl, by decide, iw_Ma, w_1_193⟩
theorem fp_Ma_61 : jFP "MailAgent" 61 7 9 (.object "MailAgent$Deliveries") true := ⟨_, _, _, ty_Ma, rfl, by decide, iw_Ma, w_1_193, rfl, by decide +kernel, tyok_Ma, nm_Ma, fun _ => rfl⟩
theorem fl_Ma_65 : jFL "MailAgent" 65 7 10 := ⟨_, _, _, rfl, by decide, iw_Ma, w_1_194⟩
theorem fp_Ma_65 : jFP "MailAgent" 65 7 10 (.int) false := ⟨_, _, _, ty_Ma, rfl, by decide, iw_Ma, w_1_194, rfl, by decide +kernel, tyok_Ma, nm_Ma, fun h => by cases h⟩
theorem fl_Ma_68 : jFL "MailAgent" 68 7 11 := ⟨_, _, _, rfl, by decide, iw_Ma, w_1_195⟩
theorem fp_Ma_68 : jFP "MailAgent" 68 7 11 (.int) false := ⟨_, _, _, ty_Ma, rfl, by decide, iw_Ma, w_1_195, rfl, by decide +kernel, tyok_Ma, nm_Ma, fun h => by cases h⟩
theorem fl_Ma_71 : jFL "MailAgent" 71 7 12 := ⟨_, _, _, rfl, by decide, iw_Ma, w_1_196⟩
theorem fp_Ma_71 : jFP "MailAgent" 71 7 12 (.int) false := ⟨_, _, _, ty_Ma, rfl, by decide, iw_Ma, w_1_196, rfl, by decide +kernel, tyok_Ma, nm_Ma, fun h => by cases h⟩
theorem nw_La_18 : jNW "MailAgentLaw" 18 8 24 [.int 0, .int 0, .int 0, .null, .null, .null, .null, .null, .null, .int 0, .int 0, .null, .int 0, .null, .int 0, .int 0, .int 0, .int 0, .null, .int 0, .null, .null, .null, .null] := ⟨_, _, ty_Mo, rfl, iw_Mo, tyok_Mo, w_2_222, w_2_223, w_1_10, by
  intro j hj
  match j, hj with
  | 0, _ => rfl
  | 1, _ => rfl
  | 2, _ => rfl
  | 3, _ => rfl
  | 4, _ => rfl
  | 5, _ => rfl
  | 6, _ => rfl
  | 7, _ => rfl
  | 8, _ => rfl
  | 9, _ => rfl
  | 10, _ => rfl
  | 11, _ => rfl
  | 12, _ => rfl
  | 13, _ => rfl
  | 14, _ => rfl
  | 15, _ => rfl
  | 16, _ => rfl
  | 17, _ => rfl
  | 18, _ => rfl
  | 19, _ => rfl
  | 20, _ => rfl
  | 21, _ => rfl
  | 22, _ => rfl
  | 23, _ => rfl
  | j + 24, h => exact absurd h (by omega)⟩
theorem fl_Mo_53 : jFL "MailAgentModel" 53 8 0 := ⟨_, _, _, rfl, by decide, iw_Mo, w_2_231⟩
theorem fp_Mo_53 : jFP "MailAgentModel" 53 8 0 (.int) true := ⟨_, _, _, ty_Mo, rfl, by decide, iw_Mo, w_2_231, rfl, by decide +kernel, tyok_Mo, nm_Mo, fun _ => rfl⟩
theorem fl_Mo_57 : jFL "MailAgentModel" 57 8 1 := ⟨_, _, _, rfl, by decide, iw_Mo, w_2_232⟩
theorem fp_Mo_57 : jFP "MailAgentModel" 57 8 1 (.int) true := ⟨_, _, _, ty_Mo, rfl, by decide, iw_Mo, w_2_232, rfl, by decide +kernel, tyok_Mo, nm_Mo, fun _ => rfl⟩
theorem fl_Mo_60 : jFL "MailAgentModel" 60 8 2 := ⟨_, _, _, rfl, by decide, iw_Mo, w_2_233⟩
theorem fp_Mo_60 : jFP "MailAgentModel" 60 8 2 (.int) true := ⟨_, _, _, ty_Mo, rfl, by decide, iw_Mo, w_2_233, rfl, by decide +kernel, tyok_Mo, nm_Mo, fun _ => rfl⟩
theorem fl_Mo_7 : jFL "MailAgentModel" 7 8 3 := ⟨_, _, _, rfl, by decide, iw_Mo, w_2_234⟩
theorem fp_Mo_7 : jFP "MailAgentModel" 7 8 3 (.array .int) true := ⟨_, _, _, ty_Mo, rfl, by decide, iw_Mo, w_2_234, rfl, by decide +kernel, tyok_Mo, nm_Mo, fun _ => rfl⟩
theorem fl_Mo_13 : jFL "MailAgentModel" 13 8 4 := ⟨_, _, _, rfl, by decide, iw_Mo, w_2_235⟩
theorem fp_Mo_13 : jFP "MailAgentModel" 13 8 4 (.array .int) true := ⟨_, _, _, ty_Mo, rfl, by decide, iw_Mo, w_2_235, rfl, by decide +kernel, tyok_Mo, nm_Mo, fun _ => rfl⟩
theorem fl_Mo_16 : jFL "MailAgentModel" 16 8 5 := ⟨_, _, _, rfl, by decide, iw_Mo, w_2_236⟩
theorem fp_Mo_16 : jFP "MailAgentModel" 16 8 5 (.array .int) true := ⟨_, _, _, ty_Mo, rfl, by decide, iw_Mo, w_2_236, rfl, by decide +kernel, tyok_Mo, nm_Mo, fun _ => rfl⟩
theorem fl_Mo_19 : jFL "MailAgentModel" 19 8 6 := ⟨_, _, _, rfl, by decide, iw_Mo, w_2_237⟩
theorem fp_Mo_19 : jFP "MailAgentModel" 19 8 6 (.array .int) true := ⟨_, _, _, ty_Mo, rfl, by decide, iw_Mo, w_2_237, rfl, by decide +kernel, tyok_Mo, nm_Mo, fun _ => rfl⟩
theorem fl_Mo_22 : jFL "MailAgentModel" 22 8 7 := ⟨_, _, _, rfl, by decide, iw_Mo, w_2_238⟩
theorem fp_Mo_22 : jFP "MailAgentModel" 22 8 7 (.array .int) true := ⟨_, _, _, ty_Mo, rfl, by decide, iw_Mo, w_2_238, rfl, by decide +kernel, tyok_Mo, nm_Mo, fun _ => rfl⟩
theorem fl_Mo_25 : jFL "MailAgentModel" 25 8 8 := ⟨_, _, _, rfl, by decide, iw_Mo, w_2_239⟩
theorem fp_Mo_25 : jFP "MailAgentModel" 25 8 8 (.array .int) true := ⟨_, _, _, ty_Mo, rfl, by decide, iw_Mo, w_2_239, rfl, by decide +kernel, tyok_Mo, nm_Mo, fun _ => rfl⟩
theorem fl_Mo_101 : jFL "MailAgentModel" 101 8 9 := ⟨_, _, _, rfl, by decide, iw_Mo, w_3_0⟩
theorem fp_Mo_101 : jFP "MailAgentModel" 101 8 9 (.int) false := ⟨_, _, _, ty_Mo, rfl, by decide, iw_Mo, w_3_0, rfl, by decide +kernel, tyok_Mo, nm_Mo, fun h => by cases h⟩
theorem fl_Mo_98 : jFL "MailAgentModel" 98 8 10 := ⟨_, _, _, rfl, by decide, iw_Mo, w_3_1⟩
theorem fp_Mo_98 : jFP "MailAgentModel" 98 8 10 (.int) false := ⟨_, _, _, ty_Mo, rfl, by decide, iw_Mo, w_3_1, rfl, by decide +kernel, tyok_Mo, nm_Mo, fun h => by cases h⟩
theorem fl_Mo_28 : jFL "MailAgentModel" 28 8 11 := ⟨_, _, _, rfl, by decide, iw_Mo, w_3_2⟩
theorem fp_Mo_28 : jFP "MailAgentModel" 28 8 11 (.array .int) true := ⟨_, _, _, ty_Mo, rfl, by decide, iw_Mo, w_3_2, rfl, by decide +kernel, tyok_Mo, nm_Mo, fun _ => rfl⟩
theorem fl_Mo_85 : jFL "MailAgentModel" 85 8 12 := ⟨_, _, _, rfl, by decide, iw_Mo, w_3_3⟩
theorem fp_Mo_85 : jFP "MailAgentModel" 85 8 12 (.int) false := ⟨_, _, _, ty_Mo, rfl, by decide, iw_Mo, w_3_3, rfl, by decide +kernel, tyok_Mo, nm_Mo, fun h => by cases h⟩
theorem fl_Mo_31 : jFL "MailAgentModel" 31 8 13 := ⟨_, _, _, rfl, by decide, iw_Mo, w_3_4⟩
theorem fp_Mo_31 : jFP "MailAgentModel" 31 8 13 (.array .int) true := ⟨_, _, _, ty_Mo, rfl, by decide, iw_Mo, w_3_4, rfl, by decide +kernel, tyok_Mo, nm_Mo, fun _ => rfl⟩
theorem fl_Mo_91 : jFL "MailAgentModel" 91 8 14 := ⟨_, _, _, rfl, by decide, iw_Mo, w_3_5⟩
theorem fp_Mo_91 : jFP "MailAgentModel" 91 8 14 (.int) false := ⟨_, _, _, ty_Mo, rfl, by decide, iw_Mo, w_3_5, rfl, by decide +kernel, tyok_Mo, nm_Mo, fun h => by cases h⟩
theorem fl_Mo_88 : jFL "MailAgentModel" 88 8 15 := ⟨_, _, _, rfl, by decide, iw_Mo, w_3_6⟩
theorem fp_Mo_88 : jFP "MailAgentModel" 88 8 15 (.int) false := ⟨_, _, _, ty_Mo, rfl, by decide, iw_Mo, w_3_6, rfl, by decide +kernel, tyok_Mo, nm_Mo, fun h => by cases h⟩
theorem fl_Mo_67 : jFL "MailAgentModel" 67 8 16 := ⟨_, _, _, rfl, by decide, iw_Mo, w_3_7⟩
theorem fp_Mo_67 : jFP "MailAgentModel" 67 8 16 (.boolean) false := ⟨_, _, _, ty_Mo, rfl, by decide, iw_Mo, w_3_7, rfl, by decide +kernel, tyok_Mo, nm_Mo, fun h => by cases h⟩
theorem fl_Mo_71 : jFL "MailAgentModel" 71 8 17 := ⟨_, _, _, rfl, by decide, iw_Mo, w_3_8⟩
theorem fp_Mo_71 : jFP "MailAgentModel" 71 8 17 (.int) false := ⟨_, _, _, ty_Mo, rfl, by decide, iw_Mo, w_3_8, rfl, by decide +kernel, tyok_Mo, nm_Mo, fun h => by cases h⟩
theorem fl_Mo_34 : jFL "MailAgentModel" 34 8 18 := ⟨_, _, _, rfl, by decide, iw_Mo, w_3_9⟩
theorem fp_Mo_34 : jFP "MailAgentModel" 34 8 18 (.array .int) true := ⟨_, _, _, ty_Mo, rfl, by decide, iw_Mo, w_3_9, rfl, by decide +kernel, tyok_Mo, nm_Mo, fun _ => rfl⟩
theorem fl_Mo_74 : jFL "MailAgentModel" 74 8 19 := ⟨_, _, _, rfl, by decide, iw_Mo, w_3_10⟩
theorem fp_Mo_74 : jFP "MailAgentModel" 74 8 19 (.int) false := ⟨_, _, _, ty_Mo, rfl, by decide, iw_Mo, w_3_10, rfl, by decide +kernel, tyok_Mo, nm_Mo, fun h => by cases h⟩
theorem fl_Mo_37 : jFL "MailAgentModel" 37 8 20 := ⟨_, _, _, rfl, by decide, iw_Mo, w_3_11⟩
theorem fp_Mo_37 : jFP "MailAgentModel" 37 8 20 (.array .int) true := ⟨_, _, _, ty_Mo, rfl, by decide, iw_Mo, w_3_11, rfl, by decide +kernel, tyok_Mo, nm_Mo, fun _ => rfl⟩
theorem fl_Mo_40 : jFL "MailAgentModel" 40 8 21 := ⟨_, _, _, rfl, by decide, iw_Mo, w_3_12⟩
theorem fp_Mo_40 : jFP "MailAgentModel" 40 8 21 (.array .int) true := ⟨_, _, _, ty_Mo, rfl, by decide, iw_Mo, w_3_12, rfl, by decide +kernel, tyok_Mo, nm_Mo, fun _ => rfl⟩
theorem fl_Mo_43 : jFL "MailAgentModel" 43 8 22 := ⟨_, _, _, rfl, by decide, iw_Mo, w_3_13⟩
theorem fp_Mo_43 : jFP "MailAgentModel" 43 8 22 (.array .int) true := ⟨_, _, _, ty_Mo, rfl, by decide, iw_Mo, w_3_13, rfl, by decide +kernel, tyok_Mo, nm_Mo, fun _ => rfl⟩
theorem fl_Mo_46 : jFL "MailAgentModel" 46 8 23 := ⟨_, _, _, rfl, by decide, iw_Mo, w_3_14⟩
theorem fp_Mo_46 : jFP "MailAgentModel" 46 8 23 (.array .int) true := ⟨_, _, _, ty_Mo, rfl, by decide, iw_Mo, w_3_14, rfl, by decide +kernel, tyok_Mo, nm_Mo, fun _ => rfl⟩
theorem cl_La_15 : jCL "MailAgentLaw" 15 M_Ma_init 3 := ⟨w_1_14, w_1_1, w_1_16, by decide +kernel⟩
theorem cl_La_15v : Cond.instanceMethod M_Ma_init.1 ∈ jTG := w_1_15
theorem cl_Ma_7 : jCL "MailAgent" 7 M_Ma_clamp 3 := ⟨w_1_20, w_1_1, w_1_22, by decide +kernel⟩
theorem cl_Ma_7v : Cond.static M_Ma_clamp.1 ∈ jTG := w_1_21
theorem cl_Ma_218 : jCL "MailAgent" 218 M_Mt_min 2 := ⟨w_1_23, w_1_2, w_1_25, by decide +kernel⟩
theorem cl_Ma_218v : Cond.static M_Mt_min.1 ∈ jTG := w_1_24
theorem cl_Ma_223 : jCL "MailAgent" 223 M_Mt_max 2 := ⟨w_1_26, w_1_2, w_1_28, by decide +kernel⟩
theorem cl_Ma_223v : Cond.static M_Mt_max.1 ∈ jTG := w_1_27
theorem cl_Ma_50 : jCL "MailAgent" 50 M_Qu_init 0 := ⟨w_1_104, w_1_7, w_1_106, by decide +kernel⟩
theorem cl_Ma_50v : Cond.instanceMethod M_Qu_init.1 ∈ jTG := w_1_105
theorem cl_La_21 : jCL "MailAgentLaw" 21 M_Ma_alias 2 := ⟨w_1_224, w_1_1, w_1_227, by decide +kernel⟩
theorem cl_La_21v : Cond.instanceMethod M_Ma_alias.1 ∈ jTG ∧ Cond.selects M_Ma_alias.1.cls M_Ma_alias.1 M_Ma_alias.1 ∈ jTG := ⟨w_1_225, w_1_226⟩
theorem cl_Ma_74 : jCL "MailAgent" 74 M_Ma_isBelow 2 := ⟨w_1_228, w_1_1, w_1_230, by decide +kernel⟩
theorem cl_Ma_74v : Cond.static M_Ma_isBelow.1 ∈ jTG := w_1_229
theorem cl_Ma_78 : jCL "MailAgent" 78 M_Al_hasRoomFor 2 := ⟨w_1_231, w_1_3, w_1_234, by decide +kernel⟩
theorem cl_Ma_78v : Cond.instanceMethod M_Al_hasRoomFor.1 ∈ jTG ∧ Cond.selects M_Al_hasRoomFor.1.cls M_Al_hasRoomFor.1 M_Al_hasRoomFor.1 ∈ jTG := ⟨w_1_232, w_1_233⟩
theorem cl_Al_15 : jCL "MailAgent$Aliases" 15 M_Lo_bitCount 1 := ⟨w_1_235, w_1_11, w_1_237, by decide +kernel⟩
theorem cl_Al_15v : Cond.static M_Lo_bitCount.1 ∈ jTG := w_1_236
theorem cl_Ma_81 : jCL "MailAgent" 81 M_Al_add 2 := ⟨w_2_1, w_1_3, w_2_4, by decide +kernel⟩
theorem cl_Ma_81v : Cond.instanceMethod M_Al_add.1 ∈ jTG ∧ Cond.selects M_Al_add.1.cls M_Al_add.1 M_Al_add.1 ∈ jTG := ⟨w_2_2, w_2_3⟩
theorem cl_La_26 : jCL "MailAgentLaw" 26 M_Ma_unalias 1 := ⟨w_2_5, w_1_1, w_2_8, by decide +kernel⟩
theorem cl_La_26v : Cond.instanceMethod M_Ma_unalias.1 ∈ jTG ∧ Cond.selects M_Ma_unalias.1.cls M_Ma_unalias.1 M_Ma_unalias.1 ∈ jTG := ⟨w_2_6, w_2_7⟩
theorem cl_Ma_85 : jCL "MailAgent" 85 M_Al_clear 1 := ⟨w_2_9, w_1_3, w_2_12, by decide +kernel⟩
theorem cl_Ma_85v : Cond.instanceMethod M_Al_clear.1 ∈ jTG ∧ Cond.selects M_Al_clear.1.cls M_Al_clear.1 M_Al_clear.1 ∈ jTG := ⟨w_2_10, w_2_11⟩
theorem cl_La_31 : jCL "MailAgentLaw" 31 M_Ma_route 3 := ⟨w_2_13, w_1_1, w_2_16, by decide +kernel⟩
theorem cl_La_31v : Cond.instanceMethod M_Ma_route.1 ∈ jTG ∧ Cond.selects M_Ma_route.1.cls M_Ma_route.1 M_Ma_route.1 ∈ jTG := ⟨w_2_14, w_2_15⟩
theorem cl_Ma_89 : jCL "MailAgent" 89 M_Ma_isForeign 1 := ⟨w_2_17, w_1_1, w_2_19, by decide +kernel⟩
theorem cl_Ma_89v : Cond.static M_Ma_isForeign.1 ∈ jTG := w_2_18
theorem cl_Ma_93 : jCL "MailAgent" 93 M_Ro_hasRoomFor 1 := ⟨w_2_20, w_1_4, w_2_23, by decide +kernel⟩
theorem cl_Ma_93v : Cond.instanceMethod M_Ro_hasRoomFor.1 ∈ jTG ∧ Cond.selects M_Ro_hasRoomFor.1.cls M_Ro_hasRoomFor.1 M_Ro_hasRoomFor.1 ∈ jTG := ⟨w_2_21, w_2_22⟩
theorem cl_Ma_95 : jCL "MailAgent" 95 M_Ro_add 2 := ⟨w_2_24, w_1_4, w_2_27, by decide +kernel⟩
theorem cl_Ma_95v : Cond.instanceMethod M_Ro_add.1 ∈ jTG ∧ Cond.selects M_Ro_add.1.cls M_Ro_add.1 M_Ro_add.1 ∈ jTG := ⟨w_2_25, w_2_26⟩
theorem cl_La_36 : jCL "MailAgentLaw" 36 M_Ma_unroute 1 := ⟨w_2_28, w_1_1, w_2_31, by decide +kernel⟩
theorem cl_La_36v : Cond.instanceMethod M_Ma_unroute.1 ∈ jTG ∧ Cond.selects M_Ma_unroute.1.cls M_Ma_unroute.1 M_Ma_unroute.1 ∈ jTG := ⟨w_2_29, w_2_30⟩
theorem cl_Ma_96 : jCL "MailAgent" 96 M_Ro_clear 0 := ⟨w_2_32, w_1_4, w_2_35, by decide +kernel⟩
theorem cl_Ma_96v : Cond.instanceMethod M_Ro_clear.1 ∈ jTG ∧ Cond.selects M_Ro_clear.1.cls M_Ro_clear.1 M_Ro_clear.1 ∈ jTG := ⟨w_2_33, w_2_34⟩
theorem cl_La_40 : jCL "MailAgentLaw" 40 M_Ma_host 2 := ⟨w_2_36, w_1_1, w_2_39, by decide +kernel⟩
theorem cl_La_40v : Cond.instanceMethod M_Ma_host.1 ∈ jTG ∧ Cond.selects M_Ma_host.1.cls M_Ma_host.1 M_Ma_host.1 ∈ jTG := ⟨w_2_37, w_2_38⟩
theorem cl_La_44 : jCL "MailAgentLaw" 44 M_Ma_from 1 := ⟨w_2_40, w_1_1, w_2_43, by decide +kernel⟩
theorem cl_La_44v : Cond.instanceMethod M_Ma_from.1 ∈ jTG ∧ Cond.selects M_Ma_from.1.cls M_Ma_from.1 M_Ma_from.1 ∈ jTG := ⟨w_2_41, w_2_42⟩
theorem cl_Ma_99 : jCL "MailAgent" 99 M_Tr_start 1 := ⟨w_2_44, w_1_5, w_2_47, by decide +kernel⟩
theorem cl_Ma_99v : Cond.instanceMethod M_Tr_start.1 ∈ jTG ∧ Cond.selects M_Tr_start.1.cls M_Tr_start.1 M_Tr_start.1 ∈ jTG := ⟨w_2_45, w_2_46⟩
theorem cl_La_48 : jCL "MailAgentLaw" 48 M_Ma_to 1 := ⟨w_2_48, w_1_1, w_2_51, by decide +kernel⟩
theorem cl_La_48v : Cond.instanceMethod M_Ma_to.1 ∈ jTG ∧ Cond.selects M_Ma_to.1.cls M_Ma_to.1 M_Ma_to.1 ∈ jTG := ⟨w_2_49, w_2_50⟩
theorem cl_Ma_107 : jCL "MailAgent" 107 M_Al_finalsOf 1 := ⟨w_2_52, w_1_3, w_2_55, by decide +kernel⟩
theorem cl_Ma_107v : Cond.instanceMethod M_Al_finalsOf.1 ∈ jTG ∧ Cond.selects M_Al_finalsOf.1.cls M_Al_finalsOf.1 M_Al_finalsOf.1 ∈ jTG := ⟨w_2_53, w_2_54⟩
theorem cl_Al_21 : jCL "MailAgent$Aliases" 21 M_Al_reachedFrom 1 := ⟨w_2_56, w_1_3, w_2_59, by decide +kernel⟩
theorem cl_Al_21v : Cond.instanceMethod M_Al_reachedFrom.1 ∈ jTG ∧ Cond.selects M_Al_reachedFrom.1.cls M_Al_reachedFrom.1 M_Al_reachedFrom.1 ∈ jTG := ⟨w_2_58, w_s_0⟩
theorem cl_Ma_115 : jCL "MailAgent" 115 M_Re_asBits 0 := ⟨w_2_61, w_1_6, w_2_64, by decide +kernel⟩
theorem cl_Ma_115v : Cond.instanceMethod M_Re_asBits.1 ∈ jTG ∧ Cond.selects M_Re_asBits.1.cls M_Re_asBits.1 M_Re_asBits.1 ∈ jTG := ⟨w_2_62, w_2_63⟩
theorem cl_Ma_123 : jCL "MailAgent" 123 M_Lo_bitCount 1 := ⟨w_2_66, w_1_11, w_1_237, by decide +kernel⟩
theorem cl_Ma_123v : Cond.static M_Lo_bitCount.1 ∈ jTG := w_1_236
theorem cl_Ma_132 : jCL "MailAgent" 132 M_Re_addRising 1 := ⟨w_2_67, w_1_6, w_2_70, by decide +kernel⟩
theorem cl_Ma_132v : Cond.instanceMethod M_Re_addRising.1 ∈ jTG ∧ Cond.selects M_Re_addRising.1.cls M_Re_addRising.1 M_Re_addRising.1 ∈ jTG := ⟨w_2_68, w_2_69⟩
theorem cl_Re_22 : jCL "MailAgent$Recipients" 22 M_Re_add 1 := ⟨w_2_71, w_1_6, w_2_74, by decide +kernel⟩
theorem cl_Re_22v : Cond.instanceMethod M_Re_add.1 ∈ jTG ∧ Cond.selects M_Re_add.1.cls M_Re_add.1 M_Re_add.1 ∈ jTG := ⟨w_2_72, w_2_73⟩
theorem cl_La_52 : jCL "MailAgentLaw" 52 M_Ma_data 1 := ⟨w_2_75, w_1_1, w_2_78, by decide +kernel⟩
theorem cl_La_52v : Cond.instanceMethod M_Ma_data.1 ∈ jTG ∧ Cond.selects M_Ma_data.1.cls M_Ma_data.1 M_Ma_data.1 ∈ jTG := ⟨w_2_76, w_2_77⟩
theorem cl_Ma_136 : jCL "MailAgent" 136 M_Ma_costOf 2 := ⟨w_2_79, w_1_1, w_2_81, by decide +kernel⟩
theorem cl_Ma_136v : Cond.static M_Ma_costOf.1 ∈ jTG := w_2_80
theorem cl_Ma_140 : jCL "MailAgent" 140 M_Qu_costs 0 := ⟨w_2_82, w_1_7, w_2_85, by decide +kernel⟩
theorem cl_Ma_140v : Cond.instanceMethod M_Qu_costs.1 ∈ jTG ∧ Cond.selects M_Qu_costs.1.cls M_Qu_costs.1 M_Qu_costs.1 ∈ jTG := ⟨w_2_83, w_2_84⟩
theorem cl_Ma_143 : jCL "MailAgent" 143 M_Qu_addSpare 0 := ⟨w_2_87, w_1_7, w_2_90, by decide +kernel⟩
theorem cl_Ma_143v : Cond.instanceMethod M_Qu_addSpare.1 ∈ jTG ∧ Cond.selects M_Qu_addSpare.1.cls M_Qu_addSpare.1 M_Qu_addSpare.1 ∈ jTG := ⟨w_2_88, w_2_89⟩
theorem cl_Ma_147 : jCL "MailAgent" 147 M_Me_accept 3 := ⟨w_2_91, w_1_8, w_2_94, by decide +kernel⟩
theorem cl_Ma_147v : Cond.instanceMethod M_Me_accept.1 ∈ jTG ∧ Cond.selects M_Me_accept.1.cls M_Me_accept.1 M_Me_accept.1 ∈ jTG := ⟨w_2_92, w_2_93⟩
theorem cl_Me_36 : jCL "MailAgent$Message" 36 M_Re_copyFrom 1 := ⟨w_2_95, w_1_6, w_2_98, by decide +kernel⟩
theorem cl_Me_36v : Cond.instanceMethod M_Re_copyFrom.1 ∈ jTG ∧ Cond.selects M_Re_copyFrom.1.cls M_Re_copyFrom.1 M_Re_copyFrom.1 ∈ jTG := ⟨w_2_96, w_2_97⟩
theorem cl_Ma_153 : jCL "MailAgent" 153 M_Me_schedule 2 := ⟨w_2_99, w_1_8, w_2_102, by decide +kernel⟩
theorem cl_Ma_153v : Cond.instanceMethod M_Me_schedule.1 ∈ jTG ∧ Cond.selects M_Me_schedule.1.cls M_Me_schedule.1 M_Me_schedule.1 ∈ jTG := ⟨w_2_100, w_2_101⟩
theorem cl_Ma_157 : jCL "MailAgent" 157 M_Ma_makeDurable 0 := ⟨w_2_103, w_1_1, w_2_106, by decide +kernel⟩
theorem cl_Ma_157v : Cond.instanceMethod M_Ma_makeDurable.1 ∈ jTG ∧ Cond.selects M_Ma_makeDurable.1.cls M_Ma_makeDurable.1 M_Ma_makeDurable.1 ∈ jTG := ⟨w_2_105, w_s_1⟩
theorem cl_Ma_186 : jCL "MailAgent" 186 M_Qu_copyFrom 1 := ⟨w_2_107, w_1_7, w_2_110, by decide +kernel⟩
theorem cl_Ma_186v : Cond.instanceMethod M_Qu_copyFrom.1 ∈ jTG ∧ Cond.selects M_Qu_copyFrom.1.cls M_Qu_copyFrom.1 M_Qu_copyFrom.1 ∈ jTG := ⟨w_2_108, w_2_109⟩
theorem cl_Qu_41 : jCL "MailAgent$Queue" 41 M_Me_copyFrom 1 := ⟨w_2_111, w_1_8, w_2_114, by decide +kernel⟩
theorem cl_Qu_41v : Cond.instanceMethod M_Me_copyFrom.1 ∈ jTG ∧ Cond.selects M_Me_copyFrom.1.cls M_Me_copyFrom.1 M_Me_copyFrom.1 ∈ jTG := ⟨w_2_112, w_2_113⟩
theorem cl_La_56 : jCL "MailAgentLaw" 56 M_Ma_tick 1 := ⟨w_2_115, w_1_1, w_2_118, by decide +kernel⟩
theorem cl_La_56v : Cond.instanceMethod M_Ma_tick.1 ∈ jTG ∧ Cond.selects M_Ma_tick.1.cls M_Ma_tick.1 M_Ma_tick.1 ∈ jTG := ⟨w_2_116, w_2_117⟩
theorem cl_Ma_168 : jCL "MailAgent" 168 M_Ma_tryRecipients 1 := ⟨w_2_120, w_1_1, w_2_123, by decide +kernel⟩
theorem cl_Ma_168v : Cond.instanceMethod M_Ma_tryRecipients.1 ∈ jTG ∧ Cond.selects M_Ma_tryRecipients.1.cls M_Ma_tryRecipients.1 M_Ma_tryRecipients.1 ∈ jTG := ⟨w_2_122, w_s_2⟩
theorem cl_Ma_232 : jCL "MailAgent" 232 M_Ma_carry 1 := ⟨w_2_124, w_1_1, w_2_127, by decide +kernel⟩
theorem cl_Ma_232v : Cond.instanceMethod M_Ma_carry.1 ∈ jTG ∧ Cond.selects M_Ma_carry.1.cls M_Ma_carry.1 M_Ma_carry.1 ∈ jTG := ⟨w_2_126, w_s_3⟩
theorem cl_Ma_235 : jCL "MailAgent" 235 M_De_note 2 := ⟨w_2_128, w_1_9, w_2_131, by decide +kernel⟩
theorem cl_Ma_235v : Cond.instanceMethod M_De_note.1 ∈ jTG ∧ Cond.selects M_De_note.1.cls M_De_note.1 M_De_note.1 ∈ jTG := ⟨w_2_129, w_2_130⟩
theorem cl_Ma_172 : jCL "MailAgent" 172 M_Ma_failOverdue 1 := ⟨w_2_132, w_1_1, w_2_135, by decide +kernel⟩
theorem cl_Ma_172v : Cond.instanceMethod M_Ma_failOverdue.1 ∈ jTG ∧ Cond.selects M_Ma_failOverdue.1.cls M_Ma_failOverdue.1 M_Ma_failOverdue.1 ∈ jTG := ⟨w_2_134, w_s_4⟩
theorem cl_Ma_245 : jCL "MailAgent" 245 M_Re_failWaiting 0 := ⟨w_2_136, w_1_6, w_2_139, by decide +kernel⟩
theorem cl_Ma_245v : Cond.instanceMethod M_Re_failWaiting.1 ∈ jTG ∧ Cond.selects M_Re_failWaiting.1.cls M_Re_failWaiting.1 M_Re_failWaiting.1 ∈ jTG := ⟨w_2_137, w_2_138⟩
theorem cl_Ma_176 : jCL "MailAgent" 176 M_Ma_settle 1 := ⟨w_2_140, w_1_1, w_2_143, by decide +kernel⟩
theorem cl_Ma_176v : Cond.instanceMethod M_Ma_settle.1 ∈ jTG ∧ Cond.selects M_Ma_settle.1.cls M_Ma_settle.1 M_Ma_settle.1 ∈ jTG := ⟨w_2_142, w_s_5⟩
theorem cl_Ma_248 : jCL "MailAgent" 248 M_Re_inState 1 := ⟨w_2_144, w_1_6, w_2_147, by decide +kernel⟩
theorem cl_Ma_248v : Cond.instanceMethod M_Re_inState.1 ∈ jTG ∧ Cond.selects M_Re_inState.1.cls M_Re_inState.1 M_Re_inState.1 ∈ jTG := ⟨w_2_145, w_2_146⟩
theorem cl_Ma_251 : jCL "MailAgent" 251 M_Me_putOff 2 := ⟨w_2_148, w_1_8, w_2_151, by decide +kernel⟩
theorem cl_Ma_251v : Cond.instanceMethod M_Me_putOff.1 ∈ jTG ∧ Cond.selects M_Me_putOff.1.cls M_Me_putOff.1 M_Me_putOff.1 ∈ jTG := ⟨w_2_149, w_2_150⟩
theorem cl_Me_49 : jCL "MailAgent$Message" 49 M_Mt_min 2 := ⟨w_2_152, w_1_2, w_1_25, by decide +kernel⟩
theorem cl_Me_49v : Cond.static M_Mt_min.1 ∈ jTG := w_1_24
theorem cl_Ma_254 : jCL "MailAgent" 254 M_Me_becomeReport 0 := ⟨w_2_153, w_1_8, w_2_156, by decide +kernel⟩
theorem cl_Ma_254v : Cond.instanceMethod M_Me_becomeReport.1 ∈ jTG ∧ Cond.selects M_Me_becomeReport.1.cls M_Me_becomeReport.1 M_Me_becomeReport.1 ∈ jTG := ⟨w_2_154, w_2_155⟩
theorem cl_Me_56 : jCL "MailAgent$Message" 56 M_Re_add 1 := ⟨w_2_157, w_1_6, w_2_74, by decide +kernel⟩
theorem cl_Me_56v : Cond.instanceMethod M_Re_add.1 ∈ jTG ∧ Cond.selects M_Re_add.1.cls M_Re_add.1 M_Re_add.1 ∈ jTG := ⟨w_2_72, w_2_73⟩
theorem cl_Ma_180 : jCL "MailAgent" 180 M_Qu_removeAt 1 := ⟨w_2_158, w_1_7, w_2_161, by decide +kernel⟩
theorem cl_Ma_180v : Cond.instanceMethod M_Qu_removeAt.1 ∈ jTG ∧ Cond.selects M_Qu_removeAt.1.cls M_Qu_removeAt.1 M_Qu_removeAt.1 ∈ jTG := ⟨w_2_159, w_2_160⟩
theorem cl_Ma_183 : jCL "MailAgent" 183 M_Ma_keepChangesFew 0 := ⟨w_2_162, w_1_1, w_2_165, by decide +kernel⟩
theorem cl_Ma_183v : Cond.instanceMethod M_Ma_keepChangesFew.1 ∈ jTG ∧ Cond.selects M_Ma_keepChangesFew.1.cls M_Ma_keepChangesFew.1 M_Ma_keepChangesFew.1 ∈ jTG := ⟨w_2_164, w_s_6⟩
theorem cl_La_60 : jCL "MailAgentLaw" 60 M_Ma_sync 0 := ⟨w_2_166, w_1_1, w_2_169, by decide +kernel⟩
theorem cl_La_60v : Cond.instanceMethod M_Ma_sync.1 ∈ jTG ∧ Cond.selects M_Ma_sync.1.cls M_Ma_sync.1 M_Ma_sync.1 ∈ jTG := ⟨w_2_167, w_2_168⟩
theorem cl_La_65 : jCL "MailAgentLaw" 65 M_Ma_crash 0 := ⟨w_2_170, w_1_1, w_2_173, by decide +kernel⟩
theorem cl_La_65v : Cond.instanceMethod M_Ma_crash.1 ∈ jTG ∧ Cond.selects M_Ma_crash.1.cls M_Ma_crash.1 M_Ma_crash.1 ∈ jTG := ⟨w_2_171, w_2_172⟩
theorem cl_La_69 : jCL "MailAgentLaw" 69 M_Ma_drop 1 := ⟨w_2_174, w_1_1, w_2_177, by decide +kernel⟩
theorem cl_La_69v : Cond.instanceMethod M_Ma_drop.1 ∈ jTG ∧ Cond.selects M_Ma_drop.1.cls M_Ma_drop.1 M_Ma_drop.1 ∈ jTG := ⟨w_2_175, w_2_176⟩
theorem cl_Ma_190 : jCL "MailAgent" 190 M_Qu_indexOf 1 := ⟨w_2_178, w_1_7, w_2_181, by decide +kernel⟩
theorem cl_Ma_190v : Cond.instanceMethod M_Qu_indexOf.1 ∈ jTG ∧ Cond.selects M_Qu_indexOf.1.cls M_Qu_indexOf.1 M_Qu_indexOf.1 ∈ jTG := ⟨w_2_179, w_2_180⟩
theorem cl_La_73 : jCL "MailAgentLaw" 73 M_Ma_hurry 1 := ⟨w_2_182, w_1_1, w_2_185, by decide +kernel⟩
theorem cl_La_73v : Cond.instanceMethod M_Ma_hurry.1 ∈ jTG ∧ Cond.selects M_Ma_hurry.1.cls M_Ma_hurry.1 M_Ma_hurry.1 ∈ jTG := ⟨w_2_183, w_2_184⟩
theorem cl_La_77 : jCL "MailAgentLaw" 77 M_Ma_count 1 := ⟨w_2_186, w_1_1, w_2_189, by decide +kernel⟩
theorem cl_La_77v : Cond.instanceMethod M_Ma_count.1 ∈ jTG ∧ Cond.selects M_Ma_count.1.cls M_Ma_count.1 M_Ma_count.1 ∈ jTG := ⟨w_2_187, w_2_188⟩
theorem cl_Ma_193 : jCL "MailAgent" 193 M_Qu_waitingRecipients 0 := ⟨w_2_190, w_1_7, w_2_193, by decide +kernel⟩
theorem cl_Ma_193v : Cond.instanceMethod M_Qu_waitingRecipients.1 ∈ jTG ∧ Cond.selects M_Qu_waitingRecipients.1.cls M_Qu_waitingRecipients.1 M_Qu_waitingRecipients.1 ∈ jTG := ⟨w_2_191, w_2_192⟩
theorem cl_Qu_37 : jCL "MailAgent$Queue" 37 M_Re_inState 1 := ⟨w_2_194, w_1_6, w_2_147, by decide +kernel⟩
theorem cl_Qu_37v : Cond.instanceMethod M_Re_inState.1 ∈ jTG ∧ Cond.selects M_Re_inState.1.cls M_Re_inState.1 M_Re_inState.1 ∈ jTG := ⟨w_2_145, w_2_146⟩
theorem cl_La_81 : jCL "MailAgentLaw" 81 M_Ma_message 1 := ⟨w_2_195, w_1_1, w_2_198, by decide +kernel⟩
theorem cl_La_81v : Cond.instanceMethod M_Ma_message.1 ∈ jTG ∧ Cond.selects M_Ma_message.1.cls M_Ma_message.1 M_Ma_message.1 ∈ jTG := ⟨w_2_196, w_2_197⟩
theorem cl_La_85 : jCL "MailAgentLaw" 85 M_Ma_status 2 := ⟨w_2_199, w_1_1, w_2_202, by decide +kernel⟩
theorem cl_La_85v : Cond.instanceMethod M_Ma_status.1 ∈ jTG ∧ Cond.selects M_Ma_status.1.cls M_Ma_status.1 M_Ma_status.1 ∈ jTG := ⟨w_2_200, w_2_201⟩
theorem cl_Ma_200 : jCL "MailAgent" 200 M_Re_stateOf 1 := ⟨w_2_203, w_1_6, w_2_206, by decide +kernel⟩
theorem cl_Ma_200v : Cond.instanceMethod M_Re_stateOf.1 ∈ jTG ∧ Cond.selects M_Re_stateOf.1.cls M_Re_stateOf.1 M_Re_stateOf.1 ∈ jTG := ⟨w_2_204, w_2_205⟩
theorem cl_La_89 : jCL "MailAgentLaw" 89 M_Ma_sender 1 := ⟨w_2_207, w_1_1, w_2_210, by decide +kernel⟩
theorem cl_La_89v : Cond.instanceMethod M_Ma_sender.1 ∈ jTG ∧ Cond.selects M_Ma_sender.1.cls M_Ma_sender.1 M_Ma_sender.1 ∈ jTG := ⟨w_2_208, w_2_209⟩
theorem cl_La_93 : jCL "MailAgentLaw" 93 M_Ma_due 1 := ⟨w_2_211, w_1_1, w_2_214, by decide +kernel⟩
theorem cl_La_93v : Cond.instanceMethod M_Ma_due.1 ∈ jTG ∧ Cond.selects M_Ma_due.1.cls M_Ma_due.1 M_Ma_due.1 ∈ jTG := ⟨w_2_212, w_2_213⟩
theorem cl_La_97 : jCL "MailAgentLaw" 97 M_Ma_received 2 := ⟨w_2_215, w_1_1, w_2_218, by decide +kernel⟩
theorem cl_La_97v : Cond.instanceMethod M_Ma_received.1 ∈ jTG ∧ Cond.selects M_Ma_received.1.cls M_Ma_received.1 M_Ma_received.1 ∈ jTG := ⟨w_2_216, w_2_217⟩
theorem cl_La_9 : jCL "MailAgentLaw" 9 M_La_cell 2 := ⟨w_2_219, w_1_0, w_2_221, by decide +kernel⟩
theorem cl_La_9v : Cond.static M_La_cell.1 ∈ jTG := w_2_220
theorem cl_La_20 : jCL "MailAgentLaw" 20 M_Mo_init 3 := ⟨w_2_224, w_1_10, w_2_226, by decide +kernel⟩
theorem cl_La_20v : Cond.instanceMethod M_Mo_init.1 ∈ jTG := w_2_225
theorem cl_Mo_49 : jCL "MailAgentModel" 49 M_Mo_within 3 := ⟨w_2_228, w_1_10, w_2_230, by decide +kernel⟩
theorem cl_Mo_49v : Cond.static M_Mo_within.1 ∈ jTG := w_2_229
theorem cl_La_25 : jCL "MailAgentLaw" 25 M_Mo_alias 2 := ⟨w_3_64, w_1_10, w_3_67, by decide +kernel⟩
theorem cl_La_25v : Cond.instanceMethod M_Mo_alias.1 ∈ jTG ∧ Cond.selects M_Mo_alias.1.cls M_Mo_alias.1 M_Mo_alias.1 ∈ jTG := ⟨w_3_65, w_3_66⟩
theorem cl_Mo_63 : jCL "MailAgentModel" 63 M_Mo_out 2 := ⟨w_3_68, w_1_10, w_3_70, by decide +kernel⟩
theorem cl_Mo_63v : Cond.static M_Mo_out.1 ∈ jTG := w_3_69
theorem cl_La_30 : jCL "MailAgentLaw" 30 M_Mo_unalias 1 := ⟨w_3_71, w_1_10, w_3_74, by decide +kernel⟩
theorem cl_La_30v : Cond.instanceMethod M_Mo_unalias.1 ∈ jTG ∧ Cond.selects M_Mo_unalias.1.cls M_Mo_unalias.1 M_Mo_unalias.1 ∈ jTG := ⟨w_3_72, w_3_73⟩
theorem cl_La_35 : jCL "MailAgentLaw" 35 M_Mo_route 3 := ⟨w_3_75, w_1_10, w_3_78, by decide +kernel⟩
theorem cl_La_35v : Cond.instanceMethod M_Mo_route.1 ∈ jTG ∧ Cond.selects M_Mo_route.1.cls M_Mo_route.1 M_Mo_route.1 ∈ jTG := ⟨w_3_76, w_3_77⟩
theorem cl_La_39 : jCL "MailAgentLaw" 39 M_Mo_unroute 1 := ⟨w_3_79, w_1_10, w_3_82, by decide +kernel⟩
theorem cl_La_39v : Cond.instanceMethod M_Mo_unroute.1 ∈ jTG ∧ Cond.selects M_Mo_unroute.1.cls M_Mo_unroute.1 M_Mo_unroute.1 ∈ jTG := ⟨w_3_80, w_3_81⟩
theorem cl_La_43 : jCL "MailAgentLaw" 43 M_Mo_host 2 := ⟨w_3_83, w_1_10, w_3_86, by decide +kernel⟩
theorem cl_La_43v : Cond.instanceMethod M_Mo_host.1 ∈ jTG ∧ Cond.selects M_Mo_host.1.cls M_Mo_host.1 M_Mo_host.1 ∈ jTG := ⟨w_3_84, w_3_85⟩
theorem cl_La_47 : jCL "MailAgentLaw" 47 M_Mo_from 1 := ⟨w_3_87, w_1_10, w_3_90, by decide +kernel⟩
theorem cl_La_47v : Cond.instanceMethod M_Mo_from.1 ∈ jTG ∧ Cond.selects M_Mo_from.1.cls M_Mo_from.1 M_Mo_from.1 ∈ jTG := ⟨w_3_88, w_3_89⟩
theorem cl_La_51 : jCL "MailAgentLaw" 51 M_Mo_to 1 := ⟨w_3_91, w_1_10, w_3_94, by decide +kernel⟩
theorem cl_La_51v : Cond.instanceMethod M_Mo_to.1 ∈ jTG ∧ Cond.selects M_Mo_to.1.cls M_Mo_to.1 M_Mo_to.1 ∈ jTG := ⟨w_3_92, w_3_93⟩
theorem cl_Mo_77 : jCL "MailAgentModel" 77 M_Mo_reached 1 := ⟨w_3_95, w_1_10, w_3_98, by decide +kernel⟩
theorem cl_Mo_77v : Cond.instanceMethod M_Mo_reached.1 ∈ jTG ∧ Cond.selects M_Mo_reached.1.cls M_Mo_reached.1 M_Mo_reached.1 ∈ jTG := ⟨w_3_97, w_s_7⟩
theorem cl_Mo_81 : jCL "MailAgentModel" 81 M_Mo_named 1 := ⟨w_3_99, w_1_10, w_3_102, by decide +kernel⟩
theorem cl_Mo_81v : Cond.instanceMethod M_Mo_named.1 ∈ jTG ∧ Cond.selects M_Mo_named.1.cls M_Mo_named.1 M_Mo_named.1 ∈ jTG := ⟨w_3_101, w_s_8⟩
theorem cl_La_55 : jCL "MailAgentLaw" 55 M_Mo_data 1 := ⟨w_3_103, w_1_10, w_3_106, by decide +kernel⟩
theorem cl_La_55v : Cond.instanceMethod M_Mo_data.1 ∈ jTG ∧ Cond.selects M_Mo_data.1.cls M_Mo_data.1 M_Mo_data.1 ∈ jTG := ⟨w_3_104, w_3_105⟩
theorem cl_Mo_94 : jCL "MailAgentModel" 94 M_Mo_costs 0 := ⟨w_3_107, w_1_10, w_3_110, by decide +kernel⟩
theorem cl_Mo_94v : Cond.instanceMethod M_Mo_costs.1 ∈ jTG ∧ Cond.selects M_Mo_costs.1.cls M_Mo_costs.1 M_Mo_costs.1 ∈ jTG := ⟨w_3_109, w_s_9⟩
theorem cl_Mo_104 : jCL "MailAgentModel" 104 M_Mo_settle 0 := ⟨w_3_111, w_1_10, w_3_114, by decide +kernel⟩
theorem cl_Mo_104v : Cond.instanceMethod M_Mo_settle.1 ∈ jTG ∧ Cond.selects M_Mo_settle.1.cls M_Mo_settle.1 M_Mo_settle.1 ∈ jTG := ⟨w_3_113, w_s_10⟩
theorem cl_La_59 : jCL "MailAgentLaw" 59 M_Mo_tick 1 := ⟨w_3_115, w_1_10, w_3_118, by decide +kernel⟩
theorem cl_La_59v : Cond.instanceMethod M_Mo_tick.1 ∈ jTG ∧ Cond.selects M_Mo_tick.1.cls M_Mo_tick.1 M_Mo_tick.1 ∈ jTG := ⟨w_3_116, w_3_117⟩
theorem cl_Mo_127 : jCL "MailAgentModel" 127 M_Mo_find 1 := ⟨w_3_120, w_1_10, w_3_123, by decide +kernel⟩
theorem cl_Mo_127v : Cond.instanceMethod M_Mo_find.1 ∈ jTG ∧ Cond.selects M_Mo_find.1.cls M_Mo_find.1 M_Mo_find.1 ∈ jTG := ⟨w_3_122, w_s_11⟩
theorem cl_Mo_130 : jCL "MailAgentModel" 130 M_Mo_attempt 1 := ⟨w_3_124, w_1_10, w_3_127, by decide +kernel⟩
theorem cl_Mo_130v : Cond.instanceMethod M_Mo_attempt.1 ∈ jTG ∧ Cond.selects M_Mo_attempt.1.cls M_Mo_attempt.1 M_Mo_attempt.1 ∈ jTG := ⟨w_3_126, w_s_12⟩
theorem cl_Mo_107 : jCL "MailAgentModel" 107 M_Mo_carrier 1 := ⟨w_3_128, w_1_10, w_3_131, by decide +kernel⟩
theorem cl_Mo_107v : Cond.instanceMethod M_Mo_carrier.1 ∈ jTG ∧ Cond.selects M_Mo_carrier.1.cls M_Mo_carrier.1 M_Mo_carrier.1 ∈ jTG := ⟨w_3_130, w_s_13⟩
theorem cl_Mo_111 : jCL "MailAgentModel" 111 M_Mo_mark 2 := ⟨w_3_132, w_1_10, w_3_135, by decide +kernel⟩
theorem cl_Mo_111v : Cond.instanceMethod M_Mo_mark.1 ∈ jTG ∧ Cond.selects M_Mo_mark.1.cls M_Mo_mark.1 M_Mo_mark.1 ∈ jTG := ⟨w_3_134, w_s_14⟩
theorem cl_Mo_115 : jCL "MailAgentModel" 115 M_Mo_deliver 2 := ⟨w_3_136, w_1_10, w_3_139, by decide +kernel⟩
theorem cl_Mo_115v : Cond.instanceMethod M_Mo_deliver.1 ∈ jTG ∧ Cond.selects M_Mo_deliver.1.cls M_Mo_deliver.1 M_Mo_deliver.1 ∈ jTG := ⟨w_3_138, w_s_15⟩
theorem cl_Mo_118 : jCL "MailAgentModel" 118 M_Mo_states 2 := ⟨w_3_140, w_1_10, w_3_143, by decide +kernel⟩
theorem cl_Mo_118v : Cond.instanceMethod M_Mo_states.1 ∈ jTG ∧ Cond.selects M_Mo_states.1.cls M_Mo_states.1 M_Mo_states.1 ∈ jTG := ⟨w_3_142, w_s_16⟩
theorem cl_Mo_122 : jCL "MailAgentModel" 122 M_Mo_remove 1 := ⟨w_3_144, w_1_10, w_3_147, by decide +kernel⟩
theorem cl_Mo_122v : Cond.instanceMethod M_Mo_remove.1 ∈ jTG ∧ Cond.selects M_Mo_remove.1.cls M_Mo_remove.1 M_Mo_remove.1 ∈ jTG := ⟨w_3_146, w_s_17⟩
theorem cl_Mo_133 : jCL "MailAgentModel" 133 M_Mo_close 0 := ⟨w_3_148, w_1_10, w_3_151, by decide +kernel⟩
theorem cl_Mo_133v : Cond.instanceMethod M_Mo_close.1 ∈ jTG ∧ Cond.selects M_Mo_close.1.cls M_Mo_close.1 M_Mo_close.1 ∈ jTG := ⟨w_3_150, w_s_18⟩
theorem cl_La_64 : jCL "MailAgentLaw" 64 M_Mo_sync 0 := ⟨w_3_152, w_1_10, w_3_155, by decide +kernel⟩
theorem cl_La_64v : Cond.instanceMethod M_Mo_sync.1 ∈ jTG ∧ Cond.selects M_Mo_sync.1.cls M_Mo_sync.1 M_Mo_sync.1 ∈ jTG := ⟨w_3_153, w_3_154⟩
theorem cl_La_68 : jCL "MailAgentLaw" 68 M_Mo_crash 0 := ⟨w_3_156, w_1_10, w_3_159, by decide +kernel⟩
theorem cl_La_68v : Cond.instanceMethod M_Mo_crash.1 ∈ jTG ∧ Cond.selects M_Mo_crash.1.cls M_Mo_crash.1 M_Mo_crash.1 ∈ jTG := ⟨w_3_157, w_3_158⟩
theorem cl_La_72 : jCL "MailAgentLaw" 72 M_Mo_drop 1 := ⟨w_3_160, w_1_10, w_3_163, by decide +kernel⟩
theorem cl_La_72v : Cond.instanceMethod M_Mo_drop.1 ∈ jTG ∧ Cond.selects M_Mo_drop.1.cls M_Mo_drop.1 M_Mo_drop.1 ∈ jTG := ⟨w_3_161, w_3_162⟩
theorem cl_La_76 : jCL "MailAgentLaw" 76 M_Mo_hurry 1 := ⟨w_3_164, w_1_10, w_3_167, by decide +kernel⟩
theorem cl_La_76v : Cond.instanceMethod M_Mo_hurry.1 ∈ jTG ∧ Cond.selects M_Mo_hurry.1.cls M_Mo_hurry.1 M_Mo_hurry.1 ∈ jTG := ⟨w_3_165, w_3_166⟩
theorem cl_La_80 : jCL "MailAgentLaw" 80 M_Mo_count 1 := ⟨w_3_168, w_1_10, w_3_171, by decide +kernel⟩
theorem cl_La_80v : Cond.instanceMethod M_Mo_count.1 ∈ jTG ∧ Cond.selects M_Mo_count.1.cls M_Mo_count.1 M_Mo_count.1 ∈ jTG := ⟨w_3_169, w_3_170⟩
theorem cl_La_84 : jCL "MailAgentLaw" 84 M_Mo_message 1 := ⟨w_3_172, w_1_10, w_3_175, by decide +kernel⟩
theorem cl_La_84v : Cond.instanceMethod M_Mo_message.1 ∈ jTG ∧ Cond.selects M_Mo_message.1.cls M_Mo_message.1 M_Mo_message.1 ∈ jTG := ⟨w_3_173, w_3_174⟩
theorem cl_La_88 : jCL "MailAgentLaw" 88 M_Mo_status 2 := ⟨w_3_176, w_1_10, w_3_179, by decide +kernel⟩
theorem cl_La_88v : Cond.instanceMethod M_Mo_status.1 ∈ jTG ∧ Cond.selects M_Mo_status.1.cls M_Mo_status.1 M_Mo_status.1 ∈ jTG := ⟨w_3_177, w_3_178⟩
theorem cl_La_92 : jCL "MailAgentLaw" 92 M_Mo_sender 1 := ⟨w_3_180, w_1_10, w_3_183, by decide +kernel⟩
theorem cl_La_92v : Cond.instanceMethod M_Mo_sender.1 ∈ jTG ∧ Cond.selects M_Mo_sender.1.cls M_Mo_sender.1 M_Mo_sender.1 ∈ jTG := ⟨w_3_181, w_3_182⟩
theorem cl_La_96 : jCL "MailAgentLaw" 96 M_Mo_due 1 := ⟨w_3_184, w_1_10, w_3_187, by decide +kernel⟩
theorem cl_La_96v : Cond.instanceMethod M_Mo_due.1 ∈ jTG ∧ Cond.selects M_Mo_due.1.cls M_Mo_due.1 M_Mo_due.1 ∈ jTG := ⟨w_3_185, w_3_186⟩
theorem cl_La_100 : jCL "MailAgentLaw" 100 M_Mo_received 2 := ⟨w_3_188, w_1_10, w_3_191, by decide +kernel⟩
theorem cl_La_100v : Cond.instanceMethod M_Mo_received.1 ∈ jTG ∧ Cond.selects M_Mo_received.1.cls M_Mo_received.1 M_Mo_received.1 ∈ jTG := ⟨w_3_189, w_3_190⟩
theorem cn_Ma_25 : jCN "MailAgent" 25 M_Al_init "MailAgent" 0 := ⟨List.mem_of_getElem? (i := 0) rfl, w_1_3, w_1_33, by decide +kernel⟩
theorem cn_Ma_25v : Cond.instanceMethod M_Al_init.1 ∈ jTG := w_1_32
theorem cn_Ma_36 : jCN "MailAgent" 36 M_Ro_init "MailAgent" 0 := ⟨List.mem_of_getElem? (i := 1) rfl, w_1_4, w_1_45, by decide +kernel⟩
theorem cn_Ma_36v : Cond.instanceMethod M_Ro_init.1 ∈ jTG := w_1_44
theorem cn_Ma_43 : jCN "MailAgent" 43 M_Tr_init "MailAgent" 0 := ⟨List.mem_of_getElem? (i := 2) rfl, w_1_5, w_1_64, by decide +kernel⟩
theorem cn_Ma_43v : Cond.instanceMethod M_Tr_init.1 ∈ jTG := w_1_63
theorem cn_Tr_11 : jCN "MailAgent$Transaction" 11 M_Re_init "MailAgent" 0 := ⟨List.mem_of_getElem? (i := 3) rfl, w_1_6, w_1_70, by decide +kernel⟩
theorem cn_Tr_11v : Cond.instanceMethod M_Re_init.1 ∈ jTG := w_1_69
theorem cn_Qu_21 : jCN "MailAgent$Queue" 21 M_Me_init "MailAgent" 0 := ⟨List.mem_of_getElem? (i := 4) rfl, w_1_8, w_1_113, by decide +kernel⟩
theorem cn_Qu_21v : Cond.instanceMethod M_Me_init.1 ∈ jTG := w_1_112
theorem cn_Me_11 : jCN "MailAgent$Message" 11 M_Re_init "MailAgent" 0 := ⟨List.mem_of_getElem? (i := 5) rfl, w_1_6, w_1_70, by decide +kernel⟩
theorem cn_Me_11v : Cond.instanceMethod M_Re_init.1 ∈ jTG := w_1_69
theorem cn_Ma_60 : jCN "MailAgent" 60 M_De_init "MailAgent" 0 := ⟨List.mem_of_getElem? (i := 6) rfl, w_1_9, w_1_165, by decide +kernel⟩
theorem cn_Ma_60v : Cond.instanceMethod M_De_init.1 ∈ jTG := w_1_164
theorem cn_Qu_33 : jCN "MailAgent$Queue" 33 M_Ma_costOf "MailAgent" 2 := ⟨List.mem_of_getElem? (i := 7) rfl, w_1_1, w_2_81, by decide +kernel⟩
theorem cn_Qu_33v : Cond.static M_Ma_costOf.1 ∈ jTG := w_2_80
end
section
theorem d_Al_init_0 : decode M_Al_init.2.1 0 = .ok (.aload_n 0, 1) := by decide +kernel
theorem d_Al_init_1 : decode M_Al_init.2.1 1 = .ok (.invokespecial 3, 3) := by decide +kernel
theorem d_Al_init_4 : decode M_Al_init.2.1 4 = .ok (.aload_n 0, 1) := by decide +kernel
theorem d_Al_init_5 : decode M_Al_init.2.1 5 = .ok (.bipush 8, 2) := by decide +kernel
theorem d_Al_init_7 : decode M_Al_init.2.1 7 = .ok (.newarray .long, 2) := by decide +kernel
theorem d_Al_init_9 : decode M_Al_init.2.1 9 = .ok (.putfield 9, 3) := by decide +kernel
theorem d_Al_init_12 : decode M_Al_init.2.1 12 = .ok (.return_, 1) := by decide +kernel
theorem d_Al_hasRoomFor_0 : decode M_Al_hasRoomFor.2.1 0 = .ok (.aload_n 0, 1) := by decide +kernel
theorem d_Al_hasRoomFor_1 : decode M_Al_hasRoomFor.2.1 1 = .ok (.getfield 9, 3) := by decide +kernel
theorem d_Al_hasRoomFor_4 : decode M_Al_hasRoomFor.2.1 4 = .ok (.iload_n 1, 1) := by decide +kernel
theorem d_Al_hasRoomFor_5 : decode M_Al_hasRoomFor.2.1 5 = .ok (.laload, 1) := by decide +kernel
theorem d_Al_hasRoomFor_6 : decode M_Al_hasRoomFor.2.1 6 = .ok (.invokestatic 15, 3) := by decide +kernel
theorem d_Al_hasRoomFor_9 : decode M_Al_hasRoomFor.2.1 9 = .ok (.iconst 4, 1) := by decide +kernel
theorem d_Al_hasRoomFor_10 : decode M_Al_hasRoomFor.2.1 10 = .ok (.if_icmp .ge 22, 3) := by decide +kernel
theorem d_Al_hasRoomFor_13 : decode M_Al_hasRoomFor.2.1 13 = .ok (.aload_n 0, 1) := by decide +kernel
theorem d_Al_hasRoomFor_14 : decode M_Al_hasRoomFor.2.1 14 = .ok (.getfield 9, 3) := by decide +kernel
theorem d_Al_hasRoomFor_17 : decode M_Al_hasRoomFor.2.1 17 = .ok (.iload_n 1, 1) := by decide +kernel
theorem d_Al_hasRoomFor_18 : decode M_Al_hasRoomFor.2.1 18 = .ok (.laload, 1) := by decide +kernel
theorem d_Al_hasRoomFor_19 : decode M_Al_hasRoomFor.2.1 19 = .ok (.lconst 1, 1) := by decide +kernel
theorem d_Al_hasRoomFor_20 : decode M_Al_hasRoomFor.2.1 20 = .ok (.iload_n 2, 1) := by decide +kernel
theorem d_Al_hasRoomFor_21 : decode M_Al_hasRoomFor.2.1 21 = .ok (.lshl, 1) := by decide +kernel
theorem d_Al_hasRoomFor_22 : decode M_Al_hasRoomFor.2.1 22 = .ok (.land, 1) := by decide +kernel
theorem d_Al_hasRoomFor_23 : decode M_Al_hasRoomFor.2.1 23 = .ok (.lconst 0, 1) := by decide +kernel
theorem d_Al_hasRoomFor_24 : decode M_Al_hasRoomFor.2.1 24 = .ok (.lcmp, 1) := by decide +kernel
theorem d_Al_hasRoomFor_25 : decode M_Al_hasRoomFor.2.1 25 = .ok (.ifCond .ne 7, 3) := by decide +kernel
theorem d_Al_hasRoomFor_28 : decode M_Al_hasRoomFor.2.1 28 = .ok (.iconst 1, 1) := by decide +kernel
theorem d_Al_hasRoomFor_29 : decode M_Al_hasRoomFor.2.1 29 = .ok (.goto 4, 3) := by decide +kernel
theorem d_Al_hasRoomFor_32 : decode M_Al_hasRoomFor.2.1 32 = .ok (.iconst 0, 1) := by decide +kernel
theorem d_Al_hasRoomFor_33 : decode M_Al_hasRoomFor.2.1 33 = .ok (.ireturn, 1) := by decide +kernel
theorem d_Al_add_0 : decode M_Al_add.2.1 0 = .ok (.aload_n 0, 1) := by decide +kernel
theorem d_Al_add_1 : decode M_Al_add.2.1 1 = .ok (.getfield 9, 3) := by decide +kernel
theorem d_Al_add_4 : decode M_Al_add.2.1 4 = .ok (.iload_n 1, 1) := by decide +kernel
theorem d_Al_add_5 : decode M_Al_add.2.1 5 = .ok (.dup2, 1) := by decide +kernel
theorem d_Al_add_6 : decode M_Al_add.2.1 6 = .ok (.laload, 1) := by decide +kernel
theorem d_Al_add_7 : decode M_Al_add.2.1 7 = .ok (.lconst 1, 1) := by decide +kernel
theorem d_Al_add_8 : decode M_Al_add.2.1 8 = .ok (.iload_n 2, 1) := by decide +kernel
theorem d_Al_add_9 : decode M_Al_add.2.1 9 = .ok (.lshl, 1) := by decide +kernel
theorem d_Al_add_10 : decode M_Al_add.2.1 10 = .ok (.lor, 1) := by decide +kernel
theorem d_Al_add_11 : decode M_Al_add.2.1 11 = .ok (.lastore, 1) := by decide +kernel
theorem d_Al_add_12 : decode M_Al_add.2.1 12 = .ok (.aload_n 0, 1) := by decide +kernel
theorem d_Al_add_13 : decode M_Al_add.2.1 13 = .ok (.getfield 9, 3) := by decide +kernel
theorem d_Al_add_16 : decode M_Al_add.2.1 16 = .ok (.iload_n 1, 1) := by decide +kernel
theorem d_Al_add_17 : decode M_Al_add.2.1 17 = .ok (.laload, 1) := by decide +kernel
theorem d_Al_add_18 : decode M_Al_add.2.1 18 = .ok (.invokestatic 15, 3) := by decide +kernel
theorem d_Al_add_21 : decode M_Al_add.2.1 21 = .ok (.ireturn, 1) := by decide +kernel
theorem d_Al_clear_0 : decode M_Al_clear.2.1 0 = .ok (.aload_n 0, 1) := by decide +kernel
theorem d_Al_clear_1 : decode M_Al_clear.2.1 1 = .ok (.getfield 9, 3) := by decide +kernel
theorem d_Al_clear_4 : decode M_Al_clear.2.1 4 = .ok (.iload_n 1, 1) := by decide +kernel
theorem d_Al_clear_5 : decode M_Al_clear.2.1 5 = .ok (.laload, 1) := by decide +kernel
theorem d_Al_clear_6 : decode M_Al_clear.2.1 6 = .ok (.invokestatic 15, 3) := by decide +kernel
theorem d_Al_clear_9 : decode M_Al_clear.2.1 9 = .ok (.istore_n 2, 1) := by decide +kernel
theorem d_Al_clear_10 : decode M_Al_clear.2.1 10 = .ok (.aload_n 0, 1) := by decide +kernel
theorem d_Al_clear_11 : decode M_Al_clear.2.1 11 = .ok (.getfield 9, 3) := by decide +kernel
theorem d_Al_clear_14 : decode M_Al_clear.2.1 14 = .ok (.iload_n 1, 1) := by decide +kernel
theorem d_Al_clear_15 : decode M_Al_clear.2.1 15 = .ok (.lconst 0, 1) := by decide +kernel
theorem d_Al_clear_16 : decode M_Al_clear.2.1 16 = .ok (.lastore, 1) := by decide +kernel
theorem d_Al_clear_17 : decode M_Al_clear.2.1 17 = .ok (.iload_n 2, 1) := by decide +kernel
theorem d_Al_clear_18 : decode M_Al_clear.2.1 18 = .ok (.ireturn, 1) := by decide +kernel
theorem d_Al_finalsOf_0 : decode M_Al_finalsOf.2.1 0 = .ok (.aload_n 0, 1) := by decide +kernel
theorem d_Al_finalsOf_1 : decode M_Al_finalsOf.2.1 1 = .ok (.iload_n 1, 1) := by decide +kernel
theorem d_Al_finalsOf_2 : decode M_Al_finalsOf.2.1 2 = .ok (.invokevirtual 21, 3) := by decide +kernel
theorem d_Al_finalsOf_5 : decode M_Al_finalsOf.2.1 5 = .ok (.lstore_n 2, 1) := by decide +kernel
theorem d_Al_finalsOf_6 : decode M_Al_finalsOf.2.1 6 = .ok (.iconst 0, 1) := by decide +kernel
theorem d_Al_finalsOf_7 : decode M_Al_finalsOf.2.1 7 = .ok (.istore 4, 2) := by decide +kernel
theorem d_Al_finalsOf_9 : decode M_Al_finalsOf.2.1 9 = .ok (.iload 4, 2) := by decide +kernel
theorem d_Al_finalsOf_11 : decode M_Al_finalsOf.2.1 11 = .ok (.bipush 8, 2) := by decide +kernel
theorem d_Al_finalsOf_13 : decode M_Al_finalsOf.2.1 13 = .ok (.if_icmp .ge 32, 3) := by decide +kernel
theorem d_Al_finalsOf_16 : decode M_Al_finalsOf.2.1 16 = .ok (.aload_n 0, 1) := by decide +kernel
theorem d_Al_finalsOf_17 : decode M_Al_finalsOf.2.1 17 = .ok (.getfield 9, 3) := by decide +kernel
theorem d_Al_finalsOf_20 : decode M_Al_finalsOf.2.1 20 = .ok (.iload 4, 2) := by decide +kernel
theorem d_Al_finalsOf_22 : decode M_Al_finalsOf.2.1 22 = .ok (.laload, 1) := by decide +kernel
theorem d_Al_finalsOf_23 : decode M_Al_finalsOf.2.1 23 = .ok (.lconst 0, 1) := by decide +kernel
theorem d_Al_finalsOf_24 : decode M_Al_finalsOf.2.1 24 = .ok (.lcmp, 1) := by decide +kernel
theorem d_Al_finalsOf_25 : decode M_Al_finalsOf.2.1 25 = .ok (.ifCond .eq 14, 3) := by decide +kernel
theorem d_Al_finalsOf_28 : decode M_Al_finalsOf.2.1 28 = .ok (.lload_n 2, 1) := by decide +kernel
theorem d_Al_finalsOf_29 : decode M_Al_finalsOf.2.1 29 = .ok (.lconst 1, 1) := by decide +kernel
theorem d_Al_finalsOf_30 : decode M_Al_finalsOf.2.1 30 = .ok (.iload 4, 2) := by decide +kernel
theorem d_Al_finalsOf_32 : decode M_Al_finalsOf.2.1 32 = .ok (.lshl, 1) := by decide +kernel
theorem d_Al_finalsOf_33 : decode M_Al_finalsOf.2.1 33 = .ok (.ldc2_w 25, 3) := by decide +kernel
theorem d_Al_finalsOf_36 : decode M_Al_finalsOf.2.1 36 = .ok (.lxor, 1) := by decide +kernel
theorem d_Al_finalsOf_37 : decode M_Al_finalsOf.2.1 37 = .ok (.land, 1) := by decide +kernel
theorem d_Al_finalsOf_38 : decode M_Al_finalsOf.2.1 38 = .ok (.lstore_n 2, 1) := by decide +kernel
theorem d_Al_finalsOf_39 : decode M_Al_finalsOf.2.1 39 = .ok (.iinc 4 1, 3) := by decide +kernel
theorem d_Al_finalsOf_42 : decode M_Al_finalsOf.2.1 42 = .ok (.goto (-33), 3) := by decide +kernel
theorem d_Al_finalsOf_45 : decode M_Al_finalsOf.2.1 45 = .ok (.lload_n 2, 1) := by decide +kernel
theorem d_Al_finalsOf_46 : decode M_Al_finalsOf.2.1 46 = .ok (.lreturn, 1) := by decide +kernel
theorem d_Al_reachedFrom_0 : decode M_Al_reachedFrom.2.1 0 = .ok (.lconst 1, 1) := by decide +kernel
theorem d_Al_reachedFrom_1 : decode M_Al_reachedFrom.2.1 1 = .ok (.iload_n 1, 1) := by decide +kernel
theorem d_Al_reachedFrom_2 : decode M_Al_reachedFrom.2.1 2 = .ok (.lshl, 1) := by decide +kernel
theorem d_Al_reachedFrom_3 : decode M_Al_reachedFrom.2.1 3 = .ok (.lstore_n 2, 1) := by decide +kernel
theorem d_Al_reachedFrom_4 : decode M_Al_reachedFrom.2.1 4 = .ok (.iconst 0, 1) := by decide +kernel
theorem d_Al_reachedFrom_5 : decode M_Al_reachedFrom.2.1 5 = .ok (.istore 4, 2) := by decide +kernel
theorem d_Al_reachedFrom_7 : decode M_Al_reachedFrom.2.1 7 = .ok (.iload 4, 2) := by decide +kernel
theorem d_Al_reachedFrom_9 : decode M_Al_reachedFrom.2.1 9 = .ok (.bipush 8, 2) := by decide +kernel
theorem d_Al_reachedFrom_11 : decode M_Al_reachedFrom.2.1 11 = .ok (.if_icmp .ge 46, 3) := by decide +kernel
theorem d_Al_reachedFrom_14 : decode M_Al_reachedFrom.2.1 14 = .ok (.iconst 0, 1) := by decide +kernel
theorem d_Al_reachedFrom_15 : decode M_Al_reachedFrom.2.1 15 = .ok (.istore 5, 2) := by decide +kernel
theorem d_Al_reachedFrom_17 : decode M_Al_reachedFrom.2.1 17 = .ok (.iload 5, 2) := by decide +kernel
theorem d_Al_reachedFrom_19 : decode M_Al_reachedFrom.2.1 19 = .ok (.bipush 8, 2) := by decide +kernel
theorem d_Al_reachedFrom_21 : decode M_Al_reachedFrom.2.1 21 = .ok (.if_icmp .ge 30, 3) := by decide +kernel
theorem d_Al_reachedFrom_24 : decode M_Al_reachedFrom.2.1 24 = .ok (.lload_n 2, 1) := by decide +kernel
theorem d_Al_reachedFrom_25 : decode M_Al_reachedFrom.2.1 25 = .ok (.lconst 1, 1) := by decide +kernel
theorem d_Al_reachedFrom_26 : decode M_Al_reachedFrom.2.1 26 = .ok (.iload 5, 2) := by decide +kernel
theorem d_Al_reachedFrom_28 : decode M_Al_reachedFrom.2.1 28 = .ok (.lshl, 1) := by decide +kernel
theorem d_Al_reachedFrom_29 : decode M_Al_reachedFrom.2.1 29 = .ok (.land, 1) := by decide +kernel
theorem d_Al_reachedFrom_30 : decode M_Al_reachedFrom.2.1 30 = .ok (.lconst 0, 1) := by decide +kernel
theorem d_Al_reachedFrom_31 : decode M_Al_reachedFrom.2.1 31 = .ok (.lcmp, 1) := by decide +kernel
theorem d_Al_reachedFrom_32 : decode M_Al_reachedFrom.2.1 32 = .ok (.ifCond .eq 13, 3) := by decide +kernel
theorem d_Al_reachedFrom_35 : decode M_Al_reachedFrom.2.1 35 = .ok (.lload_n 2, 1) := by decide +kernel
theorem d_Al_reachedFrom_36 : decode M_Al_reachedFrom.2.1 36 = .ok (.aload_n 0, 1) := by decide +kernel
theorem d_Al_reachedFrom_37 : decode M_Al_reachedFrom.2.1 37 = .ok (.getfield 9, 3) := by decide +kernel
theorem d_Al_reachedFrom_40 : decode M_Al_reachedFrom.2.1 40 = .ok (.iload 5, 2) := by decide +kernel
theorem d_Al_reachedFrom_42 : decode M_Al_reachedFrom.2.1 42 = .ok (.laload, 1) := by decide +kernel
theorem d_Al_reachedFrom_43 : decode M_Al_reachedFrom.2.1 43 = .ok (.lor, 1) := by decide +kernel
theorem d_Al_reachedFrom_44 : decode M_Al_reachedFrom.2.1 44 = .ok (.lstore_n 2, 1) := by decide +kernel
theorem d_Al_reachedFrom_45 : decode M_Al_reachedFrom.2.1 45 = .ok (.iinc 5 1, 3) := by decide +kernel
theorem d_Al_reachedFrom_48 : decode M_Al_reachedFrom.2.1 48 = .ok (.goto (-31), 3) := by decide +kernel
theorem d_Al_reachedFrom_51 : decode M_Al_reachedFrom.2.1 51 = .ok (.iinc 4 1, 3) := by decide +kernel
theorem d_Al_reachedFrom_54 : decode M_Al_reachedFrom.2.1 54 = .ok (.goto (-47), 3) := by decide +kernel
theorem d_Al_reachedFrom_57 : decode M_Al_reachedFrom.2.1 57 = .ok (.lload_n 2, 1) := by decide +kernel
theorem d_Al_reachedFrom_58 : decode M_Al_reachedFrom.2.1 58 = .ok (.lreturn, 1) := by decide +kernel
theorem d_De_init_0 : decode M_De_init.2.1 0 = .ok (.aload_n 0, 1) := by decide +kernel
theorem d_De_init_1 : decode M_De_init.2.1 1 = .ok (.invokespecial 3, 3) := by decide +kernel
theorem d_De_init_4 : decode M_De_init.2.1 4 = .ok (.aload_n 0, 1) := by decide +kernel
theorem d_De_init_5 : decode M_De_init.2.1 5 = .ok (.bipush 64, 2) := by decide +kernel
theorem d_De_init_7 : decode M_De_init.2.1 7 = .ok (.newarray .int, 2) := by decide +kernel
theorem d_De_init_9 : decode M_De_init.2.1 9 = .ok (.putfield 9, 3) := by decide +kernel
theorem d_De_init_12 : decode M_De_init.2.1 12 = .ok (.aload_n 0, 1) := by decide +kernel
theorem d_De_init_13 : decode M_De_init.2.1 13 = .ok (.bipush 64, 2) := by decide +kernel
theorem d_De_init_15 : decode M_De_init.2.1 15 = .ok (.newarray .int, 2) := by decide +kernel
theorem d_De_init_17 : decode M_De_init.2.1 17 = .ok (.putfield 15, 3) := by decide +kernel
theorem d_De_init_20 : decode M_De_init.2.1 20 = .ok (.aload_n 0, 1) := by decide +kernel
theorem d_De_init_21 : decode M_De_init.2.1 21 = .ok (.bipush 64, 2) := by decide +kernel
theorem d_De_init_23 : decode M_De_init.2.1 23 = .ok (.newarray .int, 2) := by decide +kernel
theorem d_De_init_25 : decode M_De_init.2.1 25 = .ok (.putfield 18, 3) := by decide +kernel
theorem d_De_init_28 : decode M_De_init.2.1 28 = .ok (.aload_n 0, 1) := by decide +kernel
theorem d_De_init_29 : decode M_De_init.2.1 29 = .ok (.bipush 8, 2) := by decide +kernel
theorem d_De_init_31 : decode M_De_init.2.1 31 = .ok (.newarray .int, 2) := by decide +kernel
theorem d_De_init_33 : decode M_De_init.2.1 33 = .ok (.putfield 21, 3) := by decide +kernel
theorem d_De_init_36 : decode M_De_init.2.1 36 = .ok (.return_, 1) := by decide +kernel
theorem d_De_note_0 : decode M_De_note.2.1 0 = .ok (.aload_n 2, 1) := by decide +kernel
theorem d_De_note_1 : decode M_De_note.2.1 1 = .ok (.getfield 24, 3) := by decide +kernel
theorem d_De_note_4 : decode M_De_note.2.1 4 = .ok (.ifCond .eq 16, 3) := by decide +kernel
theorem d_De_note_7 : decode M_De_note.2.1 7 = .ok (.aload_n 0, 1) := by decide +kernel
theorem d_De_note_8 : decode M_De_note.2.1 8 = .ok (.getfield 15, 3) := by decide +kernel
theorem d_De_note_11 : decode M_De_note.2.1 11 = .ok (.iload_n 1, 1) := by decide +kernel
theorem d_De_note_12 : decode M_De_note.2.1 12 = .ok (.dup2, 1) := by decide +kernel
theorem d_De_note_13 : decode M_De_note.2.1 13 = .ok (.iaload, 1) := by decide +kernel
theorem d_De_note_14 : decode M_De_note.2.1 14 = .ok (.iconst 1, 1) := by decide +kernel
theorem d_De_note_15 : decode M_De_note.2.1 15 = .ok (.iadd, 1) := by decide +kernel
theorem d_De_note_16 : decode M_De_note.2.1 16 = .ok (.iastore, 1) := by decide +kernel
theorem d_De_note_17 : decode M_De_note.2.1 17 = .ok (.goto 13, 3) := by decide +kernel
theorem d_De_note_20 : decode M_De_note.2.1 20 = .ok (.aload_n 0, 1) := by decide +kernel
theorem d_De_note_21 : decode M_De_note.2.1 21 = .ok (.getfield 9, 3) := by decide +kernel
theorem d_De_note_24 : decode M_De_note.2.1 24 = .ok (.iload_n 1, 1) := by decide +kernel
theorem d_De_note_25 : decode M_De_note.2.1 25 = .ok (.dup2, 1) := by decide +kernel
theorem d_De_note_26 : decode M_De_note.2.1 26 = .ok (.iaload, 1) := by decide +kernel
theorem d_De_note_27 : decode M_De_note.2.1 27 = .ok (.iconst 1, 1) := by decide +kernel
theorem d_De_note_28 : decode M_De_note.2.1 28 = .ok (.iadd, 1) := by decide +kernel
theorem d_De_note_29 : decode M_De_note.2.1 29 = .ok (.iastore, 1) := by decide +kernel
theorem d_De_note_30 : decode M_De_note.2.1 30 = .ok (.aload_n 0, 1) := by decide +kernel
theorem d_De_note_31 : decode M_De_note.2.1 31 = .ok (.getfield 18, 3) := by decide +kernel
theorem d_De_note_34 : decode M_De_note.2.1 34 = .ok (.iload_n 1, 1) := by decide +kernel
theorem d_De_note_35 : decode M_De_note.2.1 35 = .ok (.aload_n 2, 1) := by decide +kernel
theorem d_De_note_36 : decode M_De_note.2.1 36 = .ok (.getfield 30, 3) := by decide +kernel
theorem d_De_note_39 : decode M_De_note.2.1 39 = .ok (.iastore, 1) := by decide +kernel
theorem d_De_note_40 : decode M_De_note.2.1 40 = .ok (.return_, 1) := by decide +kernel
theorem d_Me_init_0 : decode M_Me_init.2.1 0 = .ok (.aload_n 0, 1) := by decide +kernel
theorem d_Me_init_1 : decode M_Me_init.2.1 1 = .ok (.invokespecial 3, 3) := by decide +kernel
theorem d_Me_init_4 : decode M_Me_init.2.1 4 = .ok (.aload_n 0, 1) := by decide +kernel
theorem d_Me_init_5 : decode M_Me_init.2.1 5 = .ok (.new 9, 3) := by decide +kernel
theorem d_Me_init_8 : decode M_Me_init.2.1 8 = .ok (.dup, 1) := by decide +kernel
theorem d_Me_init_9 : decode M_Me_init.2.1 9 = .ok (.invokespecial 11, 3) := by decide +kernel
theorem d_Me_init_12 : decode M_Me_init.2.1 12 = .ok (.putfield 12, 3) := by decide +kernel
theorem d_Me_init_15 : decode M_Me_init.2.1 15 = .ok (.return_, 1) := by decide +kernel
theorem d_Me_accept_0 : decode M_Me_accept.2.1 0 = .ok (.aload_n 0, 1) := by decide +kernel
theorem d_Me_accept_1 : decode M_Me_accept.2.1 1 = .ok (.iload_n 1, 1) := by decide +kernel
theorem d_Me_accept_2 : decode M_Me_accept.2.1 2 = .ok (.putfield 18, 3) := by decide +kernel
theorem d_Me_accept_5 : decode M_Me_accept.2.1 5 = .ok (.aload_n 0, 1) := by decide +kernel
theorem d_Me_accept_6 : decode M_Me_accept.2.1 6 = .ok (.aload_n 3, 1) := by decide +kernel
theorem d_Me_accept_7 : decode M_Me_accept.2.1 7 = .ok (.getfield 22, 3) := by decide +kernel
theorem d_Me_accept_10 : decode M_Me_accept.2.1 10 = .ok (.putfield 27, 3) := by decide +kernel
theorem d_Me_accept_13 : decode M_Me_accept.2.1 13 = .ok (.aload_n 0, 1) := by decide +kernel
theorem d_Me_accept_14 : decode M_Me_accept.2.1 14 = .ok (.iload_n 2, 1) := by decide +kernel
theorem d_Me_accept_15 : decode M_Me_accept.2.1 15 = .ok (.putfield 28, 3) := by decide +kernel
theorem d_Me_accept_18 : decode M_Me_accept.2.1 18 = .ok (.aload_n 0, 1) := by decide +kernel
theorem d_Me_accept_19 : decode M_Me_accept.2.1 19 = .ok (.iconst 0, 1) := by decide +kernel
theorem d_Me_accept_20 : decode M_Me_accept.2.1 20 = .ok (.putfield 31, 3) := by decide +kernel
theorem d_Me_accept_23 : decode M_Me_accept.2.1 23 = .ok (.aload_n 0, 1) := by decide +kernel
theorem d_Me_accept_24 : decode M_Me_accept.2.1 24 = .ok (.getfield 12, 3) := by decide +kernel
theorem d_Me_accept_27 : decode M_Me_accept.2.1 27 = .ok (.aload_n 3, 1) := by decide +kernel
theorem d_Me_accept_28 : decode M_Me_accept.2.1 28 = .ok (.getfield 35, 3) := by decide +kernel
theorem d_Me_accept_31 : decode M_Me_accept.2.1 31 = .ok (.invokevirtual 36, 3) := by decide +kernel
theorem d_Me_accept_34 : decode M_Me_accept.2.1 34 = .ok (.return_, 1) := by decide +kernel
theorem d_Me_schedule_0 : decode M_Me_schedule.2.1 0 = .ok (.aload_n 0, 1) := by decide +kernel
theorem d_Me_schedule_1 : decode M_Me_schedule.2.1 1 = .ok (.iload_n 1, 1) := by decide +kernel
theorem d_Me_schedule_2 : decode M_Me_schedule.2.1 2 = .ok (.putfield 40, 3) := by decide +kernel
theorem d_Me_schedule_5 : decode M_Me_schedule.2.1 5 = .ok (.aload_n 0, 1) := by decide +kernel
theorem d_Me_schedule_6 : decode M_Me_schedule.2.1 6 = .ok (.iload_n 1, 1) := by decide +kernel
theorem d_Me_schedule_7 : decode M_Me_schedule.2.1 7 = .ok (.putfield 43, 3) := by decide +kernel
theorem d_Me_schedule_10 : decode M_Me_schedule.2.1 10 = .ok (.aload_n 0, 1) := by decide +kernel
theorem d_Me_schedule_11 : decode M_Me_schedule.2.1 11 = .ok (.iload_n 2, 1) := by decide +kernel
theorem d_Me_schedule_12 : decode M_Me_schedule.2.1 12 = .ok (.putfield 46, 3) := by decide +kernel
theorem d_Me_schedule_15 : decode M_Me_schedule.2.1 15 = .ok (.return_, 1) := by decide +kernel
theorem d_Me_putOff_0 : decode M_Me_putOff.2.1 0 = .ok (.aload_n 0, 1) := by decide +kernel
theorem d_Me_putOff_1 : decode M_Me_putOff.2.1 1 = .ok (.iload_n 1, 1) := by decide +kernel
theorem d_Me_putOff_2 : decode M_Me_putOff.2.1 2 = .ok (.aload_n 0, 1) := by decide +kernel
theorem d_Me_putOff_3 : decode M_Me_putOff.2.1 3 = .ok (.getfield 46, 3) := by decide +kernel
theorem d_Me_putOff_6 : decode M_Me_putOff.2.1 6 = .ok (.iadd, 1) := by decide +kernel
theorem d_Me_putOff_7 : decode M_Me_putOff.2.1 7 = .ok (.putfield 43, 3) := by decide +kernel
theorem d_Me_putOff_10 : decode M_Me_putOff.2.1 10 = .ok (.aload_n 0, 1) := by decide +kernel
theorem d_Me_putOff_11 : decode M_Me_putOff.2.1 11 = .ok (.aload_n 0, 1) := by decide +kernel
theorem d_Me_putOff_12 : decode M_Me_putOff.2.1 12 = .ok (.getfield 46, 3) := by decide +kernel
theorem d_Me_putOff_15 : decode M_Me_putOff.2.1 15 = .ok (.iconst 2, 1) := by decide +kernel
theorem d_Me_putOff_16 : decode M_Me_putOff.2.1 16 = .ok (.imul, 1) := by decide +kernel
theorem d_Me_putOff_17 : decode M_Me_putOff.2.1 17 = .ok (.iload_n 2, 1) := by decide +kernel
theorem d_Me_putOff_18 : decode M_Me_putOff.2.1 18 = .ok (.invokestatic 49, 3) := by decide +kernel
theorem d_Me_putOff_21 : decode M_Me_putOff.2.1 21 = .ok (.putfield 46, 3) := by decide +kernel
theorem d_Me_putOff_24 : decode M_Me_putOff.2.1 24 = .ok (.return_, 1) := by decide +kernel
theorem d_Me_becomeReport_0 : decode M_Me_becomeReport.2.1 0 = .ok (.aload_n 0, 1) := by decide +kernel
theorem d_Me_becomeReport_1 : decode M_Me_becomeReport.2.1 1 = .ok (.getfield 12, 3) := by decide +kernel
theorem d_Me_becomeReport_4 : decode M_Me_becomeReport.2.1 4 = .ok (.iconst 0, 1) := by decide +kernel
theorem d_Me_becomeReport_5 : decode M_Me_becomeReport.2.1 5 = .ok (.putfield 55, 3) := by decide +kernel
theorem d_Me_becomeReport_8 : decode M_Me_becomeReport.2.1 8 = .ok (.aload_n 0, 1) := by decide +kernel
theorem d_Me_becomeReport_9 : decode M_Me_becomeReport.2.1 9 = .ok (.getfield 12, 3) := by decide +kernel
theorem d_Me_becomeReport_12 : decode M_Me_becomeReport.2.1 12 = .ok (.aload_n 0, 1) := by decide +kernel
theorem d_Me_becomeReport_13 : decode M_Me_becomeReport.2.1 13 = .ok (.getfield 27, 3) := by decide +kernel
theorem d_Me_becomeReport_16 : decode M_Me_becomeReport.2.1 16 = .ok (.invokevirtual 56, 3) := by decide +kernel
theorem d_Me_becomeReport_19 : decode M_Me_becomeReport.2.1 19 = .ok (.aload_n 0, 1) := by decide +kernel
theorem d_Me_becomeReport_20 : decode M_Me_becomeReport.2.1 20 = .ok (.iconst (-1), 1) := by decide +kernel
theorem d_Me_becomeReport_21 : decode M_Me_becomeReport.2.1 21 = .ok (.putfield 27, 3) := by decide +kernel
theorem d_Me_becomeReport_24 : decode M_Me_becomeReport.2.1 24 = .ok (.aload_n 0, 1) := by decide +kernel
theorem d_Me_becomeReport_25 : decode M_Me_becomeReport.2.1 25 = .ok (.iconst 0, 1) := by decide +kernel
theorem d_Me_becomeReport_26 : decode M_Me_becomeReport.2.1 26 = .ok (.putfield 28, 3) := by decide +kernel
theorem d_Me_becomeReport_29 : decode M_Me_becomeReport.2.1 29 = .ok (.aload_n 0, 1) := by decide +kernel
theorem d_Me_becomeReport_30 : decode M_Me_becomeReport.2.1 30 = .ok (.iconst 1, 1) := by decide +kernel
theorem d_Me_becomeReport_31 : decode M_Me_becomeReport.2.1 31 = .ok (.putfield 31, 3) := by decide +kernel
theorem d_Me_becomeReport_34 : decode M_Me_becomeReport.2.1 34 = .ok (.return_, 1) := by decide +kernel
theorem d_Me_copyFrom_0 : decode M_Me_copyFrom.2.1 0 = .ok (.aload_n 0, 1) := by decide +kernel
theorem d_Me_copyFrom_1 : decode M_Me_copyFrom.2.1 1 = .ok (.aload_n 1, 1) := by decide +kernel
theorem d_Me_copyFrom_2 : decode M_Me_copyFrom.2.1 2 = .ok (.getfield 18, 3) := by decide +kernel
theorem d_Me_copyFrom_5 : decode M_Me_copyFrom.2.1 5 = .ok (.putfield 18, 3) := by decide +kernel
theorem d_Me_copyFrom_8 : decode M_Me_copyFrom.2.1 8 = .ok (.aload_n 0, 1) := by decide +kernel
theorem d_Me_copyFrom_9 : decode M_Me_copyFrom.2.1 9 = .ok (.aload_n 1, 1) := by decide +kernel
theorem d_Me_copyFrom_10 : decode M_Me_copyFrom.2.1 10 = .ok (.getfield 27, 3) := by decide +kernel
theorem d_Me_copyFrom_13 : decode M_Me_copyFrom.2.1 13 = .ok (.putfield 27, 3) := by decide +kernel
theorem d_Me_copyFrom_16 : decode M_Me_copyFrom.2.1 16 = .ok (.aload_n 0, 1) := by decide +kernel
theorem d_Me_copyFrom_17 : decode M_Me_copyFrom.2.1 17 = .ok (.aload_n 1, 1) := by decide +kernel
theorem d_Me_copyFrom_18 : decode M_Me_copyFrom.2.1 18 = .ok (.getfield 28, 3) := by decide +kernel
theorem d_Me_copyFrom_21 : decode M_Me_copyFrom.2.1 21 = .ok (.putfield 28, 3) := by decide +kernel
theorem d_Me_copyFrom_24 : decode M_Me_copyFrom.2.1 24 = .ok (.aload_n 0, 1) := by decide +kernel
theorem d_Me_copyFrom_25 : decode M_Me_copyFrom.2.1 25 = .ok (.aload_n 1, 1) := by decide +kernel
theorem d_Me_copyFrom_26 : decode M_Me_copyFrom.2.1 26 = .ok (.getfield 40, 3) := by decide +kernel
theorem d_Me_copyFrom_29 : decode M_Me_copyFrom.2.1 29 = .ok (.putfield 40, 3) := by decide +kernel
theorem d_Me_copyFrom_32 : decode M_Me_copyFrom.2.1 32 = .ok (.aload_n 0, 1) := by decide +kernel
theorem d_Me_copyFrom_33 : decode M_Me_copyFrom.2.1 33 = .ok (.aload_n 1, 1) := by decide +kernel
theorem d_Me_copyFrom_34 : decode M_Me_copyFrom.2.1 34 = .ok (.getfield 43, 3) := by decide +kernel
theorem d_Me_copyFrom_37 : decode M_Me_copyFrom.2.1 37 = .ok (.putfield 43, 3) := by decide +kernel
theorem d_Me_copyFrom_40 : decode M_Me_copyFrom.2.1 40 = .ok (.aload_n 0, 1) := by decide +kernel
theorem d_Me_copyFrom_41 : decode M_Me_copyFrom.2.1 41 = .ok (.aload_n 1, 1) := by decide +kernel
theorem d_Me_copyFrom_42 : decode M_Me_copyFrom.2.1 42 = .ok (.getfield 46, 3) := by decide +kernel
theorem d_Me_copyFrom_45 : decode M_Me_copyFrom.2.1 45 = .ok (.putfield 46, 3) := by decide +kernel
theorem d_Me_copyFrom_48 : decode M_Me_copyFrom.2.1 48 = .ok (.aload_n 0, 1) := by decide +kernel
theorem d_Me_copyFrom_49 : decode M_Me_copyFrom.2.1 49 = .ok (.aload_n 1, 1) := by decide +kernel
theorem d_Me_copyFrom_50 : decode M_Me_copyFrom.2.1 50 = .ok (.getfield 31, 3) := by decide +kernel
theorem d_Me_copyFrom_53 : decode M_Me_copyFrom.2.1 53 = .ok (.putfield 31, 3) := by decide +kernel
theorem d_Me_copyFrom_56 : decode M_Me_copyFrom.2.1 56 = .ok (.aload_n 0, 1) := by decide +kernel
theorem d_Me_copyFrom_57 : decode M_Me_copyFrom.2.1 57 = .ok (.getfield 12, 3) := by decide +kernel
theorem d_Me_copyFrom_60 : decode M_Me_copyFrom.2.1 60 = .ok (.aload_n 1, 1) := by decide +kernel
theorem d_Me_copyFrom_61 : decode M_Me_copyFrom.2.1 61 = .ok (.getfield 12, 3) := by decide +kernel
theorem d_Me_copyFrom_64 : decode M_Me_copyFrom.2.1 64 = .ok (.invokevirtual 36, 3) := by decide +kernel
theorem d_Me_copyFrom_67 : decode M_Me_copyFrom.2.1 67 = .ok (.return_, 1) := by decide +kernel
theorem d_Qu_init_0 : decode M_Qu_init.2.1 0 = .ok (.aload_n 0, 1) := by decide +kernel
theorem d_Qu_init_1 : decode M_Qu_init.2.1 1 = .ok (.invokespecial 3, 3) := by decide +kernel
theorem d_Qu_init_4 : decode M_Qu_init.2.1 4 = .ok (.aload_n 0, 1) := by decide +kernel
theorem d_Qu_init_5 : decode M_Qu_init.2.1 5 = .ok (.bipush 6, 2) := by decide +kernel
theorem d_Qu_init_7 : decode M_Qu_init.2.1 7 = .ok (.anewarray 9, 3) := by decide +kernel
theorem d_Qu_init_10 : decode M_Qu_init.2.1 10 = .ok (.putfield 11, 3) := by decide +kernel
theorem d_Qu_init_13 : decode M_Qu_init.2.1 13 = .ok (.aload_n 0, 1) := by decide +kernel
theorem d_Qu_init_14 : decode M_Qu_init.2.1 14 = .ok (.iconst 0, 1) := by decide +kernel
theorem d_Qu_init_15 : decode M_Qu_init.2.1 15 = .ok (.putfield 17, 3) := by decide +kernel
theorem d_Qu_init_18 : decode M_Qu_init.2.1 18 = .ok (.iconst 0, 1) := by decide +kernel
theorem d_Qu_init_19 : decode M_Qu_init.2.1 19 = .ok (.istore_n 1, 1) := by decide +kernel
theorem d_Qu_init_20 : decode M_Qu_init.2.1 20 = .ok (.iload_n 1, 1) := by decide +kernel
theorem d_Qu_init_21 : decode M_Qu_init.2.1 21 = .ok (.bipush 6, 2) := by decide +kernel
theorem d_Qu_init_23 : decode M_Qu_init.2.1 23 = .ok (.if_icmp .ge 22, 3) := by decide +kernel
theorem d_Qu_init_26 : decode M_Qu_init.2.1 26 = .ok (.aload_n 0, 1) := by decide +kernel
theorem d_Qu_init_27 : decode M_Qu_init.2.1 27 = .ok (.getfield 11, 3) := by decide +kernel
theorem d_Qu_init_30 : decode M_Qu_init.2.1 30 = .ok (.iload_n 1, 1) := by decide +kernel
theorem d_Qu_init_31 : decode M_Qu_init.2.1 31 = .ok (.new 9, 3) := by decide +kernel
theorem d_Qu_init_34 : decode M_Qu_init.2.1 34 = .ok (.dup, 1) := by decide +kernel
theorem d_Qu_init_35 : decode M_Qu_init.2.1 35 = .ok (.invokespecial 21, 3) := by decide +kernel
theorem d_Qu_init_38 : decode M_Qu_init.2.1 38 = .ok (.aastore, 1) := by decide +kernel
theorem d_Qu_init_39 : decode M_Qu_init.2.1 39 = .ok (.iinc 1 1, 3) := by decide +kernel
theorem d_Qu_init_42 : decode M_Qu_init.2.1 42 = .ok (.goto (-22), 3) := by decide +kernel
theorem d_Qu_init_45 : decode M_Qu_init.2.1 45 = .ok (.return_, 1) := by decide +kernel
theorem d_Qu_addSpare_0 : decode M_Qu_addSpare.2.1 0 = .ok (.aload_n 0, 1) := by decide +kernel
theorem d_Qu_addSpare_1 : decode M_Qu_addSpare.2.1 1 = .ok (.getfield 11, 3) := by decide +kernel
theorem d_Qu_addSpare_4 : decode M_Qu_addSpare.2.1 4 = .ok (.aload_n 0, 1) := by decide +kernel
theorem d_Qu_addSpare_5 : decode M_Qu_addSpare.2.1 5 = .ok (.getfield 17, 3) := by decide +kernel
theorem d_Qu_addSpare_8 : decode M_Qu_addSpare.2.1 8 = .ok (.aaload, 1) := by decide +kernel
theorem d_Qu_addSpare_9 : decode M_Qu_addSpare.2.1 9 = .ok (.astore_n 1, 1) := by decide +kernel
theorem d_Qu_addSpare_10 : decode M_Qu_addSpare.2.1 10 = .ok (.aload_n 0, 1) := by decide +kernel
theorem d_Qu_addSpare_11 : decode M_Qu_addSpare.2.1 11 = .ok (.dup, 1) := by decide +kernel
theorem d_Qu_addSpare_12 : decode M_Qu_addSpare.2.1 12 = .ok (.getfield 17, 3) := by decide +kernel
theorem d_Qu_addSpare_15 : decode M_Qu_addSpare.2.1 15 = .ok (.iconst 1, 1) := by decide +kernel
theorem d_Qu_addSpare_16 : decode M_Qu_addSpare.2.1 16 = .ok (.iadd, 1) := by decide +kernel
theorem d_Qu_addSpare_17 : decode M_Qu_addSpare.2.1 17 = .ok (.putfield 17, 3) := by decide +kernel
theorem d_Qu_addSpare_20 : decode M_Qu_addSpare.2.1 20 = .ok (.aload_n 1, 1) := by decide +kernel
theorem d_Qu_addSpare_21 : decode M_Qu_addSpare.2.1 21 = .ok (.areturn, 1) := by decide +kernel
theorem d_Qu_removeAt_0 : decode M_Qu_removeAt.2.1 0 = .ok (.aload_n 0, 1) := by decide +kernel
theorem d_Qu_removeAt_1 : decode M_Qu_removeAt.2.1 1 = .ok (.getfield 11, 3) := by decide +kernel
theorem d_Qu_removeAt_4 : decode M_Qu_removeAt.2.1 4 = .ok (.iload_n 1, 1) := by decide +kernel
theorem d_Qu_removeAt_5 : decode M_Qu_removeAt.2.1 5 = .ok (.aaload, 1) := by decide +kernel
theorem d_Qu_removeAt_6 : decode M_Qu_removeAt.2.1 6 = .ok (.astore_n 2, 1) := by decide +kernel
theorem d_Qu_removeAt_7 : decode M_Qu_removeAt.2.1 7 = .ok (.iload_n 1, 1) := by decide +kernel
theorem d_Qu_removeAt_8 : decode M_Qu_removeAt.2.1 8 = .ok (.istore_n 3, 1) := by decide +kernel
theorem d_Qu_removeAt_9 : decode M_Qu_removeAt.2.1 9 = .ok (.iload_n 3, 1) := by decide +kernel
theorem d_Qu_removeAt_10 : decode M_Qu_removeAt.2.1 10 = .ok (.aload_n 0, 1) := by decide +kernel
theorem d_Qu_removeAt_11 : decode M_Qu_removeAt.2.1 11 = .ok (.getfield 17, 3) := by decide +kernel
theorem d_Qu_removeAt_14 : decode M_Qu_removeAt.2.1 14 = .ok (.iconst 1, 1) := by decide +kernel
theorem d_Qu_removeAt_15 : decode M_Qu_removeAt.2.1 15 = .ok (.isub, 1) := by decide +kernel
theorem d_Qu_removeAt_16 : decode M_Qu_removeAt.2.1 16 = .ok (.if_icmp .ge 23, 3) := by decide +kernel
theorem d_Qu_removeAt_19 : decode M_Qu_removeAt.2.1 19 = .ok (.aload_n 0, 1) := by decide +kernel
theorem d_Qu_removeAt_20 : decode M_Qu_removeAt.2.1 20 = .ok (.getfield 11, 3) := by decide +kernel
theorem d_Qu_removeAt_23 : decode M_Qu_removeAt.2.1 23 = .ok (.iload_n 3, 1) := by decide +kernel
theorem d_Qu_removeAt_24 : decode M_Qu_removeAt.2.1 24 = .ok (.aload_n 0, 1) := by decide +kernel
theorem d_Qu_removeAt_25 : decode M_Qu_removeAt.2.1 25 = .ok (.getfield 11, 3) := by decide +kernel
theorem d_Qu_removeAt_28 : decode M_Qu_removeAt.2.1 28 = .ok (.iload_n 3, 1) := by decide +kernel
theorem d_Qu_removeAt_29 : decode M_Qu_removeAt.2.1 29 = .ok (.iconst 1, 1) := by decide +kernel
theorem d_Qu_removeAt_30 : decode M_Qu_removeAt.2.1 30 = .ok (.iadd, 1) := by decide +kernel
theorem d_Qu_removeAt_31 : decode M_Qu_removeAt.2.1 31 = .ok (.aaload, 1) := by decide +kernel
theorem d_Qu_removeAt_32 : decode M_Qu_removeAt.2.1 32 = .ok (.aastore, 1) := by decide +kernel
theorem d_Qu_removeAt_33 : decode M_Qu_removeAt.2.1 33 = .ok (.iinc 3 1, 3) := by decide +kernel
theorem d_Qu_removeAt_36 : decode M_Qu_removeAt.2.1 36 = .ok (.goto (-27), 3) := by decide +kernel
theorem d_Qu_removeAt_39 : decode M_Qu_removeAt.2.1 39 = .ok (.aload_n 0, 1) := by decide +kernel
theorem d_Qu_removeAt_40 : decode M_Qu_removeAt.2.1 40 = .ok (.dup, 1) := by decide +kernel
theorem d_Qu_removeAt_41 : decode M_Qu_removeAt.2.1 41 = .ok (.getfield 17, 3) := by decide +kernel
theorem d_Qu_removeAt_44 : decode M_Qu_removeAt.2.1 44 = .ok (.iconst 1, 1) := by decide +kernel
theorem d_Qu_removeAt_45 : decode M_Qu_removeAt.2.1 45 = .ok (.isub, 1) := by decide +kernel
theorem d_Qu_removeAt_46 : decode M_Qu_removeAt.2.1 46 = .ok (.putfield 17, 3) := by decide +kernel
theorem d_Qu_removeAt_49 : decode M_Qu_removeAt.2.1 49 = .ok (.aload_n 0, 1) := by decide +kernel
theorem d_Qu_removeAt_50 : decode M_Qu_removeAt.2.1 50 = .ok (.getfield 11, 3) := by decide +kernel
theorem d_Qu_removeAt_53 : decode M_Qu_removeAt.2.1 53 = .ok (.aload_n 0, 1) := by decide +kernel
theorem d_Qu_removeAt_54 : decode M_Qu_removeAt.2.1 54 = .ok (.getfield 17, 3) := by decide +kernel
theorem d_Qu_removeAt_57 : decode M_Qu_removeAt.2.1 57 = .ok (.aload_n 2, 1) := by decide +kernel
theorem d_Qu_removeAt_58 : decode M_Qu_removeAt.2.1 58 = .ok (.aastore, 1) := by decide +kernel
theorem d_Qu_removeAt_59 : decode M_Qu_removeAt.2.1 59 = .ok (.return_, 1) := by decide +kernel
theorem d_Qu_indexOf_0 : decode M_Qu_indexOf.2.1 0 = .ok (.iconst 0, 1) := by decide +kernel
theorem d_Qu_indexOf_1 : decode M_Qu_indexOf.2.1 1 = .ok (.istore_n 2, 1) := by decide +kernel
theorem d_Qu_indexOf_2 : decode M_Qu_indexOf.2.1 2 = .ok (.iload_n 2, 1) := by decide +kernel
theorem d_Qu_indexOf_3 : decode M_Qu_indexOf.2.1 3 = .ok (.aload_n 0, 1) := by decide +kernel
theorem d_Qu_indexOf_4 : decode M_Qu_indexOf.2.1 4 = .ok (.getfield 17, 3) := by decide +kernel
theorem d_Qu_indexOf_7 : decode M_Qu_indexOf.2.1 7 = .ok (.if_icmp .ge 24, 3) := by decide +kernel
theorem d_Qu_indexOf_10 : decode M_Qu_indexOf.2.1 10 = .ok (.aload_n 0, 1) := by decide +kernel
theorem d_Qu_indexOf_11 : decode M_Qu_indexOf.2.1 11 = .ok (.getfield 11, 3) := by decide +kernel
theorem d_Qu_indexOf_14 : decode M_Qu_indexOf.2.1 14 = .ok (.iload_n 2, 1) := by decide +kernel
theorem d_Qu_indexOf_15 : decode M_Qu_indexOf.2.1 15 = .ok (.aaload, 1) := by decide +kernel
theorem d_Qu_indexOf_16 : decode M_Qu_indexOf.2.1 16 = .ok (.getfield 22, 3) := by decide +kernel
theorem d_Qu_indexOf_19 : decode M_Qu_indexOf.2.1 19 = .ok (.iload_n 1, 1) := by decide +kernel
theorem d_Qu_indexOf_20 : decode M_Qu_indexOf.2.1 20 = .ok (.if_icmp .ne 5, 3) := by decide +kernel
theorem d_Qu_indexOf_23 : decode M_Qu_indexOf.2.1 23 = .ok (.iload_n 2, 1) := by decide +kernel
theorem d_Qu_indexOf_24 : decode M_Qu_indexOf.2.1 24 = .ok (.ireturn, 1) := by decide +kernel
theorem d_Qu_indexOf_25 : decode M_Qu_indexOf.2.1 25 = .ok (.iinc 2 1, 3) := by decide +kernel
theorem d_Qu_indexOf_28 : decode M_Qu_indexOf.2.1 28 = .ok (.goto (-26), 3) := by decide +kernel
theorem d_Qu_indexOf_31 : decode M_Qu_indexOf.2.1 31 = .ok (.iconst (-1), 1) := by decide +kernel
theorem d_Qu_indexOf_32 : decode M_Qu_indexOf.2.1 32 = .ok (.ireturn, 1) := by decide +kernel
theorem d_Qu_costs_0 : decode M_Qu_costs.2.1 0 = .ok (.iconst 0, 1) := by decide +kernel
theorem d_Qu_costs_1 : decode M_Qu_costs.2.1 1 = .ok (.istore_n 1, 1) := by decide +kernel
theorem d_Qu_costs_2 : decode M_Qu_costs.2.1 2 = .ok (.iconst 0, 1) := by decide +kernel
theorem d_Qu_costs_3 : decode M_Qu_costs.2.1 3 = .ok (.istore_n 2, 1) := by decide +kernel
theorem d_Qu_costs_4 : decode M_Qu_costs.2.1 4 = .ok (.iload_n 2, 1) := by decide +kernel
theorem d_Qu_costs_5 : decode M_Qu_costs.2.1 5 = .ok (.aload_n 0, 1) := by decide +kernel
theorem d_Qu_costs_6 : decode M_Qu_costs.2.1 6 = .ok (.getfield 17, 3) := by decide +kernel
theorem d_Qu_costs_9 : decode M_Qu_costs.2.1 9 = .ok (.if_icmp .ge 36, 3) := by decide +kernel
theorem d_Qu_costs_12 : decode M_Qu_costs.2.1 12 = .ok (.iload_n 1, 1) := by decide +kernel
theorem d_Qu_costs_13 : decode M_Qu_costs.2.1 13 = .ok (.aload_n 0, 1) := by decide +kernel
theorem d_Qu_costs_14 : decode M_Qu_costs.2.1 14 = .ok (.getfield 11, 3) := by decide +kernel
theorem d_Qu_costs_17 : decode M_Qu_costs.2.1 17 = .ok (.iload_n 2, 1) := by decide +kernel
theorem d_Qu_costs_18 : decode M_Qu_costs.2.1 18 = .ok (.aaload, 1) := by decide +kernel
theorem d_Qu_costs_19 : decode M_Qu_costs.2.1 19 = .ok (.getfield 25, 3) := by decide +kernel
theorem d_Qu_costs_22 : decode M_Qu_costs.2.1 22 = .ok (.aload_n 0, 1) := by decide +kernel
theorem d_Qu_costs_23 : decode M_Qu_costs.2.1 23 = .ok (.getfield 11, 3) := by decide +kernel
theorem d_Qu_costs_26 : decode M_Qu_costs.2.1 26 = .ok (.iload_n 2, 1) := by decide +kernel
theorem d_Qu_costs_27 : decode M_Qu_costs.2.1 27 = .ok (.aaload, 1) := by decide +kernel
theorem d_Qu_costs_28 : decode M_Qu_costs.2.1 28 = .ok (.getfield 26, 3) := by decide +kernel
theorem d_Qu_costs_31 : decode M_Qu_costs.2.1 31 = .ok (.getfield 30, 3) := by decide +kernel
theorem d_Qu_costs_34 : decode M_Qu_costs.2.1 34 = .ok (.invokestatic 33, 3) := by decide +kernel
theorem d_Qu_costs_37 : decode M_Qu_costs.2.1 37 = .ok (.iadd, 1) := by decide +kernel
theorem d_Qu_costs_38 : decode M_Qu_costs.2.1 38 = .ok (.istore_n 1, 1) := by decide +kernel
theorem d_Qu_costs_39 : decode M_Qu_costs.2.1 39 = .ok (.iinc 2 1, 3) := by decide +kernel
theorem d_Qu_costs_42 : decode M_Qu_costs.2.1 42 = .ok (.goto (-38), 3) := by decide +kernel
theorem d_Qu_costs_45 : decode M_Qu_costs.2.1 45 = .ok (.iload_n 1, 1) := by decide +kernel
theorem d_Qu_costs_46 : decode M_Qu_costs.2.1 46 = .ok (.ireturn, 1) := by decide +kernel
theorem d_Qu_waitingRecipients_0 : decode M_Qu_waitingRecipients.2.1 0 = .ok (.iconst 0, 1) := by decide +kernel
theorem d_Qu_waitingRecipients_1 : decode M_Qu_waitingRecipients.2.1 1 = .ok (.istore_n 1, 1) := by decide +kernel
theorem d_Qu_waitingRecipients_2 : decode M_Qu_waitingRecipients.2.1 2 = .ok (.iconst 0, 1) := by decide +kernel
theorem d_Qu_waitingRecipients_3 : decode M_Qu_waitingRecipients.2.1 3 = .ok (.istore_n 2, 1) := by decide +kernel
theorem d_Qu_waitingRecipients_4 : decode M_Qu_waitingRecipients.2.1 4 = .ok (.iload_n 2, 1) := by decide +kernel
theorem d_Qu_waitingRecipients_5 : decode M_Qu_waitingRecipients.2.1 5 = .ok (.aload_n 0, 1) := by decide +kernel
theorem d_Qu_waitingRecipients_6 : decode M_Qu_waitingRecipients.2.1 6 = .ok (.getfield 17, 3) := by decide +kernel
theorem d_Qu_waitingRecipients_9 : decode M_Qu_waitingRecipients.2.1 9 = .ok (.if_icmp .ge 25, 3) := by decide +kernel
theorem d_Qu_waitingRecipients_12 : decode M_Qu_waitingRecipients.2.1 12 = .ok (.iload_n 1, 1) := by decide +kernel
theorem d_Qu_waitingRecipients_13 : decode M_Qu_waitingRecipients.2.1 13 = .ok (.aload_n 0, 1) := by decide +kernel
theorem d_Qu_waitingRecipients_14 : decode M_Qu_waitingRecipients.2.1 14 = .ok (.getfield 11, 3) := by decide +kernel
theorem d_Qu_waitingRecipients_17 : decode M_Qu_waitingRecipients.2.1 17 = .ok (.iload_n 2, 1) := by decide +kernel
theorem d_Qu_waitingRecipients_18 : decode M_Qu_waitingRecipients.2.1 18 = .ok (.aaload, 1) := by decide +kernel
theorem d_Qu_waitingRecipients_19 : decode M_Qu_waitingRecipients.2.1 19 = .ok (.getfield 26, 3) := by decide +kernel
theorem d_Qu_waitingRecipients_22 : decode M_Qu_waitingRecipients.2.1 22 = .ok (.iconst 1, 1) := by decide +kernel
theorem d_Qu_waitingRecipients_23 : decode M_Qu_waitingRecipients.2.1 23 = .ok (.invokevirtual 37, 3) := by decide +kernel
theorem d_Qu_waitingRecipients_26 : decode M_Qu_waitingRecipients.2.1 26 = .ok (.iadd, 1) := by decide +kernel
theorem d_Qu_waitingRecipients_27 : decode M_Qu_waitingRecipients.2.1 27 = .ok (.istore_n 1, 1) := by decide +kernel
theorem d_Qu_waitingRecipients_28 : decode M_Qu_waitingRecipients.2.1 28 = .ok (.iinc 2 1, 3) := by decide +kernel
theorem d_Qu_waitingRecipients_31 : decode M_Qu_waitingRecipients.2.1 31 = .ok (.goto (-27), 3) := by decide +kernel
theorem d_Qu_waitingRecipients_34 : decode M_Qu_waitingRecipients.2.1 34 = .ok (.iload_n 1, 1) := by decide +kernel
theorem d_Qu_waitingRecipients_35 : decode M_Qu_waitingRecipients.2.1 35 = .ok (.ireturn, 1) := by decide +kernel
theorem d_Qu_copyFrom_0 : decode M_Qu_copyFrom.2.1 0 = .ok (.iconst 0, 1) := by decide +kernel
theorem d_Qu_copyFrom_1 : decode M_Qu_copyFrom.2.1 1 = .ok (.istore_n 2, 1) := by decide +kernel
theorem d_Qu_copyFrom_2 : decode M_Qu_copyFrom.2.1 2 = .ok (.iload_n 2, 1) := by decide +kernel
theorem d_Qu_copyFrom_3 : decode M_Qu_copyFrom.2.1 3 = .ok (.aload_n 1, 1) := by decide +kernel
theorem d_Qu_copyFrom_4 : decode M_Qu_copyFrom.2.1 4 = .ok (.getfield 17, 3) := by decide +kernel
theorem d_Qu_copyFrom_7 : decode M_Qu_copyFrom.2.1 7 = .ok (.if_icmp .ge 24, 3) := by decide +kernel
theorem d_Qu_copyFrom_10 : decode M_Qu_copyFrom.2.1 10 = .ok (.aload_n 0, 1) := by decide +kernel
theorem d_Qu_copyFrom_11 : decode M_Qu_copyFrom.2.1 11 = .ok (.getfield 11, 3) := by decide +kernel
theorem d_Qu_copyFrom_14 : decode M_Qu_copyFrom.2.1 14 = .ok (.iload_n 2, 1) := by decide +kernel
theorem d_Qu_copyFrom_15 : decode M_Qu_copyFrom.2.1 15 = .ok (.aaload, 1) := by decide +kernel
theorem d_Qu_copyFrom_16 : decode M_Qu_copyFrom.2.1 16 = .ok (.aload_n 1, 1) := by decide +kernel
theorem d_Qu_copyFrom_17 : decode M_Qu_copyFrom.2.1 17 = .ok (.getfield 11, 3) := by decide +kernel
theorem d_Qu_copyFrom_20 : decode M_Qu_copyFrom.2.1 20 = .ok (.iload_n 2, 1) := by decide +kernel
theorem d_Qu_copyFrom_21 : decode M_Qu_copyFrom.2.1 21 = .ok (.aaload, 1) := by decide +kernel
theorem d_Qu_copyFrom_22 : decode M_Qu_copyFrom.2.1 22 = .ok (.invokevirtual 41, 3) := by decide +kernel
theorem d_Qu_copyFrom_25 : decode M_Qu_copyFrom.2.1 25 = .ok (.iinc 2 1, 3) := by decide +kernel
theorem d_Qu_copyFrom_28 : decode M_Qu_copyFrom.2.1 28 = .ok (.goto (-26), 3) := by decide +kernel
theorem d_Qu_copyFrom_31 : decode M_Qu_copyFrom.2.1 31 = .ok (.aload_n 0, 1) := by decide +kernel
theorem d_Qu_copyFrom_32 : decode M_Qu_copyFrom.2.1 32 = .ok (.aload_n 1, 1) := by decide +kernel
theorem d_Qu_copyFrom_33 : decode M_Qu_copyFrom.2.1 33 = .ok (.getfield 17, 3) := by decide +kernel
theorem d_Qu_copyFrom_36 : decode M_Qu_copyFrom.2.1 36 = .ok (.putfield 17, 3) := by decide +kernel
theorem d_Qu_copyFrom_39 : decode M_Qu_copyFrom.2.1 39 = .ok (.return_, 1) := by decide +kernel
theorem d_Re_init_0 : decode M_Re_init.2.1 0 = .ok (.aload_n 0, 1) := by decide +kernel
theorem d_Re_init_1 : decode M_Re_init.2.1 1 = .ok (.invokespecial 3, 3) := by decide +kernel
theorem d_Re_init_4 : decode M_Re_init.2.1 4 = .ok (.aload_n 0, 1) := by decide +kernel
theorem d_Re_init_5 : decode M_Re_init.2.1 5 = .ok (.iconst 4, 1) := by decide +kernel
theorem d_Re_init_6 : decode M_Re_init.2.1 6 = .ok (.newarray .int, 2) := by decide +kernel
theorem d_Re_init_8 : decode M_Re_init.2.1 8 = .ok (.putfield 9, 3) := by decide +kernel
theorem d_Re_init_11 : decode M_Re_init.2.1 11 = .ok (.aload_n 0, 1) := by decide +kernel
theorem d_Re_init_12 : decode M_Re_init.2.1 12 = .ok (.iconst 4, 1) := by decide +kernel
theorem d_Re_init_13 : decode M_Re_init.2.1 13 = .ok (.newarray .int, 2) := by decide +kernel
theorem d_Re_init_15 : decode M_Re_init.2.1 15 = .ok (.putfield 15, 3) := by decide +kernel
theorem d_Re_init_18 : decode M_Re_init.2.1 18 = .ok (.aload_n 0, 1) := by decide +kernel
theorem d_Re_init_19 : decode M_Re_init.2.1 19 = .ok (.iconst 0, 1) := by decide +kernel
theorem d_Re_init_20 : decode M_Re_init.2.1 20 = .ok (.putfield 18, 3) := by decide +kernel
theorem d_Re_init_23 : decode M_Re_init.2.1 23 = .ok (.return_, 1) := by decide +kernel
theorem d_Re_add_0 : decode M_Re_add.2.1 0 = .ok (.aload_n 0, 1) := by decide +kernel
theorem d_Re_add_1 : decode M_Re_add.2.1 1 = .ok (.getfield 18, 3) := by decide +kernel
theorem d_Re_add_4 : decode M_Re_add.2.1 4 = .ok (.iconst 4, 1) := by decide +kernel
theorem d_Re_add_5 : decode M_Re_add.2.1 5 = .ok (.if_icmp .ge 33, 3) := by decide +kernel
theorem d_Re_add_8 : decode M_Re_add.2.1 8 = .ok (.aload_n 0, 1) := by decide +kernel
theorem d_Re_add_9 : decode M_Re_add.2.1 9 = .ok (.getfield 9, 3) := by decide +kernel
theorem d_Re_add_12 : decode M_Re_add.2.1 12 = .ok (.aload_n 0, 1) := by decide +kernel
theorem d_Re_add_13 : decode M_Re_add.2.1 13 = .ok (.getfield 18, 3) := by decide +kernel
theorem d_Re_add_16 : decode M_Re_add.2.1 16 = .ok (.iload_n 1, 1) := by decide +kernel
theorem d_Re_add_17 : decode M_Re_add.2.1 17 = .ok (.iastore, 1) := by decide +kernel
theorem d_Re_add_18 : decode M_Re_add.2.1 18 = .ok (.aload_n 0, 1) := by decide +kernel
theorem d_Re_add_19 : decode M_Re_add.2.1 19 = .ok (.getfield 15, 3) := by decide +kernel
theorem d_Re_add_22 : decode M_Re_add.2.1 22 = .ok (.aload_n 0, 1) := by decide +kernel
theorem d_Re_add_23 : decode M_Re_add.2.1 23 = .ok (.getfield 18, 3) := by decide +kernel
theorem d_Re_add_26 : decode M_Re_add.2.1 26 = .ok (.iconst 1, 1) := by decide +kernel
theorem d_Re_add_27 : decode M_Re_add.2.1 27 = .ok (.iastore, 1) := by decide +kernel
theorem d_Re_add_28 : decode M_Re_add.2.1 28 = .ok (.aload_n 0, 1) := by decide +kernel
theorem d_Re_add_29 : decode M_Re_add.2.1 29 = .ok (.dup, 1) := by decide +kernel
theorem d_Re_add_30 : decode M_Re_add.2.1 30 = .ok (.getfield 18, 3) := by decide +kernel
theorem d_Re_add_33 : decode M_Re_add.2.1 33 = .ok (.iconst 1, 1) := by decide +kernel
theorem d_Re_add_34 : decode M_Re_add.2.1 34 = .ok (.iadd, 1) := by decide +kernel
theorem d_Re_add_35 : decode M_Re_add.2.1 35 = .ok (.putfield 18, 3) := by decide +kernel
theorem d_Re_add_38 : decode M_Re_add.2.1 38 = .ok (.return_, 1) := by decide +kernel
theorem d_Re_addRising_0 : decode M_Re_addRising.2.1 0 = .ok (.iconst 0, 1) := by decide +kernel
theorem d_Re_addRising_1 : decode M_Re_addRising.2.1 1 = .ok (.istore_n 3, 1) := by decide +kernel
theorem d_Re_addRising_2 : decode M_Re_addRising.2.1 2 = .ok (.iload_n 3, 1) := by decide +kernel
theorem d_Re_addRising_3 : decode M_Re_addRising.2.1 3 = .ok (.bipush 64, 2) := by decide +kernel
theorem d_Re_addRising_5 : decode M_Re_addRising.2.1 5 = .ok (.if_icmp .ge 24, 3) := by decide +kernel
theorem d_Re_addRising_8 : decode M_Re_addRising.2.1 8 = .ok (.lload_n 1, 1) := by decide +kernel
theorem d_Re_addRising_9 : decode M_Re_addRising.2.1 9 = .ok (.lconst 1, 1) := by decide +kernel
theorem d_Re_addRising_10 : decode M_Re_addRising.2.1 10 = .ok (.iload_n 3, 1) := by decide +kernel
theorem d_Re_addRising_11 : decode M_Re_addRising.2.1 11 = .ok (.lshl, 1) := by decide +kernel
theorem d_Re_addRising_12 : decode M_Re_addRising.2.1 12 = .ok (.land, 1) := by decide +kernel
theorem d_Re_addRising_13 : decode M_Re_addRising.2.1 13 = .ok (.lconst 0, 1) := by decide +kernel
theorem d_Re_addRising_14 : decode M_Re_addRising.2.1 14 = .ok (.lcmp, 1) := by decide +kernel
theorem d_Re_addRising_15 : decode M_Re_addRising.2.1 15 = .ok (.ifCond .eq 8, 3) := by decide +kernel
theorem d_Re_addRising_18 : decode M_Re_addRising.2.1 18 = .ok (.aload_n 0, 1) := by decide +kernel
theorem d_Re_addRising_19 : decode M_Re_addRising.2.1 19 = .ok (.iload_n 3, 1) := by decide +kernel
theorem d_Re_addRising_20 : decode M_Re_addRising.2.1 20 = .ok (.invokevirtual 22, 3) := by decide +kernel
theorem d_Re_addRising_23 : decode M_Re_addRising.2.1 23 = .ok (.iinc 3 1, 3) := by decide +kernel
theorem d_Re_addRising_26 : decode M_Re_addRising.2.1 26 = .ok (.goto (-24), 3) := by decide +kernel
theorem d_Re_addRising_29 : decode M_Re_addRising.2.1 29 = .ok (.return_, 1) := by decide +kernel
theorem d_Re_asBits_0 : decode M_Re_asBits.2.1 0 = .ok (.lconst 0, 1) := by decide +kernel
theorem d_Re_asBits_1 : decode M_Re_asBits.2.1 1 = .ok (.lstore_n 1, 1) := by decide +kernel
theorem d_Re_asBits_2 : decode M_Re_asBits.2.1 2 = .ok (.iconst 0, 1) := by decide +kernel
theorem d_Re_asBits_3 : decode M_Re_asBits.2.1 3 = .ok (.istore_n 3, 1) := by decide +kernel
theorem d_Re_asBits_4 : decode M_Re_asBits.2.1 4 = .ok (.iload_n 3, 1) := by decide +kernel
theorem d_Re_asBits_5 : decode M_Re_asBits.2.1 5 = .ok (.aload_n 0, 1) := by decide +kernel
theorem d_Re_asBits_6 : decode M_Re_asBits.2.1 6 = .ok (.getfield 18, 3) := by decide +kernel
theorem d_Re_asBits_9 : decode M_Re_asBits.2.1 9 = .ok (.if_icmp .ge 20, 3) := by decide +kernel
theorem d_Re_asBits_12 : decode M_Re_asBits.2.1 12 = .ok (.lload_n 1, 1) := by decide +kernel
theorem d_Re_asBits_13 : decode M_Re_asBits.2.1 13 = .ok (.lconst 1, 1) := by decide +kernel
theorem d_Re_asBits_14 : decode M_Re_asBits.2.1 14 = .ok (.aload_n 0, 1) := by decide +kernel
theorem d_Re_asBits_15 : decode M_Re_asBits.2.1 15 = .ok (.getfield 9, 3) := by decide +kernel
theorem d_Re_asBits_18 : decode M_Re_asBits.2.1 18 = .ok (.iload_n 3, 1) := by decide +kernel
theorem d_Re_asBits_19 : decode M_Re_asBits.2.1 19 = .ok (.iaload, 1) := by decide +kernel
theorem d_Re_asBits_20 : decode M_Re_asBits.2.1 20 = .ok (.lshl, 1) := by decide +kernel
theorem d_Re_asBits_21 : decode M_Re_asBits.2.1 21 = .ok (.lor, 1) := by decide +kernel
theorem d_Re_asBits_22 : decode M_Re_asBits.2.1 22 = .ok (.lstore_n 1, 1) := by decide +kernel
theorem d_Re_asBits_23 : decode M_Re_asBits.2.1 23 = .ok (.iinc 3 1, 3) := by decide +kernel
theorem d_Re_asBits_26 : decode M_Re_asBits.2.1 26 = .ok (.goto (-22), 3) := by decide +kernel
theorem d_Re_asBits_29 : decode M_Re_asBits.2.1 29 = .ok (.lload_n 1, 1) := by decide +kernel
theorem d_Re_asBits_30 : decode M_Re_asBits.2.1 30 = .ok (.lreturn, 1) := by decide +kernel
theorem d_Re_stateOf_0 : decode M_Re_stateOf.2.1 0 = .ok (.iconst 0, 1) := by decide +kernel
theorem d_Re_stateOf_1 : decode M_Re_stateOf.2.1 1 = .ok (.istore_n 2, 1) := by decide +kernel
theorem d_Re_stateOf_2 : decode M_Re_stateOf.2.1 2 = .ok (.iload_n 2, 1) := by decide +kernel
theorem d_Re_stateOf_3 : decode M_Re_stateOf.2.1 3 = .ok (.aload_n 0, 1) := by decide +kernel
theorem d_Re_stateOf_4 : decode M_Re_stateOf.2.1 4 = .ok (.getfield 18, 3) := by decide +kernel
theorem d_Re_stateOf_7 : decode M_Re_stateOf.2.1 7 = .ok (.if_icmp .ge 26, 3) := by decide +kernel
theorem d_Re_stateOf_10 : decode M_Re_stateOf.2.1 10 = .ok (.aload_n 0, 1) := by decide +kernel
theorem d_Re_stateOf_11 : decode M_Re_stateOf.2.1 11 = .ok (.getfield 9, 3) := by decide +kernel
theorem d_Re_stateOf_14 : decode M_Re_stateOf.2.1 14 = .ok (.iload_n 2, 1) := by decide +kernel
theorem d_Re_stateOf_15 : decode M_Re_stateOf.2.1 15 = .ok (.iaload, 1) := by decide +kernel
theorem d_Re_stateOf_16 : decode M_Re_stateOf.2.1 16 = .ok (.iload_n 1, 1) := by decide +kernel
theorem d_Re_stateOf_17 : decode M_Re_stateOf.2.1 17 = .ok (.if_icmp .ne 10, 3) := by decide +kernel
theorem d_Re_stateOf_20 : decode M_Re_stateOf.2.1 20 = .ok (.aload_n 0, 1) := by decide +kernel
theorem d_Re_stateOf_21 : decode M_Re_stateOf.2.1 21 = .ok (.getfield 15, 3) := by decide +kernel
theorem d_Re_stateOf_24 : decode M_Re_stateOf.2.1 24 = .ok (.iload_n 2, 1) := by decide +kernel
theorem d_Re_stateOf_25 : decode M_Re_stateOf.2.1 25 = .ok (.iaload, 1) := by decide +kernel
theorem d_Re_stateOf_26 : decode M_Re_stateOf.2.1 26 = .ok (.ireturn, 1) := by decide +kernel
theorem d_Re_stateOf_27 : decode M_Re_stateOf.2.1 27 = .ok (.iinc 2 1, 3) := by decide +kernel
theorem d_Re_stateOf_30 : decode M_Re_stateOf.2.1 30 = .ok (.goto (-28), 3) := by decide +kernel
theorem d_Re_stateOf_33 : decode M_Re_stateOf.2.1 33 = .ok (.iconst 0, 1) := by decide +kernel
theorem d_Re_stateOf_34 : decode M_Re_stateOf.2.1 34 = .ok (.ireturn, 1) := by decide +kernel
theorem d_Re_inState_0 : decode M_Re_inState.2.1 0 = .ok (.iconst 0, 1) := by decide +kernel
theorem d_Re_inState_1 : decode M_Re_inState.2.1 1 = .ok (.istore_n 2, 1) := by decide +kernel
theorem d_Re_inState_2 : decode M_Re_inState.2.1 2 = .ok (.iconst 0, 1) := by decide +kernel
theorem d_Re_inState_3 : decode M_Re_inState.2.1 3 = .ok (.istore_n 3, 1) := by decide +kernel
theorem d_Re_inState_4 : decode M_Re_inState.2.1 4 = .ok (.iload_n 3, 1) := by decide +kernel
theorem d_Re_inState_5 : decode M_Re_inState.2.1 5 = .ok (.aload_n 0, 1) := by decide +kernel
theorem d_Re_inState_6 : decode M_Re_inState.2.1 6 = .ok (.getfield 18, 3) := by decide +kernel
theorem d_Re_inState_9 : decode M_Re_inState.2.1 9 = .ok (.if_icmp .ge 22, 3) := by decide +kernel
theorem d_Re_inState_12 : decode M_Re_inState.2.1 12 = .ok (.aload_n 0, 1) := by decide +kernel
theorem d_Re_inState_13 : decode M_Re_inState.2.1 13 = .ok (.getfield 15, 3) := by decide +kernel
theorem d_Re_inState_16 : decode M_Re_inState.2.1 16 = .ok (.iload_n 3, 1) := by decide +kernel
theorem d_Re_inState_17 : decode M_Re_inState.2.1 17 = .ok (.iaload, 1) := by decide +kernel
theorem d_Re_inState_18 : decode M_Re_inState.2.1 18 = .ok (.iload_n 1, 1) := by decide +kernel
theorem d_Re_inState_19 : decode M_Re_inState.2.1 19 = .ok (.if_icmp .ne 6, 3) := by decide +kernel
theorem d_Re_inState_22 : decode M_Re_inState.2.1 22 = .ok (.iinc 2 1, 3) := by decide +kernel
theorem d_Re_inState_25 : decode M_Re_inState.2.1 25 = .ok (.iinc 3 1, 3) := by decide +kernel
theorem d_Re_inState_28 : decode M_Re_inState.2.1 28 = .ok (.goto (-24), 3) := by decide +kernel
theorem d_Re_inState_31 : decode M_Re_inState.2.1 31 = .ok (.iload_n 2, 1) := by decide +kernel
theorem d_Re_inState_32 : decode M_Re_inState.2.1 32 = .ok (.ireturn, 1) := by decide +kernel
theorem d_Re_failWaiting_0 : decode M_Re_failWaiting.2.1 0 = .ok (.iconst 0, 1) := by decide +kernel
theorem d_Re_failWaiting_1 : decode M_Re_failWaiting.2.1 1 = .ok (.istore_n 1, 1) := by decide +kernel
theorem d_Re_failWaiting_2 : decode M_Re_failWaiting.2.1 2 = .ok (.iconst 0, 1) := by decide +kernel
theorem d_Re_failWaiting_3 : decode M_Re_failWaiting.2.1 3 = .ok (.istore_n 2, 1) := by decide +kernel
theorem d_Re_failWaiting_4 : decode M_Re_failWaiting.2.1 4 = .ok (.iload_n 2, 1) := by decide +kernel
theorem d_Re_failWaiting_5 : decode M_Re_failWaiting.2.1 5 = .ok (.aload_n 0, 1) := by decide +kernel
theorem d_Re_failWaiting_6 : decode M_Re_failWaiting.2.1 6 = .ok (.getfield 18, 3) := by decide +kernel
theorem d_Re_failWaiting_9 : decode M_Re_failWaiting.2.1 9 = .ok (.if_icmp .ge 29, 3) := by decide +kernel
theorem d_Re_failWaiting_12 : decode M_Re_failWaiting.2.1 12 = .ok (.aload_n 0, 1) := by decide +kernel
theorem d_Re_failWaiting_13 : decode M_Re_failWaiting.2.1 13 = .ok (.getfield 15, 3) := by decide +kernel
theorem d_Re_failWaiting_16 : decode M_Re_failWaiting.2.1 16 = .ok (.iload_n 2, 1) := by decide +kernel
theorem d_Re_failWaiting_17 : decode M_Re_failWaiting.2.1 17 = .ok (.iaload, 1) := by decide +kernel
theorem d_Re_failWaiting_18 : decode M_Re_failWaiting.2.1 18 = .ok (.iconst 1, 1) := by decide +kernel
theorem d_Re_failWaiting_19 : decode M_Re_failWaiting.2.1 19 = .ok (.if_icmp .ne 13, 3) := by decide +kernel
theorem d_Re_failWaiting_22 : decode M_Re_failWaiting.2.1 22 = .ok (.aload_n 0, 1) := by decide +kernel
theorem d_Re_failWaiting_23 : decode M_Re_failWaiting.2.1 23 = .ok (.getfield 15, 3) := by decide +kernel
theorem d_Re_failWaiting_26 : decode M_Re_failWaiting.2.1 26 = .ok (.iload_n 2, 1) := by decide +kernel
theorem d_Re_failWaiting_27 : decode M_Re_failWaiting.2.1 27 = .ok (.iconst 3, 1) := by decide +kernel
theorem d_Re_failWaiting_28 : decode M_Re_failWaiting.2.1 28 = .ok (.iastore, 1) := by decide +kernel
theorem d_Re_failWaiting_29 : decode M_Re_failWaiting.2.1 29 = .ok (.iinc 1 1, 3) := by decide +kernel
theorem d_Re_failWaiting_32 : decode M_Re_failWaiting.2.1 32 = .ok (.iinc 2 1, 3) := by decide +kernel
theorem d_Re_failWaiting_35 : decode M_Re_failWaiting.2.1 35 = .ok (.goto (-31), 3) := by decide +kernel
theorem d_Re_failWaiting_38 : decode M_Re_failWaiting.2.1 38 = .ok (.iload_n 1, 1) := by decide +kernel
theorem d_Re_failWaiting_39 : decode M_Re_failWaiting.2.1 39 = .ok (.ireturn, 1) := by decide +kernel
theorem d_Re_copyFrom_0 : decode M_Re_copyFrom.2.1 0 = .ok (.iconst 0, 1) := by decide +kernel
theorem d_Re_copyFrom_1 : decode M_Re_copyFrom.2.1 1 = .ok (.istore_n 2, 1) := by decide +kernel
theorem d_Re_copyFrom_2 : decode M_Re_copyFrom.2.1 2 = .ok (.iload_n 2, 1) := by decide +kernel
theorem d_Re_copyFrom_3 : decode M_Re_copyFrom.2.1 3 = .ok (.aload_n 1, 1) := by decide +kernel
theorem d_Re_copyFrom_4 : decode M_Re_copyFrom.2.1 4 = .ok (.getfield 18, 3) := by decide +kernel
theorem d_Re_copyFrom_7 : decode M_Re_copyFrom.2.1 7 = .ok (.if_icmp .ge 33, 3) := by decide +kernel
theorem d_Re_copyFrom_10 : decode M_Re_copyFrom.2.1 10 = .ok (.aload_n 0, 1) := by decide +kernel
theorem d_Re_copyFrom_11 : decode M_Re_copyFrom.2.1 11 = .ok (.getfield 9, 3) := by decide +kernel
theorem d_Re_copyFrom_14 : decode M_Re_copyFrom.2.1 14 = .ok (.iload_n 2, 1) := by decide +kernel
theorem d_Re_copyFrom_15 : decode M_Re_copyFrom.2.1 15 = .ok (.aload_n 1, 1) := by decide +kernel
theorem d_Re_copyFrom_16 : decode M_Re_copyFrom.2.1 16 = .ok (.getfield 9, 3) := by decide +kernel
theorem d_Re_copyFrom_19 : decode M_Re_copyFrom.2.1 19 = .ok (.iload_n 2, 1) := by decide +kernel
theorem d_Re_copyFrom_20 : decode M_Re_copyFrom.2.1 20 = .ok (.iaload, 1) := by decide +kernel
theorem d_Re_copyFrom_21 : decode M_Re_copyFrom.2.1 21 = .ok (.iastore, 1) := by decide +kernel
theorem d_Re_copyFrom_22 : decode M_Re_copyFrom.2.1 22 = .ok (.aload_n 0, 1) := by decide +kernel
theorem d_Re_copyFrom_23 : decode M_Re_copyFrom.2.1 23 = .ok (.getfield 15, 3) := by decide +kernel
theorem d_Re_copyFrom_26 : decode M_Re_copyFrom.2.1 26 = .ok (.iload_n 2, 1) := by decide +kernel
theorem d_Re_copyFrom_27 : decode M_Re_copyFrom.2.1 27 = .ok (.aload_n 1, 1) := by decide +kernel
theorem d_Re_copyFrom_28 : decode M_Re_copyFrom.2.1 28 = .ok (.getfield 15, 3) := by decide +kernel
theorem d_Re_copyFrom_31 : decode M_Re_copyFrom.2.1 31 = .ok (.iload_n 2, 1) := by decide +kernel
theorem d_Re_copyFrom_32 : decode M_Re_copyFrom.2.1 32 = .ok (.iaload, 1) := by decide +kernel
theorem d_Re_copyFrom_33 : decode M_Re_copyFrom.2.1 33 = .ok (.iastore, 1) := by decide +kernel
theorem d_Re_copyFrom_34 : decode M_Re_copyFrom.2.1 34 = .ok (.iinc 2 1, 3) := by decide +kernel
theorem d_Re_copyFrom_37 : decode M_Re_copyFrom.2.1 37 = .ok (.goto (-35), 3) := by decide +kernel
theorem d_Re_copyFrom_40 : decode M_Re_copyFrom.2.1 40 = .ok (.aload_n 0, 1) := by decide +kernel
theorem d_Re_copyFrom_41 : decode M_Re_copyFrom.2.1 41 = .ok (.aload_n 1, 1) := by decide +kernel
theorem d_Re_copyFrom_42 : decode M_Re_copyFrom.2.1 42 = .ok (.getfield 18, 3) := by decide +kernel
theorem d_Re_copyFrom_45 : decode M_Re_copyFrom.2.1 45 = .ok (.putfield 18, 3) := by decide +kernel
theorem d_Re_copyFrom_48 : decode M_Re_copyFrom.2.1 48 = .ok (.return_, 1) := by decide +kernel
theorem d_Ro_init_0 : decode M_Ro_init.2.1 0 = .ok (.aload_n 0, 1) := by decide +kernel
theorem d_Ro_init_1 : decode M_Ro_init.2.1 1 = .ok (.invokespecial 3, 3) := by decide +kernel
theorem d_Ro_init_4 : decode M_Ro_init.2.1 4 = .ok (.aload_n 0, 1) := by decide +kernel
theorem d_Ro_init_5 : decode M_Ro_init.2.1 5 = .ok (.iconst 3, 1) := by decide +kernel
theorem d_Ro_init_6 : decode M_Ro_init.2.1 6 = .ok (.newarray .int, 2) := by decide +kernel
theorem d_Ro_init_8 : decode M_Ro_init.2.1 8 = .ok (.putfield 9, 3) := by decide +kernel
theorem d_Ro_init_11 : decode M_Ro_init.2.1 11 = .ok (.aload_n 0, 1) := by decide +kernel
theorem d_Ro_init_12 : decode M_Ro_init.2.1 12 = .ok (.iconst 3, 1) := by decide +kernel
theorem d_Ro_init_13 : decode M_Ro_init.2.1 13 = .ok (.newarray .int, 2) := by decide +kernel
theorem d_Ro_init_15 : decode M_Ro_init.2.1 15 = .ok (.putfield 15, 3) := by decide +kernel
theorem d_Ro_init_18 : decode M_Ro_init.2.1 18 = .ok (.aload_n 0, 1) := by decide +kernel
theorem d_Ro_init_19 : decode M_Ro_init.2.1 19 = .ok (.iconst 0, 1) := by decide +kernel
theorem d_Ro_init_20 : decode M_Ro_init.2.1 20 = .ok (.putfield 18, 3) := by decide +kernel
theorem d_Ro_init_23 : decode M_Ro_init.2.1 23 = .ok (.return_, 1) := by decide +kernel
theorem d_Ro_hasRoomFor_0 : decode M_Ro_hasRoomFor.2.1 0 = .ok (.iconst 0, 1) := by decide +kernel
theorem d_Ro_hasRoomFor_1 : decode M_Ro_hasRoomFor.2.1 1 = .ok (.istore_n 2, 1) := by decide +kernel
theorem d_Ro_hasRoomFor_2 : decode M_Ro_hasRoomFor.2.1 2 = .ok (.iload_n 2, 1) := by decide +kernel
theorem d_Ro_hasRoomFor_3 : decode M_Ro_hasRoomFor.2.1 3 = .ok (.aload_n 0, 1) := by decide +kernel
theorem d_Ro_hasRoomFor_4 : decode M_Ro_hasRoomFor.2.1 4 = .ok (.getfield 18, 3) := by decide +kernel
theorem d_Ro_hasRoomFor_7 : decode M_Ro_hasRoomFor.2.1 7 = .ok (.if_icmp .ge 21, 3) := by decide +kernel
theorem d_Ro_hasRoomFor_10 : decode M_Ro_hasRoomFor.2.1 10 = .ok (.aload_n 0, 1) := by decide +kernel
theorem d_Ro_hasRoomFor_11 : decode M_Ro_hasRoomFor.2.1 11 = .ok (.getfield 9, 3) := by decide +kernel
theorem d_Ro_hasRoomFor_14 : decode M_Ro_hasRoomFor.2.1 14 = .ok (.iload_n 2, 1) := by decide +kernel
theorem d_Ro_hasRoomFor_15 : decode M_Ro_hasRoomFor.2.1 15 = .ok (.iaload, 1) := by decide +kernel
theorem d_Ro_hasRoomFor_16 : decode M_Ro_hasRoomFor.2.1 16 = .ok (.iload_n 1, 1) := by decide +kernel
theorem d_Ro_hasRoomFor_17 : decode M_Ro_hasRoomFor.2.1 17 = .ok (.if_icmp .ne 5, 3) := by decide +kernel
theorem d_Ro_hasRoomFor_20 : decode M_Ro_hasRoomFor.2.1 20 = .ok (.iconst 0, 1) := by decide +kernel
theorem d_Ro_hasRoomFor_21 : decode M_Ro_hasRoomFor.2.1 21 = .ok (.ireturn, 1) := by decide +kernel
theorem d_Ro_hasRoomFor_22 : decode M_Ro_hasRoomFor.2.1 22 = .ok (.iinc 2 1, 3) := by decide +kernel
theorem d_Ro_hasRoomFor_25 : decode M_Ro_hasRoomFor.2.1 25 = .ok (.goto (-23), 3) := by decide +kernel
theorem d_Ro_hasRoomFor_28 : decode M_Ro_hasRoomFor.2.1 28 = .ok (.aload_n 0, 1) := by decide +kernel
theorem d_Ro_hasRoomFor_29 : decode M_Ro_hasRoomFor.2.1 29 = .ok (.getfield 18, 3) := by decide +kernel
theorem d_Ro_hasRoomFor_32 : decode M_Ro_hasRoomFor.2.1 32 = .ok (.iconst 3, 1) := by decide +kernel
theorem d_Ro_hasRoomFor_33 : decode M_Ro_hasRoomFor.2.1 33 = .ok (.if_icmp .ge 7, 3) := by decide +kernel
theorem d_Ro_hasRoomFor_36 : decode M_Ro_hasRoomFor.2.1 36 = .ok (.iconst 1, 1) := by decide +kernel
theorem d_Ro_hasRoomFor_37 : decode M_Ro_hasRoomFor.2.1 37 = .ok (.goto 4, 3) := by decide +kernel
theorem d_Ro_hasRoomFor_40 : decode M_Ro_hasRoomFor.2.1 40 = .ok (.iconst 0, 1) := by decide +kernel
theorem d_Ro_hasRoomFor_41 : decode M_Ro_hasRoomFor.2.1 41 = .ok (.ireturn, 1) := by decide +kernel
theorem d_Ro_add_0 : decode M_Ro_add.2.1 0 = .ok (.aload_n 0, 1) := by decide +kernel
theorem d_Ro_add_1 : decode M_Ro_add.2.1 1 = .ok (.getfield 18, 3) := by decide +kernel
theorem d_Ro_add_4 : decode M_Ro_add.2.1 4 = .ok (.istore_n 3, 1) := by decide +kernel
theorem d_Ro_add_5 : decode M_Ro_add.2.1 5 = .ok (.iload_n 3, 1) := by decide +kernel
theorem d_Ro_add_6 : decode M_Ro_add.2.1 6 = .ok (.ifCond .le 49, 3) := by decide +kernel
theorem d_Ro_add_9 : decode M_Ro_add.2.1 9 = .ok (.aload_n 0, 1) := by decide +kernel
theorem d_Ro_add_10 : decode M_Ro_add.2.1 10 = .ok (.getfield 15, 3) := by decide +kernel
theorem d_Ro_add_13 : decode M_Ro_add.2.1 13 = .ok (.iload_n 3, 1) := by decide +kernel
theorem d_Ro_add_14 : decode M_Ro_add.2.1 14 = .ok (.iconst 1, 1) := by decide +kernel
theorem d_Ro_add_15 : decode M_Ro_add.2.1 15 = .ok (.isub, 1) := by decide +kernel
theorem d_Ro_add_16 : decode M_Ro_add.2.1 16 = .ok (.iaload, 1) := by decide +kernel
theorem d_Ro_add_17 : decode M_Ro_add.2.1 17 = .ok (.iload_n 2, 1) := by decide +kernel
theorem d_Ro_add_18 : decode M_Ro_add.2.1 18 = .ok (.if_icmp .le 37, 3) := by decide +kernel
theorem d_Ro_add_21 : decode M_Ro_add.2.1 21 = .ok (.aload_n 0, 1) := by decide +kernel
theorem d_Ro_add_22 : decode M_Ro_add.2.1 22 = .ok (.getfield 9, 3) := by decide +kernel
theorem d_Ro_add_25 : decode M_Ro_add.2.1 25 = .ok (.iload_n 3, 1) := by decide +kernel
theorem d_Ro_add_26 : decode M_Ro_add.2.1 26 = .ok (.aload_n 0, 1) := by decide +kernel
theorem d_Ro_add_27 : decode M_Ro_add.2.1 27 = .ok (.getfield 9, 3) := by decide +kernel
theorem d_Ro_add_30 : decode M_Ro_add.2.1 30 = .ok (.iload_n 3, 1) := by decide +kernel
theorem d_Ro_add_31 : decode M_Ro_add.2.1 31 = .ok (.iconst 1, 1) := by decide +kernel
theorem d_Ro_add_32 : decode M_Ro_add.2.1 32 = .ok (.isub, 1) := by decide +kernel
theorem d_Ro_add_33 : decode M_Ro_add.2.1 33 = .ok (.iaload, 1) := by decide +kernel
theorem d_Ro_add_34 : decode M_Ro_add.2.1 34 = .ok (.iastore, 1) := by decide +kernel
theorem d_Ro_add_35 : decode M_Ro_add.2.1 35 = .ok (.aload_n 0, 1) := by decide +kernel
theorem d_Ro_add_36 : decode M_Ro_add.2.1 36 = .ok (.getfield 15, 3) := by decide +kernel
theorem d_Ro_add_39 : decode M_Ro_add.2.1 39 = .ok (.iload_n 3, 1) := by decide +kernel
theorem d_Ro_add_40 : decode M_Ro_add.2.1 40 = .ok (.aload_n 0, 1) := by decide +kernel
theorem d_Ro_add_41 : decode M_Ro_add.2.1 41 = .ok (.getfield 15, 3) := by decide +kernel
theorem d_Ro_add_44 : decode M_Ro_add.2.1 44 = .ok (.iload_n 3, 1) := by decide +kernel
theorem d_Ro_add_45 : decode M_Ro_add.2.1 45 = .ok (.iconst 1, 1) := by decide +kernel
theorem d_Ro_add_46 : decode M_Ro_add.2.1 46 = .ok (.isub, 1) := by decide +kernel
theorem d_Ro_add_47 : decode M_Ro_add.2.1 47 = .ok (.iaload, 1) := by decide +kernel
theorem d_Ro_add_48 : decode M_Ro_add.2.1 48 = .ok (.iastore, 1) := by decide +kernel
theorem d_Ro_add_49 : decode M_Ro_add.2.1 49 = .ok (.iinc 3 (-1), 3) := by decide +kernel
theorem d_Ro_add_52 : decode M_Ro_add.2.1 52 = .ok (.goto (-47), 3) := by decide +kernel
theorem d_Ro_add_55 : decode M_Ro_add.2.1 55 = .ok (.aload_n 0, 1) := by decide +kernel
theorem d_Ro_add_56 : decode M_Ro_add.2.1 56 = .ok (.getfield 9, 3) := by decide +kernel
theorem d_Ro_add_59 : decode M_Ro_add.2.1 59 = .ok (.iload_n 3, 1) := by decide +kernel
theorem d_Ro_add_60 : decode M_Ro_add.2.1 60 = .ok (.iload_n 1, 1) := by decide +kernel
theorem d_Ro_add_61 : decode M_Ro_add.2.1 61 = .ok (.iastore, 1) := by decide +kernel
theorem d_Ro_add_62 : decode M_Ro_add.2.1 62 = .ok (.aload_n 0, 1) := by decide +kernel
theorem d_Ro_add_63 : decode M_Ro_add.2.1 63 = .ok (.getfield 15, 3) := by decide +kernel
theorem d_Ro_add_66 : decode M_Ro_add.2.1 66 = .ok (.iload_n 3, 1) := by decide +kernel
theorem d_Ro_add_67 : decode M_Ro_add.2.1 67 = .ok (.iload_n 2, 1) := by decide +kernel
theorem d_Ro_add_68 : decode M_Ro_add.2.1 68 = .ok (.iastore, 1) := by decide +kernel
theorem d_Ro_add_69 : decode M_Ro_add.2.1 69 = .ok (.aload_n 0, 1) := by decide +kernel
theorem d_Ro_add_70 : decode M_Ro_add.2.1 70 = .ok (.dup, 1) := by decide +kernel
theorem d_Ro_add_71 : decode M_Ro_add.2.1 71 = .ok (.getfield 18, 3) := by decide +kernel
theorem d_Ro_add_74 : decode M_Ro_add.2.1 74 = .ok (.iconst 1, 1) := by decide +kernel
theorem d_Ro_add_75 : decode M_Ro_add.2.1 75 = .ok (.iadd, 1) := by decide +kernel
theorem d_Ro_add_76 : decode M_Ro_add.2.1 76 = .ok (.putfield 18, 3) := by decide +kernel
theorem d_Ro_add_79 : decode M_Ro_add.2.1 79 = .ok (.aload_n 0, 1) := by decide +kernel
theorem d_Ro_add_80 : decode M_Ro_add.2.1 80 = .ok (.getfield 18, 3) := by decide +kernel
theorem d_Ro_add_83 : decode M_Ro_add.2.1 83 = .ok (.ireturn, 1) := by decide +kernel
theorem d_Ro_clear_0 : decode M_Ro_clear.2.1 0 = .ok (.aload_n 0, 1) := by decide +kernel
theorem d_Ro_clear_1 : decode M_Ro_clear.2.1 1 = .ok (.getfield 18, 3) := by decide +kernel
theorem d_Ro_clear_4 : decode M_Ro_clear.2.1 4 = .ok (.istore_n 1, 1) := by decide +kernel
theorem d_Ro_clear_5 : decode M_Ro_clear.2.1 5 = .ok (.aload_n 0, 1) := by decide +kernel
theorem d_Ro_clear_6 : decode M_Ro_clear.2.1 6 = .ok (.iconst 0, 1) := by decide +kernel
theorem d_Ro_clear_7 : decode M_Ro_clear.2.1 7 = .ok (.putfield 18, 3) := by decide +kernel
theorem d_Ro_clear_10 : decode M_Ro_clear.2.1 10 = .ok (.iload_n 1, 1) := by decide +kernel
theorem d_Ro_clear_11 : decode M_Ro_clear.2.1 11 = .ok (.ireturn, 1) := by decide +kernel
theorem d_Tr_init_0 : decode M_Tr_init.2.1 0 = .ok (.aload_n 0, 1) := by decide +kernel
theorem d_Tr_init_1 : decode M_Tr_init.2.1 1 = .ok (.invokespecial 3, 3) := by decide +kernel
theorem d_Tr_init_4 : decode M_Tr_init.2.1 4 = .ok (.aload_n 0, 1) := by decide +kernel
theorem d_Tr_init_5 : decode M_Tr_init.2.1 5 = .ok (.new 9, 3) := by decide +kernel
theorem d_Tr_init_8 : decode M_Tr_init.2.1 8 = .ok (.dup, 1) := by decide +kernel
theorem d_Tr_init_9 : decode M_Tr_init.2.1 9 = .ok (.invokespecial 11, 3) := by decide +kernel
theorem d_Tr_init_12 : decode M_Tr_init.2.1 12 = .ok (.putfield 12, 3) := by decide +kernel
theorem d_Tr_init_15 : decode M_Tr_init.2.1 15 = .ok (.aload_n 0, 1) := by decide +kernel
theorem d_Tr_init_16 : decode M_Tr_init.2.1 16 = .ok (.iconst 0, 1) := by decide +kernel
theorem d_Tr_init_17 : decode M_Tr_init.2.1 17 = .ok (.putfield 18, 3) := by decide +kernel
theorem d_Tr_init_20 : decode M_Tr_init.2.1 20 = .ok (.aload_n 0, 1) := by decide +kernel
theorem d_Tr_init_21 : decode M_Tr_init.2.1 21 = .ok (.iconst (-1), 1) := by decide +kernel
theorem d_Tr_init_22 : decode M_Tr_init.2.1 22 = .ok (.putfield 22, 3) := by decide +kernel
theorem d_Tr_init_25 : decode M_Tr_init.2.1 25 = .ok (.return_, 1) := by decide +kernel
theorem d_Tr_start_0 : decode M_Tr_start.2.1 0 = .ok (.aload_n 0, 1) := by decide +kernel
theorem d_Tr_start_1 : decode M_Tr_start.2.1 1 = .ok (.iconst 1, 1) := by decide +kernel
theorem d_Tr_start_2 : decode M_Tr_start.2.1 2 = .ok (.putfield 18, 3) := by decide +kernel
theorem d_Tr_start_5 : decode M_Tr_start.2.1 5 = .ok (.aload_n 0, 1) := by decide +kernel
theorem d_Tr_start_6 : decode M_Tr_start.2.1 6 = .ok (.iload_n 1, 1) := by decide +kernel
theorem d_Tr_start_7 : decode M_Tr_start.2.1 7 = .ok (.putfield 22, 3) := by decide +kernel
theorem d_Tr_start_10 : decode M_Tr_start.2.1 10 = .ok (.aload_n 0, 1) := by decide +kernel
theorem d_Tr_start_11 : decode M_Tr_start.2.1 11 = .ok (.getfield 12, 3) := by decide +kernel
theorem d_Tr_start_14 : decode M_Tr_start.2.1 14 = .ok (.iconst 0, 1) := by decide +kernel
theorem d_Tr_start_15 : decode M_Tr_start.2.1 15 = .ok (.putfield 26, 3) := by decide +kernel
theorem d_Tr_start_18 : decode M_Tr_start.2.1 18 = .ok (.return_, 1) := by decide +kernel
theorem d_Lo_bitCount_0 : decode M_Lo_bitCount.2.1 0 = .ok (.lload_n 0, 1) := by decide +kernel
theorem d_Lo_bitCount_1 : decode M_Lo_bitCount.2.1 1 = .ok (.lload_n 0, 1) := by decide +kernel
theorem d_Lo_bitCount_2 : decode M_Lo_bitCount.2.1 2 = .ok (.iconst 1, 1) := by decide +kernel
theorem d_Lo_bitCount_3 : decode M_Lo_bitCount.2.1 3 = .ok (.lushr, 1) := by decide +kernel
theorem d_Lo_bitCount_4 : decode M_Lo_bitCount.2.1 4 = .ok (.ldc2_w 314, 3) := by decide +kernel
theorem d_Lo_bitCount_7 : decode M_Lo_bitCount.2.1 7 = .ok (.land, 1) := by decide +kernel
theorem d_Lo_bitCount_8 : decode M_Lo_bitCount.2.1 8 = .ok (.lsub, 1) := by decide +kernel
theorem d_Lo_bitCount_9 : decode M_Lo_bitCount.2.1 9 = .ok (.lstore_n 0, 1) := by decide +kernel
theorem d_Lo_bitCount_10 : decode M_Lo_bitCount.2.1 10 = .ok (.lload_n 0, 1) := by decide +kernel
theorem d_Lo_bitCount_11 : decode M_Lo_bitCount.2.1 11 = .ok (.ldc2_w 316, 3) := by decide +kernel
theorem d_Lo_bitCount_14 : decode M_Lo_bitCount.2.1 14 = .ok (.land, 1) := by decide +kernel
theorem d_Lo_bitCount_15 : decode M_Lo_bitCount.2.1 15 = .ok (.lload_n 0, 1) := by decide +kernel
theorem d_Lo_bitCount_16 : decode M_Lo_bitCount.2.1 16 = .ok (.iconst 2, 1) := by decide +kernel
theorem d_Lo_bitCount_17 : decode M_Lo_bitCount.2.1 17 = .ok (.lushr, 1) := by decide +kernel
theorem d_Lo_bitCount_18 : decode M_Lo_bitCount.2.1 18 = .ok (.ldc2_w 316, 3) := by decide +kernel
theorem d_Lo_bitCount_21 : decode M_Lo_bitCount.2.1 21 = .ok (.land, 1) := by decide +kernel
theorem d_Lo_bitCount_22 : decode M_Lo_bitCount.2.1 22 = .ok (.ladd, 1) := by decide +kernel
theorem d_Lo_bitCount_23 : decode M_Lo_bitCount.2.1 23 = .ok (.lstore_n 0, 1) := by decide +kernel
theorem d_Lo_bitCount_24 : decode M_Lo_bitCount.2.1 24 = .ok (.lload_n 0, 1) := by decide +kernel
theorem d_Lo_bitCount_25 : decode M_Lo_bitCount.2.1 25 = .ok (.lload_n 0, 1) := by decide +kernel
theorem d_Lo_bitCount_26 : decode M_Lo_bitCount.2.1 26 = .ok (.iconst 4, 1) := by decide +kernel
theorem d_Lo_bitCount_27 : decode M_Lo_bitCount.2.1 27 = .ok (.lushr, 1) := by decide +kernel
theorem d_Lo_bitCount_28 : decode M_Lo_bitCount.2.1 28 = .ok (.ladd, 1) := by decide +kernel
theorem d_Lo_bitCount_29 : decode M_Lo_bitCount.2.1 29 = .ok (.ldc2_w 318, 3) := by decide +kernel
theorem d_Lo_bitCount_32 : decode M_Lo_bitCount.2.1 32 = .ok (.land, 1) := by decide +kernel
theorem d_Lo_bitCount_33 : decode M_Lo_bitCount.2.1 33 = .ok (.lstore_n 0, 1) := by decide +kernel
theorem d_Lo_bitCount_34 : decode M_Lo_bitCount.2.1 34 = .ok (.lload_n 0, 1) := by decide +kernel
theorem d_Lo_bitCount_35 : decode M_Lo_bitCount.2.1 35 = .ok (.lload_n 0, 1) := by decide +kernel
theorem d_Lo_bitCount_36 : decode M_Lo_bitCount.2.1 36 = .ok (.bipush 8, 2) := by decide +kernel
theorem d_Lo_bitCount_38 : decode M_Lo_bitCount.2.1 38 = .ok (.lushr, 1) := by decide +kernel
theorem d_Lo_bitCount_39 : decode M_Lo_bitCount.2.1 39 = .ok (.ladd, 1) := by decide +kernel
theorem d_Lo_bitCount_40 : decode M_Lo_bitCount.2.1 40 = .ok (.lstore_n 0, 1) := by decide +kernel
theorem d_Lo_bitCount_41 : decode M_Lo_bitCount.2.1 41 = .ok (.lload_n 0, 1) := by decide +kernel
theorem d_Lo_bitCount_42 : decode M_Lo_bitCount.2.1 42 = .ok (.lload_n 0, 1) := by decide +kernel
theorem d_Lo_bitCount_43 : decode M_Lo_bitCount.2.1 43 = .ok (.bipush 16, 2) := by decide +kernel
theorem d_Lo_bitCount_45 : decode M_Lo_bitCount.2.1 45 = .ok (.lushr, 1) := by decide +kernel
theorem d_Lo_bitCount_46 : decode M_Lo_bitCount.2.1 46 = .ok (.ladd, 1) := by decide +kernel
theorem d_Lo_bitCount_47 : decode M_Lo_bitCount.2.1 47 = .ok (.lstore_n 0, 1) := by decide +kernel
theorem d_Lo_bitCount_48 : decode M_Lo_bitCount.2.1 48 = .ok (.lload_n 0, 1) := by decide +kernel
theorem d_Lo_bitCount_49 : decode M_Lo_bitCount.2.1 49 = .ok (.lload_n 0, 1) := by decide +kernel
theorem d_Lo_bitCount_50 : decode M_Lo_bitCount.2.1 50 = .ok (.bipush 32, 2) := by decide +kernel
theorem d_Lo_bitCount_52 : decode M_Lo_bitCount.2.1 52 = .ok (.lushr, 1) := by decide +kernel
theorem d_Lo_bitCount_53 : decode M_Lo_bitCount.2.1 53 = .ok (.ladd, 1) := by decide +kernel
theorem d_Lo_bitCount_54 : decode M_Lo_bitCount.2.1 54 = .ok (.lstore_n 0, 1) := by decide +kernel
theorem d_Lo_bitCount_55 : decode M_Lo_bitCount.2.1 55 = .ok (.lload_n 0, 1) := by decide +kernel
theorem d_Lo_bitCount_56 : decode M_Lo_bitCount.2.1 56 = .ok (.l2i, 1) := by decide +kernel
theorem d_Lo_bitCount_57 : decode M_Lo_bitCount.2.1 57 = .ok (.bipush 127, 2) := by decide +kernel
theorem d_Lo_bitCount_59 : decode M_Lo_bitCount.2.1 59 = .ok (.iand, 1) := by decide +kernel
theorem d_Lo_bitCount_60 : decode M_Lo_bitCount.2.1 60 = .ok (.ireturn, 1) := by decide +kernel
theorem d_Mt_max_0 : decode M_Mt_max.2.1 0 = .ok (.iload_n 0, 1) := by decide +kernel
theorem d_Mt_max_1 : decode M_Mt_max.2.1 1 = .ok (.iload_n 1, 1) := by decide +kernel
theorem d_Mt_max_2 : decode M_Mt_max.2.1 2 = .ok (.if_icmp .lt 7, 3) := by decide +kernel
theorem d_Mt_max_5 : decode M_Mt_max.2.1 5 = .ok (.iload_n 0, 1) := by decide +kernel
theorem d_Mt_max_6 : decode M_Mt_max.2.1 6 = .ok (.goto 4, 3) := by decide +kernel
theorem d_Mt_max_9 : decode M_Mt_max.2.1 9 = .ok (.iload_n 1, 1) := by decide +kernel
theorem d_Mt_max_10 : decode M_Mt_max.2.1 10 = .ok (.ireturn, 1) := by decide +kernel
theorem d_Mt_min_0 : decode M_Mt_min.2.1 0 = .ok (.iload_n 0, 1) := by decide +kernel
theorem d_Mt_min_1 : decode M_Mt_min.2.1 1 = .ok (.iload_n 1, 1) := by decide +kernel
theorem d_Mt_min_2 : decode M_Mt_min.2.1 2 = .ok (.if_icmp .gt 7, 3) := by decide +kernel
theorem d_Mt_min_5 : decode M_Mt_min.2.1 5 = .ok (.iload_n 0, 1) := by decide +kernel
theorem d_Mt_min_6 : decode M_Mt_min.2.1 6 = .ok (.goto 4, 3) := by decide +kernel
theorem d_Mt_min_9 : decode M_Mt_min.2.1 9 = .ok (.iload_n 1, 1) := by decide +kernel
theorem d_Mt_min_10 : decode M_Mt_min.2.1 10 = .ok (.ireturn, 1) := by decide +kernel
end
section
theorem d_Ma_init_0 : decode M_Ma_init.2.1 0 = .ok (.aload_n 0, 1) := by decide +kernel
theorem d_Ma_init_1 : decode M_Ma_init.2.1 1 = .ok (.invokespecial 1, 3) := by decide +kernel
theorem d_Ma_init_4 : decode M_Ma_init.2.1 4 = .ok (.aload_n 0, 1) := by decide +kernel
theorem d_Ma_init_5 : decode M_Ma_init.2.1 5 = .ok (.iload_n 1, 1) := by decide +kernel
theorem d_Ma_init_6 : decode M_Ma_init.2.1 6 = .ok (.iconst 1, 1) := by decide +kernel
theorem d_Ma_init_7 : decode M_Ma_init.2.1 7 = .ok (.bipush 60, 2) := by decide +kernel
theorem d_Ma_init_9 : decode M_Ma_init.2.1 9 = .ok (.invokestatic 7, 3) := by decide +kernel
theorem d_Ma_init_12 : decode M_Ma_init.2.1 12 = .ok (.putfield 13, 3) := by decide +kernel
theorem d_Ma_init_15 : decode M_Ma_init.2.1 15 = .ok (.aload_n 0, 1) := by decide +kernel
theorem d_Ma_init_16 : decode M_Ma_init.2.1 16 = .ok (.iload_n 2, 1) := by decide +kernel
theorem d_Ma_init_17 : decode M_Ma_init.2.1 17 = .ok (.aload_n 0, 1) := by decide +kernel
theorem d_Ma_init_18 : decode M_Ma_init.2.1 18 = .ok (.getfield 13, 3) := by decide +kernel
theorem d_Ma_init_21 : decode M_Ma_init.2.1 21 = .ok (.sipush 600, 3) := by decide +kernel
theorem d_Ma_init_24 : decode M_Ma_init.2.1 24 = .ok (.invokestatic 7, 3) := by decide +kernel
theorem d_Ma_init_27 : decode M_Ma_init.2.1 27 = .ok (.putfield 17, 3) := by decide +kernel
theorem d_Ma_init_30 : decode M_Ma_init.2.1 30 = .ok (.aload_n 0, 1) := by decide +kernel
theorem d_Ma_init_31 : decode M_Ma_init.2.1 31 = .ok (.iload_n 3, 1) := by decide +kernel
theorem d_Ma_init_32 : decode M_Ma_init.2.1 32 = .ok (.aload_n 0, 1) := by decide +kernel
theorem d_Ma_init_33 : decode M_Ma_init.2.1 33 = .ok (.getfield 17, 3) := by decide +kernel
theorem d_Ma_init_36 : decode M_Ma_init.2.1 36 = .ok (.sipush 6000, 3) := by decide +kernel
theorem d_Ma_init_39 : decode M_Ma_init.2.1 39 = .ok (.invokestatic 7, 3) := by decide +kernel
theorem d_Ma_init_42 : decode M_Ma_init.2.1 42 = .ok (.putfield 20, 3) := by decide +kernel
theorem d_Ma_init_45 : decode M_Ma_init.2.1 45 = .ok (.aload_n 0, 1) := by decide +kernel
theorem d_Ma_init_46 : decode M_Ma_init.2.1 46 = .ok (.new 23, 3) := by decide +kernel
theorem d_Ma_init_49 : decode M_Ma_init.2.1 49 = .ok (.dup, 1) := by decide +kernel
theorem d_Ma_init_50 : decode M_Ma_init.2.1 50 = .ok (.invokespecial 25, 3) := by decide +kernel
theorem d_Ma_init_53 : decode M_Ma_init.2.1 53 = .ok (.putfield 26, 3) := by decide +kernel
theorem d_Ma_init_56 : decode M_Ma_init.2.1 56 = .ok (.aload_n 0, 1) := by decide +kernel
theorem d_Ma_init_57 : decode M_Ma_init.2.1 57 = .ok (.bipush 8, 2) := by decide +kernel
theorem d_Ma_init_59 : decode M_Ma_init.2.1 59 = .ok (.anewarray 30, 3) := by decide +kernel
theorem d_Ma_init_62 : decode M_Ma_init.2.1 62 = .ok (.putfield 32, 3) := by decide +kernel
theorem d_Ma_init_65 : decode M_Ma_init.2.1 65 = .ok (.iconst 0, 1) := by decide +kernel
theorem d_Ma_init_66 : decode M_Ma_init.2.1 66 = .ok (.istore 4, 2) := by decide +kernel
theorem d_Ma_init_68 : decode M_Ma_init.2.1 68 = .ok (.iload 4, 2) := by decide +kernel
theorem d_Ma_init_70 : decode M_Ma_init.2.1 70 = .ok (.bipush 8, 2) := by decide +kernel
theorem d_Ma_init_72 : decode M_Ma_init.2.1 72 = .ok (.if_icmp .ge 23, 3) := by decide +kernel
theorem d_Ma_init_75 : decode M_Ma_init.2.1 75 = .ok (.aload_n 0, 1) := by decide +kernel
theorem d_Ma_init_76 : decode M_Ma_init.2.1 76 = .ok (.getfield 32, 3) := by decide +kernel
theorem d_Ma_init_79 : decode M_Ma_init.2.1 79 = .ok (.iload 4, 2) := by decide +kernel
theorem d_Ma_init_81 : decode M_Ma_init.2.1 81 = .ok (.new 30, 3) := by decide +kernel
theorem d_Ma_init_84 : decode M_Ma_init.2.1 84 = .ok (.dup, 1) := by decide +kernel
theorem d_Ma_init_85 : decode M_Ma_init.2.1 85 = .ok (.invokespecial 36, 3) := by decide +kernel
theorem d_Ma_init_88 : decode M_Ma_init.2.1 88 = .ok (.aastore, 1) := by decide +kernel
theorem d_Ma_init_89 : decode M_Ma_init.2.1 89 = .ok (.iinc 4 1, 3) := by decide +kernel
theorem d_Ma_init_92 : decode M_Ma_init.2.1 92 = .ok (.goto (-24), 3) := by decide +kernel
theorem d_Ma_init_95 : decode M_Ma_init.2.1 95 = .ok (.aload_n 0, 1) := by decide +kernel
theorem d_Ma_init_96 : decode M_Ma_init.2.1 96 = .ok (.bipush 8, 2) := by decide +kernel
theorem d_Ma_init_98 : decode M_Ma_init.2.1 98 = .ok (.newarray .int, 2) := by decide +kernel
theorem d_Ma_init_100 : decode M_Ma_init.2.1 100 = .ok (.putfield 37, 3) := by decide +kernel
theorem d_Ma_init_103 : decode M_Ma_init.2.1 103 = .ok (.aload_n 0, 1) := by decide +kernel
theorem d_Ma_init_104 : decode M_Ma_init.2.1 104 = .ok (.new 41, 3) := by decide +kernel
theorem d_Ma_init_107 : decode M_Ma_init.2.1 107 = .ok (.dup, 1) := by decide +kernel
theorem d_Ma_init_108 : decode M_Ma_init.2.1 108 = .ok (.invokespecial 43, 3) := by decide +kernel
theorem d_Ma_init_111 : decode M_Ma_init.2.1 111 = .ok (.putfield 44, 3) := by decide +kernel
theorem d_Ma_init_114 : decode M_Ma_init.2.1 114 = .ok (.aload_n 0, 1) := by decide +kernel
theorem d_Ma_init_115 : decode M_Ma_init.2.1 115 = .ok (.new 48, 3) := by decide +kernel
theorem d_Ma_init_118 : decode M_Ma_init.2.1 118 = .ok (.dup, 1) := by decide +kernel
theorem d_Ma_init_119 : decode M_Ma_init.2.1 119 = .ok (.invokespecial 50, 3) := by decide +kernel
theorem d_Ma_init_122 : decode M_Ma_init.2.1 122 = .ok (.putfield 51, 3) := by decide +kernel
theorem d_Ma_init_125 : decode M_Ma_init.2.1 125 = .ok (.aload_n 0, 1) := by decide +kernel
theorem d_Ma_init_126 : decode M_Ma_init.2.1 126 = .ok (.new 48, 3) := by decide +kernel
theorem d_Ma_init_129 : decode M_Ma_init.2.1 129 = .ok (.dup, 1) := by decide +kernel
theorem d_Ma_init_130 : decode M_Ma_init.2.1 130 = .ok (.invokespecial 50, 3) := by decide +kernel
theorem d_Ma_init_133 : decode M_Ma_init.2.1 133 = .ok (.putfield 55, 3) := by decide +kernel
theorem d_Ma_init_136 : decode M_Ma_init.2.1 136 = .ok (.aload_n 0, 1) := by decide +kernel
theorem d_Ma_init_137 : decode M_Ma_init.2.1 137 = .ok (.new 58, 3) := by decide +kernel
theorem d_Ma_init_140 : decode M_Ma_init.2.1 140 = .ok (.dup, 1) := by decide +kernel
theorem d_Ma_init_141 : decode M_Ma_init.2.1 141 = .ok (.invokespecial 60, 3) := by decide +kernel
theorem d_Ma_init_144 : decode M_Ma_init.2.1 144 = .ok (.putfield 61, 3) := by decide +kernel
theorem d_Ma_init_147 : decode M_Ma_init.2.1 147 = .ok (.aload_n 0, 1) := by decide +kernel
theorem d_Ma_init_148 : decode M_Ma_init.2.1 148 = .ok (.iconst 0, 1) := by decide +kernel
theorem d_Ma_init_149 : decode M_Ma_init.2.1 149 = .ok (.putfield 65, 3) := by decide +kernel
theorem d_Ma_init_152 : decode M_Ma_init.2.1 152 = .ok (.aload_n 0, 1) := by decide +kernel
theorem d_Ma_init_153 : decode M_Ma_init.2.1 153 = .ok (.iconst 0, 1) := by decide +kernel
theorem d_Ma_init_154 : decode M_Ma_init.2.1 154 = .ok (.putfield 68, 3) := by decide +kernel
theorem d_Ma_init_157 : decode M_Ma_init.2.1 157 = .ok (.aload_n 0, 1) := by decide +kernel
theorem d_Ma_init_158 : decode M_Ma_init.2.1 158 = .ok (.iconst 0, 1) := by decide +kernel
theorem d_Ma_init_159 : decode M_Ma_init.2.1 159 = .ok (.putfield 71, 3) := by decide +kernel
theorem d_Ma_init_162 : decode M_Ma_init.2.1 162 = .ok (.return_, 1) := by decide +kernel
theorem d_Ma_alias_0 : decode M_Ma_alias.2.1 0 = .ok (.iload_n 1, 1) := by decide +kernel
theorem d_Ma_alias_1 : decode M_Ma_alias.2.1 1 = .ok (.bipush 8, 2) := by decide +kernel
theorem d_Ma_alias_3 : decode M_Ma_alias.2.1 3 = .ok (.invokestatic 74, 3) := by decide +kernel
theorem d_Ma_alias_6 : decode M_Ma_alias.2.1 6 = .ok (.ifCond .eq 12, 3) := by decide +kernel
theorem d_Ma_alias_9 : decode M_Ma_alias.2.1 9 = .ok (.iload_n 2, 1) := by decide +kernel
theorem d_Ma_alias_10 : decode M_Ma_alias.2.1 10 = .ok (.bipush 64, 2) := by decide +kernel
theorem d_Ma_alias_12 : decode M_Ma_alias.2.1 12 = .ok (.invokestatic 74, 3) := by decide +kernel
theorem d_Ma_alias_15 : decode M_Ma_alias.2.1 15 = .ok (.ifCond .ne 7, 3) := by decide +kernel
theorem d_Ma_alias_18 : decode M_Ma_alias.2.1 18 = .ok (.sipush (-501), 3) := by decide +kernel
theorem d_Ma_alias_21 : decode M_Ma_alias.2.1 21 = .ok (.ireturn, 1) := by decide +kernel
theorem d_Ma_alias_22 : decode M_Ma_alias.2.1 22 = .ok (.aload_n 0, 1) := by decide +kernel
theorem d_Ma_alias_23 : decode M_Ma_alias.2.1 23 = .ok (.getfield 26, 3) := by decide +kernel
theorem d_Ma_alias_26 : decode M_Ma_alias.2.1 26 = .ok (.iload_n 1, 1) := by decide +kernel
theorem d_Ma_alias_27 : decode M_Ma_alias.2.1 27 = .ok (.iload_n 2, 1) := by decide +kernel
theorem d_Ma_alias_28 : decode M_Ma_alias.2.1 28 = .ok (.invokevirtual 78, 3) := by decide +kernel
theorem d_Ma_alias_31 : decode M_Ma_alias.2.1 31 = .ok (.ifCond .ne 7, 3) := by decide +kernel
theorem d_Ma_alias_34 : decode M_Ma_alias.2.1 34 = .ok (.sipush (-452), 3) := by decide +kernel
theorem d_Ma_alias_37 : decode M_Ma_alias.2.1 37 = .ok (.ireturn, 1) := by decide +kernel
theorem d_Ma_alias_38 : decode M_Ma_alias.2.1 38 = .ok (.aload_n 0, 1) := by decide +kernel
theorem d_Ma_alias_39 : decode M_Ma_alias.2.1 39 = .ok (.getfield 26, 3) := by decide +kernel
theorem d_Ma_alias_42 : decode M_Ma_alias.2.1 42 = .ok (.iload_n 1, 1) := by decide +kernel
theorem d_Ma_alias_43 : decode M_Ma_alias.2.1 43 = .ok (.iload_n 2, 1) := by decide +kernel
theorem d_Ma_alias_44 : decode M_Ma_alias.2.1 44 = .ok (.invokevirtual 81, 3) := by decide +kernel
theorem d_Ma_alias_47 : decode M_Ma_alias.2.1 47 = .ok (.ireturn, 1) := by decide +kernel
theorem d_Ma_unalias_0 : decode M_Ma_unalias.2.1 0 = .ok (.iload_n 1, 1) := by decide +kernel
theorem d_Ma_unalias_1 : decode M_Ma_unalias.2.1 1 = .ok (.bipush 8, 2) := by decide +kernel
theorem d_Ma_unalias_3 : decode M_Ma_unalias.2.1 3 = .ok (.invokestatic 74, 3) := by decide +kernel
theorem d_Ma_unalias_6 : decode M_Ma_unalias.2.1 6 = .ok (.ifCond .ne 7, 3) := by decide +kernel
theorem d_Ma_unalias_9 : decode M_Ma_unalias.2.1 9 = .ok (.sipush (-501), 3) := by decide +kernel
theorem d_Ma_unalias_12 : decode M_Ma_unalias.2.1 12 = .ok (.ireturn, 1) := by decide +kernel
theorem d_Ma_unalias_13 : decode M_Ma_unalias.2.1 13 = .ok (.aload_n 0, 1) := by decide +kernel
theorem d_Ma_unalias_14 : decode M_Ma_unalias.2.1 14 = .ok (.getfield 26, 3) := by decide +kernel
theorem d_Ma_unalias_17 : decode M_Ma_unalias.2.1 17 = .ok (.iload_n 1, 1) := by decide +kernel
theorem d_Ma_unalias_18 : decode M_Ma_unalias.2.1 18 = .ok (.invokevirtual 85, 3) := by decide +kernel
theorem d_Ma_unalias_21 : decode M_Ma_unalias.2.1 21 = .ok (.ireturn, 1) := by decide +kernel
theorem d_Ma_route_0 : decode M_Ma_route.2.1 0 = .ok (.iload_n 1, 1) := by decide +kernel
theorem d_Ma_route_1 : decode M_Ma_route.2.1 1 = .ok (.invokestatic 89, 3) := by decide +kernel
theorem d_Ma_route_4 : decode M_Ma_route.2.1 4 = .ok (.ifCond .eq 21, 3) := by decide +kernel
theorem d_Ma_route_7 : decode M_Ma_route.2.1 7 = .ok (.iload_n 2, 1) := by decide +kernel
theorem d_Ma_route_8 : decode M_Ma_route.2.1 8 = .ok (.bipush 8, 2) := by decide +kernel
theorem d_Ma_route_10 : decode M_Ma_route.2.1 10 = .ok (.invokestatic 74, 3) := by decide +kernel
theorem d_Ma_route_13 : decode M_Ma_route.2.1 13 = .ok (.ifCond .eq 12, 3) := by decide +kernel
theorem d_Ma_route_16 : decode M_Ma_route.2.1 16 = .ok (.iload_n 3, 1) := by decide +kernel
theorem d_Ma_route_17 : decode M_Ma_route.2.1 17 = .ok (.bipush 100, 2) := by decide +kernel
theorem d_Ma_route_19 : decode M_Ma_route.2.1 19 = .ok (.invokestatic 74, 3) := by decide +kernel
theorem d_Ma_route_22 : decode M_Ma_route.2.1 22 = .ok (.ifCond .ne 7, 3) := by decide +kernel
theorem d_Ma_route_25 : decode M_Ma_route.2.1 25 = .ok (.sipush (-501), 3) := by decide +kernel
theorem d_Ma_route_28 : decode M_Ma_route.2.1 28 = .ok (.ireturn, 1) := by decide +kernel
theorem d_Ma_route_29 : decode M_Ma_route.2.1 29 = .ok (.aload_n 0, 1) := by decide +kernel
theorem d_Ma_route_30 : decode M_Ma_route.2.1 30 = .ok (.getfield 32, 3) := by decide +kernel
theorem d_Ma_route_33 : decode M_Ma_route.2.1 33 = .ok (.iload_n 1, 1) := by decide +kernel
theorem d_Ma_route_34 : decode M_Ma_route.2.1 34 = .ok (.aaload, 1) := by decide +kernel
theorem d_Ma_route_35 : decode M_Ma_route.2.1 35 = .ok (.iload_n 2, 1) := by decide +kernel
theorem d_Ma_route_36 : decode M_Ma_route.2.1 36 = .ok (.invokevirtual 93, 3) := by decide +kernel
theorem d_Ma_route_39 : decode M_Ma_route.2.1 39 = .ok (.ifCond .ne 7, 3) := by decide +kernel
theorem d_Ma_route_42 : decode M_Ma_route.2.1 42 = .ok (.sipush (-452), 3) := by decide +kernel
theorem d_Ma_route_45 : decode M_Ma_route.2.1 45 = .ok (.ireturn, 1) := by decide +kernel
theorem d_Ma_route_46 : decode M_Ma_route.2.1 46 = .ok (.aload_n 0, 1) := by decide +kernel
theorem d_Ma_route_47 : decode M_Ma_route.2.1 47 = .ok (.getfield 32, 3) := by decide +kernel
theorem d_Ma_route_50 : decode M_Ma_route.2.1 50 = .ok (.iload_n 1, 1) := by decide +kernel
theorem d_Ma_route_51 : decode M_Ma_route.2.1 51 = .ok (.aaload, 1) := by decide +kernel
theorem d_Ma_route_52 : decode M_Ma_route.2.1 52 = .ok (.iload_n 2, 1) := by decide +kernel
theorem d_Ma_route_53 : decode M_Ma_route.2.1 53 = .ok (.iload_n 3, 1) := by decide +kernel
theorem d_Ma_route_54 : decode M_Ma_route.2.1 54 = .ok (.invokevirtual 95, 3) := by decide +kernel
theorem d_Ma_route_57 : decode M_Ma_route.2.1 57 = .ok (.ireturn, 1) := by decide +kernel
theorem d_Ma_unroute_0 : decode M_Ma_unroute.2.1 0 = .ok (.iload_n 1, 1) := by decide +kernel
theorem d_Ma_unroute_1 : decode M_Ma_unroute.2.1 1 = .ok (.invokestatic 89, 3) := by decide +kernel
theorem d_Ma_unroute_4 : decode M_Ma_unroute.2.1 4 = .ok (.ifCond .ne 7, 3) := by decide +kernel
theorem d_Ma_unroute_7 : decode M_Ma_unroute.2.1 7 = .ok (.sipush (-501), 3) := by decide +kernel
theorem d_Ma_unroute_10 : decode M_Ma_unroute.2.1 10 = .ok (.ireturn, 1) := by decide +kernel
theorem d_Ma_unroute_11 : decode M_Ma_unroute.2.1 11 = .ok (.aload_n 0, 1) := by decide +kernel
theorem d_Ma_unroute_12 : decode M_Ma_unroute.2.1 12 = .ok (.getfield 32, 3) := by decide +kernel
theorem d_Ma_unroute_15 : decode M_Ma_unroute.2.1 15 = .ok (.iload_n 1, 1) := by decide +kernel
theorem d_Ma_unroute_16 : decode M_Ma_unroute.2.1 16 = .ok (.aaload, 1) := by decide +kernel
theorem d_Ma_unroute_17 : decode M_Ma_unroute.2.1 17 = .ok (.invokevirtual 96, 3) := by decide +kernel
theorem d_Ma_unroute_20 : decode M_Ma_unroute.2.1 20 = .ok (.ireturn, 1) := by decide +kernel
theorem d_Ma_host_0 : decode M_Ma_host.2.1 0 = .ok (.iload_n 1, 1) := by decide +kernel
theorem d_Ma_host_1 : decode M_Ma_host.2.1 1 = .ok (.bipush 8, 2) := by decide +kernel
theorem d_Ma_host_3 : decode M_Ma_host.2.1 3 = .ok (.invokestatic 74, 3) := by decide +kernel
theorem d_Ma_host_6 : decode M_Ma_host.2.1 6 = .ok (.ifCond .eq 11, 3) := by decide +kernel
theorem d_Ma_host_9 : decode M_Ma_host.2.1 9 = .ok (.iload_n 2, 1) := by decide +kernel
theorem d_Ma_host_10 : decode M_Ma_host.2.1 10 = .ok (.iconst 3, 1) := by decide +kernel
theorem d_Ma_host_11 : decode M_Ma_host.2.1 11 = .ok (.invokestatic 74, 3) := by decide +kernel
theorem d_Ma_host_14 : decode M_Ma_host.2.1 14 = .ok (.ifCond .ne 7, 3) := by decide +kernel
theorem d_Ma_host_17 : decode M_Ma_host.2.1 17 = .ok (.sipush (-501), 3) := by decide +kernel
theorem d_Ma_host_20 : decode M_Ma_host.2.1 20 = .ok (.ireturn, 1) := by decide +kernel
theorem d_Ma_host_21 : decode M_Ma_host.2.1 21 = .ok (.aload_n 0, 1) := by decide +kernel
theorem d_Ma_host_22 : decode M_Ma_host.2.1 22 = .ok (.getfield 37, 3) := by decide +kernel
theorem d_Ma_host_25 : decode M_Ma_host.2.1 25 = .ok (.iload_n 1, 1) := by decide +kernel
theorem d_Ma_host_26 : decode M_Ma_host.2.1 26 = .ok (.iaload, 1) := by decide +kernel
theorem d_Ma_host_27 : decode M_Ma_host.2.1 27 = .ok (.istore_n 3, 1) := by decide +kernel
theorem d_Ma_host_28 : decode M_Ma_host.2.1 28 = .ok (.aload_n 0, 1) := by decide +kernel
theorem d_Ma_host_29 : decode M_Ma_host.2.1 29 = .ok (.getfield 37, 3) := by decide +kernel
theorem d_Ma_host_32 : decode M_Ma_host.2.1 32 = .ok (.iload_n 1, 1) := by decide +kernel
theorem d_Ma_host_33 : decode M_Ma_host.2.1 33 = .ok (.iload_n 2, 1) := by decide +kernel
theorem d_Ma_host_34 : decode M_Ma_host.2.1 34 = .ok (.iastore, 1) := by decide +kernel
theorem d_Ma_host_35 : decode M_Ma_host.2.1 35 = .ok (.iload_n 3, 1) := by decide +kernel
theorem d_Ma_host_36 : decode M_Ma_host.2.1 36 = .ok (.ireturn, 1) := by decide +kernel
theorem d_Ma_from_0 : decode M_Ma_from.2.1 0 = .ok (.iload_n 1, 1) := by decide +kernel
theorem d_Ma_from_1 : decode M_Ma_from.2.1 1 = .ok (.iconst (-1), 1) := by decide +kernel
theorem d_Ma_from_2 : decode M_Ma_from.2.1 2 = .ok (.if_icmp .eq 16, 3) := by decide +kernel
theorem d_Ma_from_5 : decode M_Ma_from.2.1 5 = .ok (.iload_n 1, 1) := by decide +kernel
theorem d_Ma_from_6 : decode M_Ma_from.2.1 6 = .ok (.bipush 64, 2) := by decide +kernel
theorem d_Ma_from_8 : decode M_Ma_from.2.1 8 = .ok (.invokestatic 74, 3) := by decide +kernel
theorem d_Ma_from_11 : decode M_Ma_from.2.1 11 = .ok (.ifCond .ne 7, 3) := by decide +kernel
theorem d_Ma_from_14 : decode M_Ma_from.2.1 14 = .ok (.sipush (-501), 3) := by decide +kernel
theorem d_Ma_from_17 : decode M_Ma_from.2.1 17 = .ok (.ireturn, 1) := by decide +kernel
theorem d_Ma_from_18 : decode M_Ma_from.2.1 18 = .ok (.aload_n 0, 1) := by decide +kernel
theorem d_Ma_from_19 : decode M_Ma_from.2.1 19 = .ok (.getfield 44, 3) := by decide +kernel
theorem d_Ma_from_22 : decode M_Ma_from.2.1 22 = .ok (.iload_n 1, 1) := by decide +kernel
theorem d_Ma_from_23 : decode M_Ma_from.2.1 23 = .ok (.invokevirtual 99, 3) := by decide +kernel
theorem d_Ma_from_26 : decode M_Ma_from.2.1 26 = .ok (.iconst 0, 1) := by decide +kernel
theorem d_Ma_from_27 : decode M_Ma_from.2.1 27 = .ok (.ireturn, 1) := by decide +kernel
theorem d_Ma_to_0 : decode M_Ma_to.2.1 0 = .ok (.iload_n 1, 1) := by decide +kernel
theorem d_Ma_to_1 : decode M_Ma_to.2.1 1 = .ok (.bipush 64, 2) := by decide +kernel
theorem d_Ma_to_3 : decode M_Ma_to.2.1 3 = .ok (.invokestatic 74, 3) := by decide +kernel
theorem d_Ma_to_6 : decode M_Ma_to.2.1 6 = .ok (.ifCond .ne 7, 3) := by decide +kernel
theorem d_Ma_to_9 : decode M_Ma_to.2.1 9 = .ok (.sipush (-501), 3) := by decide +kernel
theorem d_Ma_to_12 : decode M_Ma_to.2.1 12 = .ok (.ireturn, 1) := by decide +kernel
theorem d_Ma_to_13 : decode M_Ma_to.2.1 13 = .ok (.aload_n 0, 1) := by decide +kernel
theorem d_Ma_to_14 : decode M_Ma_to.2.1 14 = .ok (.getfield 44, 3) := by decide +kernel
theorem d_Ma_to_17 : decode M_Ma_to.2.1 17 = .ok (.getfield 103, 3) := by decide +kernel
theorem d_Ma_to_20 : decode M_Ma_to.2.1 20 = .ok (.ifCond .ne 7, 3) := by decide +kernel
theorem d_Ma_to_23 : decode M_Ma_to.2.1 23 = .ok (.sipush (-503), 3) := by decide +kernel
theorem d_Ma_to_26 : decode M_Ma_to.2.1 26 = .ok (.ireturn, 1) := by decide +kernel
theorem d_Ma_to_27 : decode M_Ma_to.2.1 27 = .ok (.aload_n 0, 1) := by decide +kernel
theorem d_Ma_to_28 : decode M_Ma_to.2.1 28 = .ok (.getfield 26, 3) := by decide +kernel
theorem d_Ma_to_31 : decode M_Ma_to.2.1 31 = .ok (.iload_n 1, 1) := by decide +kernel
theorem d_Ma_to_32 : decode M_Ma_to.2.1 32 = .ok (.invokevirtual 107, 3) := by decide +kernel
theorem d_Ma_to_35 : decode M_Ma_to.2.1 35 = .ok (.lstore_n 2, 1) := by decide +kernel
theorem d_Ma_to_36 : decode M_Ma_to.2.1 36 = .ok (.lload_n 2, 1) := by decide +kernel
theorem d_Ma_to_37 : decode M_Ma_to.2.1 37 = .ok (.lconst 0, 1) := by decide +kernel
theorem d_Ma_to_38 : decode M_Ma_to.2.1 38 = .ok (.lcmp, 1) := by decide +kernel
theorem d_Ma_to_39 : decode M_Ma_to.2.1 39 = .ok (.ifCond .ne 7, 3) := by decide +kernel
theorem d_Ma_to_42 : decode M_Ma_to.2.1 42 = .ok (.sipush (-550), 3) := by decide +kernel
theorem d_Ma_to_45 : decode M_Ma_to.2.1 45 = .ok (.ireturn, 1) := by decide +kernel
theorem d_Ma_to_46 : decode M_Ma_to.2.1 46 = .ok (.lload_n 2, 1) := by decide +kernel
theorem d_Ma_to_47 : decode M_Ma_to.2.1 47 = .ok (.aload_n 0, 1) := by decide +kernel
theorem d_Ma_to_48 : decode M_Ma_to.2.1 48 = .ok (.getfield 44, 3) := by decide +kernel
theorem d_Ma_to_51 : decode M_Ma_to.2.1 51 = .ok (.getfield 111, 3) := by decide +kernel
theorem d_Ma_to_54 : decode M_Ma_to.2.1 54 = .ok (.invokevirtual 115, 3) := by decide +kernel
theorem d_Ma_to_57 : decode M_Ma_to.2.1 57 = .ok (.ldc2_w 121, 3) := by decide +kernel
theorem d_Ma_to_60 : decode M_Ma_to.2.1 60 = .ok (.lxor, 1) := by decide +kernel
theorem d_Ma_to_61 : decode M_Ma_to.2.1 61 = .ok (.land, 1) := by decide +kernel
theorem d_Ma_to_62 : decode M_Ma_to.2.1 62 = .ok (.lstore 4, 2) := by decide +kernel
theorem d_Ma_to_64 : decode M_Ma_to.2.1 64 = .ok (.lload 4, 2) := by decide +kernel
theorem d_Ma_to_66 : decode M_Ma_to.2.1 66 = .ok (.invokestatic 123, 3) := by decide +kernel
theorem d_Ma_to_69 : decode M_Ma_to.2.1 69 = .ok (.istore 6, 2) := by decide +kernel
theorem d_Ma_to_71 : decode M_Ma_to.2.1 71 = .ok (.aload_n 0, 1) := by decide +kernel
theorem d_Ma_to_72 : decode M_Ma_to.2.1 72 = .ok (.getfield 44, 3) := by decide +kernel
theorem d_Ma_to_75 : decode M_Ma_to.2.1 75 = .ok (.getfield 111, 3) := by decide +kernel
theorem d_Ma_to_78 : decode M_Ma_to.2.1 78 = .ok (.getfield 129, 3) := by decide +kernel
theorem d_Ma_to_81 : decode M_Ma_to.2.1 81 = .ok (.iload 6, 2) := by decide +kernel
theorem d_Ma_to_83 : decode M_Ma_to.2.1 83 = .ok (.iadd, 1) := by decide +kernel
theorem d_Ma_to_84 : decode M_Ma_to.2.1 84 = .ok (.iconst 4, 1) := by decide +kernel
theorem d_Ma_to_85 : decode M_Ma_to.2.1 85 = .ok (.if_icmp .le 7, 3) := by decide +kernel
theorem d_Ma_to_88 : decode M_Ma_to.2.1 88 = .ok (.sipush (-452), 3) := by decide +kernel
theorem d_Ma_to_91 : decode M_Ma_to.2.1 91 = .ok (.ireturn, 1) := by decide +kernel
theorem d_Ma_to_92 : decode M_Ma_to.2.1 92 = .ok (.aload_n 0, 1) := by decide +kernel
theorem d_Ma_to_93 : decode M_Ma_to.2.1 93 = .ok (.getfield 44, 3) := by decide +kernel
theorem d_Ma_to_96 : decode M_Ma_to.2.1 96 = .ok (.getfield 111, 3) := by decide +kernel
theorem d_Ma_to_99 : decode M_Ma_to.2.1 99 = .ok (.lload 4, 2) := by decide +kernel
theorem d_Ma_to_101 : decode M_Ma_to.2.1 101 = .ok (.invokevirtual 132, 3) := by decide +kernel
theorem d_Ma_to_104 : decode M_Ma_to.2.1 104 = .ok (.iload 6, 2) := by decide +kernel
theorem d_Ma_to_106 : decode M_Ma_to.2.1 106 = .ok (.ireturn, 1) := by decide +kernel
theorem d_Ma_data_0 : decode M_Ma_data.2.1 0 = .ok (.iload_n 1, 1) := by decide +kernel
theorem d_Ma_data_1 : decode M_Ma_data.2.1 1 = .ok (.bipush 41, 2) := by decide +kernel
theorem d_Ma_data_3 : decode M_Ma_data.2.1 3 = .ok (.invokestatic 74, 3) := by decide +kernel
theorem d_Ma_data_6 : decode M_Ma_data.2.1 6 = .ok (.ifCond .ne 7, 3) := by decide +kernel
theorem d_Ma_data_9 : decode M_Ma_data.2.1 9 = .ok (.sipush (-501), 3) := by decide +kernel
theorem d_Ma_data_12 : decode M_Ma_data.2.1 12 = .ok (.ireturn, 1) := by decide +kernel
theorem d_Ma_data_13 : decode M_Ma_data.2.1 13 = .ok (.aload_n 0, 1) := by decide +kernel
theorem d_Ma_data_14 : decode M_Ma_data.2.1 14 = .ok (.getfield 44, 3) := by decide +kernel
theorem d_Ma_data_17 : decode M_Ma_data.2.1 17 = .ok (.getfield 103, 3) := by decide +kernel
theorem d_Ma_data_20 : decode M_Ma_data.2.1 20 = .ok (.ifCond .eq 16, 3) := by decide +kernel
theorem d_Ma_data_23 : decode M_Ma_data.2.1 23 = .ok (.aload_n 0, 1) := by decide +kernel
theorem d_Ma_data_24 : decode M_Ma_data.2.1 24 = .ok (.getfield 44, 3) := by decide +kernel
theorem d_Ma_data_27 : decode M_Ma_data.2.1 27 = .ok (.getfield 111, 3) := by decide +kernel
theorem d_Ma_data_30 : decode M_Ma_data.2.1 30 = .ok (.getfield 129, 3) := by decide +kernel
theorem d_Ma_data_33 : decode M_Ma_data.2.1 33 = .ok (.ifCond .ne 7, 3) := by decide +kernel
theorem d_Ma_data_36 : decode M_Ma_data.2.1 36 = .ok (.sipush (-503), 3) := by decide +kernel
theorem d_Ma_data_39 : decode M_Ma_data.2.1 39 = .ok (.ireturn, 1) := by decide +kernel
theorem d_Ma_data_40 : decode M_Ma_data.2.1 40 = .ok (.iload_n 1, 1) := by decide +kernel
theorem d_Ma_data_41 : decode M_Ma_data.2.1 41 = .ok (.aload_n 0, 1) := by decide +kernel
theorem d_Ma_data_42 : decode M_Ma_data.2.1 42 = .ok (.getfield 44, 3) := by decide +kernel
theorem d_Ma_data_45 : decode M_Ma_data.2.1 45 = .ok (.getfield 111, 3) := by decide +kernel
theorem d_Ma_data_48 : decode M_Ma_data.2.1 48 = .ok (.getfield 129, 3) := by decide +kernel
theorem d_Ma_data_51 : decode M_Ma_data.2.1 51 = .ok (.invokestatic 136, 3) := by decide +kernel
theorem d_Ma_data_54 : decode M_Ma_data.2.1 54 = .ok (.istore_n 2, 1) := by decide +kernel
theorem d_Ma_data_55 : decode M_Ma_data.2.1 55 = .ok (.aload_n 0, 1) := by decide +kernel
theorem d_Ma_data_56 : decode M_Ma_data.2.1 56 = .ok (.getfield 51, 3) := by decide +kernel
theorem d_Ma_data_59 : decode M_Ma_data.2.1 59 = .ok (.getfield 139, 3) := by decide +kernel
theorem d_Ma_data_62 : decode M_Ma_data.2.1 62 = .ok (.bipush 6, 2) := by decide +kernel
theorem d_Ma_data_64 : decode M_Ma_data.2.1 64 = .ok (.if_icmp .ge 17, 3) := by decide +kernel
theorem d_Ma_data_67 : decode M_Ma_data.2.1 67 = .ok (.aload_n 0, 1) := by decide +kernel
theorem d_Ma_data_68 : decode M_Ma_data.2.1 68 = .ok (.getfield 51, 3) := by decide +kernel
theorem d_Ma_data_71 : decode M_Ma_data.2.1 71 = .ok (.invokevirtual 140, 3) := by decide +kernel
theorem d_Ma_data_74 : decode M_Ma_data.2.1 74 = .ok (.iload_n 2, 1) := by decide +kernel
theorem d_Ma_data_75 : decode M_Ma_data.2.1 75 = .ok (.iadd, 1) := by decide +kernel
theorem d_Ma_data_76 : decode M_Ma_data.2.1 76 = .ok (.bipush 60, 2) := by decide +kernel
theorem d_Ma_data_78 : decode M_Ma_data.2.1 78 = .ok (.if_icmp .le 7, 3) := by decide +kernel
theorem d_Ma_data_81 : decode M_Ma_data.2.1 81 = .ok (.sipush (-452), 3) := by decide +kernel
theorem d_Ma_data_84 : decode M_Ma_data.2.1 84 = .ok (.ireturn, 1) := by decide +kernel
theorem d_Ma_data_85 : decode M_Ma_data.2.1 85 = .ok (.aload_n 0, 1) := by decide +kernel
theorem d_Ma_data_86 : decode M_Ma_data.2.1 86 = .ok (.dup, 1) := by decide +kernel
theorem d_Ma_data_87 : decode M_Ma_data.2.1 87 = .ok (.getfield 68, 3) := by decide +kernel
theorem d_Ma_data_90 : decode M_Ma_data.2.1 90 = .ok (.iconst 1, 1) := by decide +kernel
theorem d_Ma_data_91 : decode M_Ma_data.2.1 91 = .ok (.iadd, 1) := by decide +kernel
theorem d_Ma_data_92 : decode M_Ma_data.2.1 92 = .ok (.putfield 68, 3) := by decide +kernel
theorem d_Ma_data_95 : decode M_Ma_data.2.1 95 = .ok (.aload_n 0, 1) := by decide +kernel
theorem d_Ma_data_96 : decode M_Ma_data.2.1 96 = .ok (.getfield 51, 3) := by decide +kernel
theorem d_Ma_data_99 : decode M_Ma_data.2.1 99 = .ok (.invokevirtual 143, 3) := by decide +kernel
theorem d_Ma_data_102 : decode M_Ma_data.2.1 102 = .ok (.astore_n 3, 1) := by decide +kernel
theorem d_Ma_data_103 : decode M_Ma_data.2.1 103 = .ok (.aload_n 3, 1) := by decide +kernel
theorem d_Ma_data_104 : decode M_Ma_data.2.1 104 = .ok (.aload_n 0, 1) := by decide +kernel
theorem d_Ma_data_105 : decode M_Ma_data.2.1 105 = .ok (.getfield 68, 3) := by decide +kernel
theorem d_Ma_data_108 : decode M_Ma_data.2.1 108 = .ok (.iload_n 1, 1) := by decide +kernel
theorem d_Ma_data_109 : decode M_Ma_data.2.1 109 = .ok (.aload_n 0, 1) := by decide +kernel
theorem d_Ma_data_110 : decode M_Ma_data.2.1 110 = .ok (.getfield 44, 3) := by decide +kernel
theorem d_Ma_data_113 : decode M_Ma_data.2.1 113 = .ok (.invokevirtual 147, 3) := by decide +kernel
theorem d_Ma_data_116 : decode M_Ma_data.2.1 116 = .ok (.aload_n 3, 1) := by decide +kernel
theorem d_Ma_data_117 : decode M_Ma_data.2.1 117 = .ok (.aload_n 0, 1) := by decide +kernel
theorem d_Ma_data_118 : decode M_Ma_data.2.1 118 = .ok (.getfield 65, 3) := by decide +kernel
theorem d_Ma_data_121 : decode M_Ma_data.2.1 121 = .ok (.aload_n 0, 1) := by decide +kernel
theorem d_Ma_data_122 : decode M_Ma_data.2.1 122 = .ok (.getfield 13, 3) := by decide +kernel
theorem d_Ma_data_125 : decode M_Ma_data.2.1 125 = .ok (.invokevirtual 153, 3) := by decide +kernel
theorem d_Ma_data_128 : decode M_Ma_data.2.1 128 = .ok (.aload_n 0, 1) := by decide +kernel
theorem d_Ma_data_129 : decode M_Ma_data.2.1 129 = .ok (.getfield 44, 3) := by decide +kernel
theorem d_Ma_data_132 : decode M_Ma_data.2.1 132 = .ok (.iconst 0, 1) := by decide +kernel
theorem d_Ma_data_133 : decode M_Ma_data.2.1 133 = .ok (.putfield 103, 3) := by decide +kernel
theorem d_Ma_data_136 : decode M_Ma_data.2.1 136 = .ok (.aload_n 0, 1) := by decide +kernel
theorem d_Ma_data_137 : decode M_Ma_data.2.1 137 = .ok (.invokevirtual 157, 3) := by decide +kernel
theorem d_Ma_data_140 : decode M_Ma_data.2.1 140 = .ok (.aload_n 0, 1) := by decide +kernel
theorem d_Ma_data_141 : decode M_Ma_data.2.1 141 = .ok (.getfield 68, 3) := by decide +kernel
theorem d_Ma_data_144 : decode M_Ma_data.2.1 144 = .ok (.ireturn, 1) := by decide +kernel
theorem d_Ma_tick_0 : decode M_Ma_tick.2.1 0 = .ok (.iload_n 1, 1) := by decide +kernel
theorem d_Ma_tick_1 : decode M_Ma_tick.2.1 1 = .ok (.aload_n 0, 1) := by decide +kernel
theorem d_Ma_tick_2 : decode M_Ma_tick.2.1 2 = .ok (.getfield 65, 3) := by decide +kernel
theorem d_Ma_tick_5 : decode M_Ma_tick.2.1 5 = .ok (.if_icmp .lt 9, 3) := by decide +kernel
theorem d_Ma_tick_8 : decode M_Ma_tick.2.1 8 = .ok (.iload_n 1, 1) := by decide +kernel
theorem d_Ma_tick_9 : decode M_Ma_tick.2.1 9 = .ok (.ldc 160, 2) := by decide +kernel
theorem d_Ma_tick_11 : decode M_Ma_tick.2.1 11 = .ok (.if_icmp .le 7, 3) := by decide +kernel
theorem d_Ma_tick_14 : decode M_Ma_tick.2.1 14 = .ok (.sipush (-501), 3) := by decide +kernel
theorem d_Ma_tick_17 : decode M_Ma_tick.2.1 17 = .ok (.ireturn, 1) := by decide +kernel
theorem d_Ma_tick_18 : decode M_Ma_tick.2.1 18 = .ok (.aload_n 0, 1) := by decide +kernel
theorem d_Ma_tick_19 : decode M_Ma_tick.2.1 19 = .ok (.iload_n 1, 1) := by decide +kernel
theorem d_Ma_tick_20 : decode M_Ma_tick.2.1 20 = .ok (.putfield 65, 3) := by decide +kernel
theorem d_Ma_tick_23 : decode M_Ma_tick.2.1 23 = .ok (.iconst 0, 1) := by decide +kernel
theorem d_Ma_tick_24 : decode M_Ma_tick.2.1 24 = .ok (.istore_n 2, 1) := by decide +kernel
theorem d_Ma_tick_25 : decode M_Ma_tick.2.1 25 = .ok (.iconst 0, 1) := by decide +kernel
theorem d_Ma_tick_26 : decode M_Ma_tick.2.1 26 = .ok (.istore_n 3, 1) := by decide +kernel
theorem d_Ma_tick_27 : decode M_Ma_tick.2.1 27 = .ok (.iconst 0, 1) := by decide +kernel
theorem d_Ma_tick_28 : decode M_Ma_tick.2.1 28 = .ok (.istore 4, 2) := by decide +kernel
theorem d_Ma_tick_30 : decode M_Ma_tick.2.1 30 = .ok (.iload 4, 2) := by decide +kernel
theorem d_Ma_tick_32 : decode M_Ma_tick.2.1 32 = .ok (.bipush 6, 2) := by decide +kernel
theorem d_Ma_tick_34 : decode M_Ma_tick.2.1 34 = .ok (.if_icmp .ge 88, 3) := by decide +kernel
theorem d_Ma_tick_37 : decode M_Ma_tick.2.1 37 = .ok (.iload_n 3, 1) := by decide +kernel
theorem d_Ma_tick_38 : decode M_Ma_tick.2.1 38 = .ok (.aload_n 0, 1) := by decide +kernel
theorem d_Ma_tick_39 : decode M_Ma_tick.2.1 39 = .ok (.getfield 51, 3) := by decide +kernel
theorem d_Ma_tick_42 : decode M_Ma_tick.2.1 42 = .ok (.getfield 139, 3) := by decide +kernel
theorem d_Ma_tick_45 : decode M_Ma_tick.2.1 45 = .ok (.if_icmp .ge 77, 3) := by decide +kernel
theorem d_Ma_tick_48 : decode M_Ma_tick.2.1 48 = .ok (.aload_n 0, 1) := by decide +kernel
theorem d_Ma_tick_49 : decode M_Ma_tick.2.1 49 = .ok (.getfield 51, 3) := by decide +kernel
theorem d_Ma_tick_52 : decode M_Ma_tick.2.1 52 = .ok (.getfield 161, 3) := by decide +kernel
theorem d_Ma_tick_55 : decode M_Ma_tick.2.1 55 = .ok (.iload_n 3, 1) := by decide +kernel
theorem d_Ma_tick_56 : decode M_Ma_tick.2.1 56 = .ok (.aaload, 1) := by decide +kernel
theorem d_Ma_tick_57 : decode M_Ma_tick.2.1 57 = .ok (.astore 5, 2) := by decide +kernel
theorem d_Ma_tick_59 : decode M_Ma_tick.2.1 59 = .ok (.iconst 1, 1) := by decide +kernel
theorem d_Ma_tick_60 : decode M_Ma_tick.2.1 60 = .ok (.istore 6, 2) := by decide +kernel
theorem d_Ma_tick_62 : decode M_Ma_tick.2.1 62 = .ok (.aload 5, 2) := by decide +kernel
theorem d_Ma_tick_64 : decode M_Ma_tick.2.1 64 = .ok (.getfield 165, 3) := by decide +kernel
theorem d_Ma_tick_67 : decode M_Ma_tick.2.1 67 = .ok (.aload_n 0, 1) := by decide +kernel
theorem d_Ma_tick_68 : decode M_Ma_tick.2.1 68 = .ok (.getfield 65, 3) := by decide +kernel
theorem d_Ma_tick_71 : decode M_Ma_tick.2.1 71 = .ok (.if_icmp .gt 26, 3) := by decide +kernel
theorem d_Ma_tick_74 : decode M_Ma_tick.2.1 74 = .ok (.iload_n 2, 1) := by decide +kernel
theorem d_Ma_tick_75 : decode M_Ma_tick.2.1 75 = .ok (.aload_n 0, 1) := by decide +kernel
theorem d_Ma_tick_76 : decode M_Ma_tick.2.1 76 = .ok (.aload 5, 2) := by decide +kernel
theorem d_Ma_tick_78 : decode M_Ma_tick.2.1 78 = .ok (.invokevirtual 168, 3) := by decide +kernel
theorem d_Ma_tick_81 : decode M_Ma_tick.2.1 81 = .ok (.iadd, 1) := by decide +kernel
theorem d_Ma_tick_82 : decode M_Ma_tick.2.1 82 = .ok (.istore_n 2, 1) := by decide +kernel
theorem d_Ma_tick_83 : decode M_Ma_tick.2.1 83 = .ok (.aload_n 0, 1) := by decide +kernel
theorem d_Ma_tick_84 : decode M_Ma_tick.2.1 84 = .ok (.aload 5, 2) := by decide +kernel
theorem d_Ma_tick_86 : decode M_Ma_tick.2.1 86 = .ok (.invokevirtual 172, 3) := by decide +kernel
theorem d_Ma_tick_89 : decode M_Ma_tick.2.1 89 = .ok (.aload_n 0, 1) := by decide +kernel
theorem d_Ma_tick_90 : decode M_Ma_tick.2.1 90 = .ok (.aload 5, 2) := by decide +kernel
theorem d_Ma_tick_92 : decode M_Ma_tick.2.1 92 = .ok (.invokevirtual 176, 3) := by decide +kernel
theorem d_Ma_tick_95 : decode M_Ma_tick.2.1 95 = .ok (.istore 6, 2) := by decide +kernel
theorem d_Ma_tick_97 : decode M_Ma_tick.2.1 97 = .ok (.iload 6, 2) := by decide +kernel
theorem d_Ma_tick_99 : decode M_Ma_tick.2.1 99 = .ok (.ifCond .eq 9, 3) := by decide +kernel
theorem d_Ma_tick_102 : decode M_Ma_tick.2.1 102 = .ok (.iinc 3 1, 3) := by decide +kernel
theorem d_Ma_tick_105 : decode M_Ma_tick.2.1 105 = .ok (.goto 11, 3) := by decide +kernel
theorem d_Ma_tick_108 : decode M_Ma_tick.2.1 108 = .ok (.aload_n 0, 1) := by decide +kernel
theorem d_Ma_tick_109 : decode M_Ma_tick.2.1 109 = .ok (.getfield 51, 3) := by decide +kernel
theorem d_Ma_tick_112 : decode M_Ma_tick.2.1 112 = .ok (.iload_n 3, 1) := by decide +kernel
theorem d_Ma_tick_113 : decode M_Ma_tick.2.1 113 = .ok (.invokevirtual 180, 3) := by decide +kernel
theorem d_Ma_tick_116 : decode M_Ma_tick.2.1 116 = .ok (.iinc 4 1, 3) := by decide +kernel
theorem d_Ma_tick_119 : decode M_Ma_tick.2.1 119 = .ok (.goto (-89), 3) := by decide +kernel
theorem d_Ma_tick_122 : decode M_Ma_tick.2.1 122 = .ok (.aload_n 0, 1) := by decide +kernel
theorem d_Ma_tick_123 : decode M_Ma_tick.2.1 123 = .ok (.invokevirtual 183, 3) := by decide +kernel
theorem d_Ma_tick_126 : decode M_Ma_tick.2.1 126 = .ok (.iload_n 2, 1) := by decide +kernel
theorem d_Ma_tick_127 : decode M_Ma_tick.2.1 127 = .ok (.ireturn, 1) := by decide +kernel
theorem d_Ma_sync_0 : decode M_Ma_sync.2.1 0 = .ok (.aload_n 0, 1) := by decide +kernel
theorem d_Ma_sync_1 : decode M_Ma_sync.2.1 1 = .ok (.getfield 71, 3) := by decide +kernel
theorem d_Ma_sync_4 : decode M_Ma_sync.2.1 4 = .ok (.istore_n 1, 1) := by decide +kernel
theorem d_Ma_sync_5 : decode M_Ma_sync.2.1 5 = .ok (.aload_n 0, 1) := by decide +kernel
theorem d_Ma_sync_6 : decode M_Ma_sync.2.1 6 = .ok (.invokevirtual 157, 3) := by decide +kernel
theorem d_Ma_sync_9 : decode M_Ma_sync.2.1 9 = .ok (.iload_n 1, 1) := by decide +kernel
theorem d_Ma_sync_10 : decode M_Ma_sync.2.1 10 = .ok (.ireturn, 1) := by decide +kernel
theorem d_Ma_crash_0 : decode M_Ma_crash.2.1 0 = .ok (.aload_n 0, 1) := by decide +kernel
theorem d_Ma_crash_1 : decode M_Ma_crash.2.1 1 = .ok (.getfield 71, 3) := by decide +kernel
theorem d_Ma_crash_4 : decode M_Ma_crash.2.1 4 = .ok (.istore_n 1, 1) := by decide +kernel
theorem d_Ma_crash_5 : decode M_Ma_crash.2.1 5 = .ok (.aload_n 0, 1) := by decide +kernel
theorem d_Ma_crash_6 : decode M_Ma_crash.2.1 6 = .ok (.getfield 51, 3) := by decide +kernel
theorem d_Ma_crash_9 : decode M_Ma_crash.2.1 9 = .ok (.aload_n 0, 1) := by decide +kernel
theorem d_Ma_crash_10 : decode M_Ma_crash.2.1 10 = .ok (.getfield 55, 3) := by decide +kernel
theorem d_Ma_crash_13 : decode M_Ma_crash.2.1 13 = .ok (.invokevirtual 186, 3) := by decide +kernel
theorem d_Ma_crash_16 : decode M_Ma_crash.2.1 16 = .ok (.aload_n 0, 1) := by decide +kernel
theorem d_Ma_crash_17 : decode M_Ma_crash.2.1 17 = .ok (.iconst 0, 1) := by decide +kernel
theorem d_Ma_crash_18 : decode M_Ma_crash.2.1 18 = .ok (.putfield 71, 3) := by decide +kernel
theorem d_Ma_crash_21 : decode M_Ma_crash.2.1 21 = .ok (.aload_n 0, 1) := by decide +kernel
theorem d_Ma_crash_22 : decode M_Ma_crash.2.1 22 = .ok (.getfield 44, 3) := by decide +kernel
theorem d_Ma_crash_25 : decode M_Ma_crash.2.1 25 = .ok (.iconst 0, 1) := by decide +kernel
theorem d_Ma_crash_26 : decode M_Ma_crash.2.1 26 = .ok (.putfield 103, 3) := by decide +kernel
theorem d_Ma_crash_29 : decode M_Ma_crash.2.1 29 = .ok (.iload_n 1, 1) := by decide +kernel
theorem d_Ma_crash_30 : decode M_Ma_crash.2.1 30 = .ok (.ireturn, 1) := by decide +kernel
theorem d_Ma_drop_0 : decode M_Ma_drop.2.1 0 = .ok (.aload_n 0, 1) := by decide +kernel
theorem d_Ma_drop_1 : decode M_Ma_drop.2.1 1 = .ok (.getfield 51, 3) := by decide +kernel
theorem d_Ma_drop_4 : decode M_Ma_drop.2.1 4 = .ok (.iload_n 1, 1) := by decide +kernel
theorem d_Ma_drop_5 : decode M_Ma_drop.2.1 5 = .ok (.invokevirtual 190, 3) := by decide +kernel
theorem d_Ma_drop_8 : decode M_Ma_drop.2.1 8 = .ok (.istore_n 2, 1) := by decide +kernel
theorem d_Ma_drop_9 : decode M_Ma_drop.2.1 9 = .ok (.iload_n 2, 1) := by decide +kernel
theorem d_Ma_drop_10 : decode M_Ma_drop.2.1 10 = .ok (.ifCond .ge 7, 3) := by decide +kernel
theorem d_Ma_drop_13 : decode M_Ma_drop.2.1 13 = .ok (.sipush (-550), 3) := by decide +kernel
theorem d_Ma_drop_16 : decode M_Ma_drop.2.1 16 = .ok (.ireturn, 1) := by decide +kernel
theorem d_Ma_drop_17 : decode M_Ma_drop.2.1 17 = .ok (.aload_n 0, 1) := by decide +kernel
theorem d_Ma_drop_18 : decode M_Ma_drop.2.1 18 = .ok (.getfield 51, 3) := by decide +kernel
theorem d_Ma_drop_21 : decode M_Ma_drop.2.1 21 = .ok (.iload_n 2, 1) := by decide +kernel
theorem d_Ma_drop_22 : decode M_Ma_drop.2.1 22 = .ok (.invokevirtual 180, 3) := by decide +kernel
theorem d_Ma_drop_25 : decode M_Ma_drop.2.1 25 = .ok (.aload_n 0, 1) := by decide +kernel
theorem d_Ma_drop_26 : decode M_Ma_drop.2.1 26 = .ok (.dup, 1) := by decide +kernel
theorem d_Ma_drop_27 : decode M_Ma_drop.2.1 27 = .ok (.getfield 71, 3) := by decide +kernel
theorem d_Ma_drop_30 : decode M_Ma_drop.2.1 30 = .ok (.iconst 1, 1) := by decide +kernel
theorem d_Ma_drop_31 : decode M_Ma_drop.2.1 31 = .ok (.iadd, 1) := by decide +kernel
theorem d_Ma_drop_32 : decode M_Ma_drop.2.1 32 = .ok (.putfield 71, 3) := by decide +kernel
theorem d_Ma_drop_35 : decode M_Ma_drop.2.1 35 = .ok (.aload_n 0, 1) := by decide +kernel
theorem d_Ma_drop_36 : decode M_Ma_drop.2.1 36 = .ok (.invokevirtual 183, 3) := by decide +kernel
theorem d_Ma_drop_39 : decode M_Ma_drop.2.1 39 = .ok (.iconst 1, 1) := by decide +kernel
theorem d_Ma_drop_40 : decode M_Ma_drop.2.1 40 = .ok (.ireturn, 1) := by decide +kernel
theorem d_Ma_hurry_0 : decode M_Ma_hurry.2.1 0 = .ok (.aload_n 0, 1) := by decide +kernel
theorem d_Ma_hurry_1 : decode M_Ma_hurry.2.1 1 = .ok (.getfield 51, 3) := by decide +kernel
theorem d_Ma_hurry_4 : decode M_Ma_hurry.2.1 4 = .ok (.iload_n 1, 1) := by decide +kernel
theorem d_Ma_hurry_5 : decode M_Ma_hurry.2.1 5 = .ok (.invokevirtual 190, 3) := by decide +kernel
theorem d_Ma_hurry_8 : decode M_Ma_hurry.2.1 8 = .ok (.istore_n 2, 1) := by decide +kernel
theorem d_Ma_hurry_9 : decode M_Ma_hurry.2.1 9 = .ok (.iload_n 2, 1) := by decide +kernel
theorem d_Ma_hurry_10 : decode M_Ma_hurry.2.1 10 = .ok (.ifCond .ge 7, 3) := by decide +kernel
theorem d_Ma_hurry_13 : decode M_Ma_hurry.2.1 13 = .ok (.sipush (-550), 3) := by decide +kernel
theorem d_Ma_hurry_16 : decode M_Ma_hurry.2.1 16 = .ok (.ireturn, 1) := by decide +kernel
theorem d_Ma_hurry_17 : decode M_Ma_hurry.2.1 17 = .ok (.aload_n 0, 1) := by decide +kernel
theorem d_Ma_hurry_18 : decode M_Ma_hurry.2.1 18 = .ok (.getfield 51, 3) := by decide +kernel
theorem d_Ma_hurry_21 : decode M_Ma_hurry.2.1 21 = .ok (.getfield 161, 3) := by decide +kernel
theorem d_Ma_hurry_24 : decode M_Ma_hurry.2.1 24 = .ok (.iload_n 2, 1) := by decide +kernel
theorem d_Ma_hurry_25 : decode M_Ma_hurry.2.1 25 = .ok (.aaload, 1) := by decide +kernel
theorem d_Ma_hurry_26 : decode M_Ma_hurry.2.1 26 = .ok (.aload_n 0, 1) := by decide +kernel
theorem d_Ma_hurry_27 : decode M_Ma_hurry.2.1 27 = .ok (.getfield 65, 3) := by decide +kernel
theorem d_Ma_hurry_30 : decode M_Ma_hurry.2.1 30 = .ok (.putfield 165, 3) := by decide +kernel
theorem d_Ma_hurry_33 : decode M_Ma_hurry.2.1 33 = .ok (.aload_n 0, 1) := by decide +kernel
theorem d_Ma_hurry_34 : decode M_Ma_hurry.2.1 34 = .ok (.dup, 1) := by decide +kernel
theorem d_Ma_hurry_35 : decode M_Ma_hurry.2.1 35 = .ok (.getfield 71, 3) := by decide +kernel
theorem d_Ma_hurry_38 : decode M_Ma_hurry.2.1 38 = .ok (.iconst 1, 1) := by decide +kernel
theorem d_Ma_hurry_39 : decode M_Ma_hurry.2.1 39 = .ok (.iadd, 1) := by decide +kernel
theorem d_Ma_hurry_40 : decode M_Ma_hurry.2.1 40 = .ok (.putfield 71, 3) := by decide +kernel
theorem d_Ma_hurry_43 : decode M_Ma_hurry.2.1 43 = .ok (.aload_n 0, 1) := by decide +kernel
theorem d_Ma_hurry_44 : decode M_Ma_hurry.2.1 44 = .ok (.invokevirtual 183, 3) := by decide +kernel
theorem d_Ma_hurry_47 : decode M_Ma_hurry.2.1 47 = .ok (.iconst 1, 1) := by decide +kernel
theorem d_Ma_hurry_48 : decode M_Ma_hurry.2.1 48 = .ok (.ireturn, 1) := by decide +kernel
theorem d_Ma_count_0 : decode M_Ma_count.2.1 0 = .ok (.iload_n 1, 1) := by decide +kernel
theorem d_Ma_count_1 : decode M_Ma_count.2.1 1 = .ok (.tableswitch 107 0 6 #[43, 51, 59, 67, 72, 77, 82], 43) := by decide +kernel
theorem d_Ma_count_44 : decode M_Ma_count.2.1 44 = .ok (.aload_n 0, 1) := by decide +kernel
theorem d_Ma_count_45 : decode M_Ma_count.2.1 45 = .ok (.getfield 51, 3) := by decide +kernel
theorem d_Ma_count_48 : decode M_Ma_count.2.1 48 = .ok (.getfield 139, 3) := by decide +kernel
theorem d_Ma_count_51 : decode M_Ma_count.2.1 51 = .ok (.ireturn, 1) := by decide +kernel
theorem d_Ma_count_52 : decode M_Ma_count.2.1 52 = .ok (.aload_n 0, 1) := by decide +kernel
theorem d_Ma_count_53 : decode M_Ma_count.2.1 53 = .ok (.getfield 51, 3) := by decide +kernel
theorem d_Ma_count_56 : decode M_Ma_count.2.1 56 = .ok (.invokevirtual 140, 3) := by decide +kernel
theorem d_Ma_count_59 : decode M_Ma_count.2.1 59 = .ok (.ireturn, 1) := by decide +kernel
theorem d_Ma_count_60 : decode M_Ma_count.2.1 60 = .ok (.aload_n 0, 1) := by decide +kernel
theorem d_Ma_count_61 : decode M_Ma_count.2.1 61 = .ok (.getfield 51, 3) := by decide +kernel
theorem d_Ma_count_64 : decode M_Ma_count.2.1 64 = .ok (.invokevirtual 193, 3) := by decide +kernel
theorem d_Ma_count_67 : decode M_Ma_count.2.1 67 = .ok (.ireturn, 1) := by decide +kernel
theorem d_Ma_count_68 : decode M_Ma_count.2.1 68 = .ok (.aload_n 0, 1) := by decide +kernel
theorem d_Ma_count_69 : decode M_Ma_count.2.1 69 = .ok (.getfield 71, 3) := by decide +kernel
theorem d_Ma_count_72 : decode M_Ma_count.2.1 72 = .ok (.ireturn, 1) := by decide +kernel
theorem d_Ma_count_73 : decode M_Ma_count.2.1 73 = .ok (.aload_n 0, 1) := by decide +kernel
theorem d_Ma_count_74 : decode M_Ma_count.2.1 74 = .ok (.getfield 65, 3) := by decide +kernel
theorem d_Ma_count_77 : decode M_Ma_count.2.1 77 = .ok (.ireturn, 1) := by decide +kernel
theorem d_Ma_count_78 : decode M_Ma_count.2.1 78 = .ok (.aload_n 0, 1) := by decide +kernel
theorem d_Ma_count_79 : decode M_Ma_count.2.1 79 = .ok (.getfield 68, 3) := by decide +kernel
theorem d_Ma_count_82 : decode M_Ma_count.2.1 82 = .ok (.ireturn, 1) := by decide +kernel
theorem d_Ma_count_83 : decode M_Ma_count.2.1 83 = .ok (.aload_n 0, 1) := by decide +kernel
theorem d_Ma_count_84 : decode M_Ma_count.2.1 84 = .ok (.getfield 44, 3) := by decide +kernel
theorem d_Ma_count_87 : decode M_Ma_count.2.1 87 = .ok (.getfield 103, 3) := by decide +kernel
theorem d_Ma_count_90 : decode M_Ma_count.2.1 90 = .ok (.ifCond .eq 16, 3) := by decide +kernel
theorem d_Ma_count_93 : decode M_Ma_count.2.1 93 = .ok (.aload_n 0, 1) := by decide +kernel
theorem d_Ma_count_94 : decode M_Ma_count.2.1 94 = .ok (.getfield 44, 3) := by decide +kernel
theorem d_Ma_count_97 : decode M_Ma_count.2.1 97 = .ok (.getfield 111, 3) := by decide +kernel
theorem d_Ma_count_100 : decode M_Ma_count.2.1 100 = .ok (.getfield 129, 3) := by decide +kernel
theorem d_Ma_count_103 : decode M_Ma_count.2.1 103 = .ok (.goto 4, 3) := by decide +kernel
theorem d_Ma_count_106 : decode M_Ma_count.2.1 106 = .ok (.iconst (-1), 1) := by decide +kernel
theorem d_Ma_count_107 : decode M_Ma_count.2.1 107 = .ok (.ireturn, 1) := by decide +kernel
theorem d_Ma_count_108 : decode M_Ma_count.2.1 108 = .ok (.sipush (-501), 3) := by decide +kernel
theorem d_Ma_count_111 : decode M_Ma_count.2.1 111 = .ok (.ireturn, 1) := by decide +kernel
theorem d_Ma_message_0 : decode M_Ma_message.2.1 0 = .ok (.iload_n 1, 1) := by decide +kernel
theorem d_Ma_message_1 : decode M_Ma_message.2.1 1 = .ok (.aload_n 0, 1) := by decide +kernel
theorem d_Ma_message_2 : decode M_Ma_message.2.1 2 = .ok (.getfield 51, 3) := by decide +kernel
theorem d_Ma_message_5 : decode M_Ma_message.2.1 5 = .ok (.getfield 139, 3) := by decide +kernel
theorem d_Ma_message_8 : decode M_Ma_message.2.1 8 = .ok (.invokestatic 74, 3) := by decide +kernel
theorem d_Ma_message_11 : decode M_Ma_message.2.1 11 = .ok (.ifCond .eq 18, 3) := by decide +kernel
theorem d_Ma_message_14 : decode M_Ma_message.2.1 14 = .ok (.aload_n 0, 1) := by decide +kernel
theorem d_Ma_message_15 : decode M_Ma_message.2.1 15 = .ok (.getfield 51, 3) := by decide +kernel
theorem d_Ma_message_18 : decode M_Ma_message.2.1 18 = .ok (.getfield 161, 3) := by decide +kernel
theorem d_Ma_message_21 : decode M_Ma_message.2.1 21 = .ok (.iload_n 1, 1) := by decide +kernel
theorem d_Ma_message_22 : decode M_Ma_message.2.1 22 = .ok (.aaload, 1) := by decide +kernel
theorem d_Ma_message_23 : decode M_Ma_message.2.1 23 = .ok (.getfield 196, 3) := by decide +kernel
theorem d_Ma_message_26 : decode M_Ma_message.2.1 26 = .ok (.goto 4, 3) := by decide +kernel
theorem d_Ma_message_29 : decode M_Ma_message.2.1 29 = .ok (.iconst 0, 1) := by decide +kernel
theorem d_Ma_message_30 : decode M_Ma_message.2.1 30 = .ok (.ireturn, 1) := by decide +kernel
theorem d_Ma_status_0 : decode M_Ma_status.2.1 0 = .ok (.aload_n 0, 1) := by decide +kernel
theorem d_Ma_status_1 : decode M_Ma_status.2.1 1 = .ok (.getfield 51, 3) := by decide +kernel
theorem d_Ma_status_4 : decode M_Ma_status.2.1 4 = .ok (.iload_n 1, 1) := by decide +kernel
theorem d_Ma_status_5 : decode M_Ma_status.2.1 5 = .ok (.invokevirtual 190, 3) := by decide +kernel
theorem d_Ma_status_8 : decode M_Ma_status.2.1 8 = .ok (.istore_n 3, 1) := by decide +kernel
theorem d_Ma_status_9 : decode M_Ma_status.2.1 9 = .ok (.iload_n 3, 1) := by decide +kernel
theorem d_Ma_status_10 : decode M_Ma_status.2.1 10 = .ok (.ifCond .ge 7, 3) := by decide +kernel
theorem d_Ma_status_13 : decode M_Ma_status.2.1 13 = .ok (.iconst 0, 1) := by decide +kernel
theorem d_Ma_status_14 : decode M_Ma_status.2.1 14 = .ok (.goto 19, 3) := by decide +kernel
theorem d_Ma_status_17 : decode M_Ma_status.2.1 17 = .ok (.aload_n 0, 1) := by decide +kernel
theorem d_Ma_status_18 : decode M_Ma_status.2.1 18 = .ok (.getfield 51, 3) := by decide +kernel
theorem d_Ma_status_21 : decode M_Ma_status.2.1 21 = .ok (.getfield 161, 3) := by decide +kernel
theorem d_Ma_status_24 : decode M_Ma_status.2.1 24 = .ok (.iload_n 3, 1) := by decide +kernel
theorem d_Ma_status_25 : decode M_Ma_status.2.1 25 = .ok (.aaload, 1) := by decide +kernel
theorem d_Ma_status_26 : decode M_Ma_status.2.1 26 = .ok (.getfield 199, 3) := by decide +kernel
theorem d_Ma_status_29 : decode M_Ma_status.2.1 29 = .ok (.iload_n 2, 1) := by decide +kernel
theorem d_Ma_status_30 : decode M_Ma_status.2.1 30 = .ok (.invokevirtual 200, 3) := by decide +kernel
theorem d_Ma_status_33 : decode M_Ma_status.2.1 33 = .ok (.ireturn, 1) := by decide +kernel
theorem d_Ma_sender_0 : decode M_Ma_sender.2.1 0 = .ok (.aload_n 0, 1) := by decide +kernel
theorem d_Ma_sender_1 : decode M_Ma_sender.2.1 1 = .ok (.getfield 51, 3) := by decide +kernel
theorem d_Ma_sender_4 : decode M_Ma_sender.2.1 4 = .ok (.iload_n 1, 1) := by decide +kernel
theorem d_Ma_sender_5 : decode M_Ma_sender.2.1 5 = .ok (.invokevirtual 190, 3) := by decide +kernel
theorem d_Ma_sender_8 : decode M_Ma_sender.2.1 8 = .ok (.istore_n 2, 1) := by decide +kernel
theorem d_Ma_sender_9 : decode M_Ma_sender.2.1 9 = .ok (.iload_n 2, 1) := by decide +kernel
theorem d_Ma_sender_10 : decode M_Ma_sender.2.1 10 = .ok (.ifCond .ge 8, 3) := by decide +kernel
theorem d_Ma_sender_13 : decode M_Ma_sender.2.1 13 = .ok (.bipush (-2), 2) := by decide +kernel
theorem d_Ma_sender_15 : decode M_Ma_sender.2.1 15 = .ok (.goto 15, 3) := by decide +kernel
theorem d_Ma_sender_18 : decode M_Ma_sender.2.1 18 = .ok (.aload_n 0, 1) := by decide +kernel
theorem d_Ma_sender_19 : decode M_Ma_sender.2.1 19 = .ok (.getfield 51, 3) := by decide +kernel
theorem d_Ma_sender_22 : decode M_Ma_sender.2.1 22 = .ok (.getfield 161, 3) := by decide +kernel
theorem d_Ma_sender_25 : decode M_Ma_sender.2.1 25 = .ok (.iload_n 2, 1) := by decide +kernel
theorem d_Ma_sender_26 : decode M_Ma_sender.2.1 26 = .ok (.aaload, 1) := by decide +kernel
theorem d_Ma_sender_27 : decode M_Ma_sender.2.1 27 = .ok (.getfield 203, 3) := by decide +kernel
theorem d_Ma_sender_30 : decode M_Ma_sender.2.1 30 = .ok (.ireturn, 1) := by decide +kernel
theorem d_Ma_due_0 : decode M_Ma_due.2.1 0 = .ok (.aload_n 0, 1) := by decide +kernel
theorem d_Ma_due_1 : decode M_Ma_due.2.1 1 = .ok (.getfield 51, 3) := by decide +kernel
theorem d_Ma_due_4 : decode M_Ma_due.2.1 4 = .ok (.iload_n 1, 1) := by decide +kernel
theorem d_Ma_due_5 : decode M_Ma_due.2.1 5 = .ok (.invokevirtual 190, 3) := by decide +kernel
theorem d_Ma_due_8 : decode M_Ma_due.2.1 8 = .ok (.istore_n 2, 1) := by decide +kernel
theorem d_Ma_due_9 : decode M_Ma_due.2.1 9 = .ok (.iload_n 2, 1) := by decide +kernel
theorem d_Ma_due_10 : decode M_Ma_due.2.1 10 = .ok (.ifCond .ge 7, 3) := by decide +kernel
theorem d_Ma_due_13 : decode M_Ma_due.2.1 13 = .ok (.iconst (-1), 1) := by decide +kernel
theorem d_Ma_due_14 : decode M_Ma_due.2.1 14 = .ok (.goto 15, 3) := by decide +kernel
theorem d_Ma_due_17 : decode M_Ma_due.2.1 17 = .ok (.aload_n 0, 1) := by decide +kernel
theorem d_Ma_due_18 : decode M_Ma_due.2.1 18 = .ok (.getfield 51, 3) := by decide +kernel
theorem d_Ma_due_21 : decode M_Ma_due.2.1 21 = .ok (.getfield 161, 3) := by decide +kernel
theorem d_Ma_due_24 : decode M_Ma_due.2.1 24 = .ok (.iload_n 2, 1) := by decide +kernel
theorem d_Ma_due_25 : decode M_Ma_due.2.1 25 = .ok (.aaload, 1) := by decide +kernel
theorem d_Ma_due_26 : decode M_Ma_due.2.1 26 = .ok (.getfield 165, 3) := by decide +kernel
theorem d_Ma_due_29 : decode M_Ma_due.2.1 29 = .ok (.ireturn, 1) := by decide +kernel
theorem d_Ma_received_0 : decode M_Ma_received.2.1 0 = .ok (.iload_n 1, 1) := by decide +kernel
theorem d_Ma_received_1 : decode M_Ma_received.2.1 1 = .ok (.iload_n 2, 1) := by decide +kernel
theorem d_Ma_received_2 : decode M_Ma_received.2.1 2 = .ok (.iconst 3, 1) := by decide +kernel
theorem d_Ma_received_3 : decode M_Ma_received.2.1 3 = .ok (.if_icmp .ne 8, 3) := by decide +kernel
theorem d_Ma_received_6 : decode M_Ma_received.2.1 6 = .ok (.bipush 8, 2) := by decide +kernel
theorem d_Ma_received_8 : decode M_Ma_received.2.1 8 = .ok (.goto 5, 3) := by decide +kernel
theorem d_Ma_received_11 : decode M_Ma_received.2.1 11 = .ok (.bipush 64, 2) := by decide +kernel
theorem d_Ma_received_13 : decode M_Ma_received.2.1 13 = .ok (.invokestatic 74, 3) := by decide +kernel
theorem d_Ma_received_16 : decode M_Ma_received.2.1 16 = .ok (.ifCond .ne 7, 3) := by decide +kernel
theorem d_Ma_received_19 : decode M_Ma_received.2.1 19 = .ok (.sipush (-501), 3) := by decide +kernel
theorem d_Ma_received_22 : decode M_Ma_received.2.1 22 = .ok (.ireturn, 1) := by decide +kernel
theorem d_Ma_received_23 : decode M_Ma_received.2.1 23 = .ok (.iload_n 2, 1) := by decide +kernel
theorem d_Ma_received_24 : decode M_Ma_received.2.1 24 = .ok (.tableswitch 72 0 3 #[32, 42, 52, 62], 32) := by decide +kernel
theorem d_Ma_received_56 : decode M_Ma_received.2.1 56 = .ok (.aload_n 0, 1) := by decide +kernel
theorem d_Ma_received_57 : decode M_Ma_received.2.1 57 = .ok (.getfield 61, 3) := by decide +kernel
theorem d_Ma_received_60 : decode M_Ma_received.2.1 60 = .ok (.getfield 206, 3) := by decide +kernel
theorem d_Ma_received_63 : decode M_Ma_received.2.1 63 = .ok (.iload_n 1, 1) := by decide +kernel
theorem d_Ma_received_64 : decode M_Ma_received.2.1 64 = .ok (.iaload, 1) := by decide +kernel
theorem d_Ma_received_65 : decode M_Ma_received.2.1 65 = .ok (.ireturn, 1) := by decide +kernel
theorem d_Ma_received_66 : decode M_Ma_received.2.1 66 = .ok (.aload_n 0, 1) := by decide +kernel
theorem d_Ma_received_67 : decode M_Ma_received.2.1 67 = .ok (.getfield 61, 3) := by decide +kernel
theorem d_Ma_received_70 : decode M_Ma_received.2.1 70 = .ok (.getfield 209, 3) := by decide +kernel
theorem d_Ma_received_73 : decode M_Ma_received.2.1 73 = .ok (.iload_n 1, 1) := by decide +kernel
theorem d_Ma_received_74 : decode M_Ma_received.2.1 74 = .ok (.iaload, 1) := by decide +kernel
theorem d_Ma_received_75 : decode M_Ma_received.2.1 75 = .ok (.ireturn, 1) := by decide +kernel
theorem d_Ma_received_76 : decode M_Ma_received.2.1 76 = .ok (.aload_n 0, 1) := by decide +kernel
theorem d_Ma_received_77 : decode M_Ma_received.2.1 77 = .ok (.getfield 61, 3) := by decide +kernel
theorem d_Ma_received_80 : decode M_Ma_received.2.1 80 = .ok (.getfield 212, 3) := by decide +kernel
theorem d_Ma_received_83 : decode M_Ma_received.2.1 83 = .ok (.iload_n 1, 1) := by decide +kernel
theorem d_Ma_received_84 : decode M_Ma_received.2.1 84 = .ok (.iaload, 1) := by decide +kernel
theorem d_Ma_received_85 : decode M_Ma_received.2.1 85 = .ok (.ireturn, 1) := by decide +kernel
theorem d_Ma_received_86 : decode M_Ma_received.2.1 86 = .ok (.aload_n 0, 1) := by decide +kernel
theorem d_Ma_received_87 : decode M_Ma_received.2.1 87 = .ok (.getfield 61, 3) := by decide +kernel
theorem d_Ma_received_90 : decode M_Ma_received.2.1 90 = .ok (.getfield 215, 3) := by decide +kernel
theorem d_Ma_received_93 : decode M_Ma_received.2.1 93 = .ok (.iload_n 1, 1) := by decide +kernel
theorem d_Ma_received_94 : decode M_Ma_received.2.1 94 = .ok (.iaload, 1) := by decide +kernel
theorem d_Ma_received_95 : decode M_Ma_received.2.1 95 = .ok (.ireturn, 1) := by decide +kernel
theorem d_Ma_received_96 : decode M_Ma_received.2.1 96 = .ok (.sipush (-501), 3) := by decide +kernel
theorem d_Ma_received_99 : decode M_Ma_received.2.1 99 = .ok (.ireturn, 1) := by decide +kernel
theorem d_Ma_clamp_0 : decode M_Ma_clamp.2.1 0 = .ok (.iload_n 1, 1) := by decide +kernel
theorem d_Ma_clamp_1 : decode M_Ma_clamp.2.1 1 = .ok (.iload_n 0, 1) := by decide +kernel
theorem d_Ma_clamp_2 : decode M_Ma_clamp.2.1 2 = .ok (.iload_n 2, 1) := by decide +kernel
theorem d_Ma_clamp_3 : decode M_Ma_clamp.2.1 3 = .ok (.invokestatic 218, 3) := by decide +kernel
theorem d_Ma_clamp_6 : decode M_Ma_clamp.2.1 6 = .ok (.invokestatic 223, 3) := by decide +kernel
theorem d_Ma_clamp_9 : decode M_Ma_clamp.2.1 9 = .ok (.ireturn, 1) := by decide +kernel
theorem d_Ma_isBelow_0 : decode M_Ma_isBelow.2.1 0 = .ok (.iload_n 0, 1) := by decide +kernel
theorem d_Ma_isBelow_1 : decode M_Ma_isBelow.2.1 1 = .ok (.ifCond .lt 12, 3) := by decide +kernel
theorem d_Ma_isBelow_4 : decode M_Ma_isBelow.2.1 4 = .ok (.iload_n 0, 1) := by decide +kernel
theorem d_Ma_isBelow_5 : decode M_Ma_isBelow.2.1 5 = .ok (.iload_n 1, 1) := by decide +kernel
theorem d_Ma_isBelow_6 : decode M_Ma_isBelow.2.1 6 = .ok (.if_icmp .ge 7, 3) := by decide +kernel
theorem d_Ma_isBelow_9 : decode M_Ma_isBelow.2.1 9 = .ok (.iconst 1, 1) := by decide +kernel
theorem d_Ma_isBelow_10 : decode M_Ma_isBelow.2.1 10 = .ok (.goto 4, 3) := by decide +kernel
theorem d_Ma_isBelow_13 : decode M_Ma_isBelow.2.1 13 = .ok (.iconst 0, 1) := by decide +kernel
theorem d_Ma_isBelow_14 : decode M_Ma_isBelow.2.1 14 = .ok (.ireturn, 1) := by decide +kernel
theorem d_Ma_isForeign_0 : decode M_Ma_isForeign.2.1 0 = .ok (.iload_n 0, 1) := by decide +kernel
theorem d_Ma_isForeign_1 : decode M_Ma_isForeign.2.1 1 = .ok (.ifCond .eq 16, 3) := by decide +kernel
theorem d_Ma_isForeign_4 : decode M_Ma_isForeign.2.1 4 = .ok (.iload_n 0, 1) := by decide +kernel
theorem d_Ma_isForeign_5 : decode M_Ma_isForeign.2.1 5 = .ok (.bipush 8, 2) := by decide +kernel
theorem d_Ma_isForeign_7 : decode M_Ma_isForeign.2.1 7 = .ok (.invokestatic 74, 3) := by decide +kernel
theorem d_Ma_isForeign_10 : decode M_Ma_isForeign.2.1 10 = .ok (.ifCond .eq 7, 3) := by decide +kernel
theorem d_Ma_isForeign_13 : decode M_Ma_isForeign.2.1 13 = .ok (.iconst 1, 1) := by decide +kernel
theorem d_Ma_isForeign_14 : decode M_Ma_isForeign.2.1 14 = .ok (.goto 4, 3) := by decide +kernel
theorem d_Ma_isForeign_17 : decode M_Ma_isForeign.2.1 17 = .ok (.iconst 0, 1) := by decide +kernel
theorem d_Ma_isForeign_18 : decode M_Ma_isForeign.2.1 18 = .ok (.ireturn, 1) := by decide +kernel
theorem d_Ma_costOf_0 : decode M_Ma_costOf.2.1 0 = .ok (.iload_n 0, 1) := by decide +kernel
theorem d_Ma_costOf_1 : decode M_Ma_costOf.2.1 1 = .ok (.iload_n 1, 1) := by decide +kernel
theorem d_Ma_costOf_2 : decode M_Ma_costOf.2.1 2 = .ok (.iadd, 1) := by decide +kernel
theorem d_Ma_costOf_3 : decode M_Ma_costOf.2.1 3 = .ok (.iconst 1, 1) := by decide +kernel
theorem d_Ma_costOf_4 : decode M_Ma_costOf.2.1 4 = .ok (.iadd, 1) := by decide +kernel
theorem d_Ma_costOf_5 : decode M_Ma_costOf.2.1 5 = .ok (.ireturn, 1) := by decide +kernel
theorem d_Ma_tryRecipients_0 : decode M_Ma_tryRecipients.2.1 0 = .ok (.aload_n 1, 1) := by decide +kernel
theorem d_Ma_tryRecipients_1 : decode M_Ma_tryRecipients.2.1 1 = .ok (.getfield 199, 3) := by decide +kernel
theorem d_Ma_tryRecipients_4 : decode M_Ma_tryRecipients.2.1 4 = .ok (.astore_n 2, 1) := by decide +kernel
theorem d_Ma_tryRecipients_5 : decode M_Ma_tryRecipients.2.1 5 = .ok (.iconst 0, 1) := by decide +kernel
theorem d_Ma_tryRecipients_6 : decode M_Ma_tryRecipients.2.1 6 = .ok (.istore_n 3, 1) := by decide +kernel
theorem d_Ma_tryRecipients_7 : decode M_Ma_tryRecipients.2.1 7 = .ok (.iconst 0, 1) := by decide +kernel
theorem d_Ma_tryRecipients_8 : decode M_Ma_tryRecipients.2.1 8 = .ok (.istore 4, 2) := by decide +kernel
theorem d_Ma_tryRecipients_10 : decode M_Ma_tryRecipients.2.1 10 = .ok (.iload 4, 2) := by decide +kernel
theorem d_Ma_tryRecipients_12 : decode M_Ma_tryRecipients.2.1 12 = .ok (.aload_n 2, 1) := by decide +kernel
theorem d_Ma_tryRecipients_13 : decode M_Ma_tryRecipients.2.1 13 = .ok (.getfield 129, 3) := by decide +kernel
theorem d_Ma_tryRecipients_16 : decode M_Ma_tryRecipients.2.1 16 = .ok (.if_icmp .ge 81, 3) := by decide +kernel
theorem d_Ma_tryRecipients_19 : decode M_Ma_tryRecipients.2.1 19 = .ok (.aload_n 2, 1) := by decide +kernel
theorem d_Ma_tryRecipients_20 : decode M_Ma_tryRecipients.2.1 20 = .ok (.getfield 226, 3) := by decide +kernel
theorem d_Ma_tryRecipients_23 : decode M_Ma_tryRecipients.2.1 23 = .ok (.iload 4, 2) := by decide +kernel
theorem d_Ma_tryRecipients_25 : decode M_Ma_tryRecipients.2.1 25 = .ok (.iaload, 1) := by decide +kernel
theorem d_Ma_tryRecipients_26 : decode M_Ma_tryRecipients.2.1 26 = .ok (.iconst 1, 1) := by decide +kernel
theorem d_Ma_tryRecipients_27 : decode M_Ma_tryRecipients.2.1 27 = .ok (.if_icmp .ne 64, 3) := by decide +kernel
theorem d_Ma_tryRecipients_30 : decode M_Ma_tryRecipients.2.1 30 = .ok (.aload_n 2, 1) := by decide +kernel
theorem d_Ma_tryRecipients_31 : decode M_Ma_tryRecipients.2.1 31 = .ok (.getfield 229, 3) := by decide +kernel
theorem d_Ma_tryRecipients_34 : decode M_Ma_tryRecipients.2.1 34 = .ok (.iload 4, 2) := by decide +kernel
theorem d_Ma_tryRecipients_36 : decode M_Ma_tryRecipients.2.1 36 = .ok (.iaload, 1) := by decide +kernel
theorem d_Ma_tryRecipients_37 : decode M_Ma_tryRecipients.2.1 37 = .ok (.istore 5, 2) := by decide +kernel
theorem d_Ma_tryRecipients_39 : decode M_Ma_tryRecipients.2.1 39 = .ok (.aload_n 0, 1) := by decide +kernel
theorem d_Ma_tryRecipients_40 : decode M_Ma_tryRecipients.2.1 40 = .ok (.iload 5, 2) := by decide +kernel
theorem d_Ma_tryRecipients_42 : decode M_Ma_tryRecipients.2.1 42 = .ok (.invokevirtual 232, 3) := by decide +kernel
theorem d_Ma_tryRecipients_45 : decode M_Ma_tryRecipients.2.1 45 = .ok (.istore 6, 2) := by decide +kernel
theorem d_Ma_tryRecipients_47 : decode M_Ma_tryRecipients.2.1 47 = .ok (.aload_n 2, 1) := by decide +kernel
theorem d_Ma_tryRecipients_48 : decode M_Ma_tryRecipients.2.1 48 = .ok (.getfield 226, 3) := by decide +kernel
theorem d_Ma_tryRecipients_51 : decode M_Ma_tryRecipients.2.1 51 = .ok (.iload 4, 2) := by decide +kernel
theorem d_Ma_tryRecipients_53 : decode M_Ma_tryRecipients.2.1 53 = .ok (.iload 6, 2) := by decide +kernel
theorem d_Ma_tryRecipients_55 : decode M_Ma_tryRecipients.2.1 55 = .ok (.iastore, 1) := by decide +kernel
theorem d_Ma_tryRecipients_56 : decode M_Ma_tryRecipients.2.1 56 = .ok (.iload 6, 2) := by decide +kernel
theorem d_Ma_tryRecipients_58 : decode M_Ma_tryRecipients.2.1 58 = .ok (.iconst 1, 1) := by decide +kernel
theorem d_Ma_tryRecipients_59 : decode M_Ma_tryRecipients.2.1 59 = .ok (.if_icmp .eq 13, 3) := by decide +kernel
theorem d_Ma_tryRecipients_62 : decode M_Ma_tryRecipients.2.1 62 = .ok (.aload_n 0, 1) := by decide +kernel
theorem d_Ma_tryRecipients_63 : decode M_Ma_tryRecipients.2.1 63 = .ok (.dup, 1) := by decide +kernel
theorem d_Ma_tryRecipients_64 : decode M_Ma_tryRecipients.2.1 64 = .ok (.getfield 71, 3) := by decide +kernel
theorem d_Ma_tryRecipients_67 : decode M_Ma_tryRecipients.2.1 67 = .ok (.iconst 1, 1) := by decide +kernel
theorem d_Ma_tryRecipients_68 : decode M_Ma_tryRecipients.2.1 68 = .ok (.iadd, 1) := by decide +kernel
theorem d_Ma_tryRecipients_69 : decode M_Ma_tryRecipients.2.1 69 = .ok (.putfield 71, 3) := by decide +kernel
theorem d_Ma_tryRecipients_72 : decode M_Ma_tryRecipients.2.1 72 = .ok (.iload 6, 2) := by decide +kernel
theorem d_Ma_tryRecipients_74 : decode M_Ma_tryRecipients.2.1 74 = .ok (.iconst 2, 1) := by decide +kernel
theorem d_Ma_tryRecipients_75 : decode M_Ma_tryRecipients.2.1 75 = .ok (.if_icmp .ne 16, 3) := by decide +kernel
theorem d_Ma_tryRecipients_78 : decode M_Ma_tryRecipients.2.1 78 = .ok (.aload_n 0, 1) := by decide +kernel
theorem d_Ma_tryRecipients_79 : decode M_Ma_tryRecipients.2.1 79 = .ok (.getfield 61, 3) := by decide +kernel
theorem d_Ma_tryRecipients_82 : decode M_Ma_tryRecipients.2.1 82 = .ok (.iload 5, 2) := by decide +kernel
theorem d_Ma_tryRecipients_84 : decode M_Ma_tryRecipients.2.1 84 = .ok (.aload_n 1, 1) := by decide +kernel
theorem d_Ma_tryRecipients_85 : decode M_Ma_tryRecipients.2.1 85 = .ok (.invokevirtual 235, 3) := by decide +kernel
theorem d_Ma_tryRecipients_88 : decode M_Ma_tryRecipients.2.1 88 = .ok (.iinc 3 1, 3) := by decide +kernel
theorem d_Ma_tryRecipients_91 : decode M_Ma_tryRecipients.2.1 91 = .ok (.iinc 4 1, 3) := by decide +kernel
theorem d_Ma_tryRecipients_94 : decode M_Ma_tryRecipients.2.1 94 = .ok (.goto (-84), 3) := by decide +kernel
theorem d_Ma_tryRecipients_97 : decode M_Ma_tryRecipients.2.1 97 = .ok (.iload_n 3, 1) := by decide +kernel
theorem d_Ma_tryRecipients_98 : decode M_Ma_tryRecipients.2.1 98 = .ok (.ireturn, 1) := by decide +kernel
theorem d_Ma_carry_0 : decode M_Ma_carry.2.1 0 = .ok (.iload_n 1, 1) := by decide +kernel
theorem d_Ma_carry_1 : decode M_Ma_carry.2.1 1 = .ok (.bipush 8, 2) := by decide +kernel
theorem d_Ma_carry_3 : decode M_Ma_carry.2.1 3 = .ok (.idiv, 1) := by decide +kernel
theorem d_Ma_carry_4 : decode M_Ma_carry.2.1 4 = .ok (.istore_n 2, 1) := by decide +kernel
theorem d_Ma_carry_5 : decode M_Ma_carry.2.1 5 = .ok (.iload_n 2, 1) := by decide +kernel
theorem d_Ma_carry_6 : decode M_Ma_carry.2.1 6 = .ok (.ifCond .ne 5, 3) := by decide +kernel
theorem d_Ma_carry_9 : decode M_Ma_carry.2.1 9 = .ok (.iconst 2, 1) := by decide +kernel
theorem d_Ma_carry_10 : decode M_Ma_carry.2.1 10 = .ok (.ireturn, 1) := by decide +kernel
theorem d_Ma_carry_11 : decode M_Ma_carry.2.1 11 = .ok (.aload_n 0, 1) := by decide +kernel
theorem d_Ma_carry_12 : decode M_Ma_carry.2.1 12 = .ok (.getfield 32, 3) := by decide +kernel
theorem d_Ma_carry_15 : decode M_Ma_carry.2.1 15 = .ok (.iload_n 2, 1) := by decide +kernel
theorem d_Ma_carry_16 : decode M_Ma_carry.2.1 16 = .ok (.aaload, 1) := by decide +kernel
theorem d_Ma_carry_17 : decode M_Ma_carry.2.1 17 = .ok (.astore_n 3, 1) := by decide +kernel
theorem d_Ma_carry_18 : decode M_Ma_carry.2.1 18 = .ok (.aload_n 3, 1) := by decide +kernel
theorem d_Ma_carry_19 : decode M_Ma_carry.2.1 19 = .ok (.getfield 239, 3) := by decide +kernel
theorem d_Ma_carry_22 : decode M_Ma_carry.2.1 22 = .ok (.ifCond .ne 5, 3) := by decide +kernel
theorem d_Ma_carry_25 : decode M_Ma_carry.2.1 25 = .ok (.iconst 3, 1) := by decide +kernel
theorem d_Ma_carry_26 : decode M_Ma_carry.2.1 26 = .ok (.ireturn, 1) := by decide +kernel
theorem d_Ma_carry_27 : decode M_Ma_carry.2.1 27 = .ok (.iconst 0, 1) := by decide +kernel
theorem d_Ma_carry_28 : decode M_Ma_carry.2.1 28 = .ok (.istore 4, 2) := by decide +kernel
theorem d_Ma_carry_30 : decode M_Ma_carry.2.1 30 = .ok (.iload 4, 2) := by decide +kernel
theorem d_Ma_carry_32 : decode M_Ma_carry.2.1 32 = .ok (.aload_n 3, 1) := by decide +kernel
theorem d_Ma_carry_33 : decode M_Ma_carry.2.1 33 = .ok (.getfield 239, 3) := by decide +kernel
theorem d_Ma_carry_36 : decode M_Ma_carry.2.1 36 = .ok (.if_icmp .ge 57, 3) := by decide +kernel
theorem d_Ma_carry_39 : decode M_Ma_carry.2.1 39 = .ok (.aload_n 3, 1) := by decide +kernel
theorem d_Ma_carry_40 : decode M_Ma_carry.2.1 40 = .ok (.getfield 240, 3) := by decide +kernel
theorem d_Ma_carry_43 : decode M_Ma_carry.2.1 43 = .ok (.iload 4, 2) := by decide +kernel
theorem d_Ma_carry_45 : decode M_Ma_carry.2.1 45 = .ok (.iaload, 1) := by decide +kernel
theorem d_Ma_carry_46 : decode M_Ma_carry.2.1 46 = .ok (.istore 5, 2) := by decide +kernel
theorem d_Ma_carry_48 : decode M_Ma_carry.2.1 48 = .ok (.aload_n 0, 1) := by decide +kernel
theorem d_Ma_carry_49 : decode M_Ma_carry.2.1 49 = .ok (.getfield 37, 3) := by decide +kernel
theorem d_Ma_carry_52 : decode M_Ma_carry.2.1 52 = .ok (.iload 5, 2) := by decide +kernel
theorem d_Ma_carry_54 : decode M_Ma_carry.2.1 54 = .ok (.iaload, 1) := by decide +kernel
theorem d_Ma_carry_55 : decode M_Ma_carry.2.1 55 = .ok (.ifCond .ne 19, 3) := by decide +kernel
theorem d_Ma_carry_58 : decode M_Ma_carry.2.1 58 = .ok (.aload_n 0, 1) := by decide +kernel
theorem d_Ma_carry_59 : decode M_Ma_carry.2.1 59 = .ok (.getfield 61, 3) := by decide +kernel
theorem d_Ma_carry_62 : decode M_Ma_carry.2.1 62 = .ok (.getfield 215, 3) := by decide +kernel
theorem d_Ma_carry_65 : decode M_Ma_carry.2.1 65 = .ok (.iload 5, 2) := by decide +kernel
theorem d_Ma_carry_67 : decode M_Ma_carry.2.1 67 = .ok (.dup2, 1) := by decide +kernel
theorem d_Ma_carry_68 : decode M_Ma_carry.2.1 68 = .ok (.iaload, 1) := by decide +kernel
theorem d_Ma_carry_69 : decode M_Ma_carry.2.1 69 = .ok (.iconst 1, 1) := by decide +kernel
theorem d_Ma_carry_70 : decode M_Ma_carry.2.1 70 = .ok (.iadd, 1) := by decide +kernel
theorem d_Ma_carry_71 : decode M_Ma_carry.2.1 71 = .ok (.iastore, 1) := by decide +kernel
theorem d_Ma_carry_72 : decode M_Ma_carry.2.1 72 = .ok (.iconst 2, 1) := by decide +kernel
theorem d_Ma_carry_73 : decode M_Ma_carry.2.1 73 = .ok (.ireturn, 1) := by decide +kernel
theorem d_Ma_carry_74 : decode M_Ma_carry.2.1 74 = .ok (.aload_n 0, 1) := by decide +kernel
theorem d_Ma_carry_75 : decode M_Ma_carry.2.1 75 = .ok (.getfield 37, 3) := by decide +kernel
theorem d_Ma_carry_78 : decode M_Ma_carry.2.1 78 = .ok (.iload 5, 2) := by decide +kernel
theorem d_Ma_carry_80 : decode M_Ma_carry.2.1 80 = .ok (.iaload, 1) := by decide +kernel
theorem d_Ma_carry_81 : decode M_Ma_carry.2.1 81 = .ok (.iconst 2, 1) := by decide +kernel
theorem d_Ma_carry_82 : decode M_Ma_carry.2.1 82 = .ok (.if_icmp .ne 5, 3) := by decide +kernel
theorem d_Ma_carry_85 : decode M_Ma_carry.2.1 85 = .ok (.iconst 3, 1) := by decide +kernel
theorem d_Ma_carry_86 : decode M_Ma_carry.2.1 86 = .ok (.ireturn, 1) := by decide +kernel
theorem d_Ma_carry_87 : decode M_Ma_carry.2.1 87 = .ok (.iinc 4 1, 3) := by decide +kernel
theorem d_Ma_carry_90 : decode M_Ma_carry.2.1 90 = .ok (.goto (-60), 3) := by decide +kernel
theorem d_Ma_carry_93 : decode M_Ma_carry.2.1 93 = .ok (.iconst 1, 1) := by decide +kernel
theorem d_Ma_carry_94 : decode M_Ma_carry.2.1 94 = .ok (.ireturn, 1) := by decide +kernel
theorem d_Ma_failOverdue_0 : decode M_Ma_failOverdue.2.1 0 = .ok (.aload_n 0, 1) := by decide +kernel
theorem d_Ma_failOverdue_1 : decode M_Ma_failOverdue.2.1 1 = .ok (.getfield 65, 3) := by decide +kernel
theorem d_Ma_failOverdue_4 : decode M_Ma_failOverdue.2.1 4 = .ok (.aload_n 1, 1) := by decide +kernel
theorem d_Ma_failOverdue_5 : decode M_Ma_failOverdue.2.1 5 = .ok (.getfield 243, 3) := by decide +kernel
theorem d_Ma_failOverdue_8 : decode M_Ma_failOverdue.2.1 8 = .ok (.aload_n 0, 1) := by decide +kernel
theorem d_Ma_failOverdue_9 : decode M_Ma_failOverdue.2.1 9 = .ok (.getfield 20, 3) := by decide +kernel
theorem d_Ma_failOverdue_12 : decode M_Ma_failOverdue.2.1 12 = .ok (.iadd, 1) := by decide +kernel
theorem d_Ma_failOverdue_13 : decode M_Ma_failOverdue.2.1 13 = .ok (.if_icmp .lt 19, 3) := by decide +kernel
theorem d_Ma_failOverdue_16 : decode M_Ma_failOverdue.2.1 16 = .ok (.aload_n 0, 1) := by decide +kernel
theorem d_Ma_failOverdue_17 : decode M_Ma_failOverdue.2.1 17 = .ok (.dup, 1) := by decide +kernel
theorem d_Ma_failOverdue_18 : decode M_Ma_failOverdue.2.1 18 = .ok (.getfield 71, 3) := by decide +kernel
theorem d_Ma_failOverdue_21 : decode M_Ma_failOverdue.2.1 21 = .ok (.aload_n 1, 1) := by decide +kernel
theorem d_Ma_failOverdue_22 : decode M_Ma_failOverdue.2.1 22 = .ok (.getfield 199, 3) := by decide +kernel
theorem d_Ma_failOverdue_25 : decode M_Ma_failOverdue.2.1 25 = .ok (.invokevirtual 245, 3) := by decide +kernel
theorem d_Ma_failOverdue_28 : decode M_Ma_failOverdue.2.1 28 = .ok (.iadd, 1) := by decide +kernel
theorem d_Ma_failOverdue_29 : decode M_Ma_failOverdue.2.1 29 = .ok (.putfield 71, 3) := by decide +kernel
theorem d_Ma_failOverdue_32 : decode M_Ma_failOverdue.2.1 32 = .ok (.return_, 1) := by decide +kernel
theorem d_Ma_settle_0 : decode M_Ma_settle.2.1 0 = .ok (.aload_n 0, 1) := by decide +kernel
theorem d_Ma_settle_1 : decode M_Ma_settle.2.1 1 = .ok (.dup, 1) := by decide +kernel
theorem d_Ma_settle_2 : decode M_Ma_settle.2.1 2 = .ok (.getfield 71, 3) := by decide +kernel
theorem d_Ma_settle_5 : decode M_Ma_settle.2.1 5 = .ok (.iconst 1, 1) := by decide +kernel
theorem d_Ma_settle_6 : decode M_Ma_settle.2.1 6 = .ok (.iadd, 1) := by decide +kernel
theorem d_Ma_settle_7 : decode M_Ma_settle.2.1 7 = .ok (.putfield 71, 3) := by decide +kernel
theorem d_Ma_settle_10 : decode M_Ma_settle.2.1 10 = .ok (.aload_n 1, 1) := by decide +kernel
theorem d_Ma_settle_11 : decode M_Ma_settle.2.1 11 = .ok (.getfield 199, 3) := by decide +kernel
theorem d_Ma_settle_14 : decode M_Ma_settle.2.1 14 = .ok (.iconst 1, 1) := by decide +kernel
theorem d_Ma_settle_15 : decode M_Ma_settle.2.1 15 = .ok (.invokevirtual 248, 3) := by decide +kernel
theorem d_Ma_settle_18 : decode M_Ma_settle.2.1 18 = .ok (.ifCond .le 17, 3) := by decide +kernel
theorem d_Ma_settle_21 : decode M_Ma_settle.2.1 21 = .ok (.aload_n 1, 1) := by decide +kernel
theorem d_Ma_settle_22 : decode M_Ma_settle.2.1 22 = .ok (.aload_n 0, 1) := by decide +kernel
theorem d_Ma_settle_23 : decode M_Ma_settle.2.1 23 = .ok (.getfield 65, 3) := by decide +kernel
theorem d_Ma_settle_26 : decode M_Ma_settle.2.1 26 = .ok (.aload_n 0, 1) := by decide +kernel
theorem d_Ma_settle_27 : decode M_Ma_settle.2.1 27 = .ok (.getfield 17, 3) := by decide +kernel
theorem d_Ma_settle_30 : decode M_Ma_settle.2.1 30 = .ok (.invokevirtual 251, 3) := by decide +kernel
theorem d_Ma_settle_33 : decode M_Ma_settle.2.1 33 = .ok (.iconst 1, 1) := by decide +kernel
theorem d_Ma_settle_34 : decode M_Ma_settle.2.1 34 = .ok (.ireturn, 1) := by decide +kernel
theorem d_Ma_settle_35 : decode M_Ma_settle.2.1 35 = .ok (.aload_n 1, 1) := by decide +kernel
theorem d_Ma_settle_36 : decode M_Ma_settle.2.1 36 = .ok (.getfield 199, 3) := by decide +kernel
theorem d_Ma_settle_39 : decode M_Ma_settle.2.1 39 = .ok (.iconst 3, 1) := by decide +kernel
theorem d_Ma_settle_40 : decode M_Ma_settle.2.1 40 = .ok (.invokevirtual 248, 3) := by decide +kernel
theorem d_Ma_settle_43 : decode M_Ma_settle.2.1 43 = .ok (.ifCond .le 29, 3) := by decide +kernel
theorem d_Ma_settle_46 : decode M_Ma_settle.2.1 46 = .ok (.aload_n 1, 1) := by decide +kernel
theorem d_Ma_settle_47 : decode M_Ma_settle.2.1 47 = .ok (.getfield 203, 3) := by decide +kernel
theorem d_Ma_settle_50 : decode M_Ma_settle.2.1 50 = .ok (.iconst (-1), 1) := by decide +kernel
theorem d_Ma_settle_51 : decode M_Ma_settle.2.1 51 = .ok (.if_icmp .eq 21, 3) := by decide +kernel
theorem d_Ma_settle_54 : decode M_Ma_settle.2.1 54 = .ok (.aload_n 1, 1) := by decide +kernel
theorem d_Ma_settle_55 : decode M_Ma_settle.2.1 55 = .ok (.invokevirtual 254, 3) := by decide +kernel
theorem d_Ma_settle_58 : decode M_Ma_settle.2.1 58 = .ok (.aload_n 1, 1) := by decide +kernel
theorem d_Ma_settle_59 : decode M_Ma_settle.2.1 59 = .ok (.aload_n 0, 1) := by decide +kernel
theorem d_Ma_settle_60 : decode M_Ma_settle.2.1 60 = .ok (.getfield 65, 3) := by decide +kernel
theorem d_Ma_settle_63 : decode M_Ma_settle.2.1 63 = .ok (.aload_n 0, 1) := by decide +kernel
theorem d_Ma_settle_64 : decode M_Ma_settle.2.1 64 = .ok (.getfield 13, 3) := by decide +kernel
theorem d_Ma_settle_67 : decode M_Ma_settle.2.1 67 = .ok (.invokevirtual 153, 3) := by decide +kernel
theorem d_Ma_settle_70 : decode M_Ma_settle.2.1 70 = .ok (.iconst 1, 1) := by decide +kernel
theorem d_Ma_settle_71 : decode M_Ma_settle.2.1 71 = .ok (.ireturn, 1) := by decide +kernel
theorem d_Ma_settle_72 : decode M_Ma_settle.2.1 72 = .ok (.iconst 0, 1) := by decide +kernel
theorem d_Ma_settle_73 : decode M_Ma_settle.2.1 73 = .ok (.ireturn, 1) := by decide +kernel
theorem d_Ma_keepChangesFew_0 : decode M_Ma_keepChangesFew.2.1 0 = .ok (.aload_n 0, 1) := by decide +kernel
theorem d_Ma_keepChangesFew_1 : decode M_Ma_keepChangesFew.2.1 1 = .ok (.getfield 71, 3) := by decide +kernel
theorem d_Ma_keepChangesFew_4 : decode M_Ma_keepChangesFew.2.1 4 = .ok (.bipush 24, 2) := by decide +kernel
theorem d_Ma_keepChangesFew_6 : decode M_Ma_keepChangesFew.2.1 6 = .ok (.if_icmp .lt 7, 3) := by decide +kernel
theorem d_Ma_keepChangesFew_9 : decode M_Ma_keepChangesFew.2.1 9 = .ok (.aload_n 0, 1) := by decide +kernel
theorem d_Ma_keepChangesFew_10 : decode M_Ma_keepChangesFew.2.1 10 = .ok (.invokevirtual 157, 3) := by decide +kernel
theorem d_Ma_keepChangesFew_13 : decode M_Ma_keepChangesFew.2.1 13 = .ok (.return_, 1) := by decide +kernel
theorem d_Ma_makeDurable_0 : decode M_Ma_makeDurable.2.1 0 = .ok (.aload_n 0, 1) := by decide +kernel
theorem d_Ma_makeDurable_1 : decode M_Ma_makeDurable.2.1 1 = .ok (.getfield 55, 3) := by decide +kernel
theorem d_Ma_makeDurable_4 : decode M_Ma_makeDurable.2.1 4 = .ok (.aload_n 0, 1) := by decide +kernel
theorem d_Ma_makeDurable_5 : decode M_Ma_makeDurable.2.1 5 = .ok (.getfield 51, 3) := by decide +kernel
theorem d_Ma_makeDurable_8 : decode M_Ma_makeDurable.2.1 8 = .ok (.invokevirtual 186, 3) := by decide +kernel
theorem d_Ma_makeDurable_11 : decode M_Ma_makeDurable.2.1 11 = .ok (.aload_n 0, 1) := by decide +kernel
theorem d_Ma_makeDurable_12 : decode M_Ma_makeDurable.2.1 12 = .ok (.iconst 0, 1) := by decide +kernel
theorem d_Ma_makeDurable_13 : decode M_Ma_makeDurable.2.1 13 = .ok (.putfield 71, 3) := by decide +kernel
theorem d_Ma_makeDurable_16 : decode M_Ma_makeDurable.2.1 16 = .ok (.return_, 1) := by decide +kernel
end
section
theorem d_Mo_init_0 : decode M_Mo_init.2.1 0 = .ok (.aload_n 0, 1) := by decide +kernel
theorem d_Mo_init_1 : decode M_Mo_init.2.1 1 = .ok (.invokespecial 1, 3) := by decide +kernel
theorem d_Mo_init_4 : decode M_Mo_init.2.1 4 = .ok (.aload_n 0, 1) := by decide +kernel
theorem d_Mo_init_5 : decode M_Mo_init.2.1 5 = .ok (.bipush 32, 2) := by decide +kernel
theorem d_Mo_init_7 : decode M_Mo_init.2.1 7 = .ok (.newarray .int, 2) := by decide +kernel
theorem d_Mo_init_9 : decode M_Mo_init.2.1 9 = .ok (.putfield 7, 3) := by decide +kernel
theorem d_Mo_init_12 : decode M_Mo_init.2.1 12 = .ok (.aload_n 0, 1) := by decide +kernel
theorem d_Mo_init_13 : decode M_Mo_init.2.1 13 = .ok (.bipush 8, 2) := by decide +kernel
theorem d_Mo_init_15 : decode M_Mo_init.2.1 15 = .ok (.newarray .int, 2) := by decide +kernel
theorem d_Mo_init_17 : decode M_Mo_init.2.1 17 = .ok (.putfield 13, 3) := by decide +kernel
theorem d_Mo_init_20 : decode M_Mo_init.2.1 20 = .ok (.aload_n 0, 1) := by decide +kernel
theorem d_Mo_init_21 : decode M_Mo_init.2.1 21 = .ok (.bipush 24, 2) := by decide +kernel
theorem d_Mo_init_23 : decode M_Mo_init.2.1 23 = .ok (.newarray .int, 2) := by decide +kernel
theorem d_Mo_init_25 : decode M_Mo_init.2.1 25 = .ok (.putfield 16, 3) := by decide +kernel
theorem d_Mo_init_28 : decode M_Mo_init.2.1 28 = .ok (.aload_n 0, 1) := by decide +kernel
theorem d_Mo_init_29 : decode M_Mo_init.2.1 29 = .ok (.bipush 24, 2) := by decide +kernel
theorem d_Mo_init_31 : decode M_Mo_init.2.1 31 = .ok (.newarray .int, 2) := by decide +kernel
theorem d_Mo_init_33 : decode M_Mo_init.2.1 33 = .ok (.putfield 19, 3) := by decide +kernel
theorem d_Mo_init_36 : decode M_Mo_init.2.1 36 = .ok (.aload_n 0, 1) := by decide +kernel
theorem d_Mo_init_37 : decode M_Mo_init.2.1 37 = .ok (.bipush 8, 2) := by decide +kernel
theorem d_Mo_init_39 : decode M_Mo_init.2.1 39 = .ok (.newarray .int, 2) := by decide +kernel
theorem d_Mo_init_41 : decode M_Mo_init.2.1 41 = .ok (.putfield 22, 3) := by decide +kernel
theorem d_Mo_init_44 : decode M_Mo_init.2.1 44 = .ok (.aload_n 0, 1) := by decide +kernel
theorem d_Mo_init_45 : decode M_Mo_init.2.1 45 = .ok (.bipush 8, 2) := by decide +kernel
theorem d_Mo_init_47 : decode M_Mo_init.2.1 47 = .ok (.newarray .int, 2) := by decide +kernel
theorem d_Mo_init_49 : decode M_Mo_init.2.1 49 = .ok (.putfield 25, 3) := by decide +kernel
theorem d_Mo_init_52 : decode M_Mo_init.2.1 52 = .ok (.aload_n 0, 1) := by decide +kernel
theorem d_Mo_init_53 : decode M_Mo_init.2.1 53 = .ok (.bipush 96, 2) := by decide +kernel
theorem d_Mo_init_55 : decode M_Mo_init.2.1 55 = .ok (.newarray .int, 2) := by decide +kernel
theorem d_Mo_init_57 : decode M_Mo_init.2.1 57 = .ok (.putfield 28, 3) := by decide +kernel
theorem d_Mo_init_60 : decode M_Mo_init.2.1 60 = .ok (.aload_n 0, 1) := by decide +kernel
theorem d_Mo_init_61 : decode M_Mo_init.2.1 61 = .ok (.bipush 96, 2) := by decide +kernel
theorem d_Mo_init_63 : decode M_Mo_init.2.1 63 = .ok (.newarray .int, 2) := by decide +kernel
theorem d_Mo_init_65 : decode M_Mo_init.2.1 65 = .ok (.putfield 31, 3) := by decide +kernel
theorem d_Mo_init_68 : decode M_Mo_init.2.1 68 = .ok (.aload_n 0, 1) := by decide +kernel
theorem d_Mo_init_69 : decode M_Mo_init.2.1 69 = .ok (.iconst 4, 1) := by decide +kernel
theorem d_Mo_init_70 : decode M_Mo_init.2.1 70 = .ok (.newarray .int, 2) := by decide +kernel
theorem d_Mo_init_72 : decode M_Mo_init.2.1 72 = .ok (.putfield 34, 3) := by decide +kernel
theorem d_Mo_init_75 : decode M_Mo_init.2.1 75 = .ok (.aload_n 0, 1) := by decide +kernel
theorem d_Mo_init_76 : decode M_Mo_init.2.1 76 = .ok (.bipush 64, 2) := by decide +kernel
theorem d_Mo_init_78 : decode M_Mo_init.2.1 78 = .ok (.newarray .int, 2) := by decide +kernel
theorem d_Mo_init_80 : decode M_Mo_init.2.1 80 = .ok (.putfield 37, 3) := by decide +kernel
theorem d_Mo_init_83 : decode M_Mo_init.2.1 83 = .ok (.aload_n 0, 1) := by decide +kernel
theorem d_Mo_init_84 : decode M_Mo_init.2.1 84 = .ok (.bipush 64, 2) := by decide +kernel
theorem d_Mo_init_86 : decode M_Mo_init.2.1 86 = .ok (.newarray .int, 2) := by decide +kernel
theorem d_Mo_init_88 : decode M_Mo_init.2.1 88 = .ok (.putfield 40, 3) := by decide +kernel
theorem d_Mo_init_91 : decode M_Mo_init.2.1 91 = .ok (.aload_n 0, 1) := by decide +kernel
theorem d_Mo_init_92 : decode M_Mo_init.2.1 92 = .ok (.bipush 64, 2) := by decide +kernel
theorem d_Mo_init_94 : decode M_Mo_init.2.1 94 = .ok (.newarray .int, 2) := by decide +kernel
theorem d_Mo_init_96 : decode M_Mo_init.2.1 96 = .ok (.putfield 43, 3) := by decide +kernel
theorem d_Mo_init_99 : decode M_Mo_init.2.1 99 = .ok (.aload_n 0, 1) := by decide +kernel
theorem d_Mo_init_100 : decode M_Mo_init.2.1 100 = .ok (.bipush 8, 2) := by decide +kernel
theorem d_Mo_init_102 : decode M_Mo_init.2.1 102 = .ok (.newarray .int, 2) := by decide +kernel
theorem d_Mo_init_104 : decode M_Mo_init.2.1 104 = .ok (.putfield 46, 3) := by decide +kernel
theorem d_Mo_init_107 : decode M_Mo_init.2.1 107 = .ok (.aload_n 0, 1) := by decide +kernel
theorem d_Mo_init_108 : decode M_Mo_init.2.1 108 = .ok (.iload_n 1, 1) := by decide +kernel
theorem d_Mo_init_109 : decode M_Mo_init.2.1 109 = .ok (.iconst 1, 1) := by decide +kernel
theorem d_Mo_init_110 : decode M_Mo_init.2.1 110 = .ok (.bipush 60, 2) := by decide +kernel
theorem d_Mo_init_112 : decode M_Mo_init.2.1 112 = .ok (.invokestatic 49, 3) := by decide +kernel
theorem d_Mo_init_115 : decode M_Mo_init.2.1 115 = .ok (.putfield 53, 3) := by decide +kernel
theorem d_Mo_init_118 : decode M_Mo_init.2.1 118 = .ok (.aload_n 0, 1) := by decide +kernel
theorem d_Mo_init_119 : decode M_Mo_init.2.1 119 = .ok (.iload_n 2, 1) := by decide +kernel
theorem d_Mo_init_120 : decode M_Mo_init.2.1 120 = .ok (.aload_n 0, 1) := by decide +kernel
theorem d_Mo_init_121 : decode M_Mo_init.2.1 121 = .ok (.getfield 53, 3) := by decide +kernel
theorem d_Mo_init_124 : decode M_Mo_init.2.1 124 = .ok (.sipush 600, 3) := by decide +kernel
theorem d_Mo_init_127 : decode M_Mo_init.2.1 127 = .ok (.invokestatic 49, 3) := by decide +kernel
theorem d_Mo_init_130 : decode M_Mo_init.2.1 130 = .ok (.putfield 57, 3) := by decide +kernel
theorem d_Mo_init_133 : decode M_Mo_init.2.1 133 = .ok (.aload_n 0, 1) := by decide +kernel
theorem d_Mo_init_134 : decode M_Mo_init.2.1 134 = .ok (.iload_n 3, 1) := by decide +kernel
theorem d_Mo_init_135 : decode M_Mo_init.2.1 135 = .ok (.aload_n 0, 1) := by decide +kernel
theorem d_Mo_init_136 : decode M_Mo_init.2.1 136 = .ok (.getfield 57, 3) := by decide +kernel
theorem d_Mo_init_139 : decode M_Mo_init.2.1 139 = .ok (.sipush 6000, 3) := by decide +kernel
theorem d_Mo_init_142 : decode M_Mo_init.2.1 142 = .ok (.invokestatic 49, 3) := by decide +kernel
theorem d_Mo_init_145 : decode M_Mo_init.2.1 145 = .ok (.putfield 60, 3) := by decide +kernel
theorem d_Mo_init_148 : decode M_Mo_init.2.1 148 = .ok (.return_, 1) := by decide +kernel
theorem d_Mo_within_0 : decode M_Mo_within.2.1 0 = .ok (.iload_n 0, 1) := by decide +kernel
theorem d_Mo_within_1 : decode M_Mo_within.2.1 1 = .ok (.iload_n 1, 1) := by decide +kernel
theorem d_Mo_within_2 : decode M_Mo_within.2.1 2 = .ok (.if_icmp .ge 7, 3) := by decide +kernel
theorem d_Mo_within_5 : decode M_Mo_within.2.1 5 = .ok (.iload_n 1, 1) := by decide +kernel
theorem d_Mo_within_6 : decode M_Mo_within.2.1 6 = .ok (.goto 13, 3) := by decide +kernel
theorem d_Mo_within_9 : decode M_Mo_within.2.1 9 = .ok (.iload_n 0, 1) := by decide +kernel
theorem d_Mo_within_10 : decode M_Mo_within.2.1 10 = .ok (.iload_n 2, 1) := by decide +kernel
theorem d_Mo_within_11 : decode M_Mo_within.2.1 11 = .ok (.if_icmp .le 7, 3) := by decide +kernel
theorem d_Mo_within_14 : decode M_Mo_within.2.1 14 = .ok (.iload_n 2, 1) := by decide +kernel
theorem d_Mo_within_15 : decode M_Mo_within.2.1 15 = .ok (.goto 4, 3) := by decide +kernel
theorem d_Mo_within_18 : decode M_Mo_within.2.1 18 = .ok (.iload_n 0, 1) := by decide +kernel
theorem d_Mo_within_19 : decode M_Mo_within.2.1 19 = .ok (.ireturn, 1) := by decide +kernel
theorem d_Mo_out_0 : decode M_Mo_out.2.1 0 = .ok (.iload_n 0, 1) := by decide +kernel
theorem d_Mo_out_1 : decode M_Mo_out.2.1 1 = .ok (.ifCond .lt 8, 3) := by decide +kernel
theorem d_Mo_out_4 : decode M_Mo_out.2.1 4 = .ok (.iload_n 0, 1) := by decide +kernel
theorem d_Mo_out_5 : decode M_Mo_out.2.1 5 = .ok (.iload_n 1, 1) := by decide +kernel
theorem d_Mo_out_6 : decode M_Mo_out.2.1 6 = .ok (.if_icmp .le 7, 3) := by decide +kernel
theorem d_Mo_out_9 : decode M_Mo_out.2.1 9 = .ok (.iconst 1, 1) := by decide +kernel
theorem d_Mo_out_10 : decode M_Mo_out.2.1 10 = .ok (.goto 4, 3) := by decide +kernel
theorem d_Mo_out_13 : decode M_Mo_out.2.1 13 = .ok (.iconst 0, 1) := by decide +kernel
theorem d_Mo_out_14 : decode M_Mo_out.2.1 14 = .ok (.ireturn, 1) := by decide +kernel
theorem d_Mo_alias_0 : decode M_Mo_alias.2.1 0 = .ok (.iload_n 1, 1) := by decide +kernel
theorem d_Mo_alias_1 : decode M_Mo_alias.2.1 1 = .ok (.bipush 7, 2) := by decide +kernel
theorem d_Mo_alias_3 : decode M_Mo_alias.2.1 3 = .ok (.invokestatic 63, 3) := by decide +kernel
theorem d_Mo_alias_6 : decode M_Mo_alias.2.1 6 = .ok (.ifCond .ne 12, 3) := by decide +kernel
theorem d_Mo_alias_9 : decode M_Mo_alias.2.1 9 = .ok (.iload_n 2, 1) := by decide +kernel
theorem d_Mo_alias_10 : decode M_Mo_alias.2.1 10 = .ok (.bipush 63, 2) := by decide +kernel
theorem d_Mo_alias_12 : decode M_Mo_alias.2.1 12 = .ok (.invokestatic 63, 3) := by decide +kernel
theorem d_Mo_alias_15 : decode M_Mo_alias.2.1 15 = .ok (.ifCond .eq 7, 3) := by decide +kernel
theorem d_Mo_alias_18 : decode M_Mo_alias.2.1 18 = .ok (.sipush (-501), 3) := by decide +kernel
theorem d_Mo_alias_21 : decode M_Mo_alias.2.1 21 = .ok (.ireturn, 1) := by decide +kernel
theorem d_Mo_alias_22 : decode M_Mo_alias.2.1 22 = .ok (.iconst 0, 1) := by decide +kernel
theorem d_Mo_alias_23 : decode M_Mo_alias.2.1 23 = .ok (.istore_n 3, 1) := by decide +kernel
theorem d_Mo_alias_24 : decode M_Mo_alias.2.1 24 = .ok (.iload_n 3, 1) := by decide +kernel
theorem d_Mo_alias_25 : decode M_Mo_alias.2.1 25 = .ok (.aload_n 0, 1) := by decide +kernel
theorem d_Mo_alias_26 : decode M_Mo_alias.2.1 26 = .ok (.getfield 13, 3) := by decide +kernel
theorem d_Mo_alias_29 : decode M_Mo_alias.2.1 29 = .ok (.iload_n 1, 1) := by decide +kernel
theorem d_Mo_alias_30 : decode M_Mo_alias.2.1 30 = .ok (.iaload, 1) := by decide +kernel
theorem d_Mo_alias_31 : decode M_Mo_alias.2.1 31 = .ok (.if_icmp .ge 27, 3) := by decide +kernel
theorem d_Mo_alias_34 : decode M_Mo_alias.2.1 34 = .ok (.aload_n 0, 1) := by decide +kernel
theorem d_Mo_alias_35 : decode M_Mo_alias.2.1 35 = .ok (.getfield 7, 3) := by decide +kernel
theorem d_Mo_alias_38 : decode M_Mo_alias.2.1 38 = .ok (.iconst 4, 1) := by decide +kernel
theorem d_Mo_alias_39 : decode M_Mo_alias.2.1 39 = .ok (.iload_n 1, 1) := by decide +kernel
theorem d_Mo_alias_40 : decode M_Mo_alias.2.1 40 = .ok (.imul, 1) := by decide +kernel
theorem d_Mo_alias_41 : decode M_Mo_alias.2.1 41 = .ok (.iload_n 3, 1) := by decide +kernel
theorem d_Mo_alias_42 : decode M_Mo_alias.2.1 42 = .ok (.iadd, 1) := by decide +kernel
theorem d_Mo_alias_43 : decode M_Mo_alias.2.1 43 = .ok (.iaload, 1) := by decide +kernel
theorem d_Mo_alias_44 : decode M_Mo_alias.2.1 44 = .ok (.iload_n 2, 1) := by decide +kernel
theorem d_Mo_alias_45 : decode M_Mo_alias.2.1 45 = .ok (.if_icmp .ne 7, 3) := by decide +kernel
theorem d_Mo_alias_48 : decode M_Mo_alias.2.1 48 = .ok (.sipush (-452), 3) := by decide +kernel
theorem d_Mo_alias_51 : decode M_Mo_alias.2.1 51 = .ok (.ireturn, 1) := by decide +kernel
theorem d_Mo_alias_52 : decode M_Mo_alias.2.1 52 = .ok (.iinc 3 1, 3) := by decide +kernel
theorem d_Mo_alias_55 : decode M_Mo_alias.2.1 55 = .ok (.goto (-31), 3) := by decide +kernel
theorem d_Mo_alias_58 : decode M_Mo_alias.2.1 58 = .ok (.aload_n 0, 1) := by decide +kernel
theorem d_Mo_alias_59 : decode M_Mo_alias.2.1 59 = .ok (.getfield 13, 3) := by decide +kernel
theorem d_Mo_alias_62 : decode M_Mo_alias.2.1 62 = .ok (.iload_n 1, 1) := by decide +kernel
theorem d_Mo_alias_63 : decode M_Mo_alias.2.1 63 = .ok (.iaload, 1) := by decide +kernel
theorem d_Mo_alias_64 : decode M_Mo_alias.2.1 64 = .ok (.iconst 4, 1) := by decide +kernel
theorem d_Mo_alias_65 : decode M_Mo_alias.2.1 65 = .ok (.if_icmp .ne 7, 3) := by decide +kernel
theorem d_Mo_alias_68 : decode M_Mo_alias.2.1 68 = .ok (.sipush (-452), 3) := by decide +kernel
theorem d_Mo_alias_71 : decode M_Mo_alias.2.1 71 = .ok (.ireturn, 1) := by decide +kernel
theorem d_Mo_alias_72 : decode M_Mo_alias.2.1 72 = .ok (.aload_n 0, 1) := by decide +kernel
theorem d_Mo_alias_73 : decode M_Mo_alias.2.1 73 = .ok (.getfield 7, 3) := by decide +kernel
theorem d_Mo_alias_76 : decode M_Mo_alias.2.1 76 = .ok (.iconst 4, 1) := by decide +kernel
theorem d_Mo_alias_77 : decode M_Mo_alias.2.1 77 = .ok (.iload_n 1, 1) := by decide +kernel
theorem d_Mo_alias_78 : decode M_Mo_alias.2.1 78 = .ok (.imul, 1) := by decide +kernel
theorem d_Mo_alias_79 : decode M_Mo_alias.2.1 79 = .ok (.aload_n 0, 1) := by decide +kernel
theorem d_Mo_alias_80 : decode M_Mo_alias.2.1 80 = .ok (.getfield 13, 3) := by decide +kernel
theorem d_Mo_alias_83 : decode M_Mo_alias.2.1 83 = .ok (.iload_n 1, 1) := by decide +kernel
theorem d_Mo_alias_84 : decode M_Mo_alias.2.1 84 = .ok (.iaload, 1) := by decide +kernel
theorem d_Mo_alias_85 : decode M_Mo_alias.2.1 85 = .ok (.iadd, 1) := by decide +kernel
theorem d_Mo_alias_86 : decode M_Mo_alias.2.1 86 = .ok (.iload_n 2, 1) := by decide +kernel
theorem d_Mo_alias_87 : decode M_Mo_alias.2.1 87 = .ok (.iastore, 1) := by decide +kernel
theorem d_Mo_alias_88 : decode M_Mo_alias.2.1 88 = .ok (.aload_n 0, 1) := by decide +kernel
theorem d_Mo_alias_89 : decode M_Mo_alias.2.1 89 = .ok (.getfield 13, 3) := by decide +kernel
theorem d_Mo_alias_92 : decode M_Mo_alias.2.1 92 = .ok (.iload_n 1, 1) := by decide +kernel
theorem d_Mo_alias_93 : decode M_Mo_alias.2.1 93 = .ok (.dup2, 1) := by decide +kernel
theorem d_Mo_alias_94 : decode M_Mo_alias.2.1 94 = .ok (.iaload, 1) := by decide +kernel
theorem d_Mo_alias_95 : decode M_Mo_alias.2.1 95 = .ok (.iconst 1, 1) := by decide +kernel
theorem d_Mo_alias_96 : decode M_Mo_alias.2.1 96 = .ok (.iadd, 1) := by decide +kernel
theorem d_Mo_alias_97 : decode M_Mo_alias.2.1 97 = .ok (.iastore, 1) := by decide +kernel
theorem d_Mo_alias_98 : decode M_Mo_alias.2.1 98 = .ok (.aload_n 0, 1) := by decide +kernel
theorem d_Mo_alias_99 : decode M_Mo_alias.2.1 99 = .ok (.getfield 13, 3) := by decide +kernel
theorem d_Mo_alias_102 : decode M_Mo_alias.2.1 102 = .ok (.iload_n 1, 1) := by decide +kernel
theorem d_Mo_alias_103 : decode M_Mo_alias.2.1 103 = .ok (.iaload, 1) := by decide +kernel
theorem d_Mo_alias_104 : decode M_Mo_alias.2.1 104 = .ok (.ireturn, 1) := by decide +kernel
theorem d_Mo_unalias_0 : decode M_Mo_unalias.2.1 0 = .ok (.iload_n 1, 1) := by decide +kernel
theorem d_Mo_unalias_1 : decode M_Mo_unalias.2.1 1 = .ok (.bipush 7, 2) := by decide +kernel
theorem d_Mo_unalias_3 : decode M_Mo_unalias.2.1 3 = .ok (.invokestatic 63, 3) := by decide +kernel
theorem d_Mo_unalias_6 : decode M_Mo_unalias.2.1 6 = .ok (.ifCond .eq 7, 3) := by decide +kernel
theorem d_Mo_unalias_9 : decode M_Mo_unalias.2.1 9 = .ok (.sipush (-501), 3) := by decide +kernel
theorem d_Mo_unalias_12 : decode M_Mo_unalias.2.1 12 = .ok (.ireturn, 1) := by decide +kernel
theorem d_Mo_unalias_13 : decode M_Mo_unalias.2.1 13 = .ok (.aload_n 0, 1) := by decide +kernel
theorem d_Mo_unalias_14 : decode M_Mo_unalias.2.1 14 = .ok (.getfield 13, 3) := by decide +kernel
theorem d_Mo_unalias_17 : decode M_Mo_unalias.2.1 17 = .ok (.iload_n 1, 1) := by decide +kernel
theorem d_Mo_unalias_18 : decode M_Mo_unalias.2.1 18 = .ok (.iaload, 1) := by decide +kernel
theorem d_Mo_unalias_19 : decode M_Mo_unalias.2.1 19 = .ok (.istore_n 2, 1) := by decide +kernel
theorem d_Mo_unalias_20 : decode M_Mo_unalias.2.1 20 = .ok (.aload_n 0, 1) := by decide +kernel
theorem d_Mo_unalias_21 : decode M_Mo_unalias.2.1 21 = .ok (.getfield 13, 3) := by decide +kernel
theorem d_Mo_unalias_24 : decode M_Mo_unalias.2.1 24 = .ok (.iload_n 1, 1) := by decide +kernel
theorem d_Mo_unalias_25 : decode M_Mo_unalias.2.1 25 = .ok (.iconst 0, 1) := by decide +kernel
theorem d_Mo_unalias_26 : decode M_Mo_unalias.2.1 26 = .ok (.iastore, 1) := by decide +kernel
theorem d_Mo_unalias_27 : decode M_Mo_unalias.2.1 27 = .ok (.iload_n 2, 1) := by decide +kernel
theorem d_Mo_unalias_28 : decode M_Mo_unalias.2.1 28 = .ok (.ireturn, 1) := by decide +kernel
theorem d_Mo_route_0 : decode M_Mo_route.2.1 0 = .ok (.iload_n 1, 1) := by decide +kernel
theorem d_Mo_route_1 : decode M_Mo_route.2.1 1 = .ok (.iconst 1, 1) := by decide +kernel
theorem d_Mo_route_2 : decode M_Mo_route.2.1 2 = .ok (.if_icmp .lt 27, 3) := by decide +kernel
theorem d_Mo_route_5 : decode M_Mo_route.2.1 5 = .ok (.iload_n 1, 1) := by decide +kernel
theorem d_Mo_route_6 : decode M_Mo_route.2.1 6 = .ok (.bipush 7, 2) := by decide +kernel
theorem d_Mo_route_8 : decode M_Mo_route.2.1 8 = .ok (.if_icmp .gt 21, 3) := by decide +kernel
theorem d_Mo_route_11 : decode M_Mo_route.2.1 11 = .ok (.iload_n 2, 1) := by decide +kernel
theorem d_Mo_route_12 : decode M_Mo_route.2.1 12 = .ok (.bipush 7, 2) := by decide +kernel
theorem d_Mo_route_14 : decode M_Mo_route.2.1 14 = .ok (.invokestatic 63, 3) := by decide +kernel
theorem d_Mo_route_17 : decode M_Mo_route.2.1 17 = .ok (.ifCond .ne 12, 3) := by decide +kernel
theorem d_Mo_route_20 : decode M_Mo_route.2.1 20 = .ok (.iload_n 3, 1) := by decide +kernel
theorem d_Mo_route_21 : decode M_Mo_route.2.1 21 = .ok (.bipush 99, 2) := by decide +kernel
theorem d_Mo_route_23 : decode M_Mo_route.2.1 23 = .ok (.invokestatic 63, 3) := by decide +kernel
theorem d_Mo_route_26 : decode M_Mo_route.2.1 26 = .ok (.ifCond .eq 7, 3) := by decide +kernel
theorem d_Mo_route_29 : decode M_Mo_route.2.1 29 = .ok (.sipush (-501), 3) := by decide +kernel
theorem d_Mo_route_32 : decode M_Mo_route.2.1 32 = .ok (.ireturn, 1) := by decide +kernel
theorem d_Mo_route_33 : decode M_Mo_route.2.1 33 = .ok (.aload_n 0, 1) := by decide +kernel
theorem d_Mo_route_34 : decode M_Mo_route.2.1 34 = .ok (.getfield 22, 3) := by decide +kernel
theorem d_Mo_route_37 : decode M_Mo_route.2.1 37 = .ok (.iload_n 1, 1) := by decide +kernel
theorem d_Mo_route_38 : decode M_Mo_route.2.1 38 = .ok (.iaload, 1) := by decide +kernel
theorem d_Mo_route_39 : decode M_Mo_route.2.1 39 = .ok (.istore 4, 2) := by decide +kernel
theorem d_Mo_route_41 : decode M_Mo_route.2.1 41 = .ok (.iconst 0, 1) := by decide +kernel
theorem d_Mo_route_42 : decode M_Mo_route.2.1 42 = .ok (.istore 5, 2) := by decide +kernel
theorem d_Mo_route_44 : decode M_Mo_route.2.1 44 = .ok (.iload 5, 2) := by decide +kernel
theorem d_Mo_route_46 : decode M_Mo_route.2.1 46 = .ok (.iload 4, 2) := by decide +kernel
theorem d_Mo_route_48 : decode M_Mo_route.2.1 48 = .ok (.if_icmp .ge 28, 3) := by decide +kernel
theorem d_Mo_route_51 : decode M_Mo_route.2.1 51 = .ok (.aload_n 0, 1) := by decide +kernel
theorem d_Mo_route_52 : decode M_Mo_route.2.1 52 = .ok (.getfield 16, 3) := by decide +kernel
theorem d_Mo_route_55 : decode M_Mo_route.2.1 55 = .ok (.iconst 3, 1) := by decide +kernel
theorem d_Mo_route_56 : decode M_Mo_route.2.1 56 = .ok (.iload_n 1, 1) := by decide +kernel
theorem d_Mo_route_57 : decode M_Mo_route.2.1 57 = .ok (.imul, 1) := by decide +kernel
theorem d_Mo_route_58 : decode M_Mo_route.2.1 58 = .ok (.iload 5, 2) := by decide +kernel
theorem d_Mo_route_60 : decode M_Mo_route.2.1 60 = .ok (.iadd, 1) := by decide +kernel
theorem d_Mo_route_61 : decode M_Mo_route.2.1 61 = .ok (.iaload, 1) := by decide +kernel
theorem d_Mo_route_62 : decode M_Mo_route.2.1 62 = .ok (.iload_n 2, 1) := by decide +kernel
theorem d_Mo_route_63 : decode M_Mo_route.2.1 63 = .ok (.if_icmp .ne 7, 3) := by decide +kernel
theorem d_Mo_route_66 : decode M_Mo_route.2.1 66 = .ok (.sipush (-452), 3) := by decide +kernel
theorem d_Mo_route_69 : decode M_Mo_route.2.1 69 = .ok (.ireturn, 1) := by decide +kernel
theorem d_Mo_route_70 : decode M_Mo_route.2.1 70 = .ok (.iinc 5 1, 3) := by decide +kernel
theorem d_Mo_route_73 : decode M_Mo_route.2.1 73 = .ok (.goto (-29), 3) := by decide +kernel
theorem d_Mo_route_76 : decode M_Mo_route.2.1 76 = .ok (.iload 4, 2) := by decide +kernel
theorem d_Mo_route_78 : decode M_Mo_route.2.1 78 = .ok (.iconst 3, 1) := by decide +kernel
theorem d_Mo_route_79 : decode M_Mo_route.2.1 79 = .ok (.if_icmp .ne 7, 3) := by decide +kernel
theorem d_Mo_route_82 : decode M_Mo_route.2.1 82 = .ok (.sipush (-452), 3) := by decide +kernel
theorem d_Mo_route_85 : decode M_Mo_route.2.1 85 = .ok (.ireturn, 1) := by decide +kernel
theorem d_Mo_route_86 : decode M_Mo_route.2.1 86 = .ok (.aload_n 0, 1) := by decide +kernel
theorem d_Mo_route_87 : decode M_Mo_route.2.1 87 = .ok (.getfield 16, 3) := by decide +kernel
theorem d_Mo_route_90 : decode M_Mo_route.2.1 90 = .ok (.iconst 3, 1) := by decide +kernel
theorem d_Mo_route_91 : decode M_Mo_route.2.1 91 = .ok (.iload_n 1, 1) := by decide +kernel
theorem d_Mo_route_92 : decode M_Mo_route.2.1 92 = .ok (.imul, 1) := by decide +kernel
theorem d_Mo_route_93 : decode M_Mo_route.2.1 93 = .ok (.iload 4, 2) := by decide +kernel
theorem d_Mo_route_95 : decode M_Mo_route.2.1 95 = .ok (.iadd, 1) := by decide +kernel
theorem d_Mo_route_96 : decode M_Mo_route.2.1 96 = .ok (.iload_n 2, 1) := by decide +kernel
theorem d_Mo_route_97 : decode M_Mo_route.2.1 97 = .ok (.iastore, 1) := by decide +kernel
theorem d_Mo_route_98 : decode M_Mo_route.2.1 98 = .ok (.aload_n 0, 1) := by decide +kernel
theorem d_Mo_route_99 : decode M_Mo_route.2.1 99 = .ok (.getfield 19, 3) := by decide +kernel
theorem d_Mo_route_102 : decode M_Mo_route.2.1 102 = .ok (.iconst 3, 1) := by decide +kernel
theorem d_Mo_route_103 : decode M_Mo_route.2.1 103 = .ok (.iload_n 1, 1) := by decide +kernel
theorem d_Mo_route_104 : decode M_Mo_route.2.1 104 = .ok (.imul, 1) := by decide +kernel
theorem d_Mo_route_105 : decode M_Mo_route.2.1 105 = .ok (.iload 4, 2) := by decide +kernel
theorem d_Mo_route_107 : decode M_Mo_route.2.1 107 = .ok (.iadd, 1) := by decide +kernel
theorem d_Mo_route_108 : decode M_Mo_route.2.1 108 = .ok (.iconst 3, 1) := by decide +kernel
theorem d_Mo_route_109 : decode M_Mo_route.2.1 109 = .ok (.iload_n 3, 1) := by decide +kernel
theorem d_Mo_route_110 : decode M_Mo_route.2.1 110 = .ok (.imul, 1) := by decide +kernel
theorem d_Mo_route_111 : decode M_Mo_route.2.1 111 = .ok (.iload 4, 2) := by decide +kernel
theorem d_Mo_route_113 : decode M_Mo_route.2.1 113 = .ok (.iadd, 1) := by decide +kernel
theorem d_Mo_route_114 : decode M_Mo_route.2.1 114 = .ok (.iastore, 1) := by decide +kernel
theorem d_Mo_route_115 : decode M_Mo_route.2.1 115 = .ok (.aload_n 0, 1) := by decide +kernel
theorem d_Mo_route_116 : decode M_Mo_route.2.1 116 = .ok (.getfield 22, 3) := by decide +kernel
theorem d_Mo_route_119 : decode M_Mo_route.2.1 119 = .ok (.iload_n 1, 1) := by decide +kernel
theorem d_Mo_route_120 : decode M_Mo_route.2.1 120 = .ok (.iload 4, 2) := by decide +kernel
theorem d_Mo_route_122 : decode M_Mo_route.2.1 122 = .ok (.iconst 1, 1) := by decide +kernel
theorem d_Mo_route_123 : decode M_Mo_route.2.1 123 = .ok (.iadd, 1) := by decide +kernel
theorem d_Mo_route_124 : decode M_Mo_route.2.1 124 = .ok (.iastore, 1) := by decide +kernel
theorem d_Mo_route_125 : decode M_Mo_route.2.1 125 = .ok (.iload 4, 2) := by decide +kernel
theorem d_Mo_route_127 : decode M_Mo_route.2.1 127 = .ok (.iconst 1, 1) := by decide +kernel
theorem d_Mo_route_128 : decode M_Mo_route.2.1 128 = .ok (.iadd, 1) := by decide +kernel
theorem d_Mo_route_129 : decode M_Mo_route.2.1 129 = .ok (.ireturn, 1) := by decide +kernel
theorem d_Mo_unroute_0 : decode M_Mo_unroute.2.1 0 = .ok (.iload_n 1, 1) := by decide +kernel
theorem d_Mo_unroute_1 : decode M_Mo_unroute.2.1 1 = .ok (.iconst 1, 1) := by decide +kernel
theorem d_Mo_unroute_2 : decode M_Mo_unroute.2.1 2 = .ok (.if_icmp .lt 9, 3) := by decide +kernel
theorem d_Mo_unroute_5 : decode M_Mo_unroute.2.1 5 = .ok (.iload_n 1, 1) := by decide +kernel
theorem d_Mo_unroute_6 : decode M_Mo_unroute.2.1 6 = .ok (.bipush 7, 2) := by decide +kernel
theorem d_Mo_unroute_8 : decode M_Mo_unroute.2.1 8 = .ok (.if_icmp .le 7, 3) := by decide +kernel
theorem d_Mo_unroute_11 : decode M_Mo_unroute.2.1 11 = .ok (.sipush (-501), 3) := by decide +kernel
theorem d_Mo_unroute_14 : decode M_Mo_unroute.2.1 14 = .ok (.ireturn, 1) := by decide +kernel
theorem d_Mo_unroute_15 : decode M_Mo_unroute.2.1 15 = .ok (.aload_n 0, 1) := by decide +kernel
theorem d_Mo_unroute_16 : decode M_Mo_unroute.2.1 16 = .ok (.getfield 22, 3) := by decide +kernel
theorem d_Mo_unroute_19 : decode M_Mo_unroute.2.1 19 = .ok (.iload_n 1, 1) := by decide +kernel
theorem d_Mo_unroute_20 : decode M_Mo_unroute.2.1 20 = .ok (.iaload, 1) := by decide +kernel
theorem d_Mo_unroute_21 : decode M_Mo_unroute.2.1 21 = .ok (.istore_n 2, 1) := by decide +kernel
theorem d_Mo_unroute_22 : decode M_Mo_unroute.2.1 22 = .ok (.aload_n 0, 1) := by decide +kernel
theorem d_Mo_unroute_23 : decode M_Mo_unroute.2.1 23 = .ok (.getfield 22, 3) := by decide +kernel
theorem d_Mo_unroute_26 : decode M_Mo_unroute.2.1 26 = .ok (.iload_n 1, 1) := by decide +kernel
theorem d_Mo_unroute_27 : decode M_Mo_unroute.2.1 27 = .ok (.iconst 0, 1) := by decide +kernel
theorem d_Mo_unroute_28 : decode M_Mo_unroute.2.1 28 = .ok (.iastore, 1) := by decide +kernel
theorem d_Mo_unroute_29 : decode M_Mo_unroute.2.1 29 = .ok (.iload_n 2, 1) := by decide +kernel
theorem d_Mo_unroute_30 : decode M_Mo_unroute.2.1 30 = .ok (.ireturn, 1) := by decide +kernel
theorem d_Mo_host_0 : decode M_Mo_host.2.1 0 = .ok (.iload_n 1, 1) := by decide +kernel
theorem d_Mo_host_1 : decode M_Mo_host.2.1 1 = .ok (.bipush 7, 2) := by decide +kernel
theorem d_Mo_host_3 : decode M_Mo_host.2.1 3 = .ok (.invokestatic 63, 3) := by decide +kernel
theorem d_Mo_host_6 : decode M_Mo_host.2.1 6 = .ok (.ifCond .ne 11, 3) := by decide +kernel
theorem d_Mo_host_9 : decode M_Mo_host.2.1 9 = .ok (.iload_n 2, 1) := by decide +kernel
theorem d_Mo_host_10 : decode M_Mo_host.2.1 10 = .ok (.iconst 2, 1) := by decide +kernel
theorem d_Mo_host_11 : decode M_Mo_host.2.1 11 = .ok (.invokestatic 63, 3) := by decide +kernel
theorem d_Mo_host_14 : decode M_Mo_host.2.1 14 = .ok (.ifCond .eq 7, 3) := by decide +kernel
theorem d_Mo_host_17 : decode M_Mo_host.2.1 17 = .ok (.sipush (-501), 3) := by decide +kernel
theorem d_Mo_host_20 : decode M_Mo_host.2.1 20 = .ok (.ireturn, 1) := by decide +kernel
theorem d_Mo_host_21 : decode M_Mo_host.2.1 21 = .ok (.aload_n 0, 1) := by decide +kernel
theorem d_Mo_host_22 : decode M_Mo_host.2.1 22 = .ok (.getfield 25, 3) := by decide +kernel
theorem d_Mo_host_25 : decode M_Mo_host.2.1 25 = .ok (.iload_n 1, 1) := by decide +kernel
theorem d_Mo_host_26 : decode M_Mo_host.2.1 26 = .ok (.iaload, 1) := by decide +kernel
theorem d_Mo_host_27 : decode M_Mo_host.2.1 27 = .ok (.istore_n 3, 1) := by decide +kernel
theorem d_Mo_host_28 : decode M_Mo_host.2.1 28 = .ok (.aload_n 0, 1) := by decide +kernel
theorem d_Mo_host_29 : decode M_Mo_host.2.1 29 = .ok (.getfield 25, 3) := by decide +kernel
theorem d_Mo_host_32 : decode M_Mo_host.2.1 32 = .ok (.iload_n 1, 1) := by decide +kernel
theorem d_Mo_host_33 : decode M_Mo_host.2.1 33 = .ok (.iload_n 2, 1) := by decide +kernel
theorem d_Mo_host_34 : decode M_Mo_host.2.1 34 = .ok (.iastore, 1) := by decide +kernel
theorem d_Mo_host_35 : decode M_Mo_host.2.1 35 = .ok (.iload_n 3, 1) := by decide +kernel
theorem d_Mo_host_36 : decode M_Mo_host.2.1 36 = .ok (.ireturn, 1) := by decide +kernel
theorem d_Mo_from_0 : decode M_Mo_from.2.1 0 = .ok (.iload_n 1, 1) := by decide +kernel
theorem d_Mo_from_1 : decode M_Mo_from.2.1 1 = .ok (.iconst (-1), 1) := by decide +kernel
theorem d_Mo_from_2 : decode M_Mo_from.2.1 2 = .ok (.if_icmp .lt 9, 3) := by decide +kernel
theorem d_Mo_from_5 : decode M_Mo_from.2.1 5 = .ok (.iload_n 1, 1) := by decide +kernel
theorem d_Mo_from_6 : decode M_Mo_from.2.1 6 = .ok (.bipush 63, 2) := by decide +kernel
theorem d_Mo_from_8 : decode M_Mo_from.2.1 8 = .ok (.if_icmp .le 7, 3) := by decide +kernel
theorem d_Mo_from_11 : decode M_Mo_from.2.1 11 = .ok (.sipush (-501), 3) := by decide +kernel
theorem d_Mo_from_14 : decode M_Mo_from.2.1 14 = .ok (.ireturn, 1) := by decide +kernel
theorem d_Mo_from_15 : decode M_Mo_from.2.1 15 = .ok (.aload_n 0, 1) := by decide +kernel
theorem d_Mo_from_16 : decode M_Mo_from.2.1 16 = .ok (.iconst 1, 1) := by decide +kernel
theorem d_Mo_from_17 : decode M_Mo_from.2.1 17 = .ok (.putfield 67, 3) := by decide +kernel
theorem d_Mo_from_20 : decode M_Mo_from.2.1 20 = .ok (.aload_n 0, 1) := by decide +kernel
theorem d_Mo_from_21 : decode M_Mo_from.2.1 21 = .ok (.iload_n 1, 1) := by decide +kernel
theorem d_Mo_from_22 : decode M_Mo_from.2.1 22 = .ok (.putfield 71, 3) := by decide +kernel
theorem d_Mo_from_25 : decode M_Mo_from.2.1 25 = .ok (.aload_n 0, 1) := by decide +kernel
theorem d_Mo_from_26 : decode M_Mo_from.2.1 26 = .ok (.iconst 0, 1) := by decide +kernel
theorem d_Mo_from_27 : decode M_Mo_from.2.1 27 = .ok (.putfield 74, 3) := by decide +kernel
theorem d_Mo_from_30 : decode M_Mo_from.2.1 30 = .ok (.iconst 0, 1) := by decide +kernel
theorem d_Mo_from_31 : decode M_Mo_from.2.1 31 = .ok (.ireturn, 1) := by decide +kernel
theorem d_Mo_reached_0 : decode M_Mo_reached.2.1 0 = .ok (.lconst 1, 1) := by decide +kernel
theorem d_Mo_reached_1 : decode M_Mo_reached.2.1 1 = .ok (.iload_n 1, 1) := by decide +kernel
theorem d_Mo_reached_2 : decode M_Mo_reached.2.1 2 = .ok (.lshl, 1) := by decide +kernel
theorem d_Mo_reached_3 : decode M_Mo_reached.2.1 3 = .ok (.lstore_n 2, 1) := by decide +kernel
theorem d_Mo_reached_4 : decode M_Mo_reached.2.1 4 = .ok (.iconst 0, 1) := by decide +kernel
theorem d_Mo_reached_5 : decode M_Mo_reached.2.1 5 = .ok (.istore 4, 2) := by decide +kernel
theorem d_Mo_reached_7 : decode M_Mo_reached.2.1 7 = .ok (.iload 4, 2) := by decide +kernel
theorem d_Mo_reached_9 : decode M_Mo_reached.2.1 9 = .ok (.bipush 64, 2) := by decide +kernel
theorem d_Mo_reached_11 : decode M_Mo_reached.2.1 11 = .ok (.if_icmp .ge 66, 3) := by decide +kernel
theorem d_Mo_reached_14 : decode M_Mo_reached.2.1 14 = .ok (.iconst 0, 1) := by decide +kernel
theorem d_Mo_reached_15 : decode M_Mo_reached.2.1 15 = .ok (.istore 5, 2) := by decide +kernel
theorem d_Mo_reached_17 : decode M_Mo_reached.2.1 17 = .ok (.iload 5, 2) := by decide +kernel
theorem d_Mo_reached_19 : decode M_Mo_reached.2.1 19 = .ok (.bipush 32, 2) := by decide +kernel
theorem d_Mo_reached_21 : decode M_Mo_reached.2.1 21 = .ok (.if_icmp .ge 50, 3) := by decide +kernel
theorem d_Mo_reached_24 : decode M_Mo_reached.2.1 24 = .ok (.lload_n 2, 1) := by decide +kernel
theorem d_Mo_reached_25 : decode M_Mo_reached.2.1 25 = .ok (.iload 5, 2) := by decide +kernel
theorem d_Mo_reached_27 : decode M_Mo_reached.2.1 27 = .ok (.iconst 4, 1) := by decide +kernel
theorem d_Mo_reached_28 : decode M_Mo_reached.2.1 28 = .ok (.idiv, 1) := by decide +kernel
theorem d_Mo_reached_29 : decode M_Mo_reached.2.1 29 = .ok (.lshr, 1) := by decide +kernel
theorem d_Mo_reached_30 : decode M_Mo_reached.2.1 30 = .ok (.lconst 1, 1) := by decide +kernel
theorem d_Mo_reached_31 : decode M_Mo_reached.2.1 31 = .ok (.land, 1) := by decide +kernel
theorem d_Mo_reached_32 : decode M_Mo_reached.2.1 32 = .ok (.lconst 0, 1) := by decide +kernel
theorem d_Mo_reached_33 : decode M_Mo_reached.2.1 33 = .ok (.lcmp, 1) := by decide +kernel
theorem d_Mo_reached_34 : decode M_Mo_reached.2.1 34 = .ok (.ifCond .eq 31, 3) := by decide +kernel
theorem d_Mo_reached_37 : decode M_Mo_reached.2.1 37 = .ok (.iload 5, 2) := by decide +kernel
theorem d_Mo_reached_39 : decode M_Mo_reached.2.1 39 = .ok (.iconst 4, 1) := by decide +kernel
theorem d_Mo_reached_40 : decode M_Mo_reached.2.1 40 = .ok (.irem, 1) := by decide +kernel
theorem d_Mo_reached_41 : decode M_Mo_reached.2.1 41 = .ok (.aload_n 0, 1) := by decide +kernel
theorem d_Mo_reached_42 : decode M_Mo_reached.2.1 42 = .ok (.getfield 13, 3) := by decide +kernel
theorem d_Mo_reached_45 : decode M_Mo_reached.2.1 45 = .ok (.iload 5, 2) := by decide +kernel
theorem d_Mo_reached_47 : decode M_Mo_reached.2.1 47 = .ok (.iconst 4, 1) := by decide +kernel
theorem d_Mo_reached_48 : decode M_Mo_reached.2.1 48 = .ok (.idiv, 1) := by decide +kernel
theorem d_Mo_reached_49 : decode M_Mo_reached.2.1 49 = .ok (.iaload, 1) := by decide +kernel
theorem d_Mo_reached_50 : decode M_Mo_reached.2.1 50 = .ok (.if_icmp .ge 15, 3) := by decide +kernel
theorem d_Mo_reached_53 : decode M_Mo_reached.2.1 53 = .ok (.lload_n 2, 1) := by decide +kernel
theorem d_Mo_reached_54 : decode M_Mo_reached.2.1 54 = .ok (.lconst 1, 1) := by decide +kernel
theorem d_Mo_reached_55 : decode M_Mo_reached.2.1 55 = .ok (.aload_n 0, 1) := by decide +kernel
theorem d_Mo_reached_56 : decode M_Mo_reached.2.1 56 = .ok (.getfield 7, 3) := by decide +kernel
theorem d_Mo_reached_59 : decode M_Mo_reached.2.1 59 = .ok (.iload 5, 2) := by decide +kernel
theorem d_Mo_reached_61 : decode M_Mo_reached.2.1 61 = .ok (.iaload, 1) := by decide +kernel
theorem d_Mo_reached_62 : decode M_Mo_reached.2.1 62 = .ok (.lshl, 1) := by decide +kernel
theorem d_Mo_reached_63 : decode M_Mo_reached.2.1 63 = .ok (.lor, 1) := by decide +kernel
theorem d_Mo_reached_64 : decode M_Mo_reached.2.1 64 = .ok (.lstore_n 2, 1) := by decide +kernel
theorem d_Mo_reached_65 : decode M_Mo_reached.2.1 65 = .ok (.iinc 5 1, 3) := by decide +kernel
theorem d_Mo_reached_68 : decode M_Mo_reached.2.1 68 = .ok (.goto (-51), 3) := by decide +kernel
theorem d_Mo_reached_71 : decode M_Mo_reached.2.1 71 = .ok (.iinc 4 1, 3) := by decide +kernel
theorem d_Mo_reached_74 : decode M_Mo_reached.2.1 74 = .ok (.goto (-67), 3) := by decide +kernel
theorem d_Mo_reached_77 : decode M_Mo_reached.2.1 77 = .ok (.lload_n 2, 1) := by decide +kernel
theorem d_Mo_reached_78 : decode M_Mo_reached.2.1 78 = .ok (.lreturn, 1) := by decide +kernel
theorem d_Mo_named_0 : decode M_Mo_named.2.1 0 = .ok (.iconst 0, 1) := by decide +kernel
theorem d_Mo_named_1 : decode M_Mo_named.2.1 1 = .ok (.istore_n 2, 1) := by decide +kernel
theorem d_Mo_named_2 : decode M_Mo_named.2.1 2 = .ok (.iload_n 2, 1) := by decide +kernel
theorem d_Mo_named_3 : decode M_Mo_named.2.1 3 = .ok (.aload_n 0, 1) := by decide +kernel
theorem d_Mo_named_4 : decode M_Mo_named.2.1 4 = .ok (.getfield 74, 3) := by decide +kernel
theorem d_Mo_named_7 : decode M_Mo_named.2.1 7 = .ok (.if_icmp .ge 21, 3) := by decide +kernel
theorem d_Mo_named_10 : decode M_Mo_named.2.1 10 = .ok (.aload_n 0, 1) := by decide +kernel
theorem d_Mo_named_11 : decode M_Mo_named.2.1 11 = .ok (.getfield 34, 3) := by decide +kernel
theorem d_Mo_named_14 : decode M_Mo_named.2.1 14 = .ok (.iload_n 2, 1) := by decide +kernel
theorem d_Mo_named_15 : decode M_Mo_named.2.1 15 = .ok (.iaload, 1) := by decide +kernel
theorem d_Mo_named_16 : decode M_Mo_named.2.1 16 = .ok (.iload_n 1, 1) := by decide +kernel
theorem d_Mo_named_17 : decode M_Mo_named.2.1 17 = .ok (.if_icmp .ne 5, 3) := by decide +kernel
theorem d_Mo_named_20 : decode M_Mo_named.2.1 20 = .ok (.iconst 1, 1) := by decide +kernel
theorem d_Mo_named_21 : decode M_Mo_named.2.1 21 = .ok (.ireturn, 1) := by decide +kernel
theorem d_Mo_named_22 : decode M_Mo_named.2.1 22 = .ok (.iinc 2 1, 3) := by decide +kernel
theorem d_Mo_named_25 : decode M_Mo_named.2.1 25 = .ok (.goto (-23), 3) := by decide +kernel
theorem d_Mo_named_28 : decode M_Mo_named.2.1 28 = .ok (.iconst 0, 1) := by decide +kernel
theorem d_Mo_named_29 : decode M_Mo_named.2.1 29 = .ok (.ireturn, 1) := by decide +kernel
theorem d_Mo_to_0 : decode M_Mo_to.2.1 0 = .ok (.iload_n 1, 1) := by decide +kernel
theorem d_Mo_to_1 : decode M_Mo_to.2.1 1 = .ok (.bipush 63, 2) := by decide +kernel
theorem d_Mo_to_3 : decode M_Mo_to.2.1 3 = .ok (.invokestatic 63, 3) := by decide +kernel
theorem d_Mo_to_6 : decode M_Mo_to.2.1 6 = .ok (.ifCond .eq 7, 3) := by decide +kernel
theorem d_Mo_to_9 : decode M_Mo_to.2.1 9 = .ok (.sipush (-501), 3) := by decide +kernel
theorem d_Mo_to_12 : decode M_Mo_to.2.1 12 = .ok (.ireturn, 1) := by decide +kernel
theorem d_Mo_to_13 : decode M_Mo_to.2.1 13 = .ok (.aload_n 0, 1) := by decide +kernel
theorem d_Mo_to_14 : decode M_Mo_to.2.1 14 = .ok (.getfield 67, 3) := by decide +kernel
theorem d_Mo_to_17 : decode M_Mo_to.2.1 17 = .ok (.ifCond .ne 7, 3) := by decide +kernel
theorem d_Mo_to_20 : decode M_Mo_to.2.1 20 = .ok (.sipush (-503), 3) := by decide +kernel
theorem d_Mo_to_23 : decode M_Mo_to.2.1 23 = .ok (.ireturn, 1) := by decide +kernel
theorem d_Mo_to_24 : decode M_Mo_to.2.1 24 = .ok (.aload_n 0, 1) := by decide +kernel
theorem d_Mo_to_25 : decode M_Mo_to.2.1 25 = .ok (.iload_n 1, 1) := by decide +kernel
theorem d_Mo_to_26 : decode M_Mo_to.2.1 26 = .ok (.invokevirtual 77, 3) := by decide +kernel
theorem d_Mo_to_29 : decode M_Mo_to.2.1 29 = .ok (.lstore_n 2, 1) := by decide +kernel
theorem d_Mo_to_30 : decode M_Mo_to.2.1 30 = .ok (.iconst 0, 1) := by decide +kernel
theorem d_Mo_to_31 : decode M_Mo_to.2.1 31 = .ok (.istore 4, 2) := by decide +kernel
theorem d_Mo_to_33 : decode M_Mo_to.2.1 33 = .ok (.iconst 0, 1) := by decide +kernel
theorem d_Mo_to_34 : decode M_Mo_to.2.1 34 = .ok (.istore 5, 2) := by decide +kernel
theorem d_Mo_to_36 : decode M_Mo_to.2.1 36 = .ok (.iconst 0, 1) := by decide +kernel
theorem d_Mo_to_37 : decode M_Mo_to.2.1 37 = .ok (.istore 6, 2) := by decide +kernel
theorem d_Mo_to_39 : decode M_Mo_to.2.1 39 = .ok (.iload 6, 2) := by decide +kernel
theorem d_Mo_to_41 : decode M_Mo_to.2.1 41 = .ok (.bipush 64, 2) := by decide +kernel
theorem d_Mo_to_43 : decode M_Mo_to.2.1 43 = .ok (.if_icmp .ge 69, 3) := by decide +kernel
theorem d_Mo_to_46 : decode M_Mo_to.2.1 46 = .ok (.lload_n 2, 1) := by decide +kernel
theorem d_Mo_to_47 : decode M_Mo_to.2.1 47 = .ok (.iload 6, 2) := by decide +kernel
theorem d_Mo_to_49 : decode M_Mo_to.2.1 49 = .ok (.lshr, 1) := by decide +kernel
theorem d_Mo_to_50 : decode M_Mo_to.2.1 50 = .ok (.lconst 1, 1) := by decide +kernel
theorem d_Mo_to_51 : decode M_Mo_to.2.1 51 = .ok (.land, 1) := by decide +kernel
theorem d_Mo_to_52 : decode M_Mo_to.2.1 52 = .ok (.lconst 0, 1) := by decide +kernel
theorem d_Mo_to_53 : decode M_Mo_to.2.1 53 = .ok (.lcmp, 1) := by decide +kernel
theorem d_Mo_to_54 : decode M_Mo_to.2.1 54 = .ok (.ifCond .eq 24, 3) := by decide +kernel
theorem d_Mo_to_57 : decode M_Mo_to.2.1 57 = .ok (.iload 6, 2) := by decide +kernel
theorem d_Mo_to_59 : decode M_Mo_to.2.1 59 = .ok (.bipush 7, 2) := by decide +kernel
theorem d_Mo_to_61 : decode M_Mo_to.2.1 61 = .ok (.if_icmp .gt 13, 3) := by decide +kernel
theorem d_Mo_to_64 : decode M_Mo_to.2.1 64 = .ok (.aload_n 0, 1) := by decide +kernel
theorem d_Mo_to_65 : decode M_Mo_to.2.1 65 = .ok (.getfield 13, 3) := by decide +kernel
theorem d_Mo_to_68 : decode M_Mo_to.2.1 68 = .ok (.iload 6, 2) := by decide +kernel
theorem d_Mo_to_70 : decode M_Mo_to.2.1 70 = .ok (.iaload, 1) := by decide +kernel
theorem d_Mo_to_71 : decode M_Mo_to.2.1 71 = .ok (.ifCond .ne 7, 3) := by decide +kernel
theorem d_Mo_to_74 : decode M_Mo_to.2.1 74 = .ok (.iconst 1, 1) := by decide +kernel
theorem d_Mo_to_75 : decode M_Mo_to.2.1 75 = .ok (.goto 4, 3) := by decide +kernel
theorem d_Mo_to_78 : decode M_Mo_to.2.1 78 = .ok (.iconst 0, 1) := by decide +kernel
theorem d_Mo_to_79 : decode M_Mo_to.2.1 79 = .ok (.istore 7, 2) := by decide +kernel
theorem d_Mo_to_81 : decode M_Mo_to.2.1 81 = .ok (.iload 7, 2) := by decide +kernel
theorem d_Mo_to_83 : decode M_Mo_to.2.1 83 = .ok (.ifCond .eq 6, 3) := by decide +kernel
theorem d_Mo_to_86 : decode M_Mo_to.2.1 86 = .ok (.iinc 4 1, 3) := by decide +kernel
theorem d_Mo_to_89 : decode M_Mo_to.2.1 89 = .ok (.iload 7, 2) := by decide +kernel
theorem d_Mo_to_91 : decode M_Mo_to.2.1 91 = .ok (.ifCond .eq 15, 3) := by decide +kernel
theorem d_Mo_to_94 : decode M_Mo_to.2.1 94 = .ok (.aload_n 0, 1) := by decide +kernel
theorem d_Mo_to_95 : decode M_Mo_to.2.1 95 = .ok (.iload 6, 2) := by decide +kernel
theorem d_Mo_to_97 : decode M_Mo_to.2.1 97 = .ok (.invokevirtual 81, 3) := by decide +kernel
theorem d_Mo_to_100 : decode M_Mo_to.2.1 100 = .ok (.ifCond .ne 6, 3) := by decide +kernel
theorem d_Mo_to_103 : decode M_Mo_to.2.1 103 = .ok (.iinc 5 1, 3) := by decide +kernel
theorem d_Mo_to_106 : decode M_Mo_to.2.1 106 = .ok (.iinc 6 1, 3) := by decide +kernel
theorem d_Mo_to_109 : decode M_Mo_to.2.1 109 = .ok (.goto (-70), 3) := by decide +kernel
theorem d_Mo_to_112 : decode M_Mo_to.2.1 112 = .ok (.iload 4, 2) := by decide +kernel
theorem d_Mo_to_114 : decode M_Mo_to.2.1 114 = .ok (.ifCond .ne 7, 3) := by decide +kernel
theorem d_Mo_to_117 : decode M_Mo_to.2.1 117 = .ok (.sipush (-550), 3) := by decide +kernel
theorem d_Mo_to_120 : decode M_Mo_to.2.1 120 = .ok (.ireturn, 1) := by decide +kernel
theorem d_Mo_to_121 : decode M_Mo_to.2.1 121 = .ok (.aload_n 0, 1) := by decide +kernel
theorem d_Mo_to_122 : decode M_Mo_to.2.1 122 = .ok (.getfield 74, 3) := by decide +kernel
theorem d_Mo_to_125 : decode M_Mo_to.2.1 125 = .ok (.iload 5, 2) := by decide +kernel
theorem d_Mo_to_127 : decode M_Mo_to.2.1 127 = .ok (.iadd, 1) := by decide +kernel
theorem d_Mo_to_128 : decode M_Mo_to.2.1 128 = .ok (.iconst 4, 1) := by decide +kernel
theorem d_Mo_to_129 : decode M_Mo_to.2.1 129 = .ok (.if_icmp .le 7, 3) := by decide +kernel
theorem d_Mo_to_132 : decode M_Mo_to.2.1 132 = .ok (.sipush (-452), 3) := by decide +kernel
theorem d_Mo_to_135 : decode M_Mo_to.2.1 135 = .ok (.ireturn, 1) := by decide +kernel
theorem d_Mo_to_136 : decode M_Mo_to.2.1 136 = .ok (.iconst 0, 1) := by decide +kernel
theorem d_Mo_to_137 : decode M_Mo_to.2.1 137 = .ok (.istore 6, 2) := by decide +kernel
theorem d_Mo_to_139 : decode M_Mo_to.2.1 139 = .ok (.iload 6, 2) := by decide +kernel
theorem d_Mo_to_141 : decode M_Mo_to.2.1 141 = .ok (.bipush 64, 2) := by decide +kernel
theorem d_Mo_to_143 : decode M_Mo_to.2.1 143 = .ok (.if_icmp .ge 70, 3) := by decide +kernel
theorem d_Mo_to_146 : decode M_Mo_to.2.1 146 = .ok (.lload_n 2, 1) := by decide +kernel
theorem d_Mo_to_147 : decode M_Mo_to.2.1 147 = .ok (.iload 6, 2) := by decide +kernel
theorem d_Mo_to_149 : decode M_Mo_to.2.1 149 = .ok (.lshr, 1) := by decide +kernel
theorem d_Mo_to_150 : decode M_Mo_to.2.1 150 = .ok (.lconst 1, 1) := by decide +kernel
theorem d_Mo_to_151 : decode M_Mo_to.2.1 151 = .ok (.land, 1) := by decide +kernel
theorem d_Mo_to_152 : decode M_Mo_to.2.1 152 = .ok (.lconst 0, 1) := by decide +kernel
theorem d_Mo_to_153 : decode M_Mo_to.2.1 153 = .ok (.lcmp, 1) := by decide +kernel
theorem d_Mo_to_154 : decode M_Mo_to.2.1 154 = .ok (.ifCond .eq 53, 3) := by decide +kernel
theorem d_Mo_to_157 : decode M_Mo_to.2.1 157 = .ok (.iload 6, 2) := by decide +kernel
theorem d_Mo_to_159 : decode M_Mo_to.2.1 159 = .ok (.bipush 8, 2) := by decide +kernel
theorem d_Mo_to_161 : decode M_Mo_to.2.1 161 = .ok (.if_icmp .ge 13, 3) := by decide +kernel
theorem d_Mo_to_164 : decode M_Mo_to.2.1 164 = .ok (.aload_n 0, 1) := by decide +kernel
theorem d_Mo_to_165 : decode M_Mo_to.2.1 165 = .ok (.getfield 13, 3) := by decide +kernel
theorem d_Mo_to_168 : decode M_Mo_to.2.1 168 = .ok (.iload 6, 2) := by decide +kernel
theorem d_Mo_to_170 : decode M_Mo_to.2.1 170 = .ok (.iaload, 1) := by decide +kernel
theorem d_Mo_to_171 : decode M_Mo_to.2.1 171 = .ok (.ifCond .gt 36, 3) := by decide +kernel
theorem d_Mo_to_174 : decode M_Mo_to.2.1 174 = .ok (.aload_n 0, 1) := by decide +kernel
theorem d_Mo_to_175 : decode M_Mo_to.2.1 175 = .ok (.iload 6, 2) := by decide +kernel
theorem d_Mo_to_177 : decode M_Mo_to.2.1 177 = .ok (.invokevirtual 81, 3) := by decide +kernel
theorem d_Mo_to_180 : decode M_Mo_to.2.1 180 = .ok (.ifCond .eq 6, 3) := by decide +kernel
theorem d_Mo_to_183 : decode M_Mo_to.2.1 183 = .ok (.goto 24, 3) := by decide +kernel
theorem d_Mo_to_186 : decode M_Mo_to.2.1 186 = .ok (.aload_n 0, 1) := by decide +kernel
theorem d_Mo_to_187 : decode M_Mo_to.2.1 187 = .ok (.getfield 34, 3) := by decide +kernel
theorem d_Mo_to_190 : decode M_Mo_to.2.1 190 = .ok (.aload_n 0, 1) := by decide +kernel
theorem d_Mo_to_191 : decode M_Mo_to.2.1 191 = .ok (.getfield 74, 3) := by decide +kernel
theorem d_Mo_to_194 : decode M_Mo_to.2.1 194 = .ok (.iload 6, 2) := by decide +kernel
theorem d_Mo_to_196 : decode M_Mo_to.2.1 196 = .ok (.iastore, 1) := by decide +kernel
theorem d_Mo_to_197 : decode M_Mo_to.2.1 197 = .ok (.aload_n 0, 1) := by decide +kernel
theorem d_Mo_to_198 : decode M_Mo_to.2.1 198 = .ok (.dup, 1) := by decide +kernel
theorem d_Mo_to_199 : decode M_Mo_to.2.1 199 = .ok (.getfield 74, 3) := by decide +kernel
theorem d_Mo_to_202 : decode M_Mo_to.2.1 202 = .ok (.iconst 1, 1) := by decide +kernel
theorem d_Mo_to_203 : decode M_Mo_to.2.1 203 = .ok (.iadd, 1) := by decide +kernel
theorem d_Mo_to_204 : decode M_Mo_to.2.1 204 = .ok (.putfield 74, 3) := by decide +kernel
theorem d_Mo_to_207 : decode M_Mo_to.2.1 207 = .ok (.iinc 6 1, 3) := by decide +kernel
theorem d_Mo_to_210 : decode M_Mo_to.2.1 210 = .ok (.goto (-71), 3) := by decide +kernel
theorem d_Mo_to_213 : decode M_Mo_to.2.1 213 = .ok (.iload 5, 2) := by decide +kernel
theorem d_Mo_to_215 : decode M_Mo_to.2.1 215 = .ok (.ireturn, 1) := by decide +kernel
theorem d_Mo_costs_0 : decode M_Mo_costs.2.1 0 = .ok (.iconst 0, 1) := by decide +kernel
theorem d_Mo_costs_1 : decode M_Mo_costs.2.1 1 = .ok (.istore_n 1, 1) := by decide +kernel
theorem d_Mo_costs_2 : decode M_Mo_costs.2.1 2 = .ok (.iconst 0, 1) := by decide +kernel
theorem d_Mo_costs_3 : decode M_Mo_costs.2.1 3 = .ok (.istore_n 2, 1) := by decide +kernel
theorem d_Mo_costs_4 : decode M_Mo_costs.2.1 4 = .ok (.iload_n 2, 1) := by decide +kernel
theorem d_Mo_costs_5 : decode M_Mo_costs.2.1 5 = .ok (.aload_n 0, 1) := by decide +kernel
theorem d_Mo_costs_6 : decode M_Mo_costs.2.1 6 = .ok (.getfield 85, 3) := by decide +kernel
theorem d_Mo_costs_9 : decode M_Mo_costs.2.1 9 = .ok (.if_icmp .ge 37, 3) := by decide +kernel
theorem d_Mo_costs_12 : decode M_Mo_costs.2.1 12 = .ok (.iload_n 1, 1) := by decide +kernel
theorem d_Mo_costs_13 : decode M_Mo_costs.2.1 13 = .ok (.aload_n 0, 1) := by decide +kernel
theorem d_Mo_costs_14 : decode M_Mo_costs.2.1 14 = .ok (.getfield 28, 3) := by decide +kernel
theorem d_Mo_costs_17 : decode M_Mo_costs.2.1 17 = .ok (.bipush 16, 2) := by decide +kernel
theorem d_Mo_costs_19 : decode M_Mo_costs.2.1 19 = .ok (.iload_n 2, 1) := by decide +kernel
theorem d_Mo_costs_20 : decode M_Mo_costs.2.1 20 = .ok (.imul, 1) := by decide +kernel
theorem d_Mo_costs_21 : decode M_Mo_costs.2.1 21 = .ok (.iconst 2, 1) := by decide +kernel
theorem d_Mo_costs_22 : decode M_Mo_costs.2.1 22 = .ok (.iadd, 1) := by decide +kernel
theorem d_Mo_costs_23 : decode M_Mo_costs.2.1 23 = .ok (.iaload, 1) := by decide +kernel
theorem d_Mo_costs_24 : decode M_Mo_costs.2.1 24 = .ok (.aload_n 0, 1) := by decide +kernel
theorem d_Mo_costs_25 : decode M_Mo_costs.2.1 25 = .ok (.getfield 28, 3) := by decide +kernel
theorem d_Mo_costs_28 : decode M_Mo_costs.2.1 28 = .ok (.bipush 16, 2) := by decide +kernel
theorem d_Mo_costs_30 : decode M_Mo_costs.2.1 30 = .ok (.iload_n 2, 1) := by decide +kernel
theorem d_Mo_costs_31 : decode M_Mo_costs.2.1 31 = .ok (.imul, 1) := by decide +kernel
theorem d_Mo_costs_32 : decode M_Mo_costs.2.1 32 = .ok (.iconst 3, 1) := by decide +kernel
theorem d_Mo_costs_33 : decode M_Mo_costs.2.1 33 = .ok (.iadd, 1) := by decide +kernel
theorem d_Mo_costs_34 : decode M_Mo_costs.2.1 34 = .ok (.iaload, 1) := by decide +kernel
theorem d_Mo_costs_35 : decode M_Mo_costs.2.1 35 = .ok (.iadd, 1) := by decide +kernel
theorem d_Mo_costs_36 : decode M_Mo_costs.2.1 36 = .ok (.iconst 1, 1) := by decide +kernel
theorem d_Mo_costs_37 : decode M_Mo_costs.2.1 37 = .ok (.iadd, 1) := by decide +kernel
theorem d_Mo_costs_38 : decode M_Mo_costs.2.1 38 = .ok (.iadd, 1) := by decide +kernel
theorem d_Mo_costs_39 : decode M_Mo_costs.2.1 39 = .ok (.istore_n 1, 1) := by decide +kernel
theorem d_Mo_costs_40 : decode M_Mo_costs.2.1 40 = .ok (.iinc 2 1, 3) := by decide +kernel
theorem d_Mo_costs_43 : decode M_Mo_costs.2.1 43 = .ok (.goto (-39), 3) := by decide +kernel
theorem d_Mo_costs_46 : decode M_Mo_costs.2.1 46 = .ok (.iload_n 1, 1) := by decide +kernel
theorem d_Mo_costs_47 : decode M_Mo_costs.2.1 47 = .ok (.ireturn, 1) := by decide +kernel
theorem d_Mo_settle_0 : decode M_Mo_settle.2.1 0 = .ok (.aload_n 0, 1) := by decide +kernel
theorem d_Mo_settle_1 : decode M_Mo_settle.2.1 1 = .ok (.getfield 88, 3) := by decide +kernel
theorem d_Mo_settle_4 : decode M_Mo_settle.2.1 4 = .ok (.istore_n 1, 1) := by decide +kernel
theorem d_Mo_settle_5 : decode M_Mo_settle.2.1 5 = .ok (.iconst 0, 1) := by decide +kernel
theorem d_Mo_settle_6 : decode M_Mo_settle.2.1 6 = .ok (.istore_n 2, 1) := by decide +kernel
theorem d_Mo_settle_7 : decode M_Mo_settle.2.1 7 = .ok (.iload_n 2, 1) := by decide +kernel
theorem d_Mo_settle_8 : decode M_Mo_settle.2.1 8 = .ok (.bipush 96, 2) := by decide +kernel
theorem d_Mo_settle_10 : decode M_Mo_settle.2.1 10 = .ok (.if_icmp .ge 21, 3) := by decide +kernel
theorem d_Mo_settle_13 : decode M_Mo_settle.2.1 13 = .ok (.aload_n 0, 1) := by decide +kernel
theorem d_Mo_settle_14 : decode M_Mo_settle.2.1 14 = .ok (.getfield 31, 3) := by decide +kernel
theorem d_Mo_settle_17 : decode M_Mo_settle.2.1 17 = .ok (.iload_n 2, 1) := by decide +kernel
theorem d_Mo_settle_18 : decode M_Mo_settle.2.1 18 = .ok (.aload_n 0, 1) := by decide +kernel
theorem d_Mo_settle_19 : decode M_Mo_settle.2.1 19 = .ok (.getfield 28, 3) := by decide +kernel
theorem d_Mo_settle_22 : decode M_Mo_settle.2.1 22 = .ok (.iload_n 2, 1) := by decide +kernel
theorem d_Mo_settle_23 : decode M_Mo_settle.2.1 23 = .ok (.iaload, 1) := by decide +kernel
theorem d_Mo_settle_24 : decode M_Mo_settle.2.1 24 = .ok (.iastore, 1) := by decide +kernel
theorem d_Mo_settle_25 : decode M_Mo_settle.2.1 25 = .ok (.iinc 2 1, 3) := by decide +kernel
theorem d_Mo_settle_28 : decode M_Mo_settle.2.1 28 = .ok (.goto (-21), 3) := by decide +kernel
theorem d_Mo_settle_31 : decode M_Mo_settle.2.1 31 = .ok (.aload_n 0, 1) := by decide +kernel
theorem d_Mo_settle_32 : decode M_Mo_settle.2.1 32 = .ok (.aload_n 0, 1) := by decide +kernel
theorem d_Mo_settle_33 : decode M_Mo_settle.2.1 33 = .ok (.getfield 85, 3) := by decide +kernel
theorem d_Mo_settle_36 : decode M_Mo_settle.2.1 36 = .ok (.putfield 91, 3) := by decide +kernel
theorem d_Mo_settle_39 : decode M_Mo_settle.2.1 39 = .ok (.aload_n 0, 1) := by decide +kernel
theorem d_Mo_settle_40 : decode M_Mo_settle.2.1 40 = .ok (.iconst 0, 1) := by decide +kernel
theorem d_Mo_settle_41 : decode M_Mo_settle.2.1 41 = .ok (.putfield 88, 3) := by decide +kernel
theorem d_Mo_settle_44 : decode M_Mo_settle.2.1 44 = .ok (.iload_n 1, 1) := by decide +kernel
theorem d_Mo_settle_45 : decode M_Mo_settle.2.1 45 = .ok (.ireturn, 1) := by decide +kernel
theorem d_Mo_data_0 : decode M_Mo_data.2.1 0 = .ok (.iload_n 1, 1) := by decide +kernel
theorem d_Mo_data_1 : decode M_Mo_data.2.1 1 = .ok (.bipush 40, 2) := by decide +kernel
theorem d_Mo_data_3 : decode M_Mo_data.2.1 3 = .ok (.invokestatic 63, 3) := by decide +kernel
theorem d_Mo_data_6 : decode M_Mo_data.2.1 6 = .ok (.ifCond .eq 7, 3) := by decide +kernel
theorem d_Mo_data_9 : decode M_Mo_data.2.1 9 = .ok (.sipush (-501), 3) := by decide +kernel
theorem d_Mo_data_12 : decode M_Mo_data.2.1 12 = .ok (.ireturn, 1) := by decide +kernel
theorem d_Mo_data_13 : decode M_Mo_data.2.1 13 = .ok (.aload_n 0, 1) := by decide +kernel
theorem d_Mo_data_14 : decode M_Mo_data.2.1 14 = .ok (.getfield 67, 3) := by decide +kernel
theorem d_Mo_data_17 : decode M_Mo_data.2.1 17 = .ok (.ifCond .eq 10, 3) := by decide +kernel
theorem d_Mo_data_20 : decode M_Mo_data.2.1 20 = .ok (.aload_n 0, 1) := by decide +kernel
theorem d_Mo_data_21 : decode M_Mo_data.2.1 21 = .ok (.getfield 74, 3) := by decide +kernel
theorem d_Mo_data_24 : decode M_Mo_data.2.1 24 = .ok (.ifCond .ne 7, 3) := by decide +kernel
theorem d_Mo_data_27 : decode M_Mo_data.2.1 27 = .ok (.sipush (-503), 3) := by decide +kernel
theorem d_Mo_data_30 : decode M_Mo_data.2.1 30 = .ok (.ireturn, 1) := by decide +kernel
theorem d_Mo_data_31 : decode M_Mo_data.2.1 31 = .ok (.aload_n 0, 1) := by decide +kernel
theorem d_Mo_data_32 : decode M_Mo_data.2.1 32 = .ok (.getfield 85, 3) := by decide +kernel
theorem d_Mo_data_35 : decode M_Mo_data.2.1 35 = .ok (.bipush 6, 2) := by decide +kernel
theorem d_Mo_data_37 : decode M_Mo_data.2.1 37 = .ok (.if_icmp .eq 21, 3) := by decide +kernel
theorem d_Mo_data_40 : decode M_Mo_data.2.1 40 = .ok (.aload_n 0, 1) := by decide +kernel
theorem d_Mo_data_41 : decode M_Mo_data.2.1 41 = .ok (.invokevirtual 94, 3) := by decide +kernel
theorem d_Mo_data_44 : decode M_Mo_data.2.1 44 = .ok (.iload_n 1, 1) := by decide +kernel
theorem d_Mo_data_45 : decode M_Mo_data.2.1 45 = .ok (.iadd, 1) := by decide +kernel
theorem d_Mo_data_46 : decode M_Mo_data.2.1 46 = .ok (.aload_n 0, 1) := by decide +kernel
theorem d_Mo_data_47 : decode M_Mo_data.2.1 47 = .ok (.getfield 74, 3) := by decide +kernel
theorem d_Mo_data_50 : decode M_Mo_data.2.1 50 = .ok (.iadd, 1) := by decide +kernel
theorem d_Mo_data_51 : decode M_Mo_data.2.1 51 = .ok (.iconst 1, 1) := by decide +kernel
theorem d_Mo_data_52 : decode M_Mo_data.2.1 52 = .ok (.iadd, 1) := by decide +kernel
theorem d_Mo_data_53 : decode M_Mo_data.2.1 53 = .ok (.bipush 60, 2) := by decide +kernel
theorem d_Mo_data_55 : decode M_Mo_data.2.1 55 = .ok (.if_icmp .le 7, 3) := by decide +kernel
theorem d_Mo_data_58 : decode M_Mo_data.2.1 58 = .ok (.sipush (-452), 3) := by decide +kernel
theorem d_Mo_data_61 : decode M_Mo_data.2.1 61 = .ok (.ireturn, 1) := by decide +kernel
theorem d_Mo_data_62 : decode M_Mo_data.2.1 62 = .ok (.bipush 16, 2) := by decide +kernel
theorem d_Mo_data_64 : decode M_Mo_data.2.1 64 = .ok (.aload_n 0, 1) := by decide +kernel
theorem d_Mo_data_65 : decode M_Mo_data.2.1 65 = .ok (.getfield 85, 3) := by decide +kernel
theorem d_Mo_data_68 : decode M_Mo_data.2.1 68 = .ok (.imul, 1) := by decide +kernel
theorem d_Mo_data_69 : decode M_Mo_data.2.1 69 = .ok (.istore_n 2, 1) := by decide +kernel
theorem d_Mo_data_70 : decode M_Mo_data.2.1 70 = .ok (.aload_n 0, 1) := by decide +kernel
theorem d_Mo_data_71 : decode M_Mo_data.2.1 71 = .ok (.dup, 1) := by decide +kernel
theorem d_Mo_data_72 : decode M_Mo_data.2.1 72 = .ok (.getfield 98, 3) := by decide +kernel
theorem d_Mo_data_75 : decode M_Mo_data.2.1 75 = .ok (.iconst 1, 1) := by decide +kernel
theorem d_Mo_data_76 : decode M_Mo_data.2.1 76 = .ok (.iadd, 1) := by decide +kernel
theorem d_Mo_data_77 : decode M_Mo_data.2.1 77 = .ok (.putfield 98, 3) := by decide +kernel
theorem d_Mo_data_80 : decode M_Mo_data.2.1 80 = .ok (.aload_n 0, 1) := by decide +kernel
theorem d_Mo_data_81 : decode M_Mo_data.2.1 81 = .ok (.getfield 28, 3) := by decide +kernel
theorem d_Mo_data_84 : decode M_Mo_data.2.1 84 = .ok (.iload_n 2, 1) := by decide +kernel
theorem d_Mo_data_85 : decode M_Mo_data.2.1 85 = .ok (.aload_n 0, 1) := by decide +kernel
theorem d_Mo_data_86 : decode M_Mo_data.2.1 86 = .ok (.getfield 98, 3) := by decide +kernel
theorem d_Mo_data_89 : decode M_Mo_data.2.1 89 = .ok (.iastore, 1) := by decide +kernel
theorem d_Mo_data_90 : decode M_Mo_data.2.1 90 = .ok (.aload_n 0, 1) := by decide +kernel
theorem d_Mo_data_91 : decode M_Mo_data.2.1 91 = .ok (.getfield 28, 3) := by decide +kernel
theorem d_Mo_data_94 : decode M_Mo_data.2.1 94 = .ok (.iload_n 2, 1) := by decide +kernel
theorem d_Mo_data_95 : decode M_Mo_data.2.1 95 = .ok (.iconst 1, 1) := by decide +kernel
theorem d_Mo_data_96 : decode M_Mo_data.2.1 96 = .ok (.iadd, 1) := by decide +kernel
theorem d_Mo_data_97 : decode M_Mo_data.2.1 97 = .ok (.aload_n 0, 1) := by decide +kernel
theorem d_Mo_data_98 : decode M_Mo_data.2.1 98 = .ok (.getfield 71, 3) := by decide +kernel
theorem d_Mo_data_101 : decode M_Mo_data.2.1 101 = .ok (.iastore, 1) := by decide +kernel
theorem d_Mo_data_102 : decode M_Mo_data.2.1 102 = .ok (.aload_n 0, 1) := by decide +kernel
theorem d_Mo_data_103 : decode M_Mo_data.2.1 103 = .ok (.getfield 28, 3) := by decide +kernel
theorem d_Mo_data_106 : decode M_Mo_data.2.1 106 = .ok (.iload_n 2, 1) := by decide +kernel
theorem d_Mo_data_107 : decode M_Mo_data.2.1 107 = .ok (.iconst 2, 1) := by decide +kernel
theorem d_Mo_data_108 : decode M_Mo_data.2.1 108 = .ok (.iadd, 1) := by decide +kernel
theorem d_Mo_data_109 : decode M_Mo_data.2.1 109 = .ok (.iload_n 1, 1) := by decide +kernel
theorem d_Mo_data_110 : decode M_Mo_data.2.1 110 = .ok (.iastore, 1) := by decide +kernel
theorem d_Mo_data_111 : decode M_Mo_data.2.1 111 = .ok (.aload_n 0, 1) := by decide +kernel
theorem d_Mo_data_112 : decode M_Mo_data.2.1 112 = .ok (.getfield 28, 3) := by decide +kernel
theorem d_Mo_data_115 : decode M_Mo_data.2.1 115 = .ok (.iload_n 2, 1) := by decide +kernel
theorem d_Mo_data_116 : decode M_Mo_data.2.1 116 = .ok (.iconst 3, 1) := by decide +kernel
theorem d_Mo_data_117 : decode M_Mo_data.2.1 117 = .ok (.iadd, 1) := by decide +kernel
theorem d_Mo_data_118 : decode M_Mo_data.2.1 118 = .ok (.aload_n 0, 1) := by decide +kernel
theorem d_Mo_data_119 : decode M_Mo_data.2.1 119 = .ok (.getfield 74, 3) := by decide +kernel
theorem d_Mo_data_122 : decode M_Mo_data.2.1 122 = .ok (.iastore, 1) := by decide +kernel
theorem d_Mo_data_123 : decode M_Mo_data.2.1 123 = .ok (.iconst 0, 1) := by decide +kernel
theorem d_Mo_data_124 : decode M_Mo_data.2.1 124 = .ok (.istore_n 3, 1) := by decide +kernel
theorem d_Mo_data_125 : decode M_Mo_data.2.1 125 = .ok (.iload_n 3, 1) := by decide +kernel
theorem d_Mo_data_126 : decode M_Mo_data.2.1 126 = .ok (.aload_n 0, 1) := by decide +kernel
theorem d_Mo_data_127 : decode M_Mo_data.2.1 127 = .ok (.getfield 74, 3) := by decide +kernel
theorem d_Mo_data_130 : decode M_Mo_data.2.1 130 = .ok (.if_icmp .ge 37, 3) := by decide +kernel
theorem d_Mo_data_133 : decode M_Mo_data.2.1 133 = .ok (.aload_n 0, 1) := by decide +kernel
theorem d_Mo_data_134 : decode M_Mo_data.2.1 134 = .ok (.getfield 28, 3) := by decide +kernel
theorem d_Mo_data_137 : decode M_Mo_data.2.1 137 = .ok (.iload_n 2, 1) := by decide +kernel
theorem d_Mo_data_138 : decode M_Mo_data.2.1 138 = .ok (.iconst 4, 1) := by decide +kernel
theorem d_Mo_data_139 : decode M_Mo_data.2.1 139 = .ok (.iadd, 1) := by decide +kernel
theorem d_Mo_data_140 : decode M_Mo_data.2.1 140 = .ok (.iload_n 3, 1) := by decide +kernel
theorem d_Mo_data_141 : decode M_Mo_data.2.1 141 = .ok (.iadd, 1) := by decide +kernel
theorem d_Mo_data_142 : decode M_Mo_data.2.1 142 = .ok (.aload_n 0, 1) := by decide +kernel
theorem d_Mo_data_143 : decode M_Mo_data.2.1 143 = .ok (.getfield 34, 3) := by decide +kernel
theorem d_Mo_data_146 : decode M_Mo_data.2.1 146 = .ok (.iload_n 3, 1) := by decide +kernel
theorem d_Mo_data_147 : decode M_Mo_data.2.1 147 = .ok (.iaload, 1) := by decide +kernel
theorem d_Mo_data_148 : decode M_Mo_data.2.1 148 = .ok (.iastore, 1) := by decide +kernel
theorem d_Mo_data_149 : decode M_Mo_data.2.1 149 = .ok (.aload_n 0, 1) := by decide +kernel
theorem d_Mo_data_150 : decode M_Mo_data.2.1 150 = .ok (.getfield 28, 3) := by decide +kernel
theorem d_Mo_data_153 : decode M_Mo_data.2.1 153 = .ok (.iload_n 2, 1) := by decide +kernel
theorem d_Mo_data_154 : decode M_Mo_data.2.1 154 = .ok (.bipush 8, 2) := by decide +kernel
theorem d_Mo_data_156 : decode M_Mo_data.2.1 156 = .ok (.iadd, 1) := by decide +kernel
theorem d_Mo_data_157 : decode M_Mo_data.2.1 157 = .ok (.iload_n 3, 1) := by decide +kernel
theorem d_Mo_data_158 : decode M_Mo_data.2.1 158 = .ok (.iadd, 1) := by decide +kernel
theorem d_Mo_data_159 : decode M_Mo_data.2.1 159 = .ok (.iconst 1, 1) := by decide +kernel
theorem d_Mo_data_160 : decode M_Mo_data.2.1 160 = .ok (.iastore, 1) := by decide +kernel
theorem d_Mo_data_161 : decode M_Mo_data.2.1 161 = .ok (.iinc 3 1, 3) := by decide +kernel
theorem d_Mo_data_164 : decode M_Mo_data.2.1 164 = .ok (.goto (-39), 3) := by decide +kernel
theorem d_Mo_data_167 : decode M_Mo_data.2.1 167 = .ok (.aload_n 0, 1) := by decide +kernel
theorem d_Mo_data_168 : decode M_Mo_data.2.1 168 = .ok (.getfield 28, 3) := by decide +kernel
theorem d_Mo_data_171 : decode M_Mo_data.2.1 171 = .ok (.iload_n 2, 1) := by decide +kernel
theorem d_Mo_data_172 : decode M_Mo_data.2.1 172 = .ok (.bipush 12, 2) := by decide +kernel
theorem d_Mo_data_174 : decode M_Mo_data.2.1 174 = .ok (.iadd, 1) := by decide +kernel
theorem d_Mo_data_175 : decode M_Mo_data.2.1 175 = .ok (.aload_n 0, 1) := by decide +kernel
theorem d_Mo_data_176 : decode M_Mo_data.2.1 176 = .ok (.getfield 101, 3) := by decide +kernel
theorem d_Mo_data_179 : decode M_Mo_data.2.1 179 = .ok (.iastore, 1) := by decide +kernel
theorem d_Mo_data_180 : decode M_Mo_data.2.1 180 = .ok (.aload_n 0, 1) := by decide +kernel
theorem d_Mo_data_181 : decode M_Mo_data.2.1 181 = .ok (.getfield 28, 3) := by decide +kernel
theorem d_Mo_data_184 : decode M_Mo_data.2.1 184 = .ok (.iload_n 2, 1) := by decide +kernel
theorem d_Mo_data_185 : decode M_Mo_data.2.1 185 = .ok (.bipush 13, 2) := by decide +kernel
theorem d_Mo_data_187 : decode M_Mo_data.2.1 187 = .ok (.iadd, 1) := by decide +kernel
theorem d_Mo_data_188 : decode M_Mo_data.2.1 188 = .ok (.aload_n 0, 1) := by decide +kernel
theorem d_Mo_data_189 : decode M_Mo_data.2.1 189 = .ok (.getfield 101, 3) := by decide +kernel
theorem d_Mo_data_192 : decode M_Mo_data.2.1 192 = .ok (.iastore, 1) := by decide +kernel
theorem d_Mo_data_193 : decode M_Mo_data.2.1 193 = .ok (.aload_n 0, 1) := by decide +kernel
theorem d_Mo_data_194 : decode M_Mo_data.2.1 194 = .ok (.getfield 28, 3) := by decide +kernel
theorem d_Mo_data_197 : decode M_Mo_data.2.1 197 = .ok (.iload_n 2, 1) := by decide +kernel
theorem d_Mo_data_198 : decode M_Mo_data.2.1 198 = .ok (.bipush 14, 2) := by decide +kernel
theorem d_Mo_data_200 : decode M_Mo_data.2.1 200 = .ok (.iadd, 1) := by decide +kernel
theorem d_Mo_data_201 : decode M_Mo_data.2.1 201 = .ok (.aload_n 0, 1) := by decide +kernel
theorem d_Mo_data_202 : decode M_Mo_data.2.1 202 = .ok (.getfield 53, 3) := by decide +kernel
theorem d_Mo_data_205 : decode M_Mo_data.2.1 205 = .ok (.iastore, 1) := by decide +kernel
theorem d_Mo_data_206 : decode M_Mo_data.2.1 206 = .ok (.aload_n 0, 1) := by decide +kernel
theorem d_Mo_data_207 : decode M_Mo_data.2.1 207 = .ok (.getfield 28, 3) := by decide +kernel
theorem d_Mo_data_210 : decode M_Mo_data.2.1 210 = .ok (.iload_n 2, 1) := by decide +kernel
theorem d_Mo_data_211 : decode M_Mo_data.2.1 211 = .ok (.bipush 15, 2) := by decide +kernel
theorem d_Mo_data_213 : decode M_Mo_data.2.1 213 = .ok (.iadd, 1) := by decide +kernel
theorem d_Mo_data_214 : decode M_Mo_data.2.1 214 = .ok (.iconst 0, 1) := by decide +kernel
theorem d_Mo_data_215 : decode M_Mo_data.2.1 215 = .ok (.iastore, 1) := by decide +kernel
theorem d_Mo_data_216 : decode M_Mo_data.2.1 216 = .ok (.aload_n 0, 1) := by decide +kernel
theorem d_Mo_data_217 : decode M_Mo_data.2.1 217 = .ok (.dup, 1) := by decide +kernel
theorem d_Mo_data_218 : decode M_Mo_data.2.1 218 = .ok (.getfield 85, 3) := by decide +kernel
theorem d_Mo_data_221 : decode M_Mo_data.2.1 221 = .ok (.iconst 1, 1) := by decide +kernel
theorem d_Mo_data_222 : decode M_Mo_data.2.1 222 = .ok (.iadd, 1) := by decide +kernel
theorem d_Mo_data_223 : decode M_Mo_data.2.1 223 = .ok (.putfield 85, 3) := by decide +kernel
theorem d_Mo_data_226 : decode M_Mo_data.2.1 226 = .ok (.aload_n 0, 1) := by decide +kernel
theorem d_Mo_data_227 : decode M_Mo_data.2.1 227 = .ok (.iconst 0, 1) := by decide +kernel
theorem d_Mo_data_228 : decode M_Mo_data.2.1 228 = .ok (.putfield 67, 3) := by decide +kernel
theorem d_Mo_data_231 : decode M_Mo_data.2.1 231 = .ok (.aload_n 0, 1) := by decide +kernel
theorem d_Mo_data_232 : decode M_Mo_data.2.1 232 = .ok (.invokevirtual 104, 3) := by decide +kernel
theorem d_Mo_data_235 : decode M_Mo_data.2.1 235 = .ok (.pop, 1) := by decide +kernel
theorem d_Mo_data_236 : decode M_Mo_data.2.1 236 = .ok (.aload_n 0, 1) := by decide +kernel
theorem d_Mo_data_237 : decode M_Mo_data.2.1 237 = .ok (.getfield 98, 3) := by decide +kernel
theorem d_Mo_data_240 : decode M_Mo_data.2.1 240 = .ok (.ireturn, 1) := by decide +kernel
theorem d_Mo_carrier_0 : decode M_Mo_carrier.2.1 0 = .ok (.aload_n 0, 1) := by decide +kernel
theorem d_Mo_carrier_1 : decode M_Mo_carrier.2.1 1 = .ok (.getfield 22, 3) := by decide +kernel
theorem d_Mo_carrier_4 : decode M_Mo_carrier.2.1 4 = .ok (.iload_n 1, 1) := by decide +kernel
theorem d_Mo_carrier_5 : decode M_Mo_carrier.2.1 5 = .ok (.iaload, 1) := by decide +kernel
theorem d_Mo_carrier_6 : decode M_Mo_carrier.2.1 6 = .ok (.ifCond .ne 6, 3) := by decide +kernel
theorem d_Mo_carrier_9 : decode M_Mo_carrier.2.1 9 = .ok (.bipush 8, 2) := by decide +kernel
theorem d_Mo_carrier_11 : decode M_Mo_carrier.2.1 11 = .ok (.ireturn, 1) := by decide +kernel
theorem d_Mo_carrier_12 : decode M_Mo_carrier.2.1 12 = .ok (.iconst (-1), 1) := by decide +kernel
theorem d_Mo_carrier_13 : decode M_Mo_carrier.2.1 13 = .ok (.istore_n 2, 1) := by decide +kernel
theorem d_Mo_carrier_14 : decode M_Mo_carrier.2.1 14 = .ok (.iconst 0, 1) := by decide +kernel
theorem d_Mo_carrier_15 : decode M_Mo_carrier.2.1 15 = .ok (.istore_n 3, 1) := by decide +kernel
theorem d_Mo_carrier_16 : decode M_Mo_carrier.2.1 16 = .ok (.iload_n 3, 1) := by decide +kernel
theorem d_Mo_carrier_17 : decode M_Mo_carrier.2.1 17 = .ok (.aload_n 0, 1) := by decide +kernel
theorem d_Mo_carrier_18 : decode M_Mo_carrier.2.1 18 = .ok (.getfield 22, 3) := by decide +kernel
theorem d_Mo_carrier_21 : decode M_Mo_carrier.2.1 21 = .ok (.iload_n 1, 1) := by decide +kernel
theorem d_Mo_carrier_22 : decode M_Mo_carrier.2.1 22 = .ok (.iaload, 1) := by decide +kernel
theorem d_Mo_carrier_23 : decode M_Mo_carrier.2.1 23 = .ok (.if_icmp .ge 119, 3) := by decide +kernel
theorem d_Mo_carrier_26 : decode M_Mo_carrier.2.1 26 = .ok (.iconst (-1), 1) := by decide +kernel
theorem d_Mo_carrier_27 : decode M_Mo_carrier.2.1 27 = .ok (.istore 4, 2) := by decide +kernel
theorem d_Mo_carrier_29 : decode M_Mo_carrier.2.1 29 = .ok (.iconst 3, 1) := by decide +kernel
theorem d_Mo_carrier_30 : decode M_Mo_carrier.2.1 30 = .ok (.iload_n 1, 1) := by decide +kernel
theorem d_Mo_carrier_31 : decode M_Mo_carrier.2.1 31 = .ok (.imul, 1) := by decide +kernel
theorem d_Mo_carrier_32 : decode M_Mo_carrier.2.1 32 = .ok (.istore 5, 2) := by decide +kernel
theorem d_Mo_carrier_34 : decode M_Mo_carrier.2.1 34 = .ok (.iload 5, 2) := by decide +kernel
theorem d_Mo_carrier_36 : decode M_Mo_carrier.2.1 36 = .ok (.iconst 3, 1) := by decide +kernel
theorem d_Mo_carrier_37 : decode M_Mo_carrier.2.1 37 = .ok (.iload_n 1, 1) := by decide +kernel
theorem d_Mo_carrier_38 : decode M_Mo_carrier.2.1 38 = .ok (.imul, 1) := by decide +kernel
theorem d_Mo_carrier_39 : decode M_Mo_carrier.2.1 39 = .ok (.aload_n 0, 1) := by decide +kernel
theorem d_Mo_carrier_40 : decode M_Mo_carrier.2.1 40 = .ok (.getfield 22, 3) := by decide +kernel
theorem d_Mo_carrier_43 : decode M_Mo_carrier.2.1 43 = .ok (.iload_n 1, 1) := by decide +kernel
theorem d_Mo_carrier_44 : decode M_Mo_carrier.2.1 44 = .ok (.iaload, 1) := by decide +kernel
theorem d_Mo_carrier_45 : decode M_Mo_carrier.2.1 45 = .ok (.iadd, 1) := by decide +kernel
theorem d_Mo_carrier_46 : decode M_Mo_carrier.2.1 46 = .ok (.if_icmp .ge 46, 3) := by decide +kernel
theorem d_Mo_carrier_49 : decode M_Mo_carrier.2.1 49 = .ok (.aload_n 0, 1) := by decide +kernel
theorem d_Mo_carrier_50 : decode M_Mo_carrier.2.1 50 = .ok (.getfield 19, 3) := by decide +kernel
theorem d_Mo_carrier_53 : decode M_Mo_carrier.2.1 53 = .ok (.iload 5, 2) := by decide +kernel
theorem d_Mo_carrier_55 : decode M_Mo_carrier.2.1 55 = .ok (.iaload, 1) := by decide +kernel
theorem d_Mo_carrier_56 : decode M_Mo_carrier.2.1 56 = .ok (.iload_n 2, 1) := by decide +kernel
theorem d_Mo_carrier_57 : decode M_Mo_carrier.2.1 57 = .ok (.if_icmp .le 29, 3) := by decide +kernel
theorem d_Mo_carrier_60 : decode M_Mo_carrier.2.1 60 = .ok (.iload 4, 2) := by decide +kernel
theorem d_Mo_carrier_62 : decode M_Mo_carrier.2.1 62 = .ok (.ifCond .lt 20, 3) := by decide +kernel
theorem d_Mo_carrier_65 : decode M_Mo_carrier.2.1 65 = .ok (.aload_n 0, 1) := by decide +kernel
theorem d_Mo_carrier_66 : decode M_Mo_carrier.2.1 66 = .ok (.getfield 19, 3) := by decide +kernel
theorem d_Mo_carrier_69 : decode M_Mo_carrier.2.1 69 = .ok (.iload 5, 2) := by decide +kernel
theorem d_Mo_carrier_71 : decode M_Mo_carrier.2.1 71 = .ok (.iaload, 1) := by decide +kernel
theorem d_Mo_carrier_72 : decode M_Mo_carrier.2.1 72 = .ok (.aload_n 0, 1) := by decide +kernel
theorem d_Mo_carrier_73 : decode M_Mo_carrier.2.1 73 = .ok (.getfield 19, 3) := by decide +kernel
theorem d_Mo_carrier_76 : decode M_Mo_carrier.2.1 76 = .ok (.iload 4, 2) := by decide +kernel
theorem d_Mo_carrier_78 : decode M_Mo_carrier.2.1 78 = .ok (.iaload, 1) := by decide +kernel
theorem d_Mo_carrier_79 : decode M_Mo_carrier.2.1 79 = .ok (.if_icmp .ge 7, 3) := by decide +kernel
theorem d_Mo_carrier_82 : decode M_Mo_carrier.2.1 82 = .ok (.iload 5, 2) := by decide +kernel
theorem d_Mo_carrier_84 : decode M_Mo_carrier.2.1 84 = .ok (.istore 4, 2) := by decide +kernel
theorem d_Mo_carrier_86 : decode M_Mo_carrier.2.1 86 = .ok (.iinc 5 1, 3) := by decide +kernel
theorem d_Mo_carrier_89 : decode M_Mo_carrier.2.1 89 = .ok (.goto (-55), 3) := by decide +kernel
theorem d_Mo_carrier_92 : decode M_Mo_carrier.2.1 92 = .ok (.aload_n 0, 1) := by decide +kernel
theorem d_Mo_carrier_93 : decode M_Mo_carrier.2.1 93 = .ok (.getfield 16, 3) := by decide +kernel
theorem d_Mo_carrier_96 : decode M_Mo_carrier.2.1 96 = .ok (.iload 4, 2) := by decide +kernel
theorem d_Mo_carrier_98 : decode M_Mo_carrier.2.1 98 = .ok (.iaload, 1) := by decide +kernel
theorem d_Mo_carrier_99 : decode M_Mo_carrier.2.1 99 = .ok (.istore 5, 2) := by decide +kernel
theorem d_Mo_carrier_101 : decode M_Mo_carrier.2.1 101 = .ok (.aload_n 0, 1) := by decide +kernel
theorem d_Mo_carrier_102 : decode M_Mo_carrier.2.1 102 = .ok (.getfield 25, 3) := by decide +kernel
theorem d_Mo_carrier_105 : decode M_Mo_carrier.2.1 105 = .ok (.iload 5, 2) := by decide +kernel
theorem d_Mo_carrier_107 : decode M_Mo_carrier.2.1 107 = .ok (.iaload, 1) := by decide +kernel
theorem d_Mo_carrier_108 : decode M_Mo_carrier.2.1 108 = .ok (.ifCond .ne 6, 3) := by decide +kernel
theorem d_Mo_carrier_111 : decode M_Mo_carrier.2.1 111 = .ok (.iload 5, 2) := by decide +kernel
theorem d_Mo_carrier_113 : decode M_Mo_carrier.2.1 113 = .ok (.ireturn, 1) := by decide +kernel
theorem d_Mo_carrier_114 : decode M_Mo_carrier.2.1 114 = .ok (.aload_n 0, 1) := by decide +kernel
theorem d_Mo_carrier_115 : decode M_Mo_carrier.2.1 115 = .ok (.getfield 25, 3) := by decide +kernel
theorem d_Mo_carrier_118 : decode M_Mo_carrier.2.1 118 = .ok (.iload 5, 2) := by decide +kernel
theorem d_Mo_carrier_120 : decode M_Mo_carrier.2.1 120 = .ok (.iaload, 1) := by decide +kernel
theorem d_Mo_carrier_121 : decode M_Mo_carrier.2.1 121 = .ok (.iconst 2, 1) := by decide +kernel
theorem d_Mo_carrier_122 : decode M_Mo_carrier.2.1 122 = .ok (.if_icmp .ne 6, 3) := by decide +kernel
theorem d_Mo_carrier_125 : decode M_Mo_carrier.2.1 125 = .ok (.bipush 8, 2) := by decide +kernel
theorem d_Mo_carrier_127 : decode M_Mo_carrier.2.1 127 = .ok (.ireturn, 1) := by decide +kernel
theorem d_Mo_carrier_128 : decode M_Mo_carrier.2.1 128 = .ok (.aload_n 0, 1) := by decide +kernel
theorem d_Mo_carrier_129 : decode M_Mo_carrier.2.1 129 = .ok (.getfield 19, 3) := by decide +kernel
theorem d_Mo_carrier_132 : decode M_Mo_carrier.2.1 132 = .ok (.iload 4, 2) := by decide +kernel
theorem d_Mo_carrier_134 : decode M_Mo_carrier.2.1 134 = .ok (.iaload, 1) := by decide +kernel
theorem d_Mo_carrier_135 : decode M_Mo_carrier.2.1 135 = .ok (.istore_n 2, 1) := by decide +kernel
theorem d_Mo_carrier_136 : decode M_Mo_carrier.2.1 136 = .ok (.iinc 3 1, 3) := by decide +kernel
theorem d_Mo_carrier_139 : decode M_Mo_carrier.2.1 139 = .ok (.goto (-123), 3) := by decide +kernel
theorem d_Mo_carrier_142 : decode M_Mo_carrier.2.1 142 = .ok (.bipush 9, 2) := by decide +kernel
theorem d_Mo_carrier_144 : decode M_Mo_carrier.2.1 144 = .ok (.ireturn, 1) := by decide +kernel
theorem d_Mo_states_0 : decode M_Mo_states.2.1 0 = .ok (.iconst 0, 1) := by decide +kernel
theorem d_Mo_states_1 : decode M_Mo_states.2.1 1 = .ok (.istore_n 3, 1) := by decide +kernel
theorem d_Mo_states_2 : decode M_Mo_states.2.1 2 = .ok (.iconst 0, 1) := by decide +kernel
theorem d_Mo_states_3 : decode M_Mo_states.2.1 3 = .ok (.istore 4, 2) := by decide +kernel
theorem d_Mo_states_5 : decode M_Mo_states.2.1 5 = .ok (.iload 4, 2) := by decide +kernel
theorem d_Mo_states_7 : decode M_Mo_states.2.1 7 = .ok (.aload_n 0, 1) := by decide +kernel
theorem d_Mo_states_8 : decode M_Mo_states.2.1 8 = .ok (.getfield 28, 3) := by decide +kernel
theorem d_Mo_states_11 : decode M_Mo_states.2.1 11 = .ok (.iload_n 1, 1) := by decide +kernel
theorem d_Mo_states_12 : decode M_Mo_states.2.1 12 = .ok (.iconst 3, 1) := by decide +kernel
theorem d_Mo_states_13 : decode M_Mo_states.2.1 13 = .ok (.iadd, 1) := by decide +kernel
theorem d_Mo_states_14 : decode M_Mo_states.2.1 14 = .ok (.iaload, 1) := by decide +kernel
theorem d_Mo_states_15 : decode M_Mo_states.2.1 15 = .ok (.if_icmp .ge 28, 3) := by decide +kernel
theorem d_Mo_states_18 : decode M_Mo_states.2.1 18 = .ok (.aload_n 0, 1) := by decide +kernel
theorem d_Mo_states_19 : decode M_Mo_states.2.1 19 = .ok (.getfield 28, 3) := by decide +kernel
theorem d_Mo_states_22 : decode M_Mo_states.2.1 22 = .ok (.iload_n 1, 1) := by decide +kernel
theorem d_Mo_states_23 : decode M_Mo_states.2.1 23 = .ok (.bipush 8, 2) := by decide +kernel
theorem d_Mo_states_25 : decode M_Mo_states.2.1 25 = .ok (.iadd, 1) := by decide +kernel
theorem d_Mo_states_26 : decode M_Mo_states.2.1 26 = .ok (.iload 4, 2) := by decide +kernel
theorem d_Mo_states_28 : decode M_Mo_states.2.1 28 = .ok (.iadd, 1) := by decide +kernel
theorem d_Mo_states_29 : decode M_Mo_states.2.1 29 = .ok (.iaload, 1) := by decide +kernel
theorem d_Mo_states_30 : decode M_Mo_states.2.1 30 = .ok (.iload_n 2, 1) := by decide +kernel
theorem d_Mo_states_31 : decode M_Mo_states.2.1 31 = .ok (.if_icmp .ne 6, 3) := by decide +kernel
theorem d_Mo_states_34 : decode M_Mo_states.2.1 34 = .ok (.iinc 3 1, 3) := by decide +kernel
theorem d_Mo_states_37 : decode M_Mo_states.2.1 37 = .ok (.iinc 4 1, 3) := by decide +kernel
theorem d_Mo_states_40 : decode M_Mo_states.2.1 40 = .ok (.goto (-35), 3) := by decide +kernel
theorem d_Mo_states_43 : decode M_Mo_states.2.1 43 = .ok (.iload_n 3, 1) := by decide +kernel
theorem d_Mo_states_44 : decode M_Mo_states.2.1 44 = .ok (.ireturn, 1) := by decide +kernel
theorem d_Mo_mark_0 : decode M_Mo_mark.2.1 0 = .ok (.aload_n 0, 1) := by decide +kernel
theorem d_Mo_mark_1 : decode M_Mo_mark.2.1 1 = .ok (.getfield 28, 3) := by decide +kernel
theorem d_Mo_mark_4 : decode M_Mo_mark.2.1 4 = .ok (.iload_n 1, 1) := by decide +kernel
theorem d_Mo_mark_5 : decode M_Mo_mark.2.1 5 = .ok (.iload_n 2, 1) := by decide +kernel
theorem d_Mo_mark_6 : decode M_Mo_mark.2.1 6 = .ok (.iastore, 1) := by decide +kernel
theorem d_Mo_mark_7 : decode M_Mo_mark.2.1 7 = .ok (.aload_n 0, 1) := by decide +kernel
theorem d_Mo_mark_8 : decode M_Mo_mark.2.1 8 = .ok (.dup, 1) := by decide +kernel
theorem d_Mo_mark_9 : decode M_Mo_mark.2.1 9 = .ok (.getfield 88, 3) := by decide +kernel
theorem d_Mo_mark_12 : decode M_Mo_mark.2.1 12 = .ok (.iconst 1, 1) := by decide +kernel
theorem d_Mo_mark_13 : decode M_Mo_mark.2.1 13 = .ok (.iadd, 1) := by decide +kernel
theorem d_Mo_mark_14 : decode M_Mo_mark.2.1 14 = .ok (.putfield 88, 3) := by decide +kernel
theorem d_Mo_mark_17 : decode M_Mo_mark.2.1 17 = .ok (.return_, 1) := by decide +kernel
theorem d_Mo_deliver_0 : decode M_Mo_deliver.2.1 0 = .ok (.aload_n 0, 1) := by decide +kernel
theorem d_Mo_deliver_1 : decode M_Mo_deliver.2.1 1 = .ok (.getfield 28, 3) := by decide +kernel
theorem d_Mo_deliver_4 : decode M_Mo_deliver.2.1 4 = .ok (.iload_n 1, 1) := by decide +kernel
theorem d_Mo_deliver_5 : decode M_Mo_deliver.2.1 5 = .ok (.bipush 15, 2) := by decide +kernel
theorem d_Mo_deliver_7 : decode M_Mo_deliver.2.1 7 = .ok (.iadd, 1) := by decide +kernel
theorem d_Mo_deliver_8 : decode M_Mo_deliver.2.1 8 = .ok (.iaload, 1) := by decide +kernel
theorem d_Mo_deliver_9 : decode M_Mo_deliver.2.1 9 = .ok (.iconst 1, 1) := by decide +kernel
theorem d_Mo_deliver_10 : decode M_Mo_deliver.2.1 10 = .ok (.if_icmp .ne 16, 3) := by decide +kernel
theorem d_Mo_deliver_13 : decode M_Mo_deliver.2.1 13 = .ok (.aload_n 0, 1) := by decide +kernel
theorem d_Mo_deliver_14 : decode M_Mo_deliver.2.1 14 = .ok (.getfield 40, 3) := by decide +kernel
theorem d_Mo_deliver_17 : decode M_Mo_deliver.2.1 17 = .ok (.iload_n 2, 1) := by decide +kernel
theorem d_Mo_deliver_18 : decode M_Mo_deliver.2.1 18 = .ok (.dup2, 1) := by decide +kernel
theorem d_Mo_deliver_19 : decode M_Mo_deliver.2.1 19 = .ok (.iaload, 1) := by decide +kernel
theorem d_Mo_deliver_20 : decode M_Mo_deliver.2.1 20 = .ok (.iconst 1, 1) := by decide +kernel
theorem d_Mo_deliver_21 : decode M_Mo_deliver.2.1 21 = .ok (.iadd, 1) := by decide +kernel
theorem d_Mo_deliver_22 : decode M_Mo_deliver.2.1 22 = .ok (.iastore, 1) := by decide +kernel
theorem d_Mo_deliver_23 : decode M_Mo_deliver.2.1 23 = .ok (.goto 13, 3) := by decide +kernel
theorem d_Mo_deliver_26 : decode M_Mo_deliver.2.1 26 = .ok (.aload_n 0, 1) := by decide +kernel
theorem d_Mo_deliver_27 : decode M_Mo_deliver.2.1 27 = .ok (.getfield 37, 3) := by decide +kernel
theorem d_Mo_deliver_30 : decode M_Mo_deliver.2.1 30 = .ok (.iload_n 2, 1) := by decide +kernel
theorem d_Mo_deliver_31 : decode M_Mo_deliver.2.1 31 = .ok (.dup2, 1) := by decide +kernel
theorem d_Mo_deliver_32 : decode M_Mo_deliver.2.1 32 = .ok (.iaload, 1) := by decide +kernel
theorem d_Mo_deliver_33 : decode M_Mo_deliver.2.1 33 = .ok (.iconst 1, 1) := by decide +kernel
theorem d_Mo_deliver_34 : decode M_Mo_deliver.2.1 34 = .ok (.iadd, 1) := by decide +kernel
theorem d_Mo_deliver_35 : decode M_Mo_deliver.2.1 35 = .ok (.iastore, 1) := by decide +kernel
theorem d_Mo_deliver_36 : decode M_Mo_deliver.2.1 36 = .ok (.aload_n 0, 1) := by decide +kernel
theorem d_Mo_deliver_37 : decode M_Mo_deliver.2.1 37 = .ok (.getfield 43, 3) := by decide +kernel
theorem d_Mo_deliver_40 : decode M_Mo_deliver.2.1 40 = .ok (.iload_n 2, 1) := by decide +kernel
theorem d_Mo_deliver_41 : decode M_Mo_deliver.2.1 41 = .ok (.aload_n 0, 1) := by decide +kernel
theorem d_Mo_deliver_42 : decode M_Mo_deliver.2.1 42 = .ok (.getfield 28, 3) := by decide +kernel
theorem d_Mo_deliver_45 : decode M_Mo_deliver.2.1 45 = .ok (.iload_n 1, 1) := by decide +kernel
theorem d_Mo_deliver_46 : decode M_Mo_deliver.2.1 46 = .ok (.iaload, 1) := by decide +kernel
theorem d_Mo_deliver_47 : decode M_Mo_deliver.2.1 47 = .ok (.iastore, 1) := by decide +kernel
theorem d_Mo_deliver_48 : decode M_Mo_deliver.2.1 48 = .ok (.return_, 1) := by decide +kernel
theorem d_Mo_attempt_0 : decode M_Mo_attempt.2.1 0 = .ok (.iconst 0, 1) := by decide +kernel
theorem d_Mo_attempt_1 : decode M_Mo_attempt.2.1 1 = .ok (.istore_n 2, 1) := by decide +kernel
theorem d_Mo_attempt_2 : decode M_Mo_attempt.2.1 2 = .ok (.iconst 0, 1) := by decide +kernel
theorem d_Mo_attempt_3 : decode M_Mo_attempt.2.1 3 = .ok (.istore_n 3, 1) := by decide +kernel
theorem d_Mo_attempt_4 : decode M_Mo_attempt.2.1 4 = .ok (.iload_n 3, 1) := by decide +kernel
theorem d_Mo_attempt_5 : decode M_Mo_attempt.2.1 5 = .ok (.aload_n 0, 1) := by decide +kernel
theorem d_Mo_attempt_6 : decode M_Mo_attempt.2.1 6 = .ok (.getfield 28, 3) := by decide +kernel
theorem d_Mo_attempt_9 : decode M_Mo_attempt.2.1 9 = .ok (.iload_n 1, 1) := by decide +kernel
theorem d_Mo_attempt_10 : decode M_Mo_attempt.2.1 10 = .ok (.iconst 3, 1) := by decide +kernel
theorem d_Mo_attempt_11 : decode M_Mo_attempt.2.1 11 = .ok (.iadd, 1) := by decide +kernel
theorem d_Mo_attempt_12 : decode M_Mo_attempt.2.1 12 = .ok (.iaload, 1) := by decide +kernel
theorem d_Mo_attempt_13 : decode M_Mo_attempt.2.1 13 = .ok (.if_icmp .ge 132, 3) := by decide +kernel
theorem d_Mo_attempt_16 : decode M_Mo_attempt.2.1 16 = .ok (.aload_n 0, 1) := by decide +kernel
theorem d_Mo_attempt_17 : decode M_Mo_attempt.2.1 17 = .ok (.getfield 28, 3) := by decide +kernel
theorem d_Mo_attempt_20 : decode M_Mo_attempt.2.1 20 = .ok (.iload_n 1, 1) := by decide +kernel
theorem d_Mo_attempt_21 : decode M_Mo_attempt.2.1 21 = .ok (.bipush 8, 2) := by decide +kernel
theorem d_Mo_attempt_23 : decode M_Mo_attempt.2.1 23 = .ok (.iadd, 1) := by decide +kernel
theorem d_Mo_attempt_24 : decode M_Mo_attempt.2.1 24 = .ok (.iload_n 3, 1) := by decide +kernel
theorem d_Mo_attempt_25 : decode M_Mo_attempt.2.1 25 = .ok (.iadd, 1) := by decide +kernel
theorem d_Mo_attempt_26 : decode M_Mo_attempt.2.1 26 = .ok (.iaload, 1) := by decide +kernel
theorem d_Mo_attempt_27 : decode M_Mo_attempt.2.1 27 = .ok (.iconst 1, 1) := by decide +kernel
theorem d_Mo_attempt_28 : decode M_Mo_attempt.2.1 28 = .ok (.if_icmp .eq 6, 3) := by decide +kernel
theorem d_Mo_attempt_31 : decode M_Mo_attempt.2.1 31 = .ok (.goto 108, 3) := by decide +kernel
theorem d_Mo_attempt_34 : decode M_Mo_attempt.2.1 34 = .ok (.aload_n 0, 1) := by decide +kernel
theorem d_Mo_attempt_35 : decode M_Mo_attempt.2.1 35 = .ok (.getfield 28, 3) := by decide +kernel
theorem d_Mo_attempt_38 : decode M_Mo_attempt.2.1 38 = .ok (.iload_n 1, 1) := by decide +kernel
theorem d_Mo_attempt_39 : decode M_Mo_attempt.2.1 39 = .ok (.iconst 4, 1) := by decide +kernel
theorem d_Mo_attempt_40 : decode M_Mo_attempt.2.1 40 = .ok (.iadd, 1) := by decide +kernel
theorem d_Mo_attempt_41 : decode M_Mo_attempt.2.1 41 = .ok (.iload_n 3, 1) := by decide +kernel
theorem d_Mo_attempt_42 : decode M_Mo_attempt.2.1 42 = .ok (.iadd, 1) := by decide +kernel
theorem d_Mo_attempt_43 : decode M_Mo_attempt.2.1 43 = .ok (.iaload, 1) := by decide +kernel
theorem d_Mo_attempt_44 : decode M_Mo_attempt.2.1 44 = .ok (.istore 4, 2) := by decide +kernel
theorem d_Mo_attempt_46 : decode M_Mo_attempt.2.1 46 = .ok (.iload 4, 2) := by decide +kernel
theorem d_Mo_attempt_48 : decode M_Mo_attempt.2.1 48 = .ok (.bipush 8, 2) := by decide +kernel
theorem d_Mo_attempt_50 : decode M_Mo_attempt.2.1 50 = .ok (.if_icmp .ge 8, 3) := by decide +kernel
theorem d_Mo_attempt_53 : decode M_Mo_attempt.2.1 53 = .ok (.bipush 10, 2) := by decide +kernel
theorem d_Mo_attempt_55 : decode M_Mo_attempt.2.1 55 = .ok (.goto 12, 3) := by decide +kernel
theorem d_Mo_attempt_58 : decode M_Mo_attempt.2.1 58 = .ok (.aload_n 0, 1) := by decide +kernel
theorem d_Mo_attempt_59 : decode M_Mo_attempt.2.1 59 = .ok (.iload 4, 2) := by decide +kernel
theorem d_Mo_attempt_61 : decode M_Mo_attempt.2.1 61 = .ok (.bipush 8, 2) := by decide +kernel
theorem d_Mo_attempt_63 : decode M_Mo_attempt.2.1 63 = .ok (.idiv, 1) := by decide +kernel
theorem d_Mo_attempt_64 : decode M_Mo_attempt.2.1 64 = .ok (.invokevirtual 107, 3) := by decide +kernel
theorem d_Mo_attempt_67 : decode M_Mo_attempt.2.1 67 = .ok (.istore 5, 2) := by decide +kernel
theorem d_Mo_attempt_69 : decode M_Mo_attempt.2.1 69 = .ok (.iload 5, 2) := by decide +kernel
theorem d_Mo_attempt_71 : decode M_Mo_attempt.2.1 71 = .ok (.bipush 9, 2) := by decide +kernel
theorem d_Mo_attempt_73 : decode M_Mo_attempt.2.1 73 = .ok (.if_icmp .ne 6, 3) := by decide +kernel
theorem d_Mo_attempt_76 : decode M_Mo_attempt.2.1 76 = .ok (.goto 63, 3) := by decide +kernel
theorem d_Mo_attempt_79 : decode M_Mo_attempt.2.1 79 = .ok (.aload_n 0, 1) := by decide +kernel
theorem d_Mo_attempt_80 : decode M_Mo_attempt.2.1 80 = .ok (.iload_n 1, 1) := by decide +kernel
theorem d_Mo_attempt_81 : decode M_Mo_attempt.2.1 81 = .ok (.bipush 8, 2) := by decide +kernel
theorem d_Mo_attempt_83 : decode M_Mo_attempt.2.1 83 = .ok (.iadd, 1) := by decide +kernel
theorem d_Mo_attempt_84 : decode M_Mo_attempt.2.1 84 = .ok (.iload_n 3, 1) := by decide +kernel
theorem d_Mo_attempt_85 : decode M_Mo_attempt.2.1 85 = .ok (.iadd, 1) := by decide +kernel
theorem d_Mo_attempt_86 : decode M_Mo_attempt.2.1 86 = .ok (.iload 5, 2) := by decide +kernel
theorem d_Mo_attempt_88 : decode M_Mo_attempt.2.1 88 = .ok (.bipush 8, 2) := by decide +kernel
theorem d_Mo_attempt_90 : decode M_Mo_attempt.2.1 90 = .ok (.if_icmp .ne 7, 3) := by decide +kernel
theorem d_Mo_attempt_93 : decode M_Mo_attempt.2.1 93 = .ok (.iconst 3, 1) := by decide +kernel
theorem d_Mo_attempt_94 : decode M_Mo_attempt.2.1 94 = .ok (.goto 4, 3) := by decide +kernel
theorem d_Mo_attempt_97 : decode M_Mo_attempt.2.1 97 = .ok (.iconst 2, 1) := by decide +kernel
theorem d_Mo_attempt_98 : decode M_Mo_attempt.2.1 98 = .ok (.invokevirtual 111, 3) := by decide +kernel
theorem d_Mo_attempt_101 : decode M_Mo_attempt.2.1 101 = .ok (.iload 5, 2) := by decide +kernel
theorem d_Mo_attempt_103 : decode M_Mo_attempt.2.1 103 = .ok (.bipush 8, 2) := by decide +kernel
theorem d_Mo_attempt_105 : decode M_Mo_attempt.2.1 105 = .ok (.if_icmp .ne 6, 3) := by decide +kernel
theorem d_Mo_attempt_108 : decode M_Mo_attempt.2.1 108 = .ok (.goto 31, 3) := by decide +kernel
theorem d_Mo_attempt_111 : decode M_Mo_attempt.2.1 111 = .ok (.aload_n 0, 1) := by decide +kernel
theorem d_Mo_attempt_112 : decode M_Mo_attempt.2.1 112 = .ok (.iload_n 1, 1) := by decide +kernel
theorem d_Mo_attempt_113 : decode M_Mo_attempt.2.1 113 = .ok (.iload 4, 2) := by decide +kernel
theorem d_Mo_attempt_115 : decode M_Mo_attempt.2.1 115 = .ok (.invokevirtual 115, 3) := by decide +kernel
theorem d_Mo_attempt_118 : decode M_Mo_attempt.2.1 118 = .ok (.iload 5, 2) := by decide +kernel
theorem d_Mo_attempt_120 : decode M_Mo_attempt.2.1 120 = .ok (.bipush 8, 2) := by decide +kernel
theorem d_Mo_attempt_122 : decode M_Mo_attempt.2.1 122 = .ok (.if_icmp .ge 14, 3) := by decide +kernel
theorem d_Mo_attempt_125 : decode M_Mo_attempt.2.1 125 = .ok (.aload_n 0, 1) := by decide +kernel
theorem d_Mo_attempt_126 : decode M_Mo_attempt.2.1 126 = .ok (.getfield 46, 3) := by decide +kernel
theorem d_Mo_attempt_129 : decode M_Mo_attempt.2.1 129 = .ok (.iload 5, 2) := by decide +kernel
theorem d_Mo_attempt_131 : decode M_Mo_attempt.2.1 131 = .ok (.dup2, 1) := by decide +kernel
theorem d_Mo_attempt_132 : decode M_Mo_attempt.2.1 132 = .ok (.iaload, 1) := by decide +kernel
theorem d_Mo_attempt_133 : decode M_Mo_attempt.2.1 133 = .ok (.iconst 1, 1) := by decide +kernel
theorem d_Mo_attempt_134 : decode M_Mo_attempt.2.1 134 = .ok (.iadd, 1) := by decide +kernel
theorem d_Mo_attempt_135 : decode M_Mo_attempt.2.1 135 = .ok (.iastore, 1) := by decide +kernel
theorem d_Mo_attempt_136 : decode M_Mo_attempt.2.1 136 = .ok (.iinc 2 1, 3) := by decide +kernel
theorem d_Mo_attempt_139 : decode M_Mo_attempt.2.1 139 = .ok (.iinc 3 1, 3) := by decide +kernel
theorem d_Mo_attempt_142 : decode M_Mo_attempt.2.1 142 = .ok (.goto (-138), 3) := by decide +kernel
theorem d_Mo_attempt_145 : decode M_Mo_attempt.2.1 145 = .ok (.iconst 0, 1) := by decide +kernel
theorem d_Mo_attempt_146 : decode M_Mo_attempt.2.1 146 = .ok (.istore_n 3, 1) := by decide +kernel
theorem d_Mo_attempt_147 : decode M_Mo_attempt.2.1 147 = .ok (.iload_n 3, 1) := by decide +kernel
theorem d_Mo_attempt_148 : decode M_Mo_attempt.2.1 148 = .ok (.aload_n 0, 1) := by decide +kernel
theorem d_Mo_attempt_149 : decode M_Mo_attempt.2.1 149 = .ok (.getfield 28, 3) := by decide +kernel
theorem d_Mo_attempt_152 : decode M_Mo_attempt.2.1 152 = .ok (.iload_n 1, 1) := by decide +kernel
theorem d_Mo_attempt_153 : decode M_Mo_attempt.2.1 153 = .ok (.iconst 3, 1) := by decide +kernel
theorem d_Mo_attempt_154 : decode M_Mo_attempt.2.1 154 = .ok (.iadd, 1) := by decide +kernel
theorem d_Mo_attempt_155 : decode M_Mo_attempt.2.1 155 = .ok (.iaload, 1) := by decide +kernel
theorem d_Mo_attempt_156 : decode M_Mo_attempt.2.1 156 = .ok (.if_icmp .ge 56, 3) := by decide +kernel
theorem d_Mo_attempt_159 : decode M_Mo_attempt.2.1 159 = .ok (.aload_n 0, 1) := by decide +kernel
theorem d_Mo_attempt_160 : decode M_Mo_attempt.2.1 160 = .ok (.getfield 28, 3) := by decide +kernel
theorem d_Mo_attempt_163 : decode M_Mo_attempt.2.1 163 = .ok (.iload_n 1, 1) := by decide +kernel
theorem d_Mo_attempt_164 : decode M_Mo_attempt.2.1 164 = .ok (.bipush 8, 2) := by decide +kernel
theorem d_Mo_attempt_166 : decode M_Mo_attempt.2.1 166 = .ok (.iadd, 1) := by decide +kernel
theorem d_Mo_attempt_167 : decode M_Mo_attempt.2.1 167 = .ok (.iload_n 3, 1) := by decide +kernel
theorem d_Mo_attempt_168 : decode M_Mo_attempt.2.1 168 = .ok (.iadd, 1) := by decide +kernel
theorem d_Mo_attempt_169 : decode M_Mo_attempt.2.1 169 = .ok (.iaload, 1) := by decide +kernel
theorem d_Mo_attempt_170 : decode M_Mo_attempt.2.1 170 = .ok (.iconst 1, 1) := by decide +kernel
theorem d_Mo_attempt_171 : decode M_Mo_attempt.2.1 171 = .ok (.if_icmp .ne 35, 3) := by decide +kernel
theorem d_Mo_attempt_174 : decode M_Mo_attempt.2.1 174 = .ok (.aload_n 0, 1) := by decide +kernel
theorem d_Mo_attempt_175 : decode M_Mo_attempt.2.1 175 = .ok (.getfield 101, 3) := by decide +kernel
theorem d_Mo_attempt_178 : decode M_Mo_attempt.2.1 178 = .ok (.aload_n 0, 1) := by decide +kernel
theorem d_Mo_attempt_179 : decode M_Mo_attempt.2.1 179 = .ok (.getfield 28, 3) := by decide +kernel
theorem d_Mo_attempt_182 : decode M_Mo_attempt.2.1 182 = .ok (.iload_n 1, 1) := by decide +kernel
theorem d_Mo_attempt_183 : decode M_Mo_attempt.2.1 183 = .ok (.bipush 12, 2) := by decide +kernel
theorem d_Mo_attempt_185 : decode M_Mo_attempt.2.1 185 = .ok (.iadd, 1) := by decide +kernel
theorem d_Mo_attempt_186 : decode M_Mo_attempt.2.1 186 = .ok (.iaload, 1) := by decide +kernel
theorem d_Mo_attempt_187 : decode M_Mo_attempt.2.1 187 = .ok (.aload_n 0, 1) := by decide +kernel
theorem d_Mo_attempt_188 : decode M_Mo_attempt.2.1 188 = .ok (.getfield 60, 3) := by decide +kernel
theorem d_Mo_attempt_191 : decode M_Mo_attempt.2.1 191 = .ok (.iadd, 1) := by decide +kernel
theorem d_Mo_attempt_192 : decode M_Mo_attempt.2.1 192 = .ok (.if_icmp .lt 14, 3) := by decide +kernel
theorem d_Mo_attempt_195 : decode M_Mo_attempt.2.1 195 = .ok (.aload_n 0, 1) := by decide +kernel
theorem d_Mo_attempt_196 : decode M_Mo_attempt.2.1 196 = .ok (.iload_n 1, 1) := by decide +kernel
theorem d_Mo_attempt_197 : decode M_Mo_attempt.2.1 197 = .ok (.bipush 8, 2) := by decide +kernel
theorem d_Mo_attempt_199 : decode M_Mo_attempt.2.1 199 = .ok (.iadd, 1) := by decide +kernel
theorem d_Mo_attempt_200 : decode M_Mo_attempt.2.1 200 = .ok (.iload_n 3, 1) := by decide +kernel
theorem d_Mo_attempt_201 : decode M_Mo_attempt.2.1 201 = .ok (.iadd, 1) := by decide +kernel
theorem d_Mo_attempt_202 : decode M_Mo_attempt.2.1 202 = .ok (.iconst 3, 1) := by decide +kernel
theorem d_Mo_attempt_203 : decode M_Mo_attempt.2.1 203 = .ok (.invokevirtual 111, 3) := by decide +kernel
theorem d_Mo_attempt_206 : decode M_Mo_attempt.2.1 206 = .ok (.iinc 3 1, 3) := by decide +kernel
theorem d_Mo_attempt_209 : decode M_Mo_attempt.2.1 209 = .ok (.goto (-62), 3) := by decide +kernel
theorem d_Mo_attempt_212 : decode M_Mo_attempt.2.1 212 = .ok (.aload_n 0, 1) := by decide +kernel
theorem d_Mo_attempt_213 : decode M_Mo_attempt.2.1 213 = .ok (.dup, 1) := by decide +kernel
theorem d_Mo_attempt_214 : decode M_Mo_attempt.2.1 214 = .ok (.getfield 88, 3) := by decide +kernel
theorem d_Mo_attempt_217 : decode M_Mo_attempt.2.1 217 = .ok (.iconst 1, 1) := by decide +kernel
theorem d_Mo_attempt_218 : decode M_Mo_attempt.2.1 218 = .ok (.iadd, 1) := by decide +kernel
theorem d_Mo_attempt_219 : decode M_Mo_attempt.2.1 219 = .ok (.putfield 88, 3) := by decide +kernel
theorem d_Mo_attempt_222 : decode M_Mo_attempt.2.1 222 = .ok (.aload_n 0, 1) := by decide +kernel
theorem d_Mo_attempt_223 : decode M_Mo_attempt.2.1 223 = .ok (.iload_n 1, 1) := by decide +kernel
theorem d_Mo_attempt_224 : decode M_Mo_attempt.2.1 224 = .ok (.iconst 1, 1) := by decide +kernel
theorem d_Mo_attempt_225 : decode M_Mo_attempt.2.1 225 = .ok (.invokevirtual 118, 3) := by decide +kernel
theorem d_Mo_attempt_228 : decode M_Mo_attempt.2.1 228 = .ok (.ifCond .le 60, 3) := by decide +kernel
theorem d_Mo_attempt_231 : decode M_Mo_attempt.2.1 231 = .ok (.aload_n 0, 1) := by decide +kernel
theorem d_Mo_attempt_232 : decode M_Mo_attempt.2.1 232 = .ok (.getfield 28, 3) := by decide +kernel
theorem d_Mo_attempt_235 : decode M_Mo_attempt.2.1 235 = .ok (.iload_n 1, 1) := by decide +kernel
theorem d_Mo_attempt_236 : decode M_Mo_attempt.2.1 236 = .ok (.bipush 13, 2) := by decide +kernel
theorem d_Mo_attempt_238 : decode M_Mo_attempt.2.1 238 = .ok (.iadd, 1) := by decide +kernel
theorem d_Mo_attempt_239 : decode M_Mo_attempt.2.1 239 = .ok (.aload_n 0, 1) := by decide +kernel
theorem d_Mo_attempt_240 : decode M_Mo_attempt.2.1 240 = .ok (.getfield 101, 3) := by decide +kernel
theorem d_Mo_attempt_243 : decode M_Mo_attempt.2.1 243 = .ok (.aload_n 0, 1) := by decide +kernel
theorem d_Mo_attempt_244 : decode M_Mo_attempt.2.1 244 = .ok (.getfield 28, 3) := by decide +kernel
theorem d_Mo_attempt_247 : decode M_Mo_attempt.2.1 247 = .ok (.iload_n 1, 1) := by decide +kernel
theorem d_Mo_attempt_248 : decode M_Mo_attempt.2.1 248 = .ok (.bipush 14, 2) := by decide +kernel
theorem d_Mo_attempt_250 : decode M_Mo_attempt.2.1 250 = .ok (.iadd, 1) := by decide +kernel
theorem d_Mo_attempt_251 : decode M_Mo_attempt.2.1 251 = .ok (.iaload, 1) := by decide +kernel
theorem d_Mo_attempt_252 : decode M_Mo_attempt.2.1 252 = .ok (.iadd, 1) := by decide +kernel
theorem d_Mo_attempt_253 : decode M_Mo_attempt.2.1 253 = .ok (.iastore, 1) := by decide +kernel
theorem d_Mo_attempt_254 : decode M_Mo_attempt.2.1 254 = .ok (.aload_n 0, 1) := by decide +kernel
theorem d_Mo_attempt_255 : decode M_Mo_attempt.2.1 255 = .ok (.getfield 28, 3) := by decide +kernel
theorem d_Mo_attempt_258 : decode M_Mo_attempt.2.1 258 = .ok (.iload_n 1, 1) := by decide +kernel
theorem d_Mo_attempt_259 : decode M_Mo_attempt.2.1 259 = .ok (.bipush 14, 2) := by decide +kernel
theorem d_Mo_attempt_261 : decode M_Mo_attempt.2.1 261 = .ok (.iadd, 1) := by decide +kernel
theorem d_Mo_attempt_262 : decode M_Mo_attempt.2.1 262 = .ok (.iconst 2, 1) := by decide +kernel
theorem d_Mo_attempt_263 : decode M_Mo_attempt.2.1 263 = .ok (.aload_n 0, 1) := by decide +kernel
theorem d_Mo_attempt_264 : decode M_Mo_attempt.2.1 264 = .ok (.getfield 28, 3) := by decide +kernel
theorem d_Mo_attempt_267 : decode M_Mo_attempt.2.1 267 = .ok (.iload_n 1, 1) := by decide +kernel
theorem d_Mo_attempt_268 : decode M_Mo_attempt.2.1 268 = .ok (.bipush 14, 2) := by decide +kernel
theorem d_Mo_attempt_270 : decode M_Mo_attempt.2.1 270 = .ok (.iadd, 1) := by decide +kernel
theorem d_Mo_attempt_271 : decode M_Mo_attempt.2.1 271 = .ok (.iaload, 1) := by decide +kernel
theorem d_Mo_attempt_272 : decode M_Mo_attempt.2.1 272 = .ok (.imul, 1) := by decide +kernel
theorem d_Mo_attempt_273 : decode M_Mo_attempt.2.1 273 = .ok (.aload_n 0, 1) := by decide +kernel
theorem d_Mo_attempt_274 : decode M_Mo_attempt.2.1 274 = .ok (.getfield 53, 3) := by decide +kernel
theorem d_Mo_attempt_277 : decode M_Mo_attempt.2.1 277 = .ok (.aload_n 0, 1) := by decide +kernel
theorem d_Mo_attempt_278 : decode M_Mo_attempt.2.1 278 = .ok (.getfield 57, 3) := by decide +kernel
theorem d_Mo_attempt_281 : decode M_Mo_attempt.2.1 281 = .ok (.invokestatic 49, 3) := by decide +kernel
theorem d_Mo_attempt_284 : decode M_Mo_attempt.2.1 284 = .ok (.iastore, 1) := by decide +kernel
theorem d_Mo_attempt_285 : decode M_Mo_attempt.2.1 285 = .ok (.goto 134, 3) := by decide +kernel
theorem d_Mo_attempt_288 : decode M_Mo_attempt.2.1 288 = .ok (.aload_n 0, 1) := by decide +kernel
theorem d_Mo_attempt_289 : decode M_Mo_attempt.2.1 289 = .ok (.iload_n 1, 1) := by decide +kernel
theorem d_Mo_attempt_290 : decode M_Mo_attempt.2.1 290 = .ok (.iconst 3, 1) := by decide +kernel
theorem d_Mo_attempt_291 : decode M_Mo_attempt.2.1 291 = .ok (.invokevirtual 118, 3) := by decide +kernel
theorem d_Mo_attempt_294 : decode M_Mo_attempt.2.1 294 = .ok (.ifCond .le 120, 3) := by decide +kernel
theorem d_Mo_attempt_297 : decode M_Mo_attempt.2.1 297 = .ok (.aload_n 0, 1) := by decide +kernel
theorem d_Mo_attempt_298 : decode M_Mo_attempt.2.1 298 = .ok (.getfield 28, 3) := by decide +kernel
theorem d_Mo_attempt_301 : decode M_Mo_attempt.2.1 301 = .ok (.iload_n 1, 1) := by decide +kernel
theorem d_Mo_attempt_302 : decode M_Mo_attempt.2.1 302 = .ok (.iconst 1, 1) := by decide +kernel
theorem d_Mo_attempt_303 : decode M_Mo_attempt.2.1 303 = .ok (.iadd, 1) := by decide +kernel
theorem d_Mo_attempt_304 : decode M_Mo_attempt.2.1 304 = .ok (.iaload, 1) := by decide +kernel
theorem d_Mo_attempt_305 : decode M_Mo_attempt.2.1 305 = .ok (.iconst (-1), 1) := by decide +kernel
theorem d_Mo_attempt_306 : decode M_Mo_attempt.2.1 306 = .ok (.if_icmp .eq 108, 3) := by decide +kernel
theorem d_Mo_attempt_309 : decode M_Mo_attempt.2.1 309 = .ok (.aload_n 0, 1) := by decide +kernel
theorem d_Mo_attempt_310 : decode M_Mo_attempt.2.1 310 = .ok (.getfield 28, 3) := by decide +kernel
theorem d_Mo_attempt_313 : decode M_Mo_attempt.2.1 313 = .ok (.iload_n 1, 1) := by decide +kernel
theorem d_Mo_attempt_314 : decode M_Mo_attempt.2.1 314 = .ok (.iconst 4, 1) := by decide +kernel
theorem d_Mo_attempt_315 : decode M_Mo_attempt.2.1 315 = .ok (.iadd, 1) := by decide +kernel
theorem d_Mo_attempt_316 : decode M_Mo_attempt.2.1 316 = .ok (.aload_n 0, 1) := by decide +kernel
theorem d_Mo_attempt_317 : decode M_Mo_attempt.2.1 317 = .ok (.getfield 28, 3) := by decide +kernel
theorem d_Mo_attempt_320 : decode M_Mo_attempt.2.1 320 = .ok (.iload_n 1, 1) := by decide +kernel
theorem d_Mo_attempt_321 : decode M_Mo_attempt.2.1 321 = .ok (.iconst 1, 1) := by decide +kernel
theorem d_Mo_attempt_322 : decode M_Mo_attempt.2.1 322 = .ok (.iadd, 1) := by decide +kernel
theorem d_Mo_attempt_323 : decode M_Mo_attempt.2.1 323 = .ok (.iaload, 1) := by decide +kernel
theorem d_Mo_attempt_324 : decode M_Mo_attempt.2.1 324 = .ok (.iastore, 1) := by decide +kernel
theorem d_Mo_attempt_325 : decode M_Mo_attempt.2.1 325 = .ok (.aload_n 0, 1) := by decide +kernel
theorem d_Mo_attempt_326 : decode M_Mo_attempt.2.1 326 = .ok (.getfield 28, 3) := by decide +kernel
theorem d_Mo_attempt_329 : decode M_Mo_attempt.2.1 329 = .ok (.iload_n 1, 1) := by decide +kernel
theorem d_Mo_attempt_330 : decode M_Mo_attempt.2.1 330 = .ok (.bipush 8, 2) := by decide +kernel
theorem d_Mo_attempt_332 : decode M_Mo_attempt.2.1 332 = .ok (.iadd, 1) := by decide +kernel
theorem d_Mo_attempt_333 : decode M_Mo_attempt.2.1 333 = .ok (.iconst 1, 1) := by decide +kernel
theorem d_Mo_attempt_334 : decode M_Mo_attempt.2.1 334 = .ok (.iastore, 1) := by decide +kernel
theorem d_Mo_attempt_335 : decode M_Mo_attempt.2.1 335 = .ok (.aload_n 0, 1) := by decide +kernel
theorem d_Mo_attempt_336 : decode M_Mo_attempt.2.1 336 = .ok (.getfield 28, 3) := by decide +kernel
theorem d_Mo_attempt_339 : decode M_Mo_attempt.2.1 339 = .ok (.iload_n 1, 1) := by decide +kernel
theorem d_Mo_attempt_340 : decode M_Mo_attempt.2.1 340 = .ok (.iconst 1, 1) := by decide +kernel
theorem d_Mo_attempt_341 : decode M_Mo_attempt.2.1 341 = .ok (.iadd, 1) := by decide +kernel
theorem d_Mo_attempt_342 : decode M_Mo_attempt.2.1 342 = .ok (.iconst (-1), 1) := by decide +kernel
theorem d_Mo_attempt_343 : decode M_Mo_attempt.2.1 343 = .ok (.iastore, 1) := by decide +kernel
theorem d_Mo_attempt_344 : decode M_Mo_attempt.2.1 344 = .ok (.aload_n 0, 1) := by decide +kernel
theorem d_Mo_attempt_345 : decode M_Mo_attempt.2.1 345 = .ok (.getfield 28, 3) := by decide +kernel
theorem d_Mo_attempt_348 : decode M_Mo_attempt.2.1 348 = .ok (.iload_n 1, 1) := by decide +kernel
theorem d_Mo_attempt_349 : decode M_Mo_attempt.2.1 349 = .ok (.iconst 2, 1) := by decide +kernel
theorem d_Mo_attempt_350 : decode M_Mo_attempt.2.1 350 = .ok (.iadd, 1) := by decide +kernel
theorem d_Mo_attempt_351 : decode M_Mo_attempt.2.1 351 = .ok (.iconst 0, 1) := by decide +kernel
theorem d_Mo_attempt_352 : decode M_Mo_attempt.2.1 352 = .ok (.iastore, 1) := by decide +kernel
theorem d_Mo_attempt_353 : decode M_Mo_attempt.2.1 353 = .ok (.aload_n 0, 1) := by decide +kernel
theorem d_Mo_attempt_354 : decode M_Mo_attempt.2.1 354 = .ok (.getfield 28, 3) := by decide +kernel
theorem d_Mo_attempt_357 : decode M_Mo_attempt.2.1 357 = .ok (.iload_n 1, 1) := by decide +kernel
theorem d_Mo_attempt_358 : decode M_Mo_attempt.2.1 358 = .ok (.iconst 3, 1) := by decide +kernel
theorem d_Mo_attempt_359 : decode M_Mo_attempt.2.1 359 = .ok (.iadd, 1) := by decide +kernel
theorem d_Mo_attempt_360 : decode M_Mo_attempt.2.1 360 = .ok (.iconst 1, 1) := by decide +kernel
theorem d_Mo_attempt_361 : decode M_Mo_attempt.2.1 361 = .ok (.iastore, 1) := by decide +kernel
theorem d_Mo_attempt_362 : decode M_Mo_attempt.2.1 362 = .ok (.aload_n 0, 1) := by decide +kernel
theorem d_Mo_attempt_363 : decode M_Mo_attempt.2.1 363 = .ok (.getfield 28, 3) := by decide +kernel
theorem d_Mo_attempt_366 : decode M_Mo_attempt.2.1 366 = .ok (.iload_n 1, 1) := by decide +kernel
theorem d_Mo_attempt_367 : decode M_Mo_attempt.2.1 367 = .ok (.bipush 12, 2) := by decide +kernel
theorem d_Mo_attempt_369 : decode M_Mo_attempt.2.1 369 = .ok (.iadd, 1) := by decide +kernel
theorem d_Mo_attempt_370 : decode M_Mo_attempt.2.1 370 = .ok (.aload_n 0, 1) := by decide +kernel
theorem d_Mo_attempt_371 : decode M_Mo_attempt.2.1 371 = .ok (.getfield 101, 3) := by decide +kernel
theorem d_Mo_attempt_374 : decode M_Mo_attempt.2.1 374 = .ok (.iastore, 1) := by decide +kernel
theorem d_Mo_attempt_375 : decode M_Mo_attempt.2.1 375 = .ok (.aload_n 0, 1) := by decide +kernel
theorem d_Mo_attempt_376 : decode M_Mo_attempt.2.1 376 = .ok (.getfield 28, 3) := by decide +kernel
theorem d_Mo_attempt_379 : decode M_Mo_attempt.2.1 379 = .ok (.iload_n 1, 1) := by decide +kernel
theorem d_Mo_attempt_380 : decode M_Mo_attempt.2.1 380 = .ok (.bipush 13, 2) := by decide +kernel
theorem d_Mo_attempt_382 : decode M_Mo_attempt.2.1 382 = .ok (.iadd, 1) := by decide +kernel
theorem d_Mo_attempt_383 : decode M_Mo_attempt.2.1 383 = .ok (.aload_n 0, 1) := by decide +kernel
theorem d_Mo_attempt_384 : decode M_Mo_attempt.2.1 384 = .ok (.getfield 101, 3) := by decide +kernel
theorem d_Mo_attempt_387 : decode M_Mo_attempt.2.1 387 = .ok (.iastore, 1) := by decide +kernel
theorem d_Mo_attempt_388 : decode M_Mo_attempt.2.1 388 = .ok (.aload_n 0, 1) := by decide +kernel
theorem d_Mo_attempt_389 : decode M_Mo_attempt.2.1 389 = .ok (.getfield 28, 3) := by decide +kernel
theorem d_Mo_attempt_392 : decode M_Mo_attempt.2.1 392 = .ok (.iload_n 1, 1) := by decide +kernel
theorem d_Mo_attempt_393 : decode M_Mo_attempt.2.1 393 = .ok (.bipush 14, 2) := by decide +kernel
theorem d_Mo_attempt_395 : decode M_Mo_attempt.2.1 395 = .ok (.iadd, 1) := by decide +kernel
theorem d_Mo_attempt_396 : decode M_Mo_attempt.2.1 396 = .ok (.aload_n 0, 1) := by decide +kernel
theorem d_Mo_attempt_397 : decode M_Mo_attempt.2.1 397 = .ok (.getfield 53, 3) := by decide +kernel
theorem d_Mo_attempt_400 : decode M_Mo_attempt.2.1 400 = .ok (.iastore, 1) := by decide +kernel
theorem d_Mo_attempt_401 : decode M_Mo_attempt.2.1 401 = .ok (.aload_n 0, 1) := by decide +kernel
theorem d_Mo_attempt_402 : decode M_Mo_attempt.2.1 402 = .ok (.getfield 28, 3) := by decide +kernel
theorem d_Mo_attempt_405 : decode M_Mo_attempt.2.1 405 = .ok (.iload_n 1, 1) := by decide +kernel
theorem d_Mo_attempt_406 : decode M_Mo_attempt.2.1 406 = .ok (.bipush 15, 2) := by decide +kernel
theorem d_Mo_attempt_408 : decode M_Mo_attempt.2.1 408 = .ok (.iadd, 1) := by decide +kernel
theorem d_Mo_attempt_409 : decode M_Mo_attempt.2.1 409 = .ok (.iconst 1, 1) := by decide +kernel
theorem d_Mo_attempt_410 : decode M_Mo_attempt.2.1 410 = .ok (.iastore, 1) := by decide +kernel
theorem d_Mo_attempt_411 : decode M_Mo_attempt.2.1 411 = .ok (.goto 8, 3) := by decide +kernel
theorem d_Mo_attempt_414 : decode M_Mo_attempt.2.1 414 = .ok (.aload_n 0, 1) := by decide +kernel
theorem d_Mo_attempt_415 : decode M_Mo_attempt.2.1 415 = .ok (.iload_n 1, 1) := by decide +kernel
theorem d_Mo_attempt_416 : decode M_Mo_attempt.2.1 416 = .ok (.invokevirtual 122, 3) := by decide +kernel
theorem d_Mo_attempt_419 : decode M_Mo_attempt.2.1 419 = .ok (.iload_n 2, 1) := by decide +kernel
theorem d_Mo_attempt_420 : decode M_Mo_attempt.2.1 420 = .ok (.ireturn, 1) := by decide +kernel
theorem d_Mo_remove_0 : decode M_Mo_remove.2.1 0 = .ok (.iload_n 1, 1) := by decide +kernel
theorem d_Mo_remove_1 : decode M_Mo_remove.2.1 1 = .ok (.istore_n 2, 1) := by decide +kernel
theorem d_Mo_remove_2 : decode M_Mo_remove.2.1 2 = .ok (.iload_n 2, 1) := by decide +kernel
theorem d_Mo_remove_3 : decode M_Mo_remove.2.1 3 = .ok (.bipush 80, 2) := by decide +kernel
theorem d_Mo_remove_5 : decode M_Mo_remove.2.1 5 = .ok (.if_icmp .ge 24, 3) := by decide +kernel
theorem d_Mo_remove_8 : decode M_Mo_remove.2.1 8 = .ok (.aload_n 0, 1) := by decide +kernel
theorem d_Mo_remove_9 : decode M_Mo_remove.2.1 9 = .ok (.getfield 28, 3) := by decide +kernel
theorem d_Mo_remove_12 : decode M_Mo_remove.2.1 12 = .ok (.iload_n 2, 1) := by decide +kernel
theorem d_Mo_remove_13 : decode M_Mo_remove.2.1 13 = .ok (.aload_n 0, 1) := by decide +kernel
theorem d_Mo_remove_14 : decode M_Mo_remove.2.1 14 = .ok (.getfield 28, 3) := by decide +kernel
theorem d_Mo_remove_17 : decode M_Mo_remove.2.1 17 = .ok (.iload_n 2, 1) := by decide +kernel
theorem d_Mo_remove_18 : decode M_Mo_remove.2.1 18 = .ok (.bipush 16, 2) := by decide +kernel
theorem d_Mo_remove_20 : decode M_Mo_remove.2.1 20 = .ok (.iadd, 1) := by decide +kernel
theorem d_Mo_remove_21 : decode M_Mo_remove.2.1 21 = .ok (.iaload, 1) := by decide +kernel
theorem d_Mo_remove_22 : decode M_Mo_remove.2.1 22 = .ok (.iastore, 1) := by decide +kernel
theorem d_Mo_remove_23 : decode M_Mo_remove.2.1 23 = .ok (.iinc 2 1, 3) := by decide +kernel
theorem d_Mo_remove_26 : decode M_Mo_remove.2.1 26 = .ok (.goto (-24), 3) := by decide +kernel
theorem d_Mo_remove_29 : decode M_Mo_remove.2.1 29 = .ok (.aload_n 0, 1) := by decide +kernel
theorem d_Mo_remove_30 : decode M_Mo_remove.2.1 30 = .ok (.dup, 1) := by decide +kernel
theorem d_Mo_remove_31 : decode M_Mo_remove.2.1 31 = .ok (.getfield 85, 3) := by decide +kernel
theorem d_Mo_remove_34 : decode M_Mo_remove.2.1 34 = .ok (.iconst 1, 1) := by decide +kernel
theorem d_Mo_remove_35 : decode M_Mo_remove.2.1 35 = .ok (.isub, 1) := by decide +kernel
theorem d_Mo_remove_36 : decode M_Mo_remove.2.1 36 = .ok (.putfield 85, 3) := by decide +kernel
theorem d_Mo_remove_39 : decode M_Mo_remove.2.1 39 = .ok (.return_, 1) := by decide +kernel
theorem d_Mo_close_0 : decode M_Mo_close.2.1 0 = .ok (.aload_n 0, 1) := by decide +kernel
theorem d_Mo_close_1 : decode M_Mo_close.2.1 1 = .ok (.getfield 88, 3) := by decide +kernel
theorem d_Mo_close_4 : decode M_Mo_close.2.1 4 = .ok (.bipush 24, 2) := by decide +kernel
theorem d_Mo_close_6 : decode M_Mo_close.2.1 6 = .ok (.if_icmp .lt 8, 3) := by decide +kernel
theorem d_Mo_close_9 : decode M_Mo_close.2.1 9 = .ok (.aload_n 0, 1) := by decide +kernel
theorem d_Mo_close_10 : decode M_Mo_close.2.1 10 = .ok (.invokevirtual 104, 3) := by decide +kernel
theorem d_Mo_close_13 : decode M_Mo_close.2.1 13 = .ok (.pop, 1) := by decide +kernel
theorem d_Mo_close_14 : decode M_Mo_close.2.1 14 = .ok (.return_, 1) := by decide +kernel
theorem d_Mo_tick_0 : decode M_Mo_tick.2.1 0 = .ok (.iload_n 1, 1) := by decide +kernel
theorem d_Mo_tick_1 : decode M_Mo_tick.2.1 1 = .ok (.aload_n 0, 1) := by decide +kernel
theorem d_Mo_tick_2 : decode M_Mo_tick.2.1 2 = .ok (.getfield 101, 3) := by decide +kernel
theorem d_Mo_tick_5 : decode M_Mo_tick.2.1 5 = .ok (.if_icmp .lt 9, 3) := by decide +kernel
theorem d_Mo_tick_8 : decode M_Mo_tick.2.1 8 = .ok (.iload_n 1, 1) := by decide +kernel
theorem d_Mo_tick_9 : decode M_Mo_tick.2.1 9 = .ok (.ldc 126, 2) := by decide +kernel
theorem d_Mo_tick_11 : decode M_Mo_tick.2.1 11 = .ok (.if_icmp .le 7, 3) := by decide +kernel
theorem d_Mo_tick_14 : decode M_Mo_tick.2.1 14 = .ok (.sipush (-501), 3) := by decide +kernel
theorem d_Mo_tick_17 : decode M_Mo_tick.2.1 17 = .ok (.ireturn, 1) := by decide +kernel
theorem d_Mo_tick_18 : decode M_Mo_tick.2.1 18 = .ok (.aload_n 0, 1) := by decide +kernel
theorem d_Mo_tick_19 : decode M_Mo_tick.2.1 19 = .ok (.iload_n 1, 1) := by decide +kernel
theorem d_Mo_tick_20 : decode M_Mo_tick.2.1 20 = .ok (.putfield 101, 3) := by decide +kernel
theorem d_Mo_tick_23 : decode M_Mo_tick.2.1 23 = .ok (.iconst 0, 1) := by decide +kernel
theorem d_Mo_tick_24 : decode M_Mo_tick.2.1 24 = .ok (.istore_n 2, 1) := by decide +kernel
theorem d_Mo_tick_25 : decode M_Mo_tick.2.1 25 = .ok (.iconst 1, 1) := by decide +kernel
theorem d_Mo_tick_26 : decode M_Mo_tick.2.1 26 = .ok (.istore_n 3, 1) := by decide +kernel
theorem d_Mo_tick_27 : decode M_Mo_tick.2.1 27 = .ok (.iload_n 3, 1) := by decide +kernel
theorem d_Mo_tick_28 : decode M_Mo_tick.2.1 28 = .ok (.aload_n 0, 1) := by decide +kernel
theorem d_Mo_tick_29 : decode M_Mo_tick.2.1 29 = .ok (.getfield 98, 3) := by decide +kernel
theorem d_Mo_tick_32 : decode M_Mo_tick.2.1 32 = .ok (.if_icmp .gt 47, 3) := by decide +kernel
theorem d_Mo_tick_35 : decode M_Mo_tick.2.1 35 = .ok (.aload_n 0, 1) := by decide +kernel
theorem d_Mo_tick_36 : decode M_Mo_tick.2.1 36 = .ok (.iload_n 3, 1) := by decide +kernel
theorem d_Mo_tick_37 : decode M_Mo_tick.2.1 37 = .ok (.invokevirtual 127, 3) := by decide +kernel
theorem d_Mo_tick_40 : decode M_Mo_tick.2.1 40 = .ok (.istore 4, 2) := by decide +kernel
theorem d_Mo_tick_42 : decode M_Mo_tick.2.1 42 = .ok (.iload 4, 2) := by decide +kernel
theorem d_Mo_tick_44 : decode M_Mo_tick.2.1 44 = .ok (.ifCond .lt 29, 3) := by decide +kernel
theorem d_Mo_tick_47 : decode M_Mo_tick.2.1 47 = .ok (.aload_n 0, 1) := by decide +kernel
theorem d_Mo_tick_48 : decode M_Mo_tick.2.1 48 = .ok (.getfield 28, 3) := by decide +kernel
theorem d_Mo_tick_51 : decode M_Mo_tick.2.1 51 = .ok (.iload 4, 2) := by decide +kernel
theorem d_Mo_tick_53 : decode M_Mo_tick.2.1 53 = .ok (.bipush 13, 2) := by decide +kernel
theorem d_Mo_tick_55 : decode M_Mo_tick.2.1 55 = .ok (.iadd, 1) := by decide +kernel
theorem d_Mo_tick_56 : decode M_Mo_tick.2.1 56 = .ok (.iaload, 1) := by decide +kernel
theorem d_Mo_tick_57 : decode M_Mo_tick.2.1 57 = .ok (.aload_n 0, 1) := by decide +kernel
theorem d_Mo_tick_58 : decode M_Mo_tick.2.1 58 = .ok (.getfield 101, 3) := by decide +kernel
theorem d_Mo_tick_61 : decode M_Mo_tick.2.1 61 = .ok (.if_icmp .gt 12, 3) := by decide +kernel
theorem d_Mo_tick_64 : decode M_Mo_tick.2.1 64 = .ok (.iload_n 2, 1) := by decide +kernel
theorem d_Mo_tick_65 : decode M_Mo_tick.2.1 65 = .ok (.aload_n 0, 1) := by decide +kernel
theorem d_Mo_tick_66 : decode M_Mo_tick.2.1 66 = .ok (.iload 4, 2) := by decide +kernel
theorem d_Mo_tick_68 : decode M_Mo_tick.2.1 68 = .ok (.invokevirtual 130, 3) := by decide +kernel
theorem d_Mo_tick_71 : decode M_Mo_tick.2.1 71 = .ok (.iadd, 1) := by decide +kernel
theorem d_Mo_tick_72 : decode M_Mo_tick.2.1 72 = .ok (.istore_n 2, 1) := by decide +kernel
theorem d_Mo_tick_73 : decode M_Mo_tick.2.1 73 = .ok (.iinc 3 1, 3) := by decide +kernel
theorem d_Mo_tick_76 : decode M_Mo_tick.2.1 76 = .ok (.goto (-49), 3) := by decide +kernel
theorem d_Mo_tick_79 : decode M_Mo_tick.2.1 79 = .ok (.aload_n 0, 1) := by decide +kernel
theorem d_Mo_tick_80 : decode M_Mo_tick.2.1 80 = .ok (.invokevirtual 133, 3) := by decide +kernel
theorem d_Mo_tick_83 : decode M_Mo_tick.2.1 83 = .ok (.iload_n 2, 1) := by decide +kernel
theorem d_Mo_tick_84 : decode M_Mo_tick.2.1 84 = .ok (.ireturn, 1) := by decide +kernel
theorem d_Mo_sync_0 : decode M_Mo_sync.2.1 0 = .ok (.aload_n 0, 1) := by decide +kernel
theorem d_Mo_sync_1 : decode M_Mo_sync.2.1 1 = .ok (.invokevirtual 104, 3) := by decide +kernel
theorem d_Mo_sync_4 : decode M_Mo_sync.2.1 4 = .ok (.ireturn, 1) := by decide +kernel
theorem d_Mo_crash_0 : decode M_Mo_crash.2.1 0 = .ok (.iconst 0, 1) := by decide +kernel
theorem d_Mo_crash_1 : decode M_Mo_crash.2.1 1 = .ok (.istore_n 1, 1) := by decide +kernel
theorem d_Mo_crash_2 : decode M_Mo_crash.2.1 2 = .ok (.iload_n 1, 1) := by decide +kernel
theorem d_Mo_crash_3 : decode M_Mo_crash.2.1 3 = .ok (.bipush 96, 2) := by decide +kernel
theorem d_Mo_crash_5 : decode M_Mo_crash.2.1 5 = .ok (.if_icmp .ge 21, 3) := by decide +kernel
theorem d_Mo_crash_8 : decode M_Mo_crash.2.1 8 = .ok (.aload_n 0, 1) := by decide +kernel
theorem d_Mo_crash_9 : decode M_Mo_crash.2.1 9 = .ok (.getfield 28, 3) := by decide +kernel
theorem d_Mo_crash_12 : decode M_Mo_crash.2.1 12 = .ok (.iload_n 1, 1) := by decide +kernel
theorem d_Mo_crash_13 : decode M_Mo_crash.2.1 13 = .ok (.aload_n 0, 1) := by decide +kernel
theorem d_Mo_crash_14 : decode M_Mo_crash.2.1 14 = .ok (.getfield 31, 3) := by decide +kernel
theorem d_Mo_crash_17 : decode M_Mo_crash.2.1 17 = .ok (.iload_n 1, 1) := by decide +kernel
theorem d_Mo_crash_18 : decode M_Mo_crash.2.1 18 = .ok (.iaload, 1) := by decide +kernel
theorem d_Mo_crash_19 : decode M_Mo_crash.2.1 19 = .ok (.iastore, 1) := by decide +kernel
theorem d_Mo_crash_20 : decode M_Mo_crash.2.1 20 = .ok (.iinc 1 1, 3) := by decide +kernel
theorem d_Mo_crash_23 : decode M_Mo_crash.2.1 23 = .ok (.goto (-21), 3) := by decide +kernel
theorem d_Mo_crash_26 : decode M_Mo_crash.2.1 26 = .ok (.aload_n 0, 1) := by decide +kernel
theorem d_Mo_crash_27 : decode M_Mo_crash.2.1 27 = .ok (.aload_n 0, 1) := by decide +kernel
theorem d_Mo_crash_28 : decode M_Mo_crash.2.1 28 = .ok (.getfield 91, 3) := by decide +kernel
theorem d_Mo_crash_31 : decode M_Mo_crash.2.1 31 = .ok (.putfield 85, 3) := by decide +kernel
theorem d_Mo_crash_34 : decode M_Mo_crash.2.1 34 = .ok (.aload_n 0, 1) := by decide +kernel
theorem d_Mo_crash_35 : decode M_Mo_crash.2.1 35 = .ok (.iconst 0, 1) := by decide +kernel
theorem d_Mo_crash_36 : decode M_Mo_crash.2.1 36 = .ok (.putfield 67, 3) := by decide +kernel
theorem d_Mo_crash_39 : decode M_Mo_crash.2.1 39 = .ok (.aload_n 0, 1) := by decide +kernel
theorem d_Mo_crash_40 : decode M_Mo_crash.2.1 40 = .ok (.getfield 88, 3) := by decide +kernel
theorem d_Mo_crash_43 : decode M_Mo_crash.2.1 43 = .ok (.istore_n 1, 1) := by decide +kernel
theorem d_Mo_crash_44 : decode M_Mo_crash.2.1 44 = .ok (.aload_n 0, 1) := by decide +kernel
theorem d_Mo_crash_45 : decode M_Mo_crash.2.1 45 = .ok (.iconst 0, 1) := by decide +kernel
theorem d_Mo_crash_46 : decode M_Mo_crash.2.1 46 = .ok (.putfield 88, 3) := by decide +kernel
theorem d_Mo_crash_49 : decode M_Mo_crash.2.1 49 = .ok (.iload_n 1, 1) := by decide +kernel
theorem d_Mo_crash_50 : decode M_Mo_crash.2.1 50 = .ok (.ireturn, 1) := by decide +kernel
theorem d_Mo_find_0 : decode M_Mo_find.2.1 0 = .ok (.iconst 0, 1) := by decide +kernel
theorem d_Mo_find_1 : decode M_Mo_find.2.1 1 = .ok (.istore_n 2, 1) := by decide +kernel
theorem d_Mo_find_2 : decode M_Mo_find.2.1 2 = .ok (.iload_n 2, 1) := by decide +kernel
theorem d_Mo_find_3 : decode M_Mo_find.2.1 3 = .ok (.aload_n 0, 1) := by decide +kernel
theorem d_Mo_find_4 : decode M_Mo_find.2.1 4 = .ok (.getfield 85, 3) := by decide +kernel
theorem d_Mo_find_7 : decode M_Mo_find.2.1 7 = .ok (.if_icmp .ge 27, 3) := by decide +kernel
theorem d_Mo_find_10 : decode M_Mo_find.2.1 10 = .ok (.aload_n 0, 1) := by decide +kernel
theorem d_Mo_find_11 : decode M_Mo_find.2.1 11 = .ok (.getfield 28, 3) := by decide +kernel
theorem d_Mo_find_14 : decode M_Mo_find.2.1 14 = .ok (.bipush 16, 2) := by decide +kernel
theorem d_Mo_find_16 : decode M_Mo_find.2.1 16 = .ok (.iload_n 2, 1) := by decide +kernel
theorem d_Mo_find_17 : decode M_Mo_find.2.1 17 = .ok (.imul, 1) := by decide +kernel
theorem d_Mo_find_18 : decode M_Mo_find.2.1 18 = .ok (.iaload, 1) := by decide +kernel
theorem d_Mo_find_19 : decode M_Mo_find.2.1 19 = .ok (.iload_n 1, 1) := by decide +kernel
theorem d_Mo_find_20 : decode M_Mo_find.2.1 20 = .ok (.if_icmp .ne 8, 3) := by decide +kernel
theorem d_Mo_find_23 : decode M_Mo_find.2.1 23 = .ok (.bipush 16, 2) := by decide +kernel
theorem d_Mo_find_25 : decode M_Mo_find.2.1 25 = .ok (.iload_n 2, 1) := by decide +kernel
theorem d_Mo_find_26 : decode M_Mo_find.2.1 26 = .ok (.imul, 1) := by decide +kernel
theorem d_Mo_find_27 : decode M_Mo_find.2.1 27 = .ok (.ireturn, 1) := by decide +kernel
theorem d_Mo_find_28 : decode M_Mo_find.2.1 28 = .ok (.iinc 2 1, 3) := by decide +kernel
theorem d_Mo_find_31 : decode M_Mo_find.2.1 31 = .ok (.goto (-29), 3) := by decide +kernel
theorem d_Mo_find_34 : decode M_Mo_find.2.1 34 = .ok (.iconst (-1), 1) := by decide +kernel
theorem d_Mo_find_35 : decode M_Mo_find.2.1 35 = .ok (.ireturn, 1) := by decide +kernel
theorem d_Mo_drop_0 : decode M_Mo_drop.2.1 0 = .ok (.aload_n 0, 1) := by decide +kernel
theorem d_Mo_drop_1 : decode M_Mo_drop.2.1 1 = .ok (.iload_n 1, 1) := by decide +kernel
theorem d_Mo_drop_2 : decode M_Mo_drop.2.1 2 = .ok (.invokevirtual 127, 3) := by decide +kernel
theorem d_Mo_drop_5 : decode M_Mo_drop.2.1 5 = .ok (.istore_n 2, 1) := by decide +kernel
theorem d_Mo_drop_6 : decode M_Mo_drop.2.1 6 = .ok (.iload_n 2, 1) := by decide +kernel
theorem d_Mo_drop_7 : decode M_Mo_drop.2.1 7 = .ok (.ifCond .ge 7, 3) := by decide +kernel
theorem d_Mo_drop_10 : decode M_Mo_drop.2.1 10 = .ok (.sipush (-550), 3) := by decide +kernel
theorem d_Mo_drop_13 : decode M_Mo_drop.2.1 13 = .ok (.ireturn, 1) := by decide +kernel
theorem d_Mo_drop_14 : decode M_Mo_drop.2.1 14 = .ok (.aload_n 0, 1) := by decide +kernel
theorem d_Mo_drop_15 : decode M_Mo_drop.2.1 15 = .ok (.iload_n 2, 1) := by decide +kernel
theorem d_Mo_drop_16 : decode M_Mo_drop.2.1 16 = .ok (.invokevirtual 122, 3) := by decide +kernel
theorem d_Mo_drop_19 : decode M_Mo_drop.2.1 19 = .ok (.aload_n 0, 1) := by decide +kernel
theorem d_Mo_drop_20 : decode M_Mo_drop.2.1 20 = .ok (.dup, 1) := by decide +kernel
theorem d_Mo_drop_21 : decode M_Mo_drop.2.1 21 = .ok (.getfield 88, 3) := by decide +kernel
theorem d_Mo_drop_24 : decode M_Mo_drop.2.1 24 = .ok (.iconst 1, 1) := by decide +kernel
theorem d_Mo_drop_25 : decode M_Mo_drop.2.1 25 = .ok (.iadd, 1) := by decide +kernel
theorem d_Mo_drop_26 : decode M_Mo_drop.2.1 26 = .ok (.putfield 88, 3) := by decide +kernel
theorem d_Mo_drop_29 : decode M_Mo_drop.2.1 29 = .ok (.aload_n 0, 1) := by decide +kernel
theorem d_Mo_drop_30 : decode M_Mo_drop.2.1 30 = .ok (.invokevirtual 133, 3) := by decide +kernel
theorem d_Mo_drop_33 : decode M_Mo_drop.2.1 33 = .ok (.iconst 1, 1) := by decide +kernel
theorem d_Mo_drop_34 : decode M_Mo_drop.2.1 34 = .ok (.ireturn, 1) := by decide +kernel
theorem d_Mo_hurry_0 : decode M_Mo_hurry.2.1 0 = .ok (.aload_n 0, 1) := by decide +kernel
theorem d_Mo_hurry_1 : decode M_Mo_hurry.2.1 1 = .ok (.iload_n 1, 1) := by decide +kernel
theorem d_Mo_hurry_2 : decode M_Mo_hurry.2.1 2 = .ok (.invokevirtual 127, 3) := by decide +kernel
theorem d_Mo_hurry_5 : decode M_Mo_hurry.2.1 5 = .ok (.istore_n 2, 1) := by decide +kernel
theorem d_Mo_hurry_6 : decode M_Mo_hurry.2.1 6 = .ok (.iload_n 2, 1) := by decide +kernel
theorem d_Mo_hurry_7 : decode M_Mo_hurry.2.1 7 = .ok (.ifCond .ge 7, 3) := by decide +kernel
theorem d_Mo_hurry_10 : decode M_Mo_hurry.2.1 10 = .ok (.sipush (-550), 3) := by decide +kernel
theorem d_Mo_hurry_13 : decode M_Mo_hurry.2.1 13 = .ok (.ireturn, 1) := by decide +kernel
theorem d_Mo_hurry_14 : decode M_Mo_hurry.2.1 14 = .ok (.aload_n 0, 1) := by decide +kernel
theorem d_Mo_hurry_15 : decode M_Mo_hurry.2.1 15 = .ok (.iload_n 2, 1) := by decide +kernel
theorem d_Mo_hurry_16 : decode M_Mo_hurry.2.1 16 = .ok (.bipush 13, 2) := by decide +kernel
theorem d_Mo_hurry_18 : decode M_Mo_hurry.2.1 18 = .ok (.iadd, 1) := by decide +kernel
theorem d_Mo_hurry_19 : decode M_Mo_hurry.2.1 19 = .ok (.aload_n 0, 1) := by decide +kernel
theorem d_Mo_hurry_20 : decode M_Mo_hurry.2.1 20 = .ok (.getfield 101, 3) := by decide +kernel
theorem d_Mo_hurry_23 : decode M_Mo_hurry.2.1 23 = .ok (.invokevirtual 111, 3) := by decide +kernel
theorem d_Mo_hurry_26 : decode M_Mo_hurry.2.1 26 = .ok (.aload_n 0, 1) := by decide +kernel
theorem d_Mo_hurry_27 : decode M_Mo_hurry.2.1 27 = .ok (.invokevirtual 133, 3) := by decide +kernel
theorem d_Mo_hurry_30 : decode M_Mo_hurry.2.1 30 = .ok (.iconst 1, 1) := by decide +kernel
theorem d_Mo_hurry_31 : decode M_Mo_hurry.2.1 31 = .ok (.ireturn, 1) := by decide +kernel
theorem d_Mo_count_0 : decode M_Mo_count.2.1 0 = .ok (.iconst 0, 1) := by decide +kernel
theorem d_Mo_count_1 : decode M_Mo_count.2.1 1 = .ok (.istore_n 2, 1) := by decide +kernel
theorem d_Mo_count_2 : decode M_Mo_count.2.1 2 = .ok (.iconst 0, 1) := by decide +kernel
theorem d_Mo_count_3 : decode M_Mo_count.2.1 3 = .ok (.istore_n 3, 1) := by decide +kernel
theorem d_Mo_count_4 : decode M_Mo_count.2.1 4 = .ok (.iload_n 3, 1) := by decide +kernel
theorem d_Mo_count_5 : decode M_Mo_count.2.1 5 = .ok (.aload_n 0, 1) := by decide +kernel
theorem d_Mo_count_6 : decode M_Mo_count.2.1 6 = .ok (.getfield 85, 3) := by decide +kernel
theorem d_Mo_count_9 : decode M_Mo_count.2.1 9 = .ok (.if_icmp .ge 21, 3) := by decide +kernel
theorem d_Mo_count_12 : decode M_Mo_count.2.1 12 = .ok (.iload_n 2, 1) := by decide +kernel
theorem d_Mo_count_13 : decode M_Mo_count.2.1 13 = .ok (.aload_n 0, 1) := by decide +kernel
theorem d_Mo_count_14 : decode M_Mo_count.2.1 14 = .ok (.bipush 16, 2) := by decide +kernel
theorem d_Mo_count_16 : decode M_Mo_count.2.1 16 = .ok (.iload_n 3, 1) := by decide +kernel
theorem d_Mo_count_17 : decode M_Mo_count.2.1 17 = .ok (.imul, 1) := by decide +kernel
theorem d_Mo_count_18 : decode M_Mo_count.2.1 18 = .ok (.iconst 1, 1) := by decide +kernel
theorem d_Mo_count_19 : decode M_Mo_count.2.1 19 = .ok (.invokevirtual 118, 3) := by decide +kernel
theorem d_Mo_count_22 : decode M_Mo_count.2.1 22 = .ok (.iadd, 1) := by decide +kernel
theorem d_Mo_count_23 : decode M_Mo_count.2.1 23 = .ok (.istore_n 2, 1) := by decide +kernel
theorem d_Mo_count_24 : decode M_Mo_count.2.1 24 = .ok (.iinc 3 1, 3) := by decide +kernel
theorem d_Mo_count_27 : decode M_Mo_count.2.1 27 = .ok (.goto (-23), 3) := by decide +kernel
theorem d_Mo_count_30 : decode M_Mo_count.2.1 30 = .ok (.iload_n 1, 1) := by decide +kernel
theorem d_Mo_count_31 : decode M_Mo_count.2.1 31 = .ok (.tableswitch 84 0 6 #[41, 46, 51, 53, 58, 63, 68], 41) := by decide +kernel
theorem d_Mo_count_72 : decode M_Mo_count.2.1 72 = .ok (.aload_n 0, 1) := by decide +kernel
theorem d_Mo_count_73 : decode M_Mo_count.2.1 73 = .ok (.getfield 85, 3) := by decide +kernel
theorem d_Mo_count_76 : decode M_Mo_count.2.1 76 = .ok (.ireturn, 1) := by decide +kernel
theorem d_Mo_count_77 : decode M_Mo_count.2.1 77 = .ok (.aload_n 0, 1) := by decide +kernel
theorem d_Mo_count_78 : decode M_Mo_count.2.1 78 = .ok (.invokevirtual 94, 3) := by decide +kernel
theorem d_Mo_count_81 : decode M_Mo_count.2.1 81 = .ok (.ireturn, 1) := by decide +kernel
theorem d_Mo_count_82 : decode M_Mo_count.2.1 82 = .ok (.iload_n 2, 1) := by decide +kernel
theorem d_Mo_count_83 : decode M_Mo_count.2.1 83 = .ok (.ireturn, 1) := by decide +kernel
theorem d_Mo_count_84 : decode M_Mo_count.2.1 84 = .ok (.aload_n 0, 1) := by decide +kernel
theorem d_Mo_count_85 : decode M_Mo_count.2.1 85 = .ok (.getfield 88, 3) := by decide +kernel
theorem d_Mo_count_88 : decode M_Mo_count.2.1 88 = .ok (.ireturn, 1) := by decide +kernel
theorem d_Mo_count_89 : decode M_Mo_count.2.1 89 = .ok (.aload_n 0, 1) := by decide +kernel
theorem d_Mo_count_90 : decode M_Mo_count.2.1 90 = .ok (.getfield 101, 3) := by decide +kernel
theorem d_Mo_count_93 : decode M_Mo_count.2.1 93 = .ok (.ireturn, 1) := by decide +kernel
theorem d_Mo_count_94 : decode M_Mo_count.2.1 94 = .ok (.aload_n 0, 1) := by decide +kernel
theorem d_Mo_count_95 : decode M_Mo_count.2.1 95 = .ok (.getfield 98, 3) := by decide +kernel
theorem d_Mo_count_98 : decode M_Mo_count.2.1 98 = .ok (.ireturn, 1) := by decide +kernel
theorem d_Mo_count_99 : decode M_Mo_count.2.1 99 = .ok (.aload_n 0, 1) := by decide +kernel
theorem d_Mo_count_100 : decode M_Mo_count.2.1 100 = .ok (.getfield 67, 3) := by decide +kernel
theorem d_Mo_count_103 : decode M_Mo_count.2.1 103 = .ok (.ifCond .eq 10, 3) := by decide +kernel
theorem d_Mo_count_106 : decode M_Mo_count.2.1 106 = .ok (.aload_n 0, 1) := by decide +kernel
theorem d_Mo_count_107 : decode M_Mo_count.2.1 107 = .ok (.getfield 74, 3) := by decide +kernel
theorem d_Mo_count_110 : decode M_Mo_count.2.1 110 = .ok (.goto 4, 3) := by decide +kernel
theorem d_Mo_count_113 : decode M_Mo_count.2.1 113 = .ok (.iconst (-1), 1) := by decide +kernel
theorem d_Mo_count_114 : decode M_Mo_count.2.1 114 = .ok (.ireturn, 1) := by decide +kernel
theorem d_Mo_count_115 : decode M_Mo_count.2.1 115 = .ok (.sipush (-501), 3) := by decide +kernel
theorem d_Mo_count_118 : decode M_Mo_count.2.1 118 = .ok (.ireturn, 1) := by decide +kernel
theorem d_Mo_message_0 : decode M_Mo_message.2.1 0 = .ok (.iload_n 1, 1) := by decide +kernel
theorem d_Mo_message_1 : decode M_Mo_message.2.1 1 = .ok (.ifCond .lt 11, 3) := by decide +kernel
theorem d_Mo_message_4 : decode M_Mo_message.2.1 4 = .ok (.iload_n 1, 1) := by decide +kernel
theorem d_Mo_message_5 : decode M_Mo_message.2.1 5 = .ok (.aload_n 0, 1) := by decide +kernel
theorem d_Mo_message_6 : decode M_Mo_message.2.1 6 = .ok (.getfield 85, 3) := by decide +kernel
theorem d_Mo_message_9 : decode M_Mo_message.2.1 9 = .ok (.if_icmp .lt 7, 3) := by decide +kernel
theorem d_Mo_message_12 : decode M_Mo_message.2.1 12 = .ok (.iconst 0, 1) := by decide +kernel
theorem d_Mo_message_13 : decode M_Mo_message.2.1 13 = .ok (.goto 12, 3) := by decide +kernel
theorem d_Mo_message_16 : decode M_Mo_message.2.1 16 = .ok (.aload_n 0, 1) := by decide +kernel
theorem d_Mo_message_17 : decode M_Mo_message.2.1 17 = .ok (.getfield 28, 3) := by decide +kernel
theorem d_Mo_message_20 : decode M_Mo_message.2.1 20 = .ok (.bipush 16, 2) := by decide +kernel
theorem d_Mo_message_22 : decode M_Mo_message.2.1 22 = .ok (.iload_n 1, 1) := by decide +kernel
theorem d_Mo_message_23 : decode M_Mo_message.2.1 23 = .ok (.imul, 1) := by decide +kernel
theorem d_Mo_message_24 : decode M_Mo_message.2.1 24 = .ok (.iaload, 1) := by decide +kernel
theorem d_Mo_message_25 : decode M_Mo_message.2.1 25 = .ok (.ireturn, 1) := by decide +kernel
theorem d_Mo_status_0 : decode M_Mo_status.2.1 0 = .ok (.aload_n 0, 1) := by decide +kernel
theorem d_Mo_status_1 : decode M_Mo_status.2.1 1 = .ok (.iload_n 1, 1) := by decide +kernel
theorem d_Mo_status_2 : decode M_Mo_status.2.1 2 = .ok (.invokevirtual 127, 3) := by decide +kernel
theorem d_Mo_status_5 : decode M_Mo_status.2.1 5 = .ok (.istore_n 3, 1) := by decide +kernel
theorem d_Mo_status_6 : decode M_Mo_status.2.1 6 = .ok (.iconst 0, 1) := by decide +kernel
theorem d_Mo_status_7 : decode M_Mo_status.2.1 7 = .ok (.istore 4, 2) := by decide +kernel
theorem d_Mo_status_9 : decode M_Mo_status.2.1 9 = .ok (.iload_n 3, 1) := by decide +kernel
theorem d_Mo_status_10 : decode M_Mo_status.2.1 10 = .ok (.ifCond .lt 50, 3) := by decide +kernel
theorem d_Mo_status_13 : decode M_Mo_status.2.1 13 = .ok (.iload 4, 2) := by decide +kernel
theorem d_Mo_status_15 : decode M_Mo_status.2.1 15 = .ok (.aload_n 0, 1) := by decide +kernel
theorem d_Mo_status_16 : decode M_Mo_status.2.1 16 = .ok (.getfield 28, 3) := by decide +kernel
theorem d_Mo_status_19 : decode M_Mo_status.2.1 19 = .ok (.iload_n 3, 1) := by decide +kernel
theorem d_Mo_status_20 : decode M_Mo_status.2.1 20 = .ok (.iconst 3, 1) := by decide +kernel
theorem d_Mo_status_21 : decode M_Mo_status.2.1 21 = .ok (.iadd, 1) := by decide +kernel
theorem d_Mo_status_22 : decode M_Mo_status.2.1 22 = .ok (.iaload, 1) := by decide +kernel
theorem d_Mo_status_23 : decode M_Mo_status.2.1 23 = .ok (.if_icmp .ge 37, 3) := by decide +kernel
theorem d_Mo_status_26 : decode M_Mo_status.2.1 26 = .ok (.aload_n 0, 1) := by decide +kernel
theorem d_Mo_status_27 : decode M_Mo_status.2.1 27 = .ok (.getfield 28, 3) := by decide +kernel
theorem d_Mo_status_30 : decode M_Mo_status.2.1 30 = .ok (.iload_n 3, 1) := by decide +kernel
theorem d_Mo_status_31 : decode M_Mo_status.2.1 31 = .ok (.iconst 4, 1) := by decide +kernel
theorem d_Mo_status_32 : decode M_Mo_status.2.1 32 = .ok (.iadd, 1) := by decide +kernel
theorem d_Mo_status_33 : decode M_Mo_status.2.1 33 = .ok (.iload 4, 2) := by decide +kernel
theorem d_Mo_status_35 : decode M_Mo_status.2.1 35 = .ok (.iadd, 1) := by decide +kernel
theorem d_Mo_status_36 : decode M_Mo_status.2.1 36 = .ok (.iaload, 1) := by decide +kernel
theorem d_Mo_status_37 : decode M_Mo_status.2.1 37 = .ok (.iload_n 2, 1) := by decide +kernel
theorem d_Mo_status_38 : decode M_Mo_status.2.1 38 = .ok (.if_icmp .ne 16, 3) := by decide +kernel
theorem d_Mo_status_41 : decode M_Mo_status.2.1 41 = .ok (.aload_n 0, 1) := by decide +kernel
theorem d_Mo_status_42 : decode M_Mo_status.2.1 42 = .ok (.getfield 28, 3) := by decide +kernel
theorem d_Mo_status_45 : decode M_Mo_status.2.1 45 = .ok (.iload_n 3, 1) := by decide +kernel
theorem d_Mo_status_46 : decode M_Mo_status.2.1 46 = .ok (.bipush 8, 2) := by decide +kernel
theorem d_Mo_status_48 : decode M_Mo_status.2.1 48 = .ok (.iadd, 1) := by decide +kernel
theorem d_Mo_status_49 : decode M_Mo_status.2.1 49 = .ok (.iload 4, 2) := by decide +kernel
theorem d_Mo_status_51 : decode M_Mo_status.2.1 51 = .ok (.iadd, 1) := by decide +kernel
theorem d_Mo_status_52 : decode M_Mo_status.2.1 52 = .ok (.iaload, 1) := by decide +kernel
theorem d_Mo_status_53 : decode M_Mo_status.2.1 53 = .ok (.ireturn, 1) := by decide +kernel
theorem d_Mo_status_54 : decode M_Mo_status.2.1 54 = .ok (.iinc 4 1, 3) := by decide +kernel
theorem d_Mo_status_57 : decode M_Mo_status.2.1 57 = .ok (.goto (-48), 3) := by decide +kernel
theorem d_Mo_status_60 : decode M_Mo_status.2.1 60 = .ok (.iconst 0, 1) := by decide +kernel
theorem d_Mo_status_61 : decode M_Mo_status.2.1 61 = .ok (.ireturn, 1) := by decide +kernel
theorem d_Mo_sender_0 : decode M_Mo_sender.2.1 0 = .ok (.aload_n 0, 1) := by decide +kernel
theorem d_Mo_sender_1 : decode M_Mo_sender.2.1 1 = .ok (.iload_n 1, 1) := by decide +kernel
theorem d_Mo_sender_2 : decode M_Mo_sender.2.1 2 = .ok (.invokevirtual 127, 3) := by decide +kernel
theorem d_Mo_sender_5 : decode M_Mo_sender.2.1 5 = .ok (.istore_n 2, 1) := by decide +kernel
theorem d_Mo_sender_6 : decode M_Mo_sender.2.1 6 = .ok (.iload_n 2, 1) := by decide +kernel
theorem d_Mo_sender_7 : decode M_Mo_sender.2.1 7 = .ok (.ifCond .ge 8, 3) := by decide +kernel
theorem d_Mo_sender_10 : decode M_Mo_sender.2.1 10 = .ok (.bipush (-2), 2) := by decide +kernel
theorem d_Mo_sender_12 : decode M_Mo_sender.2.1 12 = .ok (.goto 11, 3) := by decide +kernel
theorem d_Mo_sender_15 : decode M_Mo_sender.2.1 15 = .ok (.aload_n 0, 1) := by decide +kernel
theorem d_Mo_sender_16 : decode M_Mo_sender.2.1 16 = .ok (.getfield 28, 3) := by decide +kernel
theorem d_Mo_sender_19 : decode M_Mo_sender.2.1 19 = .ok (.iload_n 2, 1) := by decide +kernel
theorem d_Mo_sender_20 : decode M_Mo_sender.2.1 20 = .ok (.iconst 1, 1) := by decide +kernel
theorem d_Mo_sender_21 : decode M_Mo_sender.2.1 21 = .ok (.iadd, 1) := by decide +kernel
theorem d_Mo_sender_22 : decode M_Mo_sender.2.1 22 = .ok (.iaload, 1) := by decide +kernel
theorem d_Mo_sender_23 : decode M_Mo_sender.2.1 23 = .ok (.ireturn, 1) := by decide +kernel
theorem d_Mo_due_0 : decode M_Mo_due.2.1 0 = .ok (.aload_n 0, 1) := by decide +kernel
theorem d_Mo_due_1 : decode M_Mo_due.2.1 1 = .ok (.iload_n 1, 1) := by decide +kernel
theorem d_Mo_due_2 : decode M_Mo_due.2.1 2 = .ok (.invokevirtual 127, 3) := by decide +kernel
theorem d_Mo_due_5 : decode M_Mo_due.2.1 5 = .ok (.istore_n 2, 1) := by decide +kernel
theorem d_Mo_due_6 : decode M_Mo_due.2.1 6 = .ok (.iload_n 2, 1) := by decide +kernel
theorem d_Mo_due_7 : decode M_Mo_due.2.1 7 = .ok (.ifCond .ge 7, 3) := by decide +kernel
theorem d_Mo_due_10 : decode M_Mo_due.2.1 10 = .ok (.iconst (-1), 1) := by decide +kernel
theorem d_Mo_due_11 : decode M_Mo_due.2.1 11 = .ok (.goto 12, 3) := by decide +kernel
theorem d_Mo_due_14 : decode M_Mo_due.2.1 14 = .ok (.aload_n 0, 1) := by decide +kernel
theorem d_Mo_due_15 : decode M_Mo_due.2.1 15 = .ok (.getfield 28, 3) := by decide +kernel
theorem d_Mo_due_18 : decode M_Mo_due.2.1 18 = .ok (.iload_n 2, 1) := by decide +kernel
theorem d_Mo_due_19 : decode M_Mo_due.2.1 19 = .ok (.bipush 13, 2) := by decide +kernel
theorem d_Mo_due_21 : decode M_Mo_due.2.1 21 = .ok (.iadd, 1) := by decide +kernel
theorem d_Mo_due_22 : decode M_Mo_due.2.1 22 = .ok (.iaload, 1) := by decide +kernel
theorem d_Mo_due_23 : decode M_Mo_due.2.1 23 = .ok (.ireturn, 1) := by decide +kernel
theorem d_Mo_received_0 : decode M_Mo_received.2.1 0 = .ok (.iload_n 2, 1) := by decide +kernel
theorem d_Mo_received_1 : decode M_Mo_received.2.1 1 = .ok (.iconst 3, 1) := by decide +kernel
theorem d_Mo_received_2 : decode M_Mo_received.2.1 2 = .ok (.invokestatic 63, 3) := by decide +kernel
theorem d_Mo_received_5 : decode M_Mo_received.2.1 5 = .ok (.ifCond .ne 22, 3) := by decide +kernel
theorem d_Mo_received_8 : decode M_Mo_received.2.1 8 = .ok (.iload_n 1, 1) := by decide +kernel
theorem d_Mo_received_9 : decode M_Mo_received.2.1 9 = .ok (.iload_n 2, 1) := by decide +kernel
theorem d_Mo_received_10 : decode M_Mo_received.2.1 10 = .ok (.iconst 3, 1) := by decide +kernel
theorem d_Mo_received_11 : decode M_Mo_received.2.1 11 = .ok (.if_icmp .ne 8, 3) := by decide +kernel
theorem d_Mo_received_14 : decode M_Mo_received.2.1 14 = .ok (.bipush 7, 2) := by decide +kernel
theorem d_Mo_received_16 : decode M_Mo_received.2.1 16 = .ok (.goto 5, 3) := by decide +kernel
theorem d_Mo_received_19 : decode M_Mo_received.2.1 19 = .ok (.bipush 63, 2) := by decide +kernel
theorem d_Mo_received_21 : decode M_Mo_received.2.1 21 = .ok (.invokestatic 63, 3) := by decide +kernel
theorem d_Mo_received_24 : decode M_Mo_received.2.1 24 = .ok (.ifCond .eq 7, 3) := by decide +kernel
theorem d_Mo_received_27 : decode M_Mo_received.2.1 27 = .ok (.sipush (-501), 3) := by decide +kernel
theorem d_Mo_received_30 : decode M_Mo_received.2.1 30 = .ok (.ireturn, 1) := by decide +kernel
theorem d_Mo_received_31 : decode M_Mo_received.2.1 31 = .ok (.iload_n 2, 1) := by decide +kernel
theorem d_Mo_received_32 : decode M_Mo_received.2.1 32 = .ok (.ifCond .ne 12, 3) := by decide +kernel
theorem d_Mo_received_35 : decode M_Mo_received.2.1 35 = .ok (.aload_n 0, 1) := by decide +kernel
theorem d_Mo_received_36 : decode M_Mo_received.2.1 36 = .ok (.getfield 37, 3) := by decide +kernel
theorem d_Mo_received_39 : decode M_Mo_received.2.1 39 = .ok (.iload_n 1, 1) := by decide +kernel
theorem d_Mo_received_40 : decode M_Mo_received.2.1 40 = .ok (.iaload, 1) := by decide +kernel
theorem d_Mo_received_41 : decode M_Mo_received.2.1 41 = .ok (.goto 37, 3) := by decide +kernel
theorem d_Mo_received_44 : decode M_Mo_received.2.1 44 = .ok (.iload_n 2, 1) := by decide +kernel
theorem d_Mo_received_45 : decode M_Mo_received.2.1 45 = .ok (.iconst 1, 1) := by decide +kernel
theorem d_Mo_received_46 : decode M_Mo_received.2.1 46 = .ok (.if_icmp .ne 12, 3) := by decide +kernel
theorem d_Mo_received_49 : decode M_Mo_received.2.1 49 = .ok (.aload_n 0, 1) := by decide +kernel
theorem d_Mo_received_50 : decode M_Mo_received.2.1 50 = .ok (.getfield 40, 3) := by decide +kernel
theorem d_Mo_received_53 : decode M_Mo_received.2.1 53 = .ok (.iload_n 1, 1) := by decide +kernel
theorem d_Mo_received_54 : decode M_Mo_received.2.1 54 = .ok (.iaload, 1) := by decide +kernel
theorem d_Mo_received_55 : decode M_Mo_received.2.1 55 = .ok (.goto 23, 3) := by decide +kernel
theorem d_Mo_received_58 : decode M_Mo_received.2.1 58 = .ok (.iload_n 2, 1) := by decide +kernel
theorem d_Mo_received_59 : decode M_Mo_received.2.1 59 = .ok (.iconst 2, 1) := by decide +kernel
theorem d_Mo_received_60 : decode M_Mo_received.2.1 60 = .ok (.if_icmp .ne 12, 3) := by decide +kernel
theorem d_Mo_received_63 : decode M_Mo_received.2.1 63 = .ok (.aload_n 0, 1) := by decide +kernel
theorem d_Mo_received_64 : decode M_Mo_received.2.1 64 = .ok (.getfield 43, 3) := by decide +kernel
theorem d_Mo_received_67 : decode M_Mo_received.2.1 67 = .ok (.iload_n 1, 1) := by decide +kernel
theorem d_Mo_received_68 : decode M_Mo_received.2.1 68 = .ok (.iaload, 1) := by decide +kernel
theorem d_Mo_received_69 : decode M_Mo_received.2.1 69 = .ok (.goto 9, 3) := by decide +kernel
theorem d_Mo_received_72 : decode M_Mo_received.2.1 72 = .ok (.aload_n 0, 1) := by decide +kernel
theorem d_Mo_received_73 : decode M_Mo_received.2.1 73 = .ok (.getfield 46, 3) := by decide +kernel
theorem d_Mo_received_76 : decode M_Mo_received.2.1 76 = .ok (.iload_n 1, 1) := by decide +kernel
theorem d_Mo_received_77 : decode M_Mo_received.2.1 77 = .ok (.iaload, 1) := by decide +kernel
theorem d_Mo_received_78 : decode M_Mo_received.2.1 78 = .ok (.ireturn, 1) := by decide +kernel
end
section
/-! ===== lN n to 2^64: shifts, and, or, masks, one bit ===== -/
theorem wb_tb (n : Nat) : (lN n).toBitVec = BitVec.ofNat 64 n := rfl
theorem wb_inj {a b : Int64} (h : a.toBitVec = b.toBitVec) : a = b := Int64.toBitVec_inj.mp h
theorem wb_tn {n : Nat} (h : n < 2 ^ 64) : (lN n).toBitVec.toNat = n := by rw [wb_tb, BitVec.toNat_ofNat, Nat.mod_eq_of_lt h]
theorem wb_of (x : Int64) : ∃ n, n < 2 ^ 64 ∧ x = lN n := ⟨x.toBitVec.toNat, x.toBitVec.isLt, wb_inj (by rw [wb_tb]; simp)⟩
theorem wb_of32 (x : Int32) : ∃ n, n < 2 ^ 32 ∧ x = nI n := ⟨x.toBitVec.toNat, x.toBitVec.isLt, Int32.toBitVec_inj.mp (by show _ = BitVec.ofNat 32 _; simp)⟩
theorem wb_c : ∀ k, k < 64 → ((nI k).toInt64 &&& 63) = lN k := by decide +kernel
theorem wb_cu : ∀ k, k < 64 → ((nI k).toInt64.toUInt64 &&& Int64.toUInt64 63) = UInt64.ofNat k := by decide +kernel
theorem wb_sm : ∀ k, k < 64 → (BitVec.ofNat 64 k).smod 64 = BitVec.ofNat 64 k := by decide +kernel
theorem wb_pw {a b : Nat} (h : a ≤ b) : 2 ^ b = 2 ^ a * 2 ^ (b - a) := by rw [← Nat.pow_add]; congr 1; omega
theorem wb_lt2 {a b : Nat} (h : a < b) : 2 ^ a < 2 ^ b := Nat.pow_lt_pow_right (by decide) h
theorem wb_mod (n : Nat) : lN n = lN (n % 2 ^ 64) := wb_inj (by rw [wb_tb, wb_tb]; apply BitVec.eq_of_toNat_eq; rw [BitVec.toNat_ofNat, BitVec.toNat_ofNat, Nat.mod_mod])
theorem wb_shr {n k : Nat} (hn : n < 2 ^ 64) (hk : k < 64) : ((lN n).toUInt64 >>> ((nI k).toInt64.toUInt64 &&& Int64.toUInt64 63)).toInt64 = lN (n / 2 ^ k) := by
  rw [wb_cu k hk]
  apply wb_inj
  apply BitVec.eq_of_toNat_eq
  show ((lN n).toUInt64 >>> UInt64.ofNat k).toNat = (BitVec.ofNat 64 _).toNat
  have h1 : (UInt64.ofNat k).toNat = k := by
    show (BitVec.ofNat 64 k).toNat = k
    rw [BitVec.toNat_ofNat, Nat.mod_eq_of_lt (by omega)]
  have h2 : (lN n).toUInt64.toNat = n := wb_tn hn
  rw [UInt64.toNat_shiftRight, h1, h2, Nat.mod_eq_of_lt hk, Nat.shiftRight_eq_div_pow, BitVec.toNat_ofNat, Nat.mod_eq_of_lt (Nat.lt_of_le_of_lt (Nat.div_le_self _ _) hn)]
theorem wb_shl (n : Nat) {k : Nat} (hk : k < 64) : lN n <<< ((nI k).toInt64 &&& 63) = lN (n * 2 ^ k) := by
  rw [wb_c k hk]
  apply wb_inj
  rw [Int64.toBitVec_shiftLeft, wb_tb, wb_tb, wb_tb, wb_sm k hk]
  apply BitVec.eq_of_toNat_eq
  rw [BitVec.shiftLeft_eq', BitVec.toNat_shiftLeft, BitVec.toNat_ofNat, BitVec.toNat_ofNat, BitVec.toNat_ofNat, Nat.mod_eq_of_lt (show k < 2 ^ 64 by omega), Nat.shiftLeft_eq, Nat.mul_mod, Nat.mod_mod, ← Nat.mul_mod]
theorem wb_and {a b : Nat} (ha : a < 2 ^ 64) (hb : b < 2 ^ 64) : lN a &&& lN b = lN (a &&& b) := by
  apply wb_inj
  rw [Int64.toBitVec_and, wb_tb, wb_tb, wb_tb]
  apply BitVec.eq_of_toNat_eq
  rw [BitVec.toNat_and, BitVec.toNat_ofNat, BitVec.toNat_ofNat, BitVec.toNat_ofNat, Nat.mod_eq_of_lt ha, Nat.mod_eq_of_lt hb, Nat.mod_eq_of_lt (Nat.and_lt_two_pow _ hb)]
theorem wb_or {a b : Nat} (ha : a < 2 ^ 64) (hb : b < 2 ^ 64) : lN a ||| lN b = lN (a ||| b) := by
  apply wb_inj
  rw [Int64.toBitVec_or, wb_tb, wb_tb, wb_tb]
  apply BitVec.eq_of_toNat_eq
  rw [BitVec.toNat_or, BitVec.toNat_ofNat, BitVec.toNat_ofNat, BitVec.toNat_ofNat, Nat.mod_eq_of_lt ha, Nat.mod_eq_of_lt hb, Nat.mod_eq_of_lt (Nat.or_lt_two_pow ha hb)]
theorem wb_mask {n k : Nat} (hn : n < 2 ^ 64) (hk : k < 64) : lN n &&& lN (2 ^ k - 1) = lN (n % 2 ^ k) := by
  rw [wb_and hn (by have := wb_lt2 hk; omega), Nat.and_two_pow_sub_one_eq_mod]
theorem wb_a1 {n : Nat} (hn : n < 2 ^ 64) : lN n &&& 1 = lN (n % 2) := wb_mask (k := 1) hn (by decide)
theorem wb_bit {n k : Nat} (hn : n < 2 ^ 64) (hk : k < 64) : ((lN n).toUInt64 >>> ((nI k).toInt64.toUInt64 &&& Int64.toUInt64 63)).toInt64 &&& 1 = lN (n / 2 ^ k % 2) := by
  rw [wb_shr hn hk, wb_a1 (Nat.lt_of_le_of_lt (Nat.div_le_self _ _) hn)]
theorem lN_bv (n : Nat) : (lN n).toBitVec = BitVec.ofNat 64 n := rfl
theorem lN_nat {n : Nat} (h : n < 2 ^ 64) : (lN n).toBitVec.toNat = n := by rw [lN_bv, BitVec.toNat_ofNat]; exact Nat.mod_eq_of_lt h
theorem lN_xor (a b : Nat) : lN a ^^^ lN b = lN (a ^^^ b) := by
  apply Int64.toBitVec_inj.mp; rw [Int64.toBitVec_xor, lN_bv, lN_bv, lN_bv]; apply BitVec.eq_of_getLsbD_eq; intro i hi; simp [BitVec.getLsbD_ofNat, Nat.testBit_xor, hi]
/-! population count: Long.bitCount's arithmetic, byte by byte -/
def pp_c (n : Nat) : Nat → Nat
  | 0 => 0
  | k + 1 => pp_c n k + n / 2 ^ k % 2
def pp_m (v : Nat) : Nat → Nat
  | 0 => 0
  | k + 1 => v + 256 * pp_m v k
theorem pp_and {a c m w : Nat} (ha : a < 256) (hm : m < 256) : (a + 256 * c) &&& (m + 256 * w) = (a &&& m) + 256 * (c &&& w) := by
  have h1 : ((a + 256 * c) &&& (m + 256 * w)) % 2 ^ 8 = ((a + 256 * c) % 2 ^ 8) &&& ((m + 256 * w) % 2 ^ 8) := Nat.and_mod_two_pow
  have h2 : ((a + 256 * c) &&& (m + 256 * w)) / 2 ^ 8 = ((a + 256 * c) / 2 ^ 8) &&& ((m + 256 * w) / 2 ^ 8) := Nat.and_div_two_pow
  rw [show (a + 256 * c) % 2 ^ 8 = a by omega, show (m + 256 * w) % 2 ^ 8 = m by omega] at h1
  rw [show (a + 256 * c) / 2 ^ 8 = c by omega, show (m + 256 * w) / 2 ^ 8 = w by omega] at h2
  omega
def pp_1 (k n : Nat) : Nat := n - (n / 2 &&& pp_m 0x55 k)
def pp_2 (k n : Nat) : Nat := (n &&& pp_m 0x33 k) + (n / 4 &&& pp_m 0x33 k)
def pp_3 (k n : Nat) : Nat := (n + n / 16) &&& pp_m 0x0f k
def pp_q1 (b : Nat) : Nat := b - (b / 2 &&& 0x55)
def pp_q2 (b : Nat) : Nat := (b &&& 0x33) + (b / 4 &&& 0x33)
theorem pp_d1 : ∀ b, b < 256 → ∀ r, r < 2 → (b / 2 + 128 * r) &&& 0x55 = b / 2 &&& 0x55 := by decide +kernel
theorem pp_d2 : ∀ b, b < 256 → ∀ r, r < 4 → (b / 4 + 64 * r) &&& 0x33 = b / 4 &&& 0x33 := by decide +kernel
theorem pp_d3 : ∀ b, b < 256 → ∀ r, r < 5 → pp_q2 (pp_q1 b) < 256 ∧ pp_q1 b < 256 ∧ pp_q2 (pp_q1 b) % 16 ≤ 4 ∧ pp_q2 (pp_q1 b) + pp_q2 (pp_q1 b) / 16 + 16 * r < 256 ∧ (pp_q2 (pp_q1 b) + pp_q2 (pp_q1 b) / 16 + 16 * r) &&& 0x0f = pp_c b 8 ∧ pp_c b 8 ≤ 8 := by decide +kernel
theorem pp_1s {b n k : Nat} (hb : b < 256) : pp_1 (k + 1) (b + 256 * n) = pp_q1 b + 256 * pp_1 k n := by
  unfold pp_1 pp_q1
  rw [show (b + 256 * n) / 2 = (b / 2 + 128 * (n % 2)) + 256 * (n / 2) by omega]
  show _ - ((b / 2 + 128 * (n % 2) + 256 * (n / 2)) &&& (0x55 + 256 * pp_m 0x55 k)) = _
  rw [pp_and (by omega) (by omega), pp_d1 b hb _ (by omega)]
  have h1 : b / 2 &&& 0x55 ≤ b / 2 := Nat.and_le_left
  have h2 : n / 2 &&& pp_m 0x55 k ≤ n / 2 := Nat.and_le_left
  omega
theorem pp_2s {b n k : Nat} (hb : b < 256) : pp_2 (k + 1) (b + 256 * n) = pp_q2 b + 256 * pp_2 k n := by
  unfold pp_2 pp_q2
  rw [show (b + 256 * n) / 4 = (b / 4 + 64 * (n % 4)) + 256 * (n / 4) by omega]
  show ((b + 256 * n) &&& (0x33 + 256 * pp_m 0x33 k)) + ((b / 4 + 64 * (n % 4) + 256 * (n / 4)) &&& (0x33 + 256 * pp_m 0x33 k)) = _
  rw [pp_and hb (by omega), pp_and (by omega) (by omega), pp_d2 b hb _ (by omega)]
  omega
theorem pp_12 {b n k : Nat} (hb : b < 256) : pp_2 (k + 1) (pp_1 (k + 1) (b + 256 * n)) = pp_q2 (pp_q1 b) + 256 * pp_2 k (pp_1 k n) := by
  rw [pp_1s hb, pp_2s (pp_d3 b hb 0 (by omega)).2.1]
theorem pp_12m : ∀ (k n : Nat), n < 256 ^ k → pp_2 k (pp_1 k n) % 16 ≤ 4
  | 0, n, h => by
    have : n = 0 := by simpa using h
    subst this
    decide
  | k + 1, n, h => by
    have e : n = n % 256 + 256 * (n / 256) := by omega
    rw [e, pp_12 (by omega)]
    have := (pp_d3 (n % 256) (by omega) 0 (by omega)).2.2.1
    omega
theorem pp_123 {b n k : Nat} (hb : b < 256) (hn : n < 256 ^ k) : pp_3 (k + 1) (pp_2 (k + 1) (pp_1 (k + 1) (b + 256 * n))) = pp_c b 8 + 256 * pp_3 k (pp_2 k (pp_1 k n)) := by
  rw [pp_12 hb]
  have hm := pp_12m k n hn
  generalize pp_2 k (pp_1 k n) = m at hm ⊢
  have hd := pp_d3 b hb (m % 16) (by omega)
  generalize pp_q2 (pp_q1 b) = q at hd ⊢
  unfold pp_3
  rw [show q + 256 * m + (q + 256 * m) / 16 = (q + q / 16 + 16 * (m % 16)) + 256 * (m + m / 16) by omega]
  show (q + q / 16 + 16 * (m % 16) + 256 * (m + m / 16)) &&& (0x0f + 256 * pp_m 0x0f k) = _
  rw [pp_and hd.2.2.2.1 (by omega), hd.2.2.2.2.1]
theorem pp_c8 {b n : Nat} (hb : b < 256) : pp_c (b + 256 * n) 8 = pp_c b 8 := by
  simp only [pp_c]
  omega
theorem pp_ck {b n : Nat} (hb : b < 256) : ∀ k, pp_c (b + 256 * n) (8 + k) = pp_c b 8 + pp_c n k
  | 0 => by rw [Nat.add_zero, pp_c8 hb]; rfl
  | k + 1 => by
    show pp_c (b + 256 * n) (8 + k) + (b + 256 * n) / 2 ^ (8 + k) % 2 = pp_c b 8 + (pp_c n k + n / 2 ^ k % 2)
    rw [pp_ck hb k, Nat.pow_add, ← Nat.div_div_eq_div_mul, show (b + 256 * n) / 2 ^ 8 = n by omega]
    omega
theorem pp_small (b : Nat) : pp_c b 8 ≤ 8 := by
  simp only [pp_c]
  omega
/-- the whole of it over Nat -/
theorem pp_all (n : Nat) (hn : n < 2 ^ 64) : let v := pp_3 8 (pp_2 8 (pp_1 8 n)); let w4 := v + v / 256; let w5 := w4 + w4 / 65536; let w6 := w5 + w5 / 4294967296; v < 2 ^ 60 ∧ w6 % 128 = pp_c n 64 := by
  obtain ⟨b0, m0, h0, e0⟩ : ∃ b m, b < 256 ∧ n = b + 256 * m := ⟨n % 256, n / 256, by omega, by omega⟩
  obtain ⟨b1, m1, h1, e1⟩ : ∃ b m, b < 256 ∧ m0 = b + 256 * m := ⟨m0 % 256, m0 / 256, by omega, by omega⟩
  obtain ⟨b2, m2, h2, e2⟩ : ∃ b m, b < 256 ∧ m1 = b + 256 * m := ⟨m1 % 256, m1 / 256, by omega, by omega⟩
  obtain ⟨b3, m3, h3, e3⟩ : ∃ b m, b < 256 ∧ m2 = b + 256 * m := ⟨m2 % 256, m2 / 256, by omega, by omega⟩
  obtain ⟨b4, m4, h4, e4⟩ : ∃ b m, b < 256 ∧ m3 = b + 256 * m := ⟨m3 % 256, m3 / 256, by omega, by omega⟩
  obtain ⟨b5, m5, h5, e5⟩ : ∃ b m, b < 256 ∧ m4 = b + 256 * m := ⟨m4 % 256, m4 / 256, by omega, by omega⟩
  obtain ⟨b6, m6, h6, e6⟩ : ∃ b m, b < 256 ∧ m5 = b + 256 * m := ⟨m5 % 256, m5 / 256, by omega, by omega⟩
  obtain ⟨b7, m7, h7, e7⟩ : ∃ b m, b < 256 ∧ m6 = b + 256 * m := ⟨m6 % 256, m6 / 256, by omega, by omega⟩
  have hm7 : m7 = 0 := by omega
  subst hm7
  have k7 : m6 < 256 ^ 1 := by omega
  have k6 : m5 < 256 ^ 2 := by omega
  have k5 : m4 < 256 ^ 3 := by omega
  have k4 : m3 < 256 ^ 4 := by omega
  have k3 : m2 < 256 ^ 5 := by omega
  have k2 : m1 < 256 ^ 6 := by omega
  have k1 : m0 < 256 ^ 7 := by omega
  have s0 := pp_123 (k := 7) h0 k1
  have s1 := pp_123 (k := 6) h1 k2
  have s2 := pp_123 (k := 5) h2 k3
  have s3 := pp_123 (k := 4) h3 k4
  have s4 := pp_123 (k := 3) h4 k5
  have s5 := pp_123 (k := 2) h5 k6
  have s6 := pp_123 (k := 1) h6 k7
  have s7 := pp_123 (k := 0) (n := 0) h7 (by decide)
  have z : pp_3 0 (pp_2 0 (pp_1 0 0)) = 0 := by decide
  have c0 := pp_ck h0 (n := m0) 56
  have c1 := pp_ck h1 (n := m1) 48
  have c2 := pp_ck h2 (n := m2) 40
  have c3 := pp_ck h3 (n := m3) 32
  have c4 := pp_ck h4 (n := m4) 24
  have c5 := pp_ck h5 (n := m5) 16
  have c6 := pp_ck h6 (n := m6) 8
  have c7 := pp_ck h7 (n := 0) 0
  rw [← e0] at s0 c0
  rw [← e1] at s1 c1
  rw [← e2] at s2 c2
  rw [← e3] at s3 c3
  rw [← e4] at s4 c4
  rw [← e5] at s5 c5
  rw [← e6] at s6 c6
  rw [← e7] at s7 c7
  have g0 := pp_small b0
  have g1 := pp_small b1
  have g2 := pp_small b2
  have g3 := pp_small b3
  have g4 := pp_small b4
  have g5 := pp_small b5
  have g6 := pp_small b6
  have g7 := pp_small b7
  have c8 : pp_c 0 0 = 0 := rfl
  intro v w4 w5 w6
  have hv : v = pp_3 8 (pp_2 8 (pp_1 8 n)) := rfl
  have hw4 : w4 = v + v / 256 := rfl
  have hw5 : w5 = w4 + w4 / 65536 := rfl
  have hw6 : w6 = w5 + w5 / 4294967296 := rfl
  simp only [Nat.reduceAdd] at s0 s1 s2 s3 s4 s5 s6 s7 c0 c1 c2 c3 c4 c5 c6 c7
  rw [s0, s1, s2, s3, s4, s5, s6, s7, z] at hv
  rw [c0, c1, c2, c3, c4, c5, c6, c7, c8]
  clear s0 s1 s2 s3 s4 s5 s6 s7 c0 c1 c2 c3 c4 c5 c6 c7 z k1 k2 k3 k4 k5 k6 k7 e0 e1 e2 e3 e4 e5 e6 e7 hn
  generalize pp_c b0 8 = x0 at *
  generalize pp_c b1 8 = x1 at *
  generalize pp_c b2 8 = x2 at *
  generalize pp_c b3 8 = x3 at *
  generalize pp_c b4 8 = x4 at *
  generalize pp_c b5 8 = x5 at *
  generalize pp_c b6 8 = x6 at *
  generalize pp_c b7 8 = x7 at *
  clear_value v w4 w5 w6
  have q4 : w4 = (x0 + x1) + 256 * ((x1 + x2) + 256 * ((x2 + x3) + 256 * ((x3 + x4) + 256 * ((x4 + x5) + 256 * ((x5 + x6) + 256 * ((x6 + x7) + 256 * x7)))))) := by omega
  clear hw4
  refine ⟨by omega, ?_⟩
  clear hv
  have q5 : w5 = (x0 + x1 + x2 + x3) + 256 * ((x1 + x2 + x3 + x4) + 256 * ((x2 + x3 + x4 + x5) + 256 * ((x3 + x4 + x5 + x6) + 256 * ((x4 + x5 + x6 + x7) + 256 * ((x5 + x6 + x7) + 256 * ((x6 + x7) + 256 * x7)))))) := by omega
  clear hw5 q4
  have q6 : w5 / 4294967296 = (x4 + x5 + x6 + x7) + 256 * ((x5 + x6 + x7) + 256 * ((x6 + x7) + 256 * x7)) := by omega
  rw [q6] at hw6
  omega
abbrev bc_shr (x : Int64) (k : Int32) : Int64 := (x.toUInt64 >>> (k.toInt64.toUInt64 &&& Int64.toUInt64 63)).toInt64
theorem bc_shrN {n : Nat} (k : Nat) (hn : n < 2 ^ 64) (hk : k < 64) : bc_shr (lN n) (nI k) = lN (n / 2 ^ k) := wb_shr hn hk
theorem bc_and7 (w : Nat) : nI w &&& 127 = nI (w % 128) := by
  rw [pk_and (nI w) (m := 127) 7 (by decide)]
  have h : (nI w).toBitVec.toNat = w % 2 ^ 32 := by
    show (BitVec.ofNat 32 w).toNat = _
    rw [BitVec.toNat_ofNat]
  rw [h]
  congr 1
  omega
/-- Long.bitCount's arithmetic -/
theorem bc_all (n : Nat) (hn : n < 2 ^ 64) {i1 i2 i3 i4 i5 i6 : Int64}
    (e1 : i1 = lN n - (bc_shr (lN n) 1 &&& 6148914691236517205))
    (e2 : i2 = (i1 &&& 3689348814741910323) + (bc_shr i1 2 &&& 3689348814741910323))
    (e3 : i3 = (i2 + bc_shr i2 4) &&& 1085102592571150095)
    (e4 : i4 = i3 + bc_shr i3 8) (e5 : i5 = i4 + bc_shr i4 16) (e6 : i6 = i5 + bc_shr i5 32) : i6.toInt32 &&& 127 = nI (pp_c n 64) := by
  obtain ⟨hv, hw⟩ := pp_all n hn
  have m5 : pp_m 0x55 8 = 6148914691236517205 := by decide
  have m3 : pp_m 0x33 8 = 3689348814741910323 := by decide
  have m0 : pp_m 0x0f 8 = 1085102592571150095 := by decide
  have f1 : i1 = lN (pp_1 8 n) := by
    rw [e1, show (1 : Int32) = nI 1 from rfl, bc_shrN 1 hn (by decide), show (6148914691236517205 : Int64) = lN 6148914691236517205 from rfl, wb_and (by omega) (by decide)]
    unfold pp_1
    rw [m5]
    have h2 : n / 2 ^ 1 &&& 6148914691236517205 ≤ n / 2 ^ 1 := Nat.and_le_left
    rw [lN_sub (by omega)]
  have b1 : pp_1 8 n < 2 ^ 64 := by unfold pp_1; omega
  have f2 : i2 = lN (pp_2 8 (pp_1 8 n)) := by
    rw [e2, f1, show (2 : Int32) = nI 2 from rfl, bc_shrN 2 b1 (by decide), show (3689348814741910323 : Int64) = lN 3689348814741910323 from rfl, wb_and b1 (by decide), wb_and (by omega) (by decide), lN_add]
    unfold pp_2
    rw [m3]
  have b2 : pp_2 8 (pp_1 8 n) < 7500000000000000000 := by
    unfold pp_2
    rw [m3]
    have g1 : pp_1 8 n &&& 3689348814741910323 ≤ 3689348814741910323 := Nat.and_le_right
    have g2 : pp_1 8 n / 4 &&& 3689348814741910323 ≤ 3689348814741910323 := Nat.and_le_right
    omega
  have f3 : i3 = lN (pp_3 8 (pp_2 8 (pp_1 8 n))) := by
    rw [e3, f2, show (4 : Int32) = nI 4 from rfl, bc_shrN 4 (by omega) (by decide), lN_add, show (1085102592571150095 : Int64) = lN 1085102592571150095 from rfl, wb_and (by omega) (by decide)]
    unfold pp_3
    rw [m0]
  generalize pp_3 8 (pp_2 8 (pp_1 8 n)) = v at hv hw f3
  have f4 : i4 = lN (v + v / 256) := by
    rw [e4, f3, show (8 : Int32) = nI 8 from rfl, bc_shrN 8 (by omega) (by decide), lN_add]
  have f5 : i5 = lN (v + v / 256 + (v + v / 256) / 65536) := by
    rw [e5, f4, show (16 : Int32) = nI 16 from rfl, bc_shrN 16 (by omega) (by decide), lN_add]
  have f6 : i6 = lN (v + v / 256 + (v + v / 256) / 65536 + (v + v / 256 + (v + v / 256) / 65536) / 4294967296) := by
    rw [e6, f5, show (32 : Int32) = nI 32 from rfl, bc_shrN 32 (by omega) (by decide), lN_add]
  rw [f6, lN_i, bc_and7]
  exact congrArg nI hw
theorem pp_bit (n k : Nat) : pp_c n (k + 1) = pp_c n k + (n.testBit k).toNat := by
  rw [Nat.toNat_testBit]
  rfl
theorem pp_or {m g : Nat} (h : m.testBit g = false) : ∀ k, pp_c (m ||| 2 ^ g) k = pp_c m k + (if g < k then 1 else 0)
  | 0 => rfl
  | k + 1 => by
    rw [pp_bit, pp_bit, pp_or h k, Nat.testBit_or, Nat.testBit_two_pow]
    by_cases hk : g = k
    · subst hk
      rw [h]
      simp
    · by_cases hl : g < k
      · rw [if_pos hl, if_pos (by omega)]
        simp [hk]
        omega
      · rw [if_neg hl, if_neg (by omega)]
        simp [hk]
theorem pp_zero : ∀ k, pp_c 0 k = 0
  | 0 => rfl
  | k + 1 => by rw [pp_bit, pp_zero k]; simp
theorem pp_ext {m n : Nat} : ∀ k, (∀ i, i < k → m.testBit i = n.testBit i) → pp_c m k = pp_c n k
  | 0, _ => rfl
  | k + 1, h => by rw [pp_bit, pp_bit, pp_ext k (fun i hi => h i (by omega)), h k (by omega)]
end
section
theorem jinc (a : Nat) : nI a + Int32.ofInt 1 = nI (a + 1) := nI_1 a
section JLoop
variable {x : jX} {M : jM} {E : jE} {Q : State → Prop} {sz ce sl pc : Nat} {st : List Value}
theorem j_to {h h' : jH} {lv lv' : List (Nat × Value)} (kk : jJ x M E Q h' sz ce sl lv' pc st) (e : h = h') (hs : jSub lv lv') : jJ x M E Q h sz ce sl lv pc st := by
  subst e
  exact j_lv hs kk
theorem j_for (n : Nat) (h : Nat → jH) (lv : Nat → List (Nat × Value)) (step : ∀ i, i < n → jJ x M E Q (h (i + 1)) sz ce sl (lv (i + 1)) pc st → jJ x M E Q (h i) sz ce sl (lv i) pc st) (done : jJ x M E Q (h n) sz ce sl (lv n) pc st) : ∀ i, i ≤ n → jJ x M E Q (h i) sz ce sl (lv i) pc st := by
  intro i hi
  obtain ⟨k, rfl⟩ : ∃ k, n = i + k := ⟨n - i, by omega⟩
  induction k generalizing i with
  | zero => exact done
  | succ k ih =>
    refine step i (by omega) ?_
    have e : i + (k + 1) = (i + 1) + k := by omega
    exact ih (i + 1) (fun j hj hk => step j (by omega) hk) (by rw [e] at done; exact done) (by omega)
theorem j_forI (n : Nat) (I : Nat → Prop) (h : Nat → jH) (lv : Nat → List (Nat × Value)) (step : ∀ i, i < n → I i → (I (i + 1) → jJ x M E Q (h (i + 1)) sz ce sl (lv (i + 1)) pc st) → jJ x M E Q (h i) sz ce sl (lv i) pc st) (done : I n → jJ x M E Q (h n) sz ce sl (lv n) pc st) : ∀ i, i ≤ n → I i → jJ x M E Q (h i) sz ce sl (lv i) pc st := by
  intro i hi
  obtain ⟨k, rfl⟩ : ∃ k, n = i + k := ⟨n - i, by omega⟩
  induction k generalizing i with
  | zero => exact done
  | succ k ih =>
    intro hI
    refine step i (by omega) hI ?_
    have e : i + (k + 1) = (i + 1) + k := by omega
    exact ih (i + 1) (fun j hj hI hk => step j (by omega) hI hk) (by rw [e] at done; exact done) (by omega)
end JLoop
/-- how many of the first n places of f hold v -/
def cnt (f : Nat → Int32) (v : Int32) : Nat → Nat
  | 0 => 0
  | n + 1 => cnt f v n + (if f n = v then 1 else 0)
theorem cnt_y {f : Nat → Int32} {v : Int32} {i : Nat} (h : f i = v) : cnt f v (i + 1) = cnt f v i + 1 := by simp [cnt, h]
theorem cnt_n {f : Nat → Int32} {v : Int32} {i : Nat} (h : ¬ f i = v) : cnt f v (i + 1) = cnt f v i := by simp [cnt, h]
theorem cnt_le (f : Nat → Int32) (v : Int32) : ∀ n, cnt f v n ≤ n
  | 0 => Nat.le_refl 0
  | n + 1 => by
    have := cnt_le f v n
    simp only [cnt]
    split <;> omega
/-- Recipients at a: its object, its two arrays -/
def isRe (E : jE) (h : jH) (a n : Nat) (ad st : Nat → Int32) : Prop := h a = some (jO 4 [.ref (a + 1), .ref (a + 2), .int (nI n)]) ∧ h (a + 1) = some (jI E 4 ad) ∧ h (a + 2) = some (jI E 4 st) ∧ n ≤ 4
def reH (E : jE) (h : jH) (a n : Nat) (ad st : Nat → Int32) : jH := fun q => if q = a then some (jO 4 [.ref (a + 1), .ref (a + 2), .int (nI n)]) else if q = a + 1 then some (jI E 4 ad) else if q = a + 2 then some (jI E 4 st) else h q
theorem reH_0 {E : jE} {h : jH} {a n : Nat} {ad st : Nat → Int32} : reH E h a n ad st a = some (jO 4 [.ref (a + 1), .ref (a + 2), .int (nI n)]) := if_pos rfl
theorem reH_1 {E : jE} {h : jH} {a n : Nat} {ad st : Nat → Int32} : reH E h a n ad st (a + 1) = some (jI E 4 ad) := by simp [reH]
theorem reH_2 {E : jE} {h : jH} {a n : Nat} {ad st : Nat → Int32} : reH E h a n ad st (a + 2) = some (jI E 4 st) := by simp [reH]
theorem reH_n {E : jE} {h : jH} {a n q : Nat} {ad st : Nat → Int32} (hq : q < a ∨ a + 3 ≤ q) : reH E h a n ad st q = h q := by
  unfold reH
  rw [if_neg (by omega), if_neg (by omega), if_neg (by omega)]
theorem reH_is {E : jE} {h : jH} {a n : Nat} {ad st : Nat → Int32} (hn : n ≤ 4) : isRe E (reH E h a n ad st) a n ad st := ⟨reH_0, reH_1, reH_2, hn⟩
theorem isRe.eq {E : jE} {h : jH} {a n : Nat} {ad st : Nat → Int32} (hr : isRe E h a n ad st) : h = reH E h a n ad st := by
  funext q
  unfold reH
  by_cases h0 : q = a
  · subst h0; rw [if_pos rfl]; exact hr.1
  · rw [if_neg h0]
    by_cases h1 : q = a + 1
    · subst h1; rw [if_pos rfl]; exact hr.2.1
    · rw [if_neg h1]
      by_cases h2 : q = a + 2
      · subst h2; rw [if_pos rfl]; exact hr.2.2.1
      · rw [if_neg h2]
theorem reH_s0 {E : jE} {h : jH} {a n m : Nat} {ad st : Nat → Int32} : jset (reH E h a n ad st) a (jO 4 [.ref (a + 1), .ref (a + 2), .int (nI m)]) = reH E h a m ad st := by
  funext q
  unfold jset reH
  by_cases h0 : q = a <;> simp [h0]
theorem reH_s1 {E : jE} {h : jH} {a n : Nat} {ad st f : Nat → Int32} : jset (reH E h a n ad st) (a + 1) (jI E 4 f) = reH E h a n f st := by
  funext q
  unfold jset reH
  by_cases h0 : q = a + 1 <;> simp [h0]
theorem reH_s2 {E : jE} {h : jH} {a n : Nat} {ad st f : Nat → Int32} : jset (reH E h a n ad st) (a + 2) (jI E 4 f) = reH E h a n ad f := by
  funext q
  unfold jset reH
  by_cases h0 : q = a + 2 <;> simp [h0]
set_option maxHeartbeats 4000000 in
set_option maxRecDepth 100000 in
theorem c_Re_inState (l : Launch) (E : jE) {h : jH} {sz a n : Nat} {ad st : Nat → Int32} (v : Int32) (hr : isRe E h a n ad st) : jC l M_Re_inState 0 E [.ref a, .int v] h sz 0 0 (fun r h' sz' => r = some (.int (nI (cnt st v n))) ∧ h' = h ∧ sz' = sz) := by
  obtain ⟨e0, e1, e2, hn⟩ := hr
  refine jC.of (by decide) (Nat.le_of_ble_eq_true rfl) ?_
  intro x C0 hx
  subst hx

  refine j_iconst C0 d_Re_inState_0 (v := 0) (by decide) ?_
  refine j_istore_n C0 d_Re_inState_1 rfl (Nat.le_of_ble_eq_true rfl) ?_
  refine j_iconst C0 d_Re_inState_2 (v := 0) (by decide) ?_
  refine j_istore_n C0 d_Re_inState_3 rfl (Nat.le_of_ble_eq_true rfl) ?_
  refine j_lv (lv' := [(0, .ref a), (1, .int v), (2, .int (nI (cnt st v 0))), (3, .int (nI 0))]) ⟨rfl, rfl, rfl, rfl, trivial⟩ ?_
  refine j_for n (fun _ => h) (fun i => [(0, .ref a), (1, .int v), (2, .int (nI (cnt st v i))), (3, .int (nI i))]) ?_ ?_ 0 (Nat.zero_le n)
  · intro i hi ih
    refine j_iload_n C0 d_Re_inState_4 rfl (by rfl) ?_
    refine j_aload_n C0 d_Re_inState_5 rfl (by rfl) ?_
    refine j_getf C0 d_Re_inState_6 fl_Re_18 (by (repeat (first | rw [jset_s] | rw [jset_n (by omega)] | rw [reH_0] | rw [reH_1] | rw [reH_2] | rw [reH_n (by omega)])) <;> first | rfl | assumption) (by rfl) ?_
    refine j_icmp_ge C0 d_Re_inState_9 (tgt := 31) (by decide) (fun c_9 => ?_) (fun c_9 => ?_)
    · exact absurd c_9 (nI_ge hi (by omega))
    · refine j_aload_n C0 d_Re_inState_12 rfl (by rfl) ?_
      refine j_getf C0 d_Re_inState_13 fl_Re_15 (by (repeat (first | rw [jset_s] | rw [jset_n (by omega)] | rw [reH_0] | rw [reH_1] | rw [reH_2] | rw [reH_n (by omega)])) <;> first | rfl | assumption) (by rfl) ?_
      refine j_iload_n C0 d_Re_inState_16 rfl (by rfl) ?_
      refine j_iald C0 d_Re_inState_17 (by (repeat (first | rw [jset_s] | rw [jset_n (by omega)] | rw [reH_0] | rw [reH_1] | rw [reH_2] | rw [reH_n (by omega)])) <;> first | rfl | assumption) rfl (by omega) (by decide) ?_
      refine j_iload_n C0 d_Re_inState_18 rfl (by rfl) ?_
      refine j_icmp_ne C0 d_Re_inState_19 (tgt := 25) (by decide) (fun c_19 => ?_) (fun c_19 => ?_)
      · refine j_iinc C0 d_Re_inState_25 (by rfl) (jinc _) (Nat.le_of_ble_eq_true rfl) ?_
        refine j_goto C0 d_Re_inState_28 (tgt := 4) (by decide) ?_
        first | exact j_to ih rfl ⟨rfl, rfl, by rw [cnt_n c_19]; rfl, rfl, trivial⟩ | exact j_to ih rfl ⟨rfl, rfl, by rw [cnt_y c_19]; rfl, rfl, trivial⟩
      · refine j_iinc C0 d_Re_inState_22 (by rfl) (jinc _) (Nat.le_of_ble_eq_true rfl) ?_
        refine j_iinc C0 d_Re_inState_25 (by rfl) (jinc _) (Nat.le_of_ble_eq_true rfl) ?_
        refine j_goto C0 d_Re_inState_28 (tgt := 4) (by decide) ?_
        first | exact j_to ih rfl ⟨rfl, rfl, by rw [cnt_n c_19]; rfl, rfl, trivial⟩ | exact j_to ih rfl ⟨rfl, rfl, by rw [cnt_y c_19]; rfl, rfl, trivial⟩
  · refine j_iload_n C0 d_Re_inState_4 rfl (by rfl) ?_
    refine j_aload_n C0 d_Re_inState_5 rfl (by rfl) ?_
    refine j_getf C0 d_Re_inState_6 fl_Re_18 (by (repeat (first | rw [jset_s] | rw [jset_n (by omega)] | rw [reH_0] | rw [reH_1] | rw [reH_2] | rw [reH_n (by omega)])) <;> first | rfl | assumption) (by rfl) ?_
    refine j_icmp_ge C0 d_Re_inState_9 (tgt := 31) (by decide) (fun c_9 => ?_) (fun c_9 => ?_)
    · refine j_iload_n C0 d_Re_inState_31 rfl (by rfl) ?_
      exact j_iret C0 d_Re_inState_32 rfl (by omega) (by omega) ⟨rfl, rfl, rfl⟩
    · exact absurd (nI_le (Nat.le_refl _) (by omega)) c_9
/-- what failWaiting, copyFrom, stateOf, asBits, addRising compute -/
def fw (st : Nat → Int32) (i : Nat) : Nat → Int32 := fun j => if j < i ∧ st j = 1 then 3 else st j
theorem fw_0 (st : Nat → Int32) : fw st 0 = st := by funext j; simp [fw]
theorem fw_i (st : Nat → Int32) (i : Nat) : fw st i i = st i := by simp [fw]
theorem fw_y {st : Nat → Int32} {i : Nat} (h : st i = 1) : upd (fw st i) i 3 = fw st (i + 1) := by
  funext j
  unfold upd fw
  by_cases hj : j = i
  · subst hj; simp [h]
  · rw [if_neg hj]
    by_cases hl : j < i
    · simp [hl, show j < i + 1 by omega]
    · simp [hl, show ¬ j < i + 1 by omega]
theorem fw_n {st : Nat → Int32} {i : Nat} (h : ¬ st i = 1) : fw st i = fw st (i + 1) := by
  funext j
  unfold fw
  by_cases hj : j = i
  · subst hj; simp [h]
  · by_cases hl : j < i
    · simp [hl, show j < i + 1 by omega]
    · simp [hl, show ¬ j < i + 1 by omega]
def cp (f g : Nat → Int32) (i : Nat) : Nat → Int32 := fun j => if j < i then g j else f j
theorem cp_0 (f g : Nat → Int32) : cp f g 0 = f := by funext j; simp [cp]
theorem cp_s (f g : Nat → Int32) (i : Nat) : upd (cp f g i) i (g i) = cp f g (i + 1) := by
  funext j
  unfold upd cp
  by_cases hj : j = i
  · subst hj; simp
  · rw [if_neg hj]
    by_cases hl : j < i
    · simp [hl, show j < i + 1 by omega]
    · simp [hl, show ¬ j < i + 1 by omega]
def sF (ad st : Nat → Int32) (v : Int32) : Nat → Nat → Int32
  | _, 0 => 0
  | i, k + 1 => if ad i = v then st i else sF ad st v (i + 1) k
theorem sF_y {ad st : Nat → Int32} {v : Int32} {i n : Nat} (hi : i < n) (h : ad i = v) : sF ad st v i (n - i) = st i := by
  rw [show n - i = (n - (i + 1)) + 1 by omega]
  simp [sF, h]
theorem sF_n {ad st : Nat → Int32} {v : Int32} {i n : Nat} (hi : i < n) (h : ¬ ad i = v) : sF ad st v i (n - i) = sF ad st v (i + 1) (n - (i + 1)) := by
  rw [show n - i = (n - (i + 1)) + 1 by omega]
  simp [sF, h]
def bm (ad : Nat → Int32) : Nat → Nat
  | 0 => 0
  | n + 1 => bm ad n ||| 2 ^ (ad n).toNatClampNeg
theorem bm_lt {ad : Nat → Int32} : ∀ n, (∀ i, i < n → (ad i).toNatClampNeg < 64) → bm ad n < 2 ^ 64
  | 0, _ => by show 0 < 2 ^ 64; decide
  | n + 1, h => Nat.or_lt_two_pow (bm_lt n (fun i hi => h i (by omega))) (Nat.pow_lt_pow_right (by decide) (h n (by omega)))
/-- places taken by those below i that P names, from place n on -/
def cP (P : Nat → Bool) : Nat → Nat
  | 0 => 0
  | i + 1 => cP P i + (if P i then 1 else 0)
def aP (P : Nat → Bool) (n : Nat) (f : Nat → Int32) (g : Nat → Int32) : Nat → Nat → Int32
  | 0 => f
  | i + 1 => if P i then upd (aP P n f g i) (n + cP P i) (g i) else aP P n f g i
theorem cP_le (P : Nat → Bool) : ∀ {i j : Nat}, i ≤ j → cP P i ≤ cP P j := by
  intro i j h
  induction j with
  | zero => rw [show i = 0 by omega]; exact Nat.le_refl _
  | succ j ih =>
    by_cases hij : i = j + 1
    · rw [hij]; exact Nat.le_refl _
    · have := ih (by omega)
      simp only [cP]
      omega
theorem cP_lt {P : Nat → Bool} {i j : Nat} (hi : i < j) (hp : P i = true) : cP P i + 1 ≤ cP P j := by
  have := cP_le P (show i + 1 ≤ j from hi)
  simp only [cP, hp, if_true] at this
  exact this
theorem reH_reH {E : jE} {h : jH} {a n n' : Nat} {ad st ad' st' : Nat → Int32} : reH E (reH E h a n ad st) a n' ad' st' = reH E h a n' ad' st' := by
  funext q
  unfold reH
  by_cases h0 : q = a
  · simp [h0]
  · by_cases h1 : q = a + 1
    · simp [h1]
    · by_cases h2 : q = a + 2
      · simp [h2]
      · simp [h0, h1, h2]
theorem jshl1 {k : Nat} (hk : k < 64) : (1 : Int64) <<< ((nI k).toInt64 &&& 63) = lN (2 ^ k) := by
  have := wb_shl 1 hk
  rw [Nat.one_mul] at this
  exact this
theorem lN_z {m : Nat} (h : m < 2 ^ 64) : lN m = 0 ↔ m = 0 := by
  constructor
  · intro e
    have := wb_tn h
    rw [e] at this
    exact this.symm
  · intro e; subst e; rfl
theorem lcmp_z {x : Int64} : lg_cmp x 0 = 0 ↔ x = 0 := by
  unfold lg_cmp
  constructor
  · intro h
    split at h
    · exact absurd h (by decide)
    · split at h
      · assumption
      · exact absurd h (by decide)
  · intro h
    subst h
    rw [if_neg (by decide), if_pos rfl]
theorem bit_z {m k : Nat} : m &&& 2 ^ k = 0 ↔ m.testBit k = false := by
  constructor
  · intro h
    have := congrArg (fun n => n.testBit k) h
    simpa [Nat.testBit_and, Nat.testBit_two_pow] using this
  · intro h
    apply Nat.eq_of_testBit_eq
    intro i
    rw [Nat.testBit_and, Nat.testBit_two_pow, Nat.zero_testBit]
    by_cases hi : k = i
    · subst hi; simp [h]
    · simp [hi]
theorem jbit {m k : Nat} (hm : m < 2 ^ 64) (hk : k < 64) : lg_cmp (lN m &&& lN (2 ^ k)) 0 = 0 ↔ m.testBit k = false := by
  rw [lcmp_z, wb_and hm (Nat.pow_lt_pow_right (by decide) hk), lN_z (Nat.and_lt_two_pow _ (Nat.pow_lt_pow_right (by decide) hk)), bit_z]
set_option maxHeartbeats 4000000 in
set_option maxRecDepth 100000 in
theorem c_Re_init (l : Launch) (E : jE) {h : jH} {sz a : Nat} (e0 : h a = some (jO 4 [.null, .null, .int 0])) (hz : sz = a + 1) : jC l M_Re_init 1 E [.ref a] h sz 2 8 (fun r h' sz' => r = none ∧ h' = reH E h a 0 (fun _ => 0) (fun _ => 0) ∧ sz' = a + 3) := by
  subst hz
  refine jC.of (by decide) (Nat.le_of_ble_eq_true rfl) ?_
  intro x C0 hx
  subst hx

  refine j_aload_n C0 d_Re_init_0 rfl (by rfl) ?_
  refine j_obj C0 d_Re_init_1 w_1_71 w_1_18 w_1_19 (by omega) (Nat.le_of_ble_eq_true rfl) ?_
  refine j_aload_n C0 d_Re_init_4 rfl (by rfl) ?_
  refine j_iconst C0 d_Re_init_5 (v := 4) (by decide) ?_
  refine j_newi C0 (N := 4) d_Re_init_6 w_1_59 rfl (by decide) (by omega) (by omega) ?_
  refine j_putF C0 d_Re_init_8 fp_Re_9 (by (repeat (first | rw [jset_s] | rw [jset_n (by omega)] | rw [reH_0] | rw [reH_1] | rw [reH_2] | rw [reH_n (by omega)])) <;> first | rfl | assumption) (Nat.le_of_ble_eq_true rfl) (by rfl) (by rfl) rfl ?_
  refine j_aload_n C0 d_Re_init_11 rfl (by rfl) ?_
  refine j_iconst C0 d_Re_init_12 (v := 4) (by decide) ?_
  refine j_newi C0 (N := 4) d_Re_init_13 w_1_59 rfl (by decide) (by omega) (by omega) ?_
  refine j_putF C0 d_Re_init_15 fp_Re_15 (by (repeat (first | rw [jset_s] | rw [jset_n (by omega)] | rw [reH_0] | rw [reH_1] | rw [reH_2] | rw [reH_n (by omega)])) <;> first | rfl | assumption) (Nat.le_of_ble_eq_true rfl) (by rfl) (by rfl) rfl ?_
  refine j_aload_n C0 d_Re_init_18 rfl (by rfl) ?_
  refine j_iconst C0 d_Re_init_19 (v := 0) (by decide) ?_
  refine j_putf C0 d_Re_init_20 fp_Re_18 (by (repeat (first | rw [jset_s] | rw [jset_n (by omega)] | rw [reH_0] | rw [reH_1] | rw [reH_2] | rw [reH_n (by omega)])) <;> first | rfl | assumption) (Nat.le_of_ble_eq_true rfl) (by rfl) (by rfl) ?_
  exact j_vret C0 d_Re_init_23 rfl (by omega) (by omega) ⟨rfl, by
      funext q
      unfold jset reH
      by_cases h0 : q = a
      · simp [h0]; rfl
      · by_cases h1 : q = a + 1
        · simp [h1]
        · by_cases h2 : q = a + 2
          · simp [h2]
          · simp [h0, h1, h2], rfl⟩
set_option maxHeartbeats 4000000 in
set_option maxRecDepth 100000 in
theorem c_Re_add (l : Launch) (E : jE) {h : jH} {sz a n : Nat} {ad st : Nat → Int32} (v : Int32) (hr : isRe E h a n ad st) (h4 : n < 4) : jC l M_Re_add 0 E [.ref a, .int v] h sz 0 0 (fun r h' sz' => r = none ∧ h' = reH E h a (n + 1) (upd ad n v) (upd st n 1) ∧ sz' = sz) := by
  refine jC.of (by decide) (Nat.le_of_ble_eq_true rfl) ?_
  intro x C0 hx
  subst hx

  refine j_to (h' := reH E h a n ad st) (lv' := [(0, .ref a), (1, .int v)]) ?_ hr.eq ⟨rfl, rfl, trivial⟩
  refine j_aload_n C0 d_Re_add_0 rfl (by rfl) ?_
  refine j_getf C0 d_Re_add_1 fl_Re_18 (by (repeat (first | rw [jset_s] | rw [jset_n (by omega)] | rw [reH_0] | rw [reH_1] | rw [reH_2] | rw [reH_n (by omega)])) <;> first | rfl | assumption) (by rfl) ?_
  refine j_iconst C0 d_Re_add_4 (v := 4) (by decide) ?_
  refine j_icmp_ge C0 d_Re_add_5 (tgt := 38) (by decide) (fun c_5 => ?_) (fun c_5 => ?_)
  · exact absurd c_5 (nI_ge (b := 4) h4 (by decide))
  · refine j_aload_n C0 d_Re_add_8 rfl (by rfl) ?_
    refine j_getf C0 d_Re_add_9 fl_Re_9 (by (repeat (first | rw [jset_s] | rw [jset_n (by omega)] | rw [reH_0] | rw [reH_1] | rw [reH_2] | rw [reH_n (by omega)])) <;> first | rfl | assumption) (by rfl) ?_
    refine j_aload_n C0 d_Re_add_12 rfl (by rfl) ?_
    refine j_getf C0 d_Re_add_13 fl_Re_18 (by (repeat (first | rw [jset_s] | rw [jset_n (by omega)] | rw [reH_0] | rw [reH_1] | rw [reH_2] | rw [reH_n (by omega)])) <;> first | rfl | assumption) (by rfl) ?_
    refine j_iload_n C0 d_Re_add_16 rfl (by rfl) ?_
    refine j_iast C0 d_Re_add_17 (by (repeat (first | rw [jset_s] | rw [jset_n (by omega)] | rw [reH_0] | rw [reH_1] | rw [reH_2] | rw [reH_n (by omega)])) <;> first | rfl | assumption) rfl (by omega) (by decide) ?_
    rw [reH_s1]
    refine j_aload_n C0 d_Re_add_18 rfl (by rfl) ?_
    refine j_getf C0 d_Re_add_19 fl_Re_15 (by (repeat (first | rw [jset_s] | rw [jset_n (by omega)] | rw [reH_0] | rw [reH_1] | rw [reH_2] | rw [reH_n (by omega)])) <;> first | rfl | assumption) (by rfl) ?_
    refine j_aload_n C0 d_Re_add_22 rfl (by rfl) ?_
    refine j_getf C0 d_Re_add_23 fl_Re_18 (by (repeat (first | rw [jset_s] | rw [jset_n (by omega)] | rw [reH_0] | rw [reH_1] | rw [reH_2] | rw [reH_n (by omega)])) <;> first | rfl | assumption) (by rfl) ?_
    refine j_iconst C0 d_Re_add_26 (v := 1) (by decide) ?_
    refine j_iast C0 d_Re_add_27 (by (repeat (first | rw [jset_s] | rw [jset_n (by omega)] | rw [reH_0] | rw [reH_1] | rw [reH_2] | rw [reH_n (by omega)])) <;> first | rfl | assumption) rfl (by omega) (by decide) ?_
    rw [reH_s2]
    refine j_aload_n C0 d_Re_add_28 rfl (by rfl) ?_
    refine j_dup C0 d_Re_add_29 rfl ?_
    refine j_getf C0 d_Re_add_30 fl_Re_18 (by (repeat (first | rw [jset_s] | rw [jset_n (by omega)] | rw [reH_0] | rw [reH_1] | rw [reH_2] | rw [reH_n (by omega)])) <;> first | rfl | assumption) (by rfl) ?_
    refine j_iconst C0 d_Re_add_33 (v := 1) (by decide) ?_
    refine j_iadd C0 d_Re_add_34 ?_
    refine j_putf C0 d_Re_add_35 fp_Re_18 (by (repeat (first | rw [jset_s] | rw [jset_n (by omega)] | rw [reH_0] | rw [reH_1] | rw [reH_2] | rw [reH_n (by omega)])) <;> first | rfl | assumption) (Nat.le_of_ble_eq_true rfl) (by rfl) (by rfl) ?_
    exact j_vret C0 d_Re_add_38 rfl (by omega) (by omega) ⟨rfl, by
        show jset _ _ (jO 4 [_, _, .int (nI n + 1)]) = _
        rw [nI_1, reH_s0], rfl⟩
set_option maxHeartbeats 4000000 in
set_option maxRecDepth 100000 in
theorem c_Re_failWaiting (l : Launch) (E : jE) {h : jH} {sz a n : Nat} {ad st : Nat → Int32} (hr : isRe E h a n ad st) : jC l M_Re_failWaiting 0 E [.ref a] h sz 0 0 (fun r h' sz' => r = some (.int (nI (cnt st 1 n))) ∧ h' = reH E h a n ad (fw st n) ∧ sz' = sz) := by
  refine jC.of (by decide) (Nat.le_of_ble_eq_true rfl) ?_
  intro x C0 hx
  subst hx

  refine j_iconst C0 d_Re_failWaiting_0 (v := 0) (by decide) ?_
  refine j_istore_n C0 d_Re_failWaiting_1 rfl (Nat.le_of_ble_eq_true rfl) ?_
  refine j_iconst C0 d_Re_failWaiting_2 (v := 0) (by decide) ?_
  refine j_istore_n C0 d_Re_failWaiting_3 rfl (Nat.le_of_ble_eq_true rfl) ?_
  have hn := hr.2.2.2
  refine j_to (h' := reH E h a n ad (fw st 0)) (lv' := [(0, .ref a), (1, .int (nI (cnt st 1 0))), (2, .int (nI 0))]) ?_ (by rw [fw_0]; exact hr.eq) ⟨rfl, rfl, rfl, trivial⟩
  refine j_for n (fun i => reH E h a n ad (fw st i)) (fun i => [(0, .ref a), (1, .int (nI (cnt st 1 i))), (2, .int (nI i))]) ?_ ?_ 0 (Nat.zero_le n)
  · intro i hi ih
    refine j_iload_n C0 d_Re_failWaiting_4 rfl (by rfl) ?_
    refine j_aload_n C0 d_Re_failWaiting_5 rfl (by rfl) ?_
    refine j_getf C0 d_Re_failWaiting_6 fl_Re_18 (by (repeat (first | rw [jset_s] | rw [jset_n (by omega)] | rw [reH_0] | rw [reH_1] | rw [reH_2] | rw [reH_n (by omega)])) <;> first | rfl | assumption) (by rfl) ?_
    refine j_icmp_ge C0 d_Re_failWaiting_9 (tgt := 38) (by decide) (fun c_9 => ?_) (fun c_9 => ?_)
    · exact absurd c_9 (nI_ge hi (by omega))
    · refine j_aload_n C0 d_Re_failWaiting_12 rfl (by rfl) ?_
      refine j_getf C0 d_Re_failWaiting_13 fl_Re_15 (by (repeat (first | rw [jset_s] | rw [jset_n (by omega)] | rw [reH_0] | rw [reH_1] | rw [reH_2] | rw [reH_n (by omega)])) <;> first | rfl | assumption) (by rfl) ?_
      refine j_iload_n C0 d_Re_failWaiting_16 rfl (by rfl) ?_
      refine j_iald C0 d_Re_failWaiting_17 (by (repeat (first | rw [jset_s] | rw [jset_n (by omega)] | rw [reH_0] | rw [reH_1] | rw [reH_2] | rw [reH_n (by omega)])) <;> first | rfl | assumption) rfl (by omega) (by decide) ?_
      rw [fw_i]
      refine j_iconst C0 d_Re_failWaiting_18 (v := 1) (by decide) ?_
      refine j_icmp_ne C0 d_Re_failWaiting_19 (tgt := 32) (by decide) (fun c_19 => ?_) (fun c_19 => ?_)
      · refine j_iinc C0 d_Re_failWaiting_32 (by rfl) (jinc _) (Nat.le_of_ble_eq_true rfl) ?_
        refine j_goto C0 d_Re_failWaiting_35 (tgt := 4) (by decide) ?_
        first | exact j_to ih (by rw [fw_n c_19]) ⟨rfl, by rw [cnt_n c_19]; rfl, rfl, trivial⟩ | exact j_to ih rfl ⟨rfl, by rw [cnt_y c_19]; rfl, rfl, trivial⟩
      · refine j_aload_n C0 d_Re_failWaiting_22 rfl (by rfl) ?_
        refine j_getf C0 d_Re_failWaiting_23 fl_Re_15 (by (repeat (first | rw [jset_s] | rw [jset_n (by omega)] | rw [reH_0] | rw [reH_1] | rw [reH_2] | rw [reH_n (by omega)])) <;> first | rfl | assumption) (by rfl) ?_
        refine j_iload_n C0 d_Re_failWaiting_26 rfl (by rfl) ?_
        refine j_iconst C0 d_Re_failWaiting_27 (v := 3) (by decide) ?_
        refine j_iast C0 d_Re_failWaiting_28 (by (repeat (first | rw [jset_s] | rw [jset_n (by omega)] | rw [reH_0] | rw [reH_1] | rw [reH_2] | rw [reH_n (by omega)])) <;> first | rfl | assumption) rfl (by omega) (by decide) ?_
        rw [reH_s2, fw_y c_19]
        refine j_iinc C0 d_Re_failWaiting_29 (by rfl) (jinc _) (Nat.le_of_ble_eq_true rfl) ?_
        refine j_iinc C0 d_Re_failWaiting_32 (by rfl) (jinc _) (Nat.le_of_ble_eq_true rfl) ?_
        refine j_goto C0 d_Re_failWaiting_35 (tgt := 4) (by decide) ?_
        first | exact j_to ih (by rw [fw_n c_19]) ⟨rfl, by rw [cnt_n c_19]; rfl, rfl, trivial⟩ | exact j_to ih rfl ⟨rfl, by rw [cnt_y c_19]; rfl, rfl, trivial⟩
  · refine j_iload_n C0 d_Re_failWaiting_4 rfl (by rfl) ?_
    refine j_aload_n C0 d_Re_failWaiting_5 rfl (by rfl) ?_
    refine j_getf C0 d_Re_failWaiting_6 fl_Re_18 (by (repeat (first | rw [jset_s] | rw [jset_n (by omega)] | rw [reH_0] | rw [reH_1] | rw [reH_2] | rw [reH_n (by omega)])) <;> first | rfl | assumption) (by rfl) ?_
    refine j_icmp_ge C0 d_Re_failWaiting_9 (tgt := 38) (by decide) (fun c_9 => ?_) (fun c_9 => ?_)
    · refine j_iload_n C0 d_Re_failWaiting_38 rfl (by rfl) ?_
      exact j_iret C0 d_Re_failWaiting_39 rfl (by omega) (by omega) ⟨rfl, rfl, rfl⟩
    · exact absurd (nI_le (Nat.le_refl _) (by omega)) c_9
set_option maxHeartbeats 4000000 in
set_option maxRecDepth 100000 in
theorem c_Re_stateOf (l : Launch) (E : jE) {h : jH} {sz a n : Nat} {ad st : Nat → Int32} (v : Int32) (hr : isRe E h a n ad st) : jC l M_Re_stateOf 0 E [.ref a, .int v] h sz 0 0 (fun r h' sz' => r = some (.int (sF ad st v 0 n)) ∧ h' = h ∧ sz' = sz) := by
  obtain ⟨e0, e1, e2, hn⟩ := hr
  refine jC.of (by decide) (Nat.le_of_ble_eq_true rfl) ?_
  intro x C0 hx
  subst hx

  refine j_iconst C0 d_Re_stateOf_0 (v := 0) (by decide) ?_
  refine j_istore_n C0 d_Re_stateOf_1 rfl (Nat.le_of_ble_eq_true rfl) ?_
  refine j_lv (lv' := [(0, .ref a), (1, .int v), (2, .int (nI 0))]) ⟨rfl, rfl, rfl, trivial⟩ ?_
  refine j_forI n (fun i => sF ad st v 0 n = sF ad st v i (n - i)) (fun _ => h) (fun i => [(0, .ref a), (1, .int v), (2, .int (nI i))]) ?_ ?_ 0 (Nat.zero_le n) rfl
  · intro i hi hI ih
    refine j_iload_n C0 d_Re_stateOf_2 rfl (by rfl) ?_
    refine j_aload_n C0 d_Re_stateOf_3 rfl (by rfl) ?_
    refine j_getf C0 d_Re_stateOf_4 fl_Re_18 (by (repeat (first | rw [jset_s] | rw [jset_n (by omega)] | rw [reH_0] | rw [reH_1] | rw [reH_2] | rw [reH_n (by omega)])) <;> first | rfl | assumption) (by rfl) ?_
    refine j_icmp_ge C0 d_Re_stateOf_7 (tgt := 33) (by decide) (fun c_7 => ?_) (fun c_7 => ?_)
    · exact absurd c_7 (nI_ge hi (by omega))
    · refine j_aload_n C0 d_Re_stateOf_10 rfl (by rfl) ?_
      refine j_getf C0 d_Re_stateOf_11 fl_Re_9 (by (repeat (first | rw [jset_s] | rw [jset_n (by omega)] | rw [reH_0] | rw [reH_1] | rw [reH_2] | rw [reH_n (by omega)])) <;> first | rfl | assumption) (by rfl) ?_
      refine j_iload_n C0 d_Re_stateOf_14 rfl (by rfl) ?_
      refine j_iald C0 d_Re_stateOf_15 (by (repeat (first | rw [jset_s] | rw [jset_n (by omega)] | rw [reH_0] | rw [reH_1] | rw [reH_2] | rw [reH_n (by omega)])) <;> first | rfl | assumption) rfl (by omega) (by decide) ?_
      refine j_iload_n C0 d_Re_stateOf_16 rfl (by rfl) ?_
      refine j_icmp_ne C0 d_Re_stateOf_17 (tgt := 27) (by decide) (fun c_17 => ?_) (fun c_17 => ?_)
      · refine j_iinc C0 d_Re_stateOf_27 (by rfl) (jinc _) (Nat.le_of_ble_eq_true rfl) ?_
        refine j_goto C0 d_Re_stateOf_30 (tgt := 2) (by decide) ?_
        exact j_to (ih (by rw [hI, sF_n hi c_17])) rfl ⟨rfl, rfl, rfl, trivial⟩
      · refine j_aload_n C0 d_Re_stateOf_20 rfl (by rfl) ?_
        refine j_getf C0 d_Re_stateOf_21 fl_Re_15 (by (repeat (first | rw [jset_s] | rw [jset_n (by omega)] | rw [reH_0] | rw [reH_1] | rw [reH_2] | rw [reH_n (by omega)])) <;> first | rfl | assumption) (by rfl) ?_
        refine j_iload_n C0 d_Re_stateOf_24 rfl (by rfl) ?_
        refine j_iald C0 d_Re_stateOf_25 (by (repeat (first | rw [jset_s] | rw [jset_n (by omega)] | rw [reH_0] | rw [reH_1] | rw [reH_2] | rw [reH_n (by omega)])) <;> first | rfl | assumption) rfl (by omega) (by decide) ?_
        exact j_iret C0 d_Re_stateOf_26 rfl (by omega) (by omega) ⟨by rw [hI, sF_y hi c_17], rfl, rfl⟩
  · intro hI
    refine j_iload_n C0 d_Re_stateOf_2 rfl (by rfl) ?_
    refine j_aload_n C0 d_Re_stateOf_3 rfl (by rfl) ?_
    refine j_getf C0 d_Re_stateOf_4 fl_Re_18 (by (repeat (first | rw [jset_s] | rw [jset_n (by omega)] | rw [reH_0] | rw [reH_1] | rw [reH_2] | rw [reH_n (by omega)])) <;> first | rfl | assumption) (by rfl) ?_
    refine j_icmp_ge C0 d_Re_stateOf_7 (tgt := 33) (by decide) (fun c_7 => ?_) (fun c_7 => ?_)
    · refine j_iconst C0 d_Re_stateOf_33 (v := 0) (by decide) ?_
      exact j_iret C0 d_Re_stateOf_34 rfl (by omega) (by omega) ⟨by rw [hI, Nat.sub_self]; rfl, rfl, rfl⟩
    · exact absurd (nI_le (Nat.le_refl _) (by omega)) c_7
set_option maxHeartbeats 4000000 in
set_option maxRecDepth 100000 in
theorem c_Re_asBits (l : Launch) (E : jE) {h : jH} {sz a n : Nat} {ad st : Nat → Int32} (hr : isRe E h a n ad st) (ha : ∀ i, i < n → ∃ k, k < 64 ∧ ad i = nI k) : jC l M_Re_asBits 0 E [.ref a] h sz 0 0 (fun r h' sz' => r = some (.long (lN (bm ad n))) ∧ h' = h ∧ sz' = sz) := by
  obtain ⟨e0, e1, e2, hn⟩ := hr
  refine jC.of (by decide) (Nat.le_of_ble_eq_true rfl) ?_
  intro x C0 hx
  subst hx

  refine j_lconst C0 d_Re_asBits_0 (v := 0) (by decide) ?_
  refine j_lstore_n C0 d_Re_asBits_1 rfl (Nat.le_of_ble_eq_true rfl) ?_
  refine j_iconst C0 d_Re_asBits_2 (v := 0) (by decide) ?_
  refine j_istore_n C0 d_Re_asBits_3 rfl (Nat.le_of_ble_eq_true rfl) ?_
  refine j_lv (lv' := [(0, .ref a), (1, .long (lN (bm ad 0))), (3, .int (nI 0))]) ⟨rfl, rfl, rfl, trivial⟩ ?_
  refine j_for n (fun _ => h) (fun i => [(0, .ref a), (1, .long (lN (bm ad i))), (3, .int (nI i))]) ?_ ?_ 0 (Nat.zero_le n)
  · intro i hi ih
    obtain ⟨k, hk, ek⟩ := ha i hi
    have hc : (ad i).toNatClampNeg = k := by rw [ek]; exact nI_clamp (by omega)
    have hb : bm ad i < 2 ^ 64 := bm_lt i (fun j hj => by obtain ⟨k, hk, ek⟩ := ha j (by omega); rw [ek, nI_clamp (by omega)]; exact hk)
    have e : lN (bm ad i) ||| lN (2 ^ k) = lN (bm ad (i + 1)) := by rw [wb_or hb (Nat.pow_lt_pow_right (by decide) hk)]; show _ = lN (bm ad i ||| 2 ^ (ad i).toNatClampNeg); rw [hc]
    refine j_iload_n C0 d_Re_asBits_4 rfl (by rfl) ?_
    refine j_aload_n C0 d_Re_asBits_5 rfl (by rfl) ?_
    refine j_getf C0 d_Re_asBits_6 fl_Re_18 (by (repeat (first | rw [jset_s] | rw [jset_n (by omega)] | rw [reH_0] | rw [reH_1] | rw [reH_2] | rw [reH_n (by omega)])) <;> first | rfl | assumption) (by rfl) ?_
    refine j_icmp_ge C0 d_Re_asBits_9 (tgt := 29) (by decide) (fun c_9 => ?_) (fun c_9 => ?_)
    · exact absurd c_9 (nI_ge hi (by omega))
    · refine j_lload_n C0 d_Re_asBits_12 rfl (by rfl) ?_
      refine j_lconst C0 d_Re_asBits_13 (v := 1) (by decide) ?_
      refine j_aload_n C0 d_Re_asBits_14 rfl (by rfl) ?_
      refine j_getf C0 d_Re_asBits_15 fl_Re_9 (by (repeat (first | rw [jset_s] | rw [jset_n (by omega)] | rw [reH_0] | rw [reH_1] | rw [reH_2] | rw [reH_n (by omega)])) <;> first | rfl | assumption) (by rfl) ?_
      refine j_iload_n C0 d_Re_asBits_18 rfl (by rfl) ?_
      refine j_iald C0 d_Re_asBits_19 (by (repeat (first | rw [jset_s] | rw [jset_n (by omega)] | rw [reH_0] | rw [reH_1] | rw [reH_2] | rw [reH_n (by omega)])) <;> first | rfl | assumption) rfl (by omega) (by decide) ?_
      rw [ek]
      refine j_lshl C0 d_Re_asBits_20 (jshl1 hk) ?_
      refine j_lor C0 d_Re_asBits_21 ?_
      rw [e]
      refine j_lstore_n C0 d_Re_asBits_22 rfl (Nat.le_of_ble_eq_true rfl) ?_
      refine j_iinc C0 d_Re_asBits_23 (by rfl) (jinc _) (Nat.le_of_ble_eq_true rfl) ?_
      refine j_goto C0 d_Re_asBits_26 (tgt := 4) (by decide) ?_
      exact j_to ih rfl ⟨rfl, rfl, rfl, trivial⟩
  · refine j_iload_n C0 d_Re_asBits_4 rfl (by rfl) ?_
    refine j_aload_n C0 d_Re_asBits_5 rfl (by rfl) ?_
    refine j_getf C0 d_Re_asBits_6 fl_Re_18 (by (repeat (first | rw [jset_s] | rw [jset_n (by omega)] | rw [reH_0] | rw [reH_1] | rw [reH_2] | rw [reH_n (by omega)])) <;> first | rfl | assumption) (by rfl) ?_
    refine j_icmp_ge C0 d_Re_asBits_9 (tgt := 29) (by decide) (fun c_9 => ?_) (fun c_9 => ?_)
    · refine j_lload_n C0 d_Re_asBits_29 rfl (by rfl) ?_
      exact j_lret C0 d_Re_asBits_30 rfl (by omega) (by omega) ⟨rfl, rfl, rfl⟩
    · exact absurd (nI_le (Nat.le_refl _) (by omega)) c_9
set_option maxHeartbeats 4000000 in
set_option maxRecDepth 100000 in
theorem c_Re_addRising (l : Launch) (E : jE) {h : jH} {sz a n m : Nat} {ad st : Nat → Int32} (hr : isRe E h a n ad st) (hm : m < 2 ^ 64) (h4 : n + cP (fun i => m.testBit i) 64 ≤ 4) : jC l M_Re_addRising 1 E [.ref a, .long (lN m)] h sz 0 0 (fun r h' sz' => r = none ∧ h' = reH E h a (n + cP (fun i => m.testBit i) 64) (aP (fun i => m.testBit i) n ad nI 64) (aP (fun i => m.testBit i) n st (fun _ => 1) 64) ∧ sz' = sz) := by
  refine jC.of (by decide) (Nat.le_of_ble_eq_true rfl) ?_
  intro x C0 hx
  subst hx

  refine j_iconst C0 d_Re_addRising_0 (v := 0) (by decide) ?_
  refine j_istore_n C0 d_Re_addRising_1 rfl (Nat.le_of_ble_eq_true rfl) ?_
  refine j_to (h' := reH E h a (n + cP (fun i => m.testBit i) 0) (aP (fun i => m.testBit i) n ad nI 0) (aP (fun i => m.testBit i) n st (fun _ => 1) 0)) (lv' := [(0, .ref a), (1, .long (lN m)), (3, .int (nI 0))]) ?_ hr.eq ⟨rfl, rfl, rfl, trivial⟩
  refine j_for 64 (fun i => reH E h a (n + cP (fun i => m.testBit i) i) (aP (fun i => m.testBit i) n ad nI i) (aP (fun i => m.testBit i) n st (fun _ => 1) i)) (fun i => [(0, .ref a), (1, .long (lN m)), (3, .int (nI i))]) ?_ ?_ 0 (by decide)
  · intro i hi ih
    have hle := cP_le (fun i => m.testBit i) (show i + 1 ≤ 64 by omega)
    refine j_iload_n C0 d_Re_addRising_2 rfl (by rfl) ?_
    refine j_bipush C0 d_Re_addRising_3 (v := 64) (by decide) ?_
    refine j_icmp_ge C0 d_Re_addRising_5 (tgt := 29) (by decide) (fun c_5 => ?_) (fun c_5 => ?_)
    · exact absurd c_5 (nI_ge (b := 64) hi (by decide))
    · refine j_lload_n C0 d_Re_addRising_8 rfl (by rfl) ?_
      refine j_lconst C0 d_Re_addRising_9 (v := 1) (by decide) ?_
      refine j_iload_n C0 d_Re_addRising_10 rfl (by rfl) ?_
      refine j_lshl C0 d_Re_addRising_11 (jshl1 hi) ?_
      refine j_land C0 d_Re_addRising_12 ?_
      refine j_lconst C0 d_Re_addRising_13 (v := 0) (by decide) ?_
      refine j_lcmp C0 d_Re_addRising_14 ?_
      refine j_if_eq C0 d_Re_addRising_15 (tgt := 23) (by decide) (fun c_15 => ?_) (fun c_15 => ?_)
      · have hf := (jbit hm hi).mp c_15
        refine j_iinc C0 d_Re_addRising_23 (by rfl) (jinc _) (Nat.le_of_ble_eq_true rfl) ?_
        refine j_goto C0 d_Re_addRising_26 (tgt := 2) (by decide) ?_
        exact j_to ih (by simp only [cP, aP, hf]; simp [Nat.add_assoc]) ⟨rfl, rfl, rfl, trivial⟩
      · have hf : m.testBit i = true := by
          cases hh : m.testBit i with
          | false => exact absurd ((jbit hm hi).mpr hh) c_15
          | true => rfl
        have hle2 : n + cP (fun i => m.testBit i) i < 4 := by have := cP_lt (P := (fun i => m.testBit i)) hi hf; omega
        refine j_aload_n C0 d_Re_addRising_18 rfl (by rfl) ?_
        refine j_iload_n C0 d_Re_addRising_19 rfl (by rfl) ?_
        refine j_callV C0 d_Re_addRising_20 cl_Re_22 cl_Re_22v (c_Re_add _ E (nI i) (reH_is (by omega)) hle2) (by (repeat (first | rw [jset_s] | rw [jset_n (by omega)] | rw [reH_0] | rw [reH_1] | rw [reH_2] | rw [reH_n (by omega)])) <;> first | rfl | assumption) rfl rfl rfl ⟨by decide, by decide⟩ ⟨by omega, by omega⟩ (Nat.le_of_ble_eq_true rfl) (fun r_ h_ z_ hp_ => ?_)
        obtain ⟨rfl, rfl, rfl⟩ := hp_
        rw [reH_reH]
        refine j_iinc C0 d_Re_addRising_23 (by rfl) (jinc _) (Nat.le_of_ble_eq_true rfl) ?_
        refine j_goto C0 d_Re_addRising_26 (tgt := 2) (by decide) ?_
        exact j_to ih (by simp only [cP, aP, hf]; simp [Nat.add_assoc]) ⟨rfl, rfl, rfl, trivial⟩
  · refine j_iload_n C0 d_Re_addRising_2 rfl (by rfl) ?_
    refine j_bipush C0 d_Re_addRising_3 (v := 64) (by decide) ?_
    refine j_icmp_ge C0 d_Re_addRising_5 (tgt := 29) (by decide) (fun c_5 => ?_) (fun c_5 => ?_)
    · exact j_vret C0 d_Re_addRising_29 rfl (by omega) (by omega) ⟨rfl, rfl, rfl⟩
    · exact absurd (nI_le (Nat.le_refl 64) (by decide)) c_5
set_option maxHeartbeats 4000000 in
set_option maxRecDepth 100000 in
theorem c_Re_copyFrom (l : Launch) (E : jE) {h : jH} {sz a n b n2 : Nat} {ad st ad2 st2 : Nat → Int32} (hr : isRe E h a n ad st) (hr2 : isRe E h b n2 ad2 st2) (hab : a + 3 ≤ b ∨ b + 3 ≤ a) : jC l M_Re_copyFrom 0 E [.ref a, .ref b] h sz 0 0 (fun r h' sz' => r = none ∧ h' = reH E h a n2 (cp ad ad2 n2) (cp st st2 n2) ∧ sz' = sz) := by
  obtain ⟨e0, e1, e2, hn⟩ := hr2
  refine jC.of (by decide) (Nat.le_of_ble_eq_true rfl) ?_
  intro x C0 hx
  subst hx

  refine j_iconst C0 d_Re_copyFrom_0 (v := 0) (by decide) ?_
  refine j_istore_n C0 d_Re_copyFrom_1 rfl (Nat.le_of_ble_eq_true rfl) ?_
  refine j_to (h' := reH E h a n (cp ad ad2 0) (cp st st2 0)) (lv' := [(0, .ref a), (1, .ref b), (2, .int (nI 0))]) ?_ (by rw [cp_0, cp_0]; exact hr.eq) ⟨rfl, rfl, rfl, trivial⟩
  refine j_for n2 (fun i => reH E h a n (cp ad ad2 i) (cp st st2 i)) (fun i => [(0, .ref a), (1, .ref b), (2, .int (nI i))]) ?_ ?_ 0 (Nat.zero_le n2)
  · intro i hi ih
    refine j_iload_n C0 d_Re_copyFrom_2 rfl (by rfl) ?_
    refine j_aload_n C0 d_Re_copyFrom_3 rfl (by rfl) ?_
    refine j_getf C0 d_Re_copyFrom_4 fl_Re_18 (by (repeat (first | rw [jset_s] | rw [jset_n (by omega)] | rw [reH_0] | rw [reH_1] | rw [reH_2] | rw [reH_n (by omega)])) <;> first | rfl | assumption) (by rfl) ?_
    refine j_icmp_ge C0 d_Re_copyFrom_7 (tgt := 40) (by decide) (fun c_7 => ?_) (fun c_7 => ?_)
    · exact absurd c_7 (nI_ge hi (by omega))
    · refine j_aload_n C0 d_Re_copyFrom_10 rfl (by rfl) ?_
      refine j_getf C0 d_Re_copyFrom_11 fl_Re_9 (by (repeat (first | rw [jset_s] | rw [jset_n (by omega)] | rw [reH_0] | rw [reH_1] | rw [reH_2] | rw [reH_n (by omega)])) <;> first | rfl | assumption) (by rfl) ?_
      refine j_iload_n C0 d_Re_copyFrom_14 rfl (by rfl) ?_
      refine j_aload_n C0 d_Re_copyFrom_15 rfl (by rfl) ?_
      refine j_getf C0 d_Re_copyFrom_16 fl_Re_9 (by (repeat (first | rw [jset_s] | rw [jset_n (by omega)] | rw [reH_0] | rw [reH_1] | rw [reH_2] | rw [reH_n (by omega)])) <;> first | rfl | assumption) (by rfl) ?_
      refine j_iload_n C0 d_Re_copyFrom_19 rfl (by rfl) ?_
      refine j_iald C0 d_Re_copyFrom_20 (by (repeat (first | rw [jset_s] | rw [jset_n (by omega)] | rw [reH_0] | rw [reH_1] | rw [reH_2] | rw [reH_n (by omega)])) <;> first | rfl | assumption) rfl (by omega) (by decide) ?_
      refine j_iast C0 d_Re_copyFrom_21 (by (repeat (first | rw [jset_s] | rw [jset_n (by omega)] | rw [reH_0] | rw [reH_1] | rw [reH_2] | rw [reH_n (by omega)])) <;> first | rfl | assumption) rfl (by omega) (by decide) ?_
      rw [reH_s1, cp_s]
      refine j_aload_n C0 d_Re_copyFrom_22 rfl (by rfl) ?_
      refine j_getf C0 d_Re_copyFrom_23 fl_Re_15 (by (repeat (first | rw [jset_s] | rw [jset_n (by omega)] | rw [reH_0] | rw [reH_1] | rw [reH_2] | rw [reH_n (by omega)])) <;> first | rfl | assumption) (by rfl) ?_
      refine j_iload_n C0 d_Re_copyFrom_26 rfl (by rfl) ?_
      refine j_aload_n C0 d_Re_copyFrom_27 rfl (by rfl) ?_
      refine j_getf C0 d_Re_copyFrom_28 fl_Re_15 (by (repeat (first | rw [jset_s] | rw [jset_n (by omega)] | rw [reH_0] | rw [reH_1] | rw [reH_2] | rw [reH_n (by omega)])) <;> first | rfl | assumption) (by rfl) ?_
      refine j_iload_n C0 d_Re_copyFrom_31 rfl (by rfl) ?_
      refine j_iald C0 d_Re_copyFrom_32 (by (repeat (first | rw [jset_s] | rw [jset_n (by omega)] | rw [reH_0] | rw [reH_1] | rw [reH_2] | rw [reH_n (by omega)])) <;> first | rfl | assumption) rfl (by omega) (by decide) ?_
      refine j_iast C0 d_Re_copyFrom_33 (by (repeat (first | rw [jset_s] | rw [jset_n (by omega)] | rw [reH_0] | rw [reH_1] | rw [reH_2] | rw [reH_n (by omega)])) <;> first | rfl | assumption) rfl (by omega) (by decide) ?_
      rw [reH_s2, cp_s]
      refine j_iinc C0 d_Re_copyFrom_34 (by rfl) (jinc _) (Nat.le_of_ble_eq_true rfl) ?_
      refine j_goto C0 d_Re_copyFrom_37 (tgt := 2) (by decide) ?_
      exact j_to ih rfl ⟨rfl, rfl, rfl, trivial⟩
  · refine j_iload_n C0 d_Re_copyFrom_2 rfl (by rfl) ?_
    refine j_aload_n C0 d_Re_copyFrom_3 rfl (by rfl) ?_
    refine j_getf C0 d_Re_copyFrom_4 fl_Re_18 (by (repeat (first | rw [jset_s] | rw [jset_n (by omega)] | rw [reH_0] | rw [reH_1] | rw [reH_2] | rw [reH_n (by omega)])) <;> first | rfl | assumption) (by rfl) ?_
    refine j_icmp_ge C0 d_Re_copyFrom_7 (tgt := 40) (by decide) (fun c_7 => ?_) (fun c_7 => ?_)
    · refine j_aload_n C0 d_Re_copyFrom_40 rfl (by rfl) ?_
      refine j_aload_n C0 d_Re_copyFrom_41 rfl (by rfl) ?_
      refine j_getf C0 d_Re_copyFrom_42 fl_Re_18 (by (repeat (first | rw [jset_s] | rw [jset_n (by omega)] | rw [reH_0] | rw [reH_1] | rw [reH_2] | rw [reH_n (by omega)])) <;> first | rfl | assumption) (by rfl) ?_
      refine j_putf C0 d_Re_copyFrom_45 fp_Re_18 (by (repeat (first | rw [jset_s] | rw [jset_n (by omega)] | rw [reH_0] | rw [reH_1] | rw [reH_2] | rw [reH_n (by omega)])) <;> first | rfl | assumption) (Nat.le_of_ble_eq_true rfl) (by rfl) (by rfl) ?_
      exact j_vret C0 d_Re_copyFrom_48 rfl (by omega) (by omega) ⟨rfl, by exact reH_s0, rfl⟩
    · exact absurd (nI_le (Nat.le_refl _) (by omega)) c_7
end
section
theorem jset_ss {h : jH} {a : Nat} {e e' : va_E} : jset (jset h a e) a e' = jset h a e' := by
  funext q
  unfold jset
  by_cases h0 : q = a <;> simp [h0]
theorem jset_reH {E : jE} {h : jH} {a n q : Nat} {ad st : Nat → Int32} {e : va_E} (hq : q < a ∨ a + 3 ≤ q) : jset (reH E h a n ad st) q e = reH E (jset h q e) a n ad st := by
  funext p
  unfold jset reH
  by_cases h0 : p = q
  · subst h0
    simp [show ¬ p = a by omega, show ¬ p = a + 1 by omega, show ¬ p = a + 2 by omega]
  · simp [h0]
theorem reH_j0 {E : jE} {h : jH} {a n : Nat} {ad st : Nat → Int32} {e : va_E} : reH E (jset h a e) a n ad st = reH E h a n ad st := by
  funext p
  unfold jset reH
  by_cases h0 : p = a <;> simp [h0]
abbrev jmin (x y : Int32) : Int32 := if y < x then y else x
abbrev jmax (x y : Int32) : Int32 := if x < y then y else x
abbrev jb (p : Prop) [Decidable p] : Int32 := if p then 1 else 0
/-- a message: its numbers by field, how many recipients, their addresses, their states -/
abbrev jMsg : Type := (Nat → Int32) × Nat × (Nat → Int32) × (Nat → Int32)
abbrev meO (a : Nat) (μ : Nat → Int32) : va_E := jO 2 [.ref (a + 1), .int (μ 1), .int (μ 2), .int (μ 3), .int (μ 4), .int (μ 5), .int (μ 6), .int (μ 7)]
def isMe (E : jE) (h : jH) (a : Nat) (m : jMsg) : Prop := h a = some (meO a m.1) ∧ isRe E h (a + 1) m.2.1 m.2.2.1 m.2.2.2
def meH (E : jE) (h : jH) (a : Nat) (m : jMsg) : jH := reH E (jset h a (meO a m.1)) (a + 1) m.2.1 m.2.2.1 m.2.2.2
theorem meH_is {E : jE} {h : jH} {a : Nat} {m : jMsg} (hn : m.2.1 ≤ 4) : isMe E (meH E h a m) a m := ⟨by unfold meH; rw [reH_n (by omega), jset_s], reH_is hn⟩
theorem meH_n {E : jE} {h : jH} {a q : Nat} {m : jMsg} (hq : q < a ∨ a + 4 ≤ q) : meH E h a m q = h q := by
  unfold meH
  rw [reH_n (by omega), jset_n (by omega)]
theorem isMe.keep {E : jE} {h h' : jH} {a : Nat} {m : jMsg} (hm : isMe E h a m) (hk : ∀ q, a ≤ q → q < a + 4 → h' q = h q) : isMe E h' a m :=
  ⟨by rw [hk a (by omega) (by omega)]; exact hm.1, by rw [hk (a + 1) (by omega) (by omega)]; exact hm.2.1, by rw [hk (a + 1 + 1) (by omega) (by omega)]; exact hm.2.2.1, by rw [hk (a + 1 + 2) (by omega) (by omega)]; exact hm.2.2.2.1, hm.2.2.2.2⟩
theorem isRe.keep {E : jE} {h h' : jH} {a n : Nat} {ad st : Nat → Int32} (hm : isRe E h a n ad st) (hk : ∀ q, a ≤ q → q < a + 3 → h' q = h q) : isRe E h' a n ad st :=
  ⟨by rw [hk a (by omega) (by omega)]; exact hm.1, by rw [hk (a + 1) (by omega) (by omega)]; exact hm.2.1, by rw [hk (a + 2) (by omega) (by omega)]; exact hm.2.2.1, hm.2.2.2⟩
abbrev trO (a : Nat) (op snd : Int32) : va_E := jO 6 [.ref (a + 1), .int op, .int snd]
def isTr (E : jE) (h : jH) (a : Nat) (op snd : Int32) (n : Nat) (ad st : Nat → Int32) : Prop := h a = some (trO a op snd) ∧ isRe E h (a + 1) n ad st
set_option maxHeartbeats 4000000 in
set_option maxRecDepth 100000 in
theorem c_Ma_clamp (l : Launch) (E : jE) {h : jH} {sz : Nat} (v lo hi : Int32) : jC l M_Ma_clamp 1 E [.int v, .int lo, .int hi] h sz 0 0 (fun r h' sz' => r = some (.int (jmax lo (jmin v hi))) ∧ h' = h ∧ sz' = sz) := by
  refine jC.of (by decide) (Nat.le_of_ble_eq_true rfl) ?_
  intro x C0 hx
  subst hx

  refine j_iload_n C0 d_Ma_clamp_0 rfl (by rfl) ?_
  refine j_iload_n C0 d_Ma_clamp_1 rfl (by rfl) ?_
  refine j_iload_n C0 d_Ma_clamp_2 rfl (by rfl) ?_
  refine j_mmin C0 d_Ma_clamp_3 cl_Ma_218.1 cl_Ma_218v cl_Ma_218.2.1 cl_Ma_218.2.2.1 (by omega) (Nat.le_of_ble_eq_true rfl) (by omega) (by omega) ?_
  refine j_mmax C0 d_Ma_clamp_6 cl_Ma_223.1 cl_Ma_223v cl_Ma_223.2.1 cl_Ma_223.2.2.1 (by omega) (Nat.le_of_ble_eq_true rfl) (by omega) (by omega) ?_
  exact j_iret C0 d_Ma_clamp_9 rfl (by omega) (by omega) ⟨rfl, rfl, rfl⟩
set_option maxHeartbeats 4000000 in
set_option maxRecDepth 100000 in
theorem c_Ma_isBelow (l : Launch) (E : jE) {h : jH} {sz : Nat} (v b : Int32) : jC l M_Ma_isBelow 0 E [.int v, .int b] h sz 0 0 (fun r h' sz' => r = some (.int (jb (¬ v < 0 ∧ ¬ b ≤ v))) ∧ h' = h ∧ sz' = sz) := by
  refine jC.of (by decide) (Nat.le_of_ble_eq_true rfl) ?_
  intro x C0 hx
  subst hx

  refine j_iload_n C0 d_Ma_isBelow_0 rfl (by rfl) ?_
  refine j_if_lt C0 d_Ma_isBelow_1 (tgt := 13) (by decide) (fun c_1 => ?_) (fun c_1 => ?_)
  · refine j_iconst C0 d_Ma_isBelow_13 (v := 0) (by decide) ?_
    exact j_zret C0 d_Ma_isBelow_14 rfl (by rfl) (by omega) (by omega) ⟨by first | (simp [jb, c_1]; done) | (simp [jb, c_1, c_6]; done), rfl, rfl⟩
  · refine j_iload_n C0 d_Ma_isBelow_4 rfl (by rfl) ?_
    refine j_iload_n C0 d_Ma_isBelow_5 rfl (by rfl) ?_
    refine j_icmp_ge C0 d_Ma_isBelow_6 (tgt := 13) (by decide) (fun c_6 => ?_) (fun c_6 => ?_)
    · refine j_iconst C0 d_Ma_isBelow_13 (v := 0) (by decide) ?_
      exact j_zret C0 d_Ma_isBelow_14 rfl (by rfl) (by omega) (by omega) ⟨by first | (simp [jb, c_1]; done) | (simp [jb, c_1, c_6]; done), rfl, rfl⟩
    · refine j_iconst C0 d_Ma_isBelow_9 (v := 1) (by decide) ?_
      refine j_goto C0 d_Ma_isBelow_10 (tgt := 14) (by decide) ?_
      exact j_zret C0 d_Ma_isBelow_14 rfl (by rfl) (by omega) (by omega) ⟨by first | (simp [jb, c_1]; done) | (simp [jb, c_1, c_6]; done), rfl, rfl⟩
set_option maxHeartbeats 4000000 in
set_option maxRecDepth 100000 in
theorem c_Ma_isForeign (l : Launch) (E : jE) {h : jH} {sz : Nat} (v : Int32) : jC l M_Ma_isForeign 1 E [.int v] h sz 0 0 (fun r h' sz' => r = some (.int (jb (¬ v = 0 ∧ ¬ v < 0 ∧ ¬ 8 ≤ v))) ∧ h' = h ∧ sz' = sz) := by
  refine jC.of (by decide) (Nat.le_of_ble_eq_true rfl) ?_
  intro x C0 hx
  subst hx

  refine j_iload_n C0 d_Ma_isForeign_0 rfl (by rfl) ?_
  refine j_if_eq C0 d_Ma_isForeign_1 (tgt := 17) (by decide) (fun c_1 => ?_) (fun c_1 => ?_)
  · refine j_iconst C0 d_Ma_isForeign_17 (v := 0) (by decide) ?_
    exact j_zret C0 d_Ma_isForeign_18 rfl (by rfl) (by omega) (by omega) ⟨by first | (rw [jb, if_neg (fun hh => hh.1 c_1)]; done) | (rw [jb, if_neg (fun hh => hB hh.2)]; done) | (rw [jb, if_pos ⟨c_1, hB⟩]; done), rfl, rfl⟩
  · refine j_iload_n C0 d_Ma_isForeign_4 rfl (by rfl) ?_
    refine j_bipush C0 d_Ma_isForeign_5 (v := 8) (by decide) ?_
    refine j_callS C0 d_Ma_isForeign_7 cl_Ma_74 cl_Ma_74v (c_Ma_isBelow _ E v 8) rfl rfl ⟨by decide, by decide⟩ ⟨by omega, by omega⟩ (Nat.le_of_ble_eq_true rfl) (fun r_ h_ z_ hp_ => ?_)
    obtain ⟨rfl, rfl, rfl⟩ := hp_
    refine j_if_eq C0 d_Ma_isForeign_10 (tgt := 17) (by decide) (fun c_10 => ?_) (fun c_10 => ?_)
    · have hB : ¬ (¬ v < 0 ∧ ¬ (8 : Int32) ≤ v) := fun hB => by rw [show jb (¬ v < 0 ∧ ¬ (8 : Int32) ≤ v) = 1 from if_pos hB] at c_10; exact absurd c_10 (by decide)
      refine j_iconst C0 d_Ma_isForeign_17 (v := 0) (by decide) ?_
      exact j_zret C0 d_Ma_isForeign_18 rfl (by rfl) (by omega) (by omega) ⟨by first | (rw [jb, if_neg (fun hh => hh.1 c_1)]; done) | (rw [jb, if_neg (fun hh => hB hh.2)]; done) | (rw [jb, if_pos ⟨c_1, hB⟩]; done), rfl, rfl⟩
    · have hB : ¬ v < 0 ∧ ¬ (8 : Int32) ≤ v := Decidable.byContradiction fun hB => c_10 (if_neg hB)
      refine j_iconst C0 d_Ma_isForeign_13 (v := 1) (by decide) ?_
      refine j_goto C0 d_Ma_isForeign_14 (tgt := 18) (by decide) ?_
      exact j_zret C0 d_Ma_isForeign_18 rfl (by rfl) (by omega) (by omega) ⟨by first | (rw [jb, if_neg (fun hh => hh.1 c_1)]; done) | (rw [jb, if_neg (fun hh => hB hh.2)]; done) | (rw [jb, if_pos ⟨c_1, hB⟩]; done), rfl, rfl⟩
set_option maxHeartbeats 4000000 in
set_option maxRecDepth 100000 in
theorem c_Ma_costOf (l : Launch) (E : jE) {h : jH} {sz : Nat} (v w : Int32) : jC l M_Ma_costOf 0 E [.int v, .int w] h sz 0 0 (fun r h' sz' => r = some (.int (v + w + 1)) ∧ h' = h ∧ sz' = sz) := by
  refine jC.of (by decide) (Nat.le_of_ble_eq_true rfl) ?_
  intro x C0 hx
  subst hx

  refine j_iload_n C0 d_Ma_costOf_0 rfl (by rfl) ?_
  refine j_iload_n C0 d_Ma_costOf_1 rfl (by rfl) ?_
  refine j_iadd C0 d_Ma_costOf_2 ?_
  refine j_iconst C0 d_Ma_costOf_3 (v := 1) (by decide) ?_
  refine j_iadd C0 d_Ma_costOf_4 ?_
  exact j_iret C0 d_Ma_costOf_5 rfl (by omega) (by omega) ⟨rfl, rfl, rfl⟩
set_option maxHeartbeats 4000000 in
set_option maxRecDepth 100000 in
theorem c_Lo_bitCount (l : Launch) (E : jE) {h : jH} {sz m : Nat} (hm : m < 2 ^ 64) : jC l M_Lo_bitCount 0 E [.long (lN m)] h sz 0 0 (fun r h' sz' => r = some (.int (nI (pp_c m 64))) ∧ h' = h ∧ sz' = sz) := by
  refine jC.of (by decide) (Nat.le_of_ble_eq_true rfl) ?_
  intro x C0 hx
  subst hx

  refine j_lload_n C0 d_Lo_bitCount_0 rfl (by rfl) ?_
  refine j_lload_n C0 d_Lo_bitCount_1 rfl (by rfl) ?_
  refine j_iconst C0 d_Lo_bitCount_2 (v := 1) (by decide) ?_
  refine j_lushr C0 d_Lo_bitCount_3 rfl ?_
  refine j_ldc2 C0 d_Lo_bitCount_4 w_1_238 ?_
  refine j_land C0 d_Lo_bitCount_7 ?_
  refine j_lsub C0 d_Lo_bitCount_8 ?_
  refine j_lstore_n C0 d_Lo_bitCount_9 rfl (Nat.le_of_ble_eq_true rfl) ?_
  refine j_lload_n C0 d_Lo_bitCount_10 rfl (by rfl) ?_
  refine j_ldc2 C0 d_Lo_bitCount_11 w_1_239 ?_
  refine j_land C0 d_Lo_bitCount_14 ?_
  refine j_lload_n C0 d_Lo_bitCount_15 rfl (by rfl) ?_
  refine j_iconst C0 d_Lo_bitCount_16 (v := 2) (by decide) ?_
  refine j_lushr C0 d_Lo_bitCount_17 rfl ?_
  refine j_ldc2 C0 d_Lo_bitCount_18 w_1_239 ?_
  refine j_land C0 d_Lo_bitCount_21 ?_
  refine j_ladd C0 d_Lo_bitCount_22 ?_
  refine j_lstore_n C0 d_Lo_bitCount_23 rfl (Nat.le_of_ble_eq_true rfl) ?_
  refine j_lload_n C0 d_Lo_bitCount_24 rfl (by rfl) ?_
  refine j_lload_n C0 d_Lo_bitCount_25 rfl (by rfl) ?_
  refine j_iconst C0 d_Lo_bitCount_26 (v := 4) (by decide) ?_
  refine j_lushr C0 d_Lo_bitCount_27 rfl ?_
  refine j_ladd C0 d_Lo_bitCount_28 ?_
  refine j_ldc2 C0 d_Lo_bitCount_29 w_2_0 ?_
  refine j_land C0 d_Lo_bitCount_32 ?_
  refine j_lstore_n C0 d_Lo_bitCount_33 rfl (Nat.le_of_ble_eq_true rfl) ?_
  refine j_lload_n C0 d_Lo_bitCount_34 rfl (by rfl) ?_
  refine j_lload_n C0 d_Lo_bitCount_35 rfl (by rfl) ?_
  refine j_bipush C0 d_Lo_bitCount_36 (v := 8) (by decide) ?_
  refine j_lushr C0 d_Lo_bitCount_38 rfl ?_
  refine j_ladd C0 d_Lo_bitCount_39 ?_
  refine j_lstore_n C0 d_Lo_bitCount_40 rfl (Nat.le_of_ble_eq_true rfl) ?_
  refine j_lload_n C0 d_Lo_bitCount_41 rfl (by rfl) ?_
  refine j_lload_n C0 d_Lo_bitCount_42 rfl (by rfl) ?_
  refine j_bipush C0 d_Lo_bitCount_43 (v := 16) (by decide) ?_
  refine j_lushr C0 d_Lo_bitCount_45 rfl ?_
  refine j_ladd C0 d_Lo_bitCount_46 ?_
  refine j_lstore_n C0 d_Lo_bitCount_47 rfl (Nat.le_of_ble_eq_true rfl) ?_
  refine j_lload_n C0 d_Lo_bitCount_48 rfl (by rfl) ?_
  refine j_lload_n C0 d_Lo_bitCount_49 rfl (by rfl) ?_
  refine j_bipush C0 d_Lo_bitCount_50 (v := 32) (by decide) ?_
  refine j_lushr C0 d_Lo_bitCount_52 rfl ?_
  refine j_ladd C0 d_Lo_bitCount_53 ?_
  refine j_lstore_n C0 d_Lo_bitCount_54 rfl (Nat.le_of_ble_eq_true rfl) ?_
  refine j_lload_n C0 d_Lo_bitCount_55 rfl (by rfl) ?_
  refine j_l2i C0 d_Lo_bitCount_56 rfl ?_
  refine j_bipush C0 d_Lo_bitCount_57 (v := 127) (by decide) ?_
  refine j_iand C0 d_Lo_bitCount_59 ?_
  exact j_iret C0 d_Lo_bitCount_60 rfl (by omega) (by omega) ⟨congrArg (fun z => some (Value.int z)) (bc_all m hm rfl rfl rfl rfl rfl rfl), rfl, rfl⟩
set_option maxHeartbeats 4000000 in
set_option maxRecDepth 100000 in
theorem c_Me_init (l : Launch) (E : jE) {h : jH} {sz a : Nat} (e0 : h a = some (jO 2 [.null, .int 0, .int 0, .int 0, .int 0, .int 0, .int 0, .int 0])) (hz : sz = a + 1) : jC l M_Me_init 2 E [.ref a] h sz 3 11 (fun r h' sz' => r = none ∧ h' = meH E h a (fun _ => 0, 0, fun _ => 0, fun _ => 0) ∧ sz' = a + 4) := by
  subst hz
  refine jC.of (by decide) (Nat.le_of_ble_eq_true rfl) ?_
  intro x C0 hx
  subst hx

  refine j_aload_n C0 d_Me_init_0 rfl (by rfl) ?_
  refine j_obj C0 d_Me_init_1 w_1_114 w_1_18 w_1_19 (by omega) (Nat.le_of_ble_eq_true rfl) ?_
  refine j_aload_n C0 d_Me_init_4 rfl (by rfl) ?_
  refine j_new C0 d_Me_init_5 nw_Me_9 (by omega) (by omega) ?_
  refine j_dup C0 d_Me_init_8 rfl ?_
  refine j_callIN C0 d_Me_init_9 cn_Me_11 cn_Me_11v rfl rfl (c_Re_init _ E jset_s rfl) rfl rfl ⟨by decide, by decide⟩ ⟨by omega, by omega⟩ (Nat.le_of_ble_eq_true rfl) (fun r_ h_ z_ hp_ => ?_)
  obtain ⟨rfl, rfl, rfl⟩ := hp_
  refine j_putF C0 d_Me_init_12 fp_Me_12 (by (repeat (first | rw [jset_s] | rw [jset_n (by omega)] | rw [reH_0] | rw [reH_1] | rw [reH_2] | rw [reH_n (by omega)])) <;> first | rfl | assumption) (Nat.le_of_ble_eq_true rfl) (by rfl) (by rfl) rfl ?_
  exact j_vret C0 d_Me_init_15 rfl (by omega) (by omega) ⟨rfl, by unfold meH; rw [reH_j0, jset_reH (by omega)]; rfl, rfl⟩
set_option maxHeartbeats 4000000 in
set_option maxRecDepth 100000 in
theorem c_Me_schedule (l : Launch) (E : jE) {h : jH} {sz a : Nat} {m : jMsg} (c g : Int32) (hm : isMe E h a m) : jC l M_Me_schedule 0 E [.ref a, .int c, .int g] h sz 0 0 (fun r h' sz' => r = none ∧ h' = jset h a (meO a (upd (upd (upd m.1 4 c) 5 c) 6 g)) ∧ sz' = sz) := by
  obtain ⟨e0, e1, e2, e3, hn⟩ := hm
  refine jC.of (by decide) (Nat.le_of_ble_eq_true rfl) ?_
  intro x C0 hx
  subst hx

  refine j_aload_n C0 d_Me_schedule_0 rfl (by rfl) ?_
  refine j_iload_n C0 d_Me_schedule_1 rfl (by rfl) ?_
  refine j_putf C0 d_Me_schedule_2 fp_Me_40 (by (repeat (first | rw [jset_s] | rw [jset_n (by omega)] | rw [reH_0] | rw [reH_1] | rw [reH_2] | rw [reH_n (by omega)])) <;> first | rfl | assumption) (Nat.le_of_ble_eq_true rfl) (by rfl) (by rfl) ?_
  refine j_aload_n C0 d_Me_schedule_5 rfl (by rfl) ?_
  refine j_iload_n C0 d_Me_schedule_6 rfl (by rfl) ?_
  refine j_putf C0 d_Me_schedule_7 fp_Me_43 (by (repeat (first | rw [jset_s] | rw [jset_n (by omega)] | rw [reH_0] | rw [reH_1] | rw [reH_2] | rw [reH_n (by omega)])) <;> first | rfl | assumption) (Nat.le_of_ble_eq_true rfl) (by rfl) (by rfl) ?_
  refine j_aload_n C0 d_Me_schedule_10 rfl (by rfl) ?_
  refine j_iload_n C0 d_Me_schedule_11 rfl (by rfl) ?_
  refine j_putf C0 d_Me_schedule_12 fp_Me_46 (by (repeat (first | rw [jset_s] | rw [jset_n (by omega)] | rw [reH_0] | rw [reH_1] | rw [reH_2] | rw [reH_n (by omega)])) <;> first | rfl | assumption) (Nat.le_of_ble_eq_true rfl) (by rfl) (by rfl) ?_
  exact j_vret C0 d_Me_schedule_15 rfl (by omega) (by omega) ⟨rfl, by rw [jset_ss, jset_ss]; rfl, rfl⟩
set_option maxHeartbeats 4000000 in
set_option maxRecDepth 100000 in
theorem c_Me_putOff (l : Launch) (E : jE) {h : jH} {sz a : Nat} {m : jMsg} (c g : Int32) (hm : isMe E h a m) : jC l M_Me_putOff 1 E [.ref a, .int c, .int g] h sz 0 0 (fun r h' sz' => r = none ∧ h' = jset h a (meO a (upd (upd m.1 5 (c + m.1 6)) 6 (jmin (m.1 6 * 2) g))) ∧ sz' = sz) := by
  obtain ⟨e0, e1, e2, e3, hn⟩ := hm
  refine jC.of (by decide) (Nat.le_of_ble_eq_true rfl) ?_
  intro x C0 hx
  subst hx

  refine j_aload_n C0 d_Me_putOff_0 rfl (by rfl) ?_
  refine j_iload_n C0 d_Me_putOff_1 rfl (by rfl) ?_
  refine j_aload_n C0 d_Me_putOff_2 rfl (by rfl) ?_
  refine j_getf C0 d_Me_putOff_3 fl_Me_46 (by (repeat (first | rw [jset_s] | rw [jset_n (by omega)] | rw [reH_0] | rw [reH_1] | rw [reH_2] | rw [reH_n (by omega)])) <;> first | rfl | assumption) (by rfl) ?_
  refine j_iadd C0 d_Me_putOff_6 ?_
  refine j_putf C0 d_Me_putOff_7 fp_Me_43 (by (repeat (first | rw [jset_s] | rw [jset_n (by omega)] | rw [reH_0] | rw [reH_1] | rw [reH_2] | rw [reH_n (by omega)])) <;> first | rfl | assumption) (Nat.le_of_ble_eq_true rfl) (by rfl) (by rfl) ?_
  refine j_aload_n C0 d_Me_putOff_10 rfl (by rfl) ?_
  refine j_aload_n C0 d_Me_putOff_11 rfl (by rfl) ?_
  refine j_getf C0 d_Me_putOff_12 fl_Me_46 (by (repeat (first | rw [jset_s] | rw [jset_n (by omega)] | rw [reH_0] | rw [reH_1] | rw [reH_2] | rw [reH_n (by omega)])) <;> first | rfl | assumption) (by rfl) ?_
  refine j_iconst C0 d_Me_putOff_15 (v := 2) (by decide) ?_
  refine j_imul C0 d_Me_putOff_16 ?_
  refine j_iload_n C0 d_Me_putOff_17 rfl (by rfl) ?_
  refine j_mmin C0 d_Me_putOff_18 cl_Me_49.1 cl_Me_49v cl_Me_49.2.1 cl_Me_49.2.2.1 (by omega) (Nat.le_of_ble_eq_true rfl) (by omega) (by omega) ?_
  refine j_putf C0 d_Me_putOff_21 fp_Me_46 (by (repeat (first | rw [jset_s] | rw [jset_n (by omega)] | rw [reH_0] | rw [reH_1] | rw [reH_2] | rw [reH_n (by omega)])) <;> first | rfl | assumption) (Nat.le_of_ble_eq_true rfl) (by rfl) (by rfl) ?_
  exact j_vret C0 d_Me_putOff_24 rfl (by omega) (by omega) ⟨rfl, by rw [jset_ss]; rfl, rfl⟩
set_option maxHeartbeats 4000000 in
set_option maxRecDepth 100000 in
theorem c_Me_becomeReport (l : Launch) (E : jE) {h : jH} {sz a : Nat} {m : jMsg} (hm : isMe E h a m) : jC l M_Me_becomeReport 1 E [.ref a] h sz 0 0 (fun r h' sz' => r = none ∧ h' = meH E h a (upd (upd (upd m.1 2 (-1)) 3 0) 7 1, 1, upd m.2.2.1 0 (m.1 2), upd m.2.2.2 0 1) ∧ sz' = sz) := by
  obtain ⟨e0, e1, e2, e3, hn⟩ := hm
  refine jC.of (by decide) (Nat.le_of_ble_eq_true rfl) ?_
  intro x C0 hx
  subst hx

  refine j_aload_n C0 d_Me_becomeReport_0 rfl (by rfl) ?_
  refine j_getf C0 d_Me_becomeReport_1 fl_Me_12 (by (repeat (first | rw [jset_s] | rw [jset_n (by omega)] | rw [reH_0] | rw [reH_1] | rw [reH_2] | rw [reH_n (by omega)])) <;> first | rfl | assumption) (by rfl) ?_
  refine j_iconst C0 d_Me_becomeReport_4 (v := 0) (by decide) ?_
  refine j_putf C0 d_Me_becomeReport_5 fp_Me_55 (by (repeat (first | rw [jset_s] | rw [jset_n (by omega)] | rw [reH_0] | rw [reH_1] | rw [reH_2] | rw [reH_n (by omega)])) <;> first | rfl | assumption) (Nat.le_of_ble_eq_true rfl) (by rfl) (by rfl) ?_
  refine j_aload_n C0 d_Me_becomeReport_8 rfl (by rfl) ?_
  refine j_getf C0 d_Me_becomeReport_9 fl_Me_12 (by (repeat (first | rw [jset_s] | rw [jset_n (by omega)] | rw [reH_0] | rw [reH_1] | rw [reH_2] | rw [reH_n (by omega)])) <;> first | rfl | assumption) (by rfl) ?_
  refine j_aload_n C0 d_Me_becomeReport_12 rfl (by rfl) ?_
  refine j_getf C0 d_Me_becomeReport_13 fl_Me_27 (by (repeat (first | rw [jset_s] | rw [jset_n (by omega)] | rw [reH_0] | rw [reH_1] | rw [reH_2] | rw [reH_n (by omega)])) <;> first | rfl | assumption) (by rfl) ?_
  refine j_callV C0 d_Me_becomeReport_16 cl_Me_56 cl_Me_56v (c_Re_add _ E (n := 0) (ad := m.2.2.1) (st := m.2.2.2) (m.1 2) ⟨jset_s, by rw [jset_n (by omega)]; exact e2, by rw [jset_n (by omega)]; exact e3, by omega⟩ (by decide)) (by (repeat (first | rw [jset_s] | rw [jset_n (by omega)] | rw [reH_0] | rw [reH_1] | rw [reH_2] | rw [reH_n (by omega)])) <;> first | rfl | assumption) rfl rfl rfl ⟨by decide, by decide⟩ ⟨by omega, by omega⟩ (Nat.le_of_ble_eq_true rfl) (fun r_ h_ z_ hp_ => ?_)
  obtain ⟨rfl, rfl, rfl⟩ := hp_
  rw [reH_j0]
  refine j_aload_n C0 d_Me_becomeReport_19 rfl (by rfl) ?_
  refine j_iconst C0 d_Me_becomeReport_20 (v := -1) (by decide) ?_
  refine j_putf C0 d_Me_becomeReport_21 fp_Me_27 (by (repeat (first | rw [jset_s] | rw [jset_n (by omega)] | rw [reH_0] | rw [reH_1] | rw [reH_2] | rw [reH_n (by omega)])) <;> first | rfl | assumption) (Nat.le_of_ble_eq_true rfl) (by rfl) (by rfl) ?_
  refine j_aload_n C0 d_Me_becomeReport_24 rfl (by rfl) ?_
  refine j_iconst C0 d_Me_becomeReport_25 (v := 0) (by decide) ?_
  refine j_putf C0 d_Me_becomeReport_26 fp_Me_28 (by (repeat (first | rw [jset_s] | rw [jset_n (by omega)] | rw [reH_0] | rw [reH_1] | rw [reH_2] | rw [reH_n (by omega)])) <;> first | rfl | assumption) (Nat.le_of_ble_eq_true rfl) (by rfl) (by rfl) ?_
  refine j_aload_n C0 d_Me_becomeReport_29 rfl (by rfl) ?_
  refine j_iconst C0 d_Me_becomeReport_30 (v := 1) (by decide) ?_
  refine j_putf C0 d_Me_becomeReport_31 fp_Me_31 (by (repeat (first | rw [jset_s] | rw [jset_n (by omega)] | rw [reH_0] | rw [reH_1] | rw [reH_2] | rw [reH_n (by omega)])) <;> first | rfl | assumption) (Nat.le_of_ble_eq_true rfl) (by rfl) (by rfl) ?_
  exact j_vret C0 d_Me_becomeReport_34 rfl (by omega) (by omega) ⟨rfl, by unfold meH; rw [jset_ss, jset_ss, jset_reH (by omega)]; rfl, rfl⟩
set_option maxHeartbeats 4000000 in
set_option maxRecDepth 100000 in
theorem c_Me_accept (l : Launch) (E : jE) {h : jH} {sz a t n : Nat} {m : jMsg} {op snd : Int32} {ad st : Nat → Int32} (num size : Int32) (hm : isMe E h a m) (ht : isTr E h t op snd n ad st) (hat : a + 4 ≤ t ∨ t + 4 ≤ a) : jC l M_Me_accept 1 E [.ref a, .int num, .int size, .ref t] h sz 0 0 (fun r h' sz' => r = none ∧ h' = meH E h a (upd (upd (upd (upd m.1 1 num) 2 snd) 3 size) 7 0, n, cp m.2.2.1 ad n, cp m.2.2.2 st n) ∧ sz' = sz) := by
  obtain ⟨e0, e1, e2, e3, hn⟩ := hm
  obtain ⟨f0, f1, f2, f3, fn⟩ := ht
  refine jC.of (by decide) (Nat.le_of_ble_eq_true rfl) ?_
  intro x C0 hx
  subst hx

  refine j_aload_n C0 d_Me_accept_0 rfl (by rfl) ?_
  refine j_iload_n C0 d_Me_accept_1 rfl (by rfl) ?_
  refine j_putf C0 d_Me_accept_2 fp_Me_18 (by (repeat (first | rw [jset_s] | rw [jset_n (by omega)] | rw [reH_0] | rw [reH_1] | rw [reH_2] | rw [reH_n (by omega)])) <;> first | rfl | assumption) (Nat.le_of_ble_eq_true rfl) (by rfl) (by rfl) ?_
  refine j_aload_n C0 d_Me_accept_5 rfl (by rfl) ?_
  refine j_aload_n C0 d_Me_accept_6 rfl (by rfl) ?_
  refine j_getf C0 d_Me_accept_7 fl_Me_22 (by (repeat (first | rw [jset_s] | rw [jset_n (by omega)] | rw [reH_0] | rw [reH_1] | rw [reH_2] | rw [reH_n (by omega)])) <;> first | rfl | assumption) (by rfl) ?_
  refine j_putf C0 d_Me_accept_10 fp_Me_27 (by (repeat (first | rw [jset_s] | rw [jset_n (by omega)] | rw [reH_0] | rw [reH_1] | rw [reH_2] | rw [reH_n (by omega)])) <;> first | rfl | assumption) (Nat.le_of_ble_eq_true rfl) (by rfl) (by rfl) ?_
  refine j_aload_n C0 d_Me_accept_13 rfl (by rfl) ?_
  refine j_iload_n C0 d_Me_accept_14 rfl (by rfl) ?_
  refine j_putf C0 d_Me_accept_15 fp_Me_28 (by (repeat (first | rw [jset_s] | rw [jset_n (by omega)] | rw [reH_0] | rw [reH_1] | rw [reH_2] | rw [reH_n (by omega)])) <;> first | rfl | assumption) (Nat.le_of_ble_eq_true rfl) (by rfl) (by rfl) ?_
  refine j_aload_n C0 d_Me_accept_18 rfl (by rfl) ?_
  refine j_iconst C0 d_Me_accept_19 (v := 0) (by decide) ?_
  refine j_putf C0 d_Me_accept_20 fp_Me_31 (by (repeat (first | rw [jset_s] | rw [jset_n (by omega)] | rw [reH_0] | rw [reH_1] | rw [reH_2] | rw [reH_n (by omega)])) <;> first | rfl | assumption) (Nat.le_of_ble_eq_true rfl) (by rfl) (by rfl) ?_
  refine j_aload_n C0 d_Me_accept_23 rfl (by rfl) ?_
  refine j_getf C0 d_Me_accept_24 fl_Me_12 (by (repeat (first | rw [jset_s] | rw [jset_n (by omega)] | rw [reH_0] | rw [reH_1] | rw [reH_2] | rw [reH_n (by omega)])) <;> first | rfl | assumption) (by rfl) ?_
  refine j_aload_n C0 d_Me_accept_27 rfl (by rfl) ?_
  refine j_getf C0 d_Me_accept_28 fl_Me_35 (by (repeat (first | rw [jset_s] | rw [jset_n (by omega)] | rw [reH_0] | rw [reH_1] | rw [reH_2] | rw [reH_n (by omega)])) <;> first | rfl | assumption) (by rfl) ?_
  refine j_callV C0 d_Me_accept_31 cl_Me_36 cl_Me_36v (c_Re_copyFrom _ E (n := m.2.1) (ad := m.2.2.1) (st := m.2.2.2) (n2 := n) (ad2 := ad) (st2 := st) (isRe.keep (h := h) ⟨e1, e2, e3, hn⟩ (fun q h1 h2 => by rw [jset_n (by omega), jset_n (by omega), jset_n (by omega), jset_n (by omega)])) (isRe.keep (h := h) ⟨f1, f2, f3, fn⟩ (fun q h1 h2 => by rw [jset_n (by omega), jset_n (by omega), jset_n (by omega), jset_n (by omega)])) (by omega)) (by (repeat (first | rw [jset_n (by omega)])) <;> exact e1) rfl rfl rfl ⟨by decide, by decide⟩ ⟨by omega, by omega⟩ (Nat.le_of_ble_eq_true rfl) (fun r_ h_ z_ hp_ => ?_)
  obtain ⟨rfl, rfl, rfl⟩ := hp_
  exact j_vret C0 d_Me_accept_34 rfl (by omega) (by omega) ⟨rfl, by unfold meH; rw [jset_ss, jset_ss, jset_ss]; rfl, rfl⟩
set_option maxHeartbeats 4000000 in
set_option maxRecDepth 100000 in
theorem c_Me_copyFrom (l : Launch) (E : jE) {h : jH} {sz a t : Nat} {m m2 : jMsg} (hm : isMe E h a m) (ht : isMe E h t m2) (hat : a + 4 ≤ t ∨ t + 4 ≤ a) (hb : m2.1 7 = 0 ∨ m2.1 7 = 1) : jC l M_Me_copyFrom 1 E [.ref a, .ref t] h sz 0 0 (fun r h' sz' => r = none ∧ h' = meH E h a (m2.1, m2.2.1, cp m.2.2.1 m2.2.2.1 m2.2.1, cp m.2.2.2 m2.2.2.2 m2.2.1) ∧ sz' = sz) := by
  obtain ⟨e0, e1, e2, e3, hn⟩ := hm
  obtain ⟨f0, f1, f2, f3, fn⟩ := ht
  refine jC.of (by decide) (Nat.le_of_ble_eq_true rfl) ?_
  intro x C0 hx
  subst hx

  refine j_aload_n C0 d_Me_copyFrom_0 rfl (by rfl) ?_
  refine j_aload_n C0 d_Me_copyFrom_1 rfl (by rfl) ?_
  refine j_getf C0 d_Me_copyFrom_2 fl_Me_18 (by (repeat (first | rw [jset_s] | rw [jset_n (by omega)] | rw [reH_0] | rw [reH_1] | rw [reH_2] | rw [reH_n (by omega)])) <;> first | rfl | assumption) (by rfl) ?_
  refine j_putf C0 d_Me_copyFrom_5 fp_Me_18 (by (repeat (first | rw [jset_s] | rw [jset_n (by omega)] | rw [reH_0] | rw [reH_1] | rw [reH_2] | rw [reH_n (by omega)])) <;> first | rfl | assumption) (Nat.le_of_ble_eq_true rfl) (by rfl) (by rfl) ?_
  refine j_aload_n C0 d_Me_copyFrom_8 rfl (by rfl) ?_
  refine j_aload_n C0 d_Me_copyFrom_9 rfl (by rfl) ?_
  refine j_getf C0 d_Me_copyFrom_10 fl_Me_27 (by (repeat (first | rw [jset_s] | rw [jset_n (by omega)] | rw [reH_0] | rw [reH_1] | rw [reH_2] | rw [reH_n (by omega)])) <;> first | rfl | assumption) (by rfl) ?_
  refine j_putf C0 d_Me_copyFrom_13 fp_Me_27 (by (repeat (first | rw [jset_s] | rw [jset_n (by omega)] | rw [reH_0] | rw [reH_1] | rw [reH_2] | rw [reH_n (by omega)])) <;> first | rfl | assumption) (Nat.le_of_ble_eq_true rfl) (by rfl) (by rfl) ?_
  refine j_aload_n C0 d_Me_copyFrom_16 rfl (by rfl) ?_
  refine j_aload_n C0 d_Me_copyFrom_17 rfl (by rfl) ?_
  refine j_getf C0 d_Me_copyFrom_18 fl_Me_28 (by (repeat (first | rw [jset_s] | rw [jset_n (by omega)] | rw [reH_0] | rw [reH_1] | rw [reH_2] | rw [reH_n (by omega)])) <;> first | rfl | assumption) (by rfl) ?_
  refine j_putf C0 d_Me_copyFrom_21 fp_Me_28 (by (repeat (first | rw [jset_s] | rw [jset_n (by omega)] | rw [reH_0] | rw [reH_1] | rw [reH_2] | rw [reH_n (by omega)])) <;> first | rfl | assumption) (Nat.le_of_ble_eq_true rfl) (by rfl) (by rfl) ?_
  refine j_aload_n C0 d_Me_copyFrom_24 rfl (by rfl) ?_
  refine j_aload_n C0 d_Me_copyFrom_25 rfl (by rfl) ?_
  refine j_getf C0 d_Me_copyFrom_26 fl_Me_40 (by (repeat (first | rw [jset_s] | rw [jset_n (by omega)] | rw [reH_0] | rw [reH_1] | rw [reH_2] | rw [reH_n (by omega)])) <;> first | rfl | assumption) (by rfl) ?_
  refine j_putf C0 d_Me_copyFrom_29 fp_Me_40 (by (repeat (first | rw [jset_s] | rw [jset_n (by omega)] | rw [reH_0] | rw [reH_1] | rw [reH_2] | rw [reH_n (by omega)])) <;> first | rfl | assumption) (Nat.le_of_ble_eq_true rfl) (by rfl) (by rfl) ?_
  refine j_aload_n C0 d_Me_copyFrom_32 rfl (by rfl) ?_
  refine j_aload_n C0 d_Me_copyFrom_33 rfl (by rfl) ?_
  refine j_getf C0 d_Me_copyFrom_34 fl_Me_43 (by (repeat (first | rw [jset_s] | rw [jset_n (by omega)] | rw [reH_0] | rw [reH_1] | rw [reH_2] | rw [reH_n (by omega)])) <;> first | rfl | assumption) (by rfl) ?_
  refine j_putf C0 d_Me_copyFrom_37 fp_Me_43 (by (repeat (first | rw [jset_s] | rw [jset_n (by omega)] | rw [reH_0] | rw [reH_1] | rw [reH_2] | rw [reH_n (by omega)])) <;> first | rfl | assumption) (Nat.le_of_ble_eq_true rfl) (by rfl) (by rfl) ?_
  refine j_aload_n C0 d_Me_copyFrom_40 rfl (by rfl) ?_
  refine j_aload_n C0 d_Me_copyFrom_41 rfl (by rfl) ?_
  refine j_getf C0 d_Me_copyFrom_42 fl_Me_46 (by (repeat (first | rw [jset_s] | rw [jset_n (by omega)] | rw [reH_0] | rw [reH_1] | rw [reH_2] | rw [reH_n (by omega)])) <;> first | rfl | assumption) (by rfl) ?_
  refine j_putf C0 d_Me_copyFrom_45 fp_Me_46 (by (repeat (first | rw [jset_s] | rw [jset_n (by omega)] | rw [reH_0] | rw [reH_1] | rw [reH_2] | rw [reH_n (by omega)])) <;> first | rfl | assumption) (Nat.le_of_ble_eq_true rfl) (by rfl) (by rfl) ?_
  refine j_aload_n C0 d_Me_copyFrom_48 rfl (by rfl) ?_
  refine j_aload_n C0 d_Me_copyFrom_49 rfl (by rfl) ?_
  refine j_getf C0 d_Me_copyFrom_50 fl_Me_31 (by (repeat (first | rw [jset_s] | rw [jset_n (by omega)] | rw [reH_0] | rw [reH_1] | rw [reH_2] | rw [reH_n (by omega)])) <;> first | rfl | assumption) (by rfl) ?_
  refine j_putf C0 d_Me_copyFrom_53 fp_Me_31 (by (repeat (first | rw [jset_s] | rw [jset_n (by omega)] | rw [reH_0] | rw [reH_1] | rw [reH_2] | rw [reH_n (by omega)])) <;> first | rfl | assumption) (Nat.le_of_ble_eq_true rfl) (by rcases hb with hb | hb <;> rw [hb] <;> rfl) (by rcases hb with hb | hb <;> rw [hb] <;> rfl) ?_
  refine j_aload_n C0 d_Me_copyFrom_56 rfl (by rfl) ?_
  refine j_getf C0 d_Me_copyFrom_57 fl_Me_12 (by (repeat (first | rw [jset_s] | rw [jset_n (by omega)] | rw [reH_0] | rw [reH_1] | rw [reH_2] | rw [reH_n (by omega)])) <;> first | rfl | assumption) (by rfl) ?_
  refine j_aload_n C0 d_Me_copyFrom_60 rfl (by rfl) ?_
  refine j_getf C0 d_Me_copyFrom_61 fl_Me_12 (by (repeat (first | rw [jset_s] | rw [jset_n (by omega)] | rw [reH_0] | rw [reH_1] | rw [reH_2] | rw [reH_n (by omega)])) <;> first | rfl | assumption) (by rfl) ?_
  refine j_callV C0 d_Me_copyFrom_64 cl_Me_36 cl_Me_36v (c_Re_copyFrom _ E (n := m.2.1) (ad := m.2.2.1) (st := m.2.2.2) (n2 := m2.2.1) (ad2 := m2.2.2.1) (st2 := m2.2.2.2) (isRe.keep (h := h) ⟨e1, e2, e3, hn⟩ (fun q h1 h2 => by rw [jset_n (by omega), jset_n (by omega), jset_n (by omega), jset_n (by omega), jset_n (by omega), jset_n (by omega), jset_n (by omega)])) (isRe.keep (h := h) ⟨f1, f2, f3, fn⟩ (fun q h1 h2 => by rw [jset_n (by omega), jset_n (by omega), jset_n (by omega), jset_n (by omega), jset_n (by omega), jset_n (by omega), jset_n (by omega)])) (by omega)) (by (repeat (first | rw [jset_n (by omega)])) <;> exact e1) rfl rfl rfl ⟨by decide, by decide⟩ ⟨by omega, by omega⟩ (Nat.le_of_ble_eq_true rfl) (fun r_ h_ z_ hp_ => ?_)
  obtain ⟨rfl, rfl, rfl⟩ := hp_
  exact j_vret C0 d_Me_copyFrom_67 rfl (by omega) (by omega) ⟨rfl, by unfold meH; rw [jset_ss, jset_ss, jset_ss, jset_ss, jset_ss, jset_ss]; rfl, rfl⟩
set_option maxHeartbeats 4000000 in
set_option maxRecDepth 100000 in
theorem c_Tr_init (l : Launch) (E : jE) {h : jH} {sz a : Nat} (e0 : h a = some (jO 6 [.null, .int 0, .int 0])) (hz : sz = a + 1) : jC l M_Tr_init 2 E [.ref a] h sz 3 11 (fun r h' sz' => r = none ∧ h' = reH E (jset h a (trO a 0 (-1))) (a + 1) 0 (fun _ => 0) (fun _ => 0) ∧ sz' = a + 4) := by
  subst hz
  refine jC.of (by decide) (Nat.le_of_ble_eq_true rfl) ?_
  intro x C0 hx
  subst hx

  refine j_aload_n C0 d_Tr_init_0 rfl (by rfl) ?_
  refine j_obj C0 d_Tr_init_1 w_1_65 w_1_18 w_1_19 (by omega) (Nat.le_of_ble_eq_true rfl) ?_
  refine j_aload_n C0 d_Tr_init_4 rfl (by rfl) ?_
  refine j_new C0 d_Tr_init_5 nw_Tr_9 (by omega) (by omega) ?_
  refine j_dup C0 d_Tr_init_8 rfl ?_
  refine j_callIN C0 d_Tr_init_9 cn_Tr_11 cn_Tr_11v rfl rfl (c_Re_init _ E jset_s rfl) rfl rfl ⟨by decide, by decide⟩ ⟨by omega, by omega⟩ (Nat.le_of_ble_eq_true rfl) (fun r_ h_ z_ hp_ => ?_)
  obtain ⟨rfl, rfl, rfl⟩ := hp_
  refine j_putF C0 d_Tr_init_12 fp_Tr_12 (by (repeat (first | rw [jset_s] | rw [jset_n (by omega)] | rw [reH_0] | rw [reH_1] | rw [reH_2] | rw [reH_n (by omega)])) <;> first | rfl | assumption) (Nat.le_of_ble_eq_true rfl) (by rfl) (by rfl) rfl ?_
  refine j_aload_n C0 d_Tr_init_15 rfl (by rfl) ?_
  refine j_iconst C0 d_Tr_init_16 (v := 0) (by decide) ?_
  refine j_putf C0 d_Tr_init_17 fp_Tr_18 (by (repeat (first | rw [jset_s] | rw [jset_n (by omega)] | rw [reH_0] | rw [reH_1] | rw [reH_2] | rw [reH_n (by omega)])) <;> first | rfl | assumption) (Nat.le_of_ble_eq_true rfl) (by rfl) (by rfl) ?_
  refine j_aload_n C0 d_Tr_init_20 rfl (by rfl) ?_
  refine j_iconst C0 d_Tr_init_21 (v := -1) (by decide) ?_
  refine j_putf C0 d_Tr_init_22 fp_Tr_22 (by (repeat (first | rw [jset_s] | rw [jset_n (by omega)] | rw [reH_0] | rw [reH_1] | rw [reH_2] | rw [reH_n (by omega)])) <;> first | rfl | assumption) (Nat.le_of_ble_eq_true rfl) (by rfl) (by rfl) ?_
  exact j_vret C0 d_Tr_init_25 rfl (by omega) (by omega) ⟨rfl, by rw [reH_j0, jset_ss, jset_ss, jset_reH (by omega)]; rfl, rfl⟩
set_option maxHeartbeats 4000000 in
set_option maxRecDepth 100000 in
theorem c_Tr_start (l : Launch) (E : jE) {h : jH} {sz a n : Nat} {op snd : Int32} {ad st : Nat → Int32} (v : Int32) (hm : isTr E h a op snd n ad st) : jC l M_Tr_start 0 E [.ref a, .int v] h sz 0 0 (fun r h' sz' => r = none ∧ isTr E h' a 1 v 0 ad st ∧ (∀ q, q < a ∨ a + 4 ≤ q → h' q = h q) ∧ sz' = sz) := by
  obtain ⟨e0, e1, e2, e3, hn⟩ := hm
  refine jC.of (by decide) (Nat.le_of_ble_eq_true rfl) ?_
  intro x C0 hx
  subst hx

  refine j_aload_n C0 d_Tr_start_0 rfl (by rfl) ?_
  refine j_iconst C0 d_Tr_start_1 (v := 1) (by decide) ?_
  refine j_putf C0 d_Tr_start_2 fp_Tr_18 (by (repeat (first | rw [jset_s] | rw [jset_n (by omega)] | rw [reH_0] | rw [reH_1] | rw [reH_2] | rw [reH_n (by omega)])) <;> first | rfl | assumption) (Nat.le_of_ble_eq_true rfl) (by rfl) (by rfl) ?_
  refine j_aload_n C0 d_Tr_start_5 rfl (by rfl) ?_
  refine j_iload_n C0 d_Tr_start_6 rfl (by rfl) ?_
  refine j_putf C0 d_Tr_start_7 fp_Tr_22 (by (repeat (first | rw [jset_s] | rw [jset_n (by omega)] | rw [reH_0] | rw [reH_1] | rw [reH_2] | rw [reH_n (by omega)])) <;> first | rfl | assumption) (Nat.le_of_ble_eq_true rfl) (by rfl) (by rfl) ?_
  refine j_aload_n C0 d_Tr_start_10 rfl (by rfl) ?_
  refine j_getf C0 d_Tr_start_11 fl_Tr_12 (by (repeat (first | rw [jset_s] | rw [jset_n (by omega)] | rw [reH_0] | rw [reH_1] | rw [reH_2] | rw [reH_n (by omega)])) <;> first | rfl | assumption) (by rfl) ?_
  refine j_iconst C0 d_Tr_start_14 (v := 0) (by decide) ?_
  refine j_putf C0 d_Tr_start_15 fp_Tr_26 (by (repeat (first | rw [jset_s] | rw [jset_n (by omega)] | rw [reH_0] | rw [reH_1] | rw [reH_2] | rw [reH_n (by omega)])) <;> first | rfl | assumption) (Nat.le_of_ble_eq_true rfl) (by rfl) (by rfl) ?_
  exact j_vret C0 d_Tr_start_18 rfl (by omega) (by omega) ⟨rfl, ⟨by rw [jset_n (by omega), jset_s]; rfl, by rw [jset_s]; rfl, by (repeat rw [jset_n (by omega)]); exact e2, by (repeat rw [jset_n (by omega)]); exact e3, by omega⟩, fun q hq => by (repeat rw [jset_n (by omega)]), rfl⟩
abbrev deO (a : Nat) : va_E := jO 1 [.ref (a + 1), .ref (a + 2), .ref (a + 3), .ref (a + 4)]
def isDe (E : jE) (h : jH) (a : Nat) (le re la ca : Nat → Int32) : Prop := h a = some (deO a) ∧ h (a + 1) = some (jI E 64 le) ∧ h (a + 2) = some (jI E 64 re) ∧ h (a + 3) = some (jI E 64 la) ∧ h (a + 4) = some (jI E 8 ca)
set_option maxHeartbeats 4000000 in
set_option maxRecDepth 100000 in
theorem c_De_init (l : Launch) (E : jE) {h : jH} {sz a : Nat} (e0 : h a = some (jO 1 [.null, .null, .null, .null])) (hz : sz = a + 1) : jC l M_De_init 1 E [.ref a] h sz 4 200 (fun r h' sz' => r = none ∧ isDe E h' a (fun _ => 0) (fun _ => 0) (fun _ => 0) (fun _ => 0) ∧ (∀ q, q < a → h' q = h q) ∧ sz' = a + 5) := by
  subst hz
  refine jC.of (by decide) (Nat.le_of_ble_eq_true rfl) ?_
  intro x C0 hx
  subst hx

  refine j_aload_n C0 d_De_init_0 rfl (by rfl) ?_
  refine j_obj C0 d_De_init_1 w_1_166 w_1_18 w_1_19 (by omega) (Nat.le_of_ble_eq_true rfl) ?_
  refine j_aload_n C0 d_De_init_4 rfl (by rfl) ?_
  refine j_bipush C0 d_De_init_5 (v := 64) (by decide) ?_
  refine j_newi C0 (N := 64) d_De_init_7 w_1_59 rfl (by decide) (by omega) (by omega) ?_
  refine j_putF C0 d_De_init_9 fp_De_9 (by (repeat (first | rw [jset_s] | rw [jset_n (by omega)] | rw [reH_0] | rw [reH_1] | rw [reH_2] | rw [reH_n (by omega)])) <;> first | rfl | assumption) (Nat.le_of_ble_eq_true rfl) (by rfl) (by rfl) rfl ?_
  refine j_aload_n C0 d_De_init_12 rfl (by rfl) ?_
  refine j_bipush C0 d_De_init_13 (v := 64) (by decide) ?_
  refine j_newi C0 (N := 64) d_De_init_15 w_1_59 rfl (by decide) (by omega) (by omega) ?_
  refine j_putF C0 d_De_init_17 fp_De_15 (by (repeat (first | rw [jset_s] | rw [jset_n (by omega)] | rw [reH_0] | rw [reH_1] | rw [reH_2] | rw [reH_n (by omega)])) <;> first | rfl | assumption) (Nat.le_of_ble_eq_true rfl) (by rfl) (by rfl) rfl ?_
  refine j_aload_n C0 d_De_init_20 rfl (by rfl) ?_
  refine j_bipush C0 d_De_init_21 (v := 64) (by decide) ?_
  refine j_newi C0 (N := 64) d_De_init_23 w_1_59 rfl (by decide) (by omega) (by omega) ?_
  refine j_putF C0 d_De_init_25 fp_De_18 (by (repeat (first | rw [jset_s] | rw [jset_n (by omega)] | rw [reH_0] | rw [reH_1] | rw [reH_2] | rw [reH_n (by omega)])) <;> first | rfl | assumption) (Nat.le_of_ble_eq_true rfl) (by rfl) (by rfl) rfl ?_
  refine j_aload_n C0 d_De_init_28 rfl (by rfl) ?_
  refine j_bipush C0 d_De_init_29 (v := 8) (by decide) ?_
  refine j_newi C0 (N := 8) d_De_init_31 w_1_59 rfl (by decide) (by omega) (by omega) ?_
  refine j_putF C0 d_De_init_33 fp_De_21 (by (repeat (first | rw [jset_s] | rw [jset_n (by omega)] | rw [reH_0] | rw [reH_1] | rw [reH_2] | rw [reH_n (by omega)])) <;> first | rfl | assumption) (Nat.le_of_ble_eq_true rfl) (by rfl) (by rfl) rfl ?_
  exact j_vret C0 d_De_init_36 rfl (by omega) (by omega) ⟨rfl, ⟨by rw [jset_s]; rfl, by repeat (first | rw [jset_s] | rw [jset_n (by omega)]), by repeat (first | rw [jset_s] | rw [jset_n (by omega)]), by repeat (first | rw [jset_s] | rw [jset_n (by omega)]), by repeat (first | rw [jset_s] | rw [jset_n (by omega)])⟩, fun q hq => by (repeat rw [jset_n (by omega)]), rfl⟩
set_option maxHeartbeats 4000000 in
set_option maxRecDepth 100000 in
theorem c_De_note (l : Launch) (E : jE) {h : jH} {sz a t k : Nat} {m : jMsg} {le re la ca : Nat → Int32} (hk : k < 64) (hd : isDe E h a le re la ca) (hm : isMe E h t m) (hat : a + 5 ≤ t ∨ t + 4 ≤ a) (hb : m.1 7 = 0 ∨ m.1 7 = 1) : jC l M_De_note 0 E [.ref a, .int (nI k), .ref t] h sz 0 0 (fun r h' sz' => r = none ∧ isDe E h' a (if m.1 7 = 1 then le else upd le k (le k + 1)) (if m.1 7 = 1 then upd re k (re k + 1) else re) (upd la k (m.1 1)) ca ∧ (∀ q, q < a ∨ a + 5 ≤ q → h' q = h q) ∧ sz' = sz) := by
  obtain ⟨e0, e1, e2, e3, e4⟩ := hd
  obtain ⟨f0, f1, f2, f3, fn⟩ := hm
  refine jC.of (by decide) (Nat.le_of_ble_eq_true rfl) ?_
  intro x C0 hx
  subst hx

  refine j_aload_n C0 d_De_note_0 rfl (by rfl) ?_
  refine j_getf C0 d_De_note_1 fl_De_24 (by (repeat (first | rw [jset_s] | rw [jset_n (by omega)] | rw [reH_0] | rw [reH_1] | rw [reH_2] | rw [reH_n (by omega)])) <;> first | rfl | assumption) (by rfl) ?_
  refine j_if_eq C0 d_De_note_4 (tgt := 20) (by decide) (fun c_4 => ?_) (fun c_4 => ?_)
  · have hB : ¬ m.1 7 = 1 := by rw [c_4]; decide
    refine j_aload_n C0 d_De_note_20 rfl (by rfl) ?_
    refine j_getf C0 d_De_note_21 fl_De_9 (by (repeat (first | rw [jset_s] | rw [jset_n (by omega)] | rw [reH_0] | rw [reH_1] | rw [reH_2] | rw [reH_n (by omega)])) <;> first | rfl | assumption) (by rfl) ?_
    refine j_iload_n C0 d_De_note_24 rfl (by rfl) ?_
    refine j_dup2_11 C0 d_De_note_25 rfl rfl ?_
    refine j_iald C0 d_De_note_26 (by (repeat (first | rw [jset_s] | rw [jset_n (by omega)] | rw [reH_0] | rw [reH_1] | rw [reH_2] | rw [reH_n (by omega)])) <;> first | rfl | assumption) rfl (by omega) (by decide) ?_
    refine j_iconst C0 d_De_note_27 (v := 1) (by decide) ?_
    refine j_iadd C0 d_De_note_28 ?_
    refine j_iast C0 d_De_note_29 (by (repeat (first | rw [jset_s] | rw [jset_n (by omega)] | rw [reH_0] | rw [reH_1] | rw [reH_2] | rw [reH_n (by omega)])) <;> first | rfl | assumption) rfl (by omega) (by decide) ?_
    refine j_aload_n C0 d_De_note_30 rfl (by rfl) ?_
    refine j_getf C0 d_De_note_31 fl_De_18 (by (repeat (first | rw [jset_s] | rw [jset_n (by omega)] | rw [reH_0] | rw [reH_1] | rw [reH_2] | rw [reH_n (by omega)])) <;> first | rfl | assumption) (by rfl) ?_
    refine j_iload_n C0 d_De_note_34 rfl (by rfl) ?_
    refine j_aload_n C0 d_De_note_35 rfl (by rfl) ?_
    refine j_getf C0 d_De_note_36 fl_De_30 (by (repeat (first | rw [jset_s] | rw [jset_n (by omega)] | rw [reH_0] | rw [reH_1] | rw [reH_2] | rw [reH_n (by omega)])) <;> first | rfl | assumption) (by rfl) ?_
    refine j_iast C0 d_De_note_39 (by (repeat (first | rw [jset_s] | rw [jset_n (by omega)] | rw [reH_0] | rw [reH_1] | rw [reH_2] | rw [reH_n (by omega)])) <;> first | rfl | assumption) rfl (by omega) (by decide) ?_
    exact j_vret C0 d_De_note_40 rfl (by omega) (by omega) ⟨rfl, ⟨by (repeat rw [jset_n (by omega)]); exact e0, by simp only [hB]; (repeat (first | rw [jset_s] | rw [jset_n (by omega)])) <;> simp <;> exact e1, by simp only [hB]; (repeat (first | rw [jset_s] | rw [jset_n (by omega)])) <;> simp <;> exact e2, by rw [jset_s], by (repeat rw [jset_n (by omega)]); exact e4⟩, fun q hq => by (repeat rw [jset_n (by omega)]), rfl⟩
  · have hB : m.1 7 = 1 := hb.resolve_left c_4
    refine j_aload_n C0 d_De_note_7 rfl (by rfl) ?_
    refine j_getf C0 d_De_note_8 fl_De_15 (by (repeat (first | rw [jset_s] | rw [jset_n (by omega)] | rw [reH_0] | rw [reH_1] | rw [reH_2] | rw [reH_n (by omega)])) <;> first | rfl | assumption) (by rfl) ?_
    refine j_iload_n C0 d_De_note_11 rfl (by rfl) ?_
    refine j_dup2_11 C0 d_De_note_12 rfl rfl ?_
    refine j_iald C0 d_De_note_13 (by (repeat (first | rw [jset_s] | rw [jset_n (by omega)] | rw [reH_0] | rw [reH_1] | rw [reH_2] | rw [reH_n (by omega)])) <;> first | rfl | assumption) rfl (by omega) (by decide) ?_
    refine j_iconst C0 d_De_note_14 (v := 1) (by decide) ?_
    refine j_iadd C0 d_De_note_15 ?_
    refine j_iast C0 d_De_note_16 (by (repeat (first | rw [jset_s] | rw [jset_n (by omega)] | rw [reH_0] | rw [reH_1] | rw [reH_2] | rw [reH_n (by omega)])) <;> first | rfl | assumption) rfl (by omega) (by decide) ?_
    refine j_goto C0 d_De_note_17 (tgt := 30) (by decide) ?_
    refine j_aload_n C0 d_De_note_30 rfl (by rfl) ?_
    refine j_getf C0 d_De_note_31 fl_De_18 (by (repeat (first | rw [jset_s] | rw [jset_n (by omega)] | rw [reH_0] | rw [reH_1] | rw [reH_2] | rw [reH_n (by omega)])) <;> first | rfl | assumption) (by rfl) ?_
    refine j_iload_n C0 d_De_note_34 rfl (by rfl) ?_
    refine j_aload_n C0 d_De_note_35 rfl (by rfl) ?_
    refine j_getf C0 d_De_note_36 fl_De_30 (by (repeat (first | rw [jset_s] | rw [jset_n (by omega)] | rw [reH_0] | rw [reH_1] | rw [reH_2] | rw [reH_n (by omega)])) <;> first | rfl | assumption) (by rfl) ?_
    refine j_iast C0 d_De_note_39 (by (repeat (first | rw [jset_s] | rw [jset_n (by omega)] | rw [reH_0] | rw [reH_1] | rw [reH_2] | rw [reH_n (by omega)])) <;> first | rfl | assumption) rfl (by omega) (by decide) ?_
    exact j_vret C0 d_De_note_40 rfl (by omega) (by omega) ⟨rfl, ⟨by (repeat rw [jset_n (by omega)]); exact e0, by simp only [hB]; (repeat (first | rw [jset_s] | rw [jset_n (by omega)])) <;> simp <;> exact e1, by simp only [hB]; (repeat (first | rw [jset_s] | rw [jset_n (by omega)])) <;> simp <;> exact e2, by rw [jset_s], by (repeat rw [jset_n (by omega)]); exact e4⟩, fun q hq => by (repeat rw [jset_n (by omega)]), rfl⟩
end
section
section JLoop2
variable {x : jX} {M : jM} {E : jE} {Q : State → Prop} {pc : Nat} {st : List Value}
theorem j_forR (n : Nat) (I : Nat → jH → Prop) (sf cf lf : Nat → Nat) (lv : Nat → List (Nat × Value)) (step : ∀ i h, i < n → I i h → (∀ h', I (i + 1) h' → jJ x M E Q h' (sf (i + 1)) (cf (i + 1)) (lf (i + 1)) (lv (i + 1)) pc st) → jJ x M E Q h (sf i) (cf i) (lf i) (lv i) pc st) (done : ∀ h, I n h → jJ x M E Q h (sf n) (cf n) (lf n) (lv n) pc st) : ∀ i h, i ≤ n → I i h → jJ x M E Q h (sf i) (cf i) (lf i) (lv i) pc st := by
  intro i h hi
  obtain ⟨k, rfl⟩ : ∃ k, n = i + k := ⟨n - i, by omega⟩
  induction k generalizing i h with
  | zero => exact done h
  | succ k ih =>
    intro hI
    refine step i h (by omega) hI (fun h' hI' => ?_)
    have e : i + (k + 1) = (i + 1) + k := by omega
    exact ih (i + 1) h' (fun j h hj hI hk => step j h (by omega) hI hk) (by rw [e] at done; exact done) (by omega) hI'
end JLoop2
theorem jset_self {h : jH} {a : Nat} {e : va_E} (he : h a = some e) : jset h a e = h := by
  funext q
  unfold jset
  by_cases h0 : q = a
  · subst h0; rw [if_pos rfl, he]
  · rw [if_neg h0]
abbrev quO (a n : Nat) : va_E := jO 3 [.ref (a + 1), .int (nI n)]
/-- a queue at a: messages by place, the spare ones behind -/
def isQu (E : jE) (h : jH) (a qn : Nat) (Q : Nat → jMsg) : Prop := ∃ (pm : Nat → Nat) (f : Nat → Option Nat), (∀ i, i < 6 → pm i < 6) ∧ (∀ i j, i < 6 → j < 6 → pm i = pm j → i = j) ∧ h a = some (quO a qn) ∧ h (a + 1) = some (jQa E 2 6 f) ∧ (∀ i, i < 6 → f i = some (a + 2 + 4 * pm i)) ∧ (∀ i, i < 6 → isMe E h (a + 2 + 4 * pm i) (Q i)) ∧ qn ≤ 6
theorem isQu.obj {E : jE} {h : jH} {a qn : Nat} {Q : Nat → jMsg} (hq : isQu E h a qn Q) : h a = some (quO a qn) := by obtain ⟨pm, f, -, -, h3, -⟩ := hq; exact h3
theorem isQu.arr {E : jE} {h : jH} {a qn : Nat} {Q : Nat → jMsg} (hq : isQu E h a qn Q) : ∃ f, h (a + 1) = some (jQa E 2 6 f) := by obtain ⟨pm, f, -, -, -, h4, -⟩ := hq; exact ⟨_, h4⟩
theorem isQu.le {E : jE} {h : jH} {a qn : Nat} {Q : Nat → jMsg} (hq : isQu E h a qn Q) : qn ≤ 6 := by obtain ⟨pm, f, -, -, -, -, -, -, h6⟩ := hq; exact h6
theorem isQu.keep {E : jE} {h h' : jH} {a qn : Nat} {Q : Nat → jMsg} (hq : isQu E h a qn Q) (hk : ∀ q, a ≤ q → q < a + 26 → h' q = h q) : isQu E h' a qn Q := by
  obtain ⟨pm, f, h1, h2, h3, h4, h7, h5, h6⟩ := hq
  refine ⟨pm, f, h1, h2, by rw [hk a (by omega) (by omega)]; exact h3, by rw [hk (a + 1) (by omega) (by omega)]; exact h4, h7, fun i hi => (h5 i hi).keep (fun q g1 g2 => hk q (by omega) (by have := h1 i hi; omega)), h6⟩
theorem isQu.at {E : jE} {h : jH} {a qn : Nat} {Q : Nat → jMsg} (hq : isQu E h a qn Q) {f : Nat → Option Nat} (hf : h (a + 1) = some (jQa E 2 6 f)) {i : Nat} (hi : i < 6) : ∃ m, f i = some m ∧ a + 2 ≤ m ∧ m + 4 ≤ a + 26 ∧ isMe E h m (Q i) ∧ ∀ (h' : jH) (y : jMsg), isMe E h' m y → (∀ q, q < m ∨ m + 4 ≤ q → h' q = h q) → isQu E h' a qn (va_up Q i y) := by
  obtain ⟨pm, f', h1, h2, h3, h4, h7, h5, h6⟩ := hq
  have e := hf.symm.trans h4
  cases e
  refine ⟨a + 2 + 4 * pm i, h7 i hi, by omega, by have := h1 i hi; omega, h5 i hi, fun h' y hy hk => ⟨pm, f, h1, h2, by rw [hk a (by omega)]; exact h3, by rw [hk (a + 1) (by omega)]; exact h4, h7, fun j hj => ?_, h6⟩⟩
  by_cases hji : j = i
  · subst hji
    rw [va_up_self]
    exact hy
  · rw [va_up_ne _ _ hji]
    have hne : pm j ≠ pm i := fun e => hji (h2 j i hj hi e)
    exact (h5 j hj).keep (fun q g1 g2 => hk q (by omega))
theorem isQu.size {E : jE} {h : jH} {a qn n : Nat} {Q : Nat → jMsg} (hq : isQu E h a qn Q) (hn : n ≤ 6) : isQu E (jset h a (quO a n)) a n Q := by
  obtain ⟨pm, f, h1, h2, h3, h4, h7, h5, h6⟩ := hq
  exact ⟨pm, f, h1, h2, jset_s, by rw [jset_n (by omega)]; exact h4, h7, fun i hi => (h5 i hi).keep (fun q g1 g2 => jset_n (by omega)), hn⟩
abbrev mz : jMsg := (fun _ => 0, 0, fun _ => 0, fun _ => 0)
/-- the first i below n with f i = v: g i, else d -/
def sG (f g : Nat → Int32) (d v : Int32) : Nat → Nat → Int32
  | _, 0 => d
  | i, k + 1 => if f i = v then g i else sG f g d v (i + 1) k
theorem sG_y {f g : Nat → Int32} {d v : Int32} {i n : Nat} (hi : i < n) (h : f i = v) : sG f g d v i (n - i) = g i := by
  rw [show n - i = (n - (i + 1)) + 1 by omega]
  simp [sG, h]
theorem sG_n {f g : Nat → Int32} {d v : Int32} {i n : Nat} (hi : i < n) (h : ¬ f i = v) : sG f g d v i (n - i) = sG f g d v (i + 1) (n - (i + 1)) := by
  rw [show n - i = (n - (i + 1)) + 1 by omega]
  simp [sG, h]
def csQ (Q : Nat → jMsg) : Nat → Int32
  | 0 => 0
  | i + 1 => csQ Q i + ((Q i).1 3 + nI (Q i).2.1 + 1)
def wtQ (Q : Nat → jMsg) : Nat → Int32
  | 0 => 0
  | i + 1 => wtQ Q i + nI (cnt (Q i).2.2.2 1 (Q i).2.1)
def rho (k n i : Nat) : Nat := if i < k then i else if i + 1 < n then i + 1 else if i + 1 = n then k else i
def cpQ (Q Q2 : Nat → jMsg) (n i : Nat) : jMsg := if i < n then ((Q2 i).1, (Q2 i).2.1, cp (Q i).2.2.1 (Q2 i).2.2.1 (Q2 i).2.1, cp (Q i).2.2.2 (Q2 i).2.2.2 (Q2 i).2.1) else Q i
theorem cpQ_s (Q Q2 : Nat → jMsg) (i : Nat) : va_up (cpQ Q Q2 i) i ((Q2 i).1, (Q2 i).2.1, cp (Q i).2.2.1 (Q2 i).2.2.1 (Q2 i).2.1, cp (Q i).2.2.2 (Q2 i).2.2.2 (Q2 i).2.1) = cpQ Q Q2 (i + 1) := by
  funext j
  by_cases hj : j = i
  · subst hj; rw [va_up_self]; simp [cpQ]
  · rw [va_up_ne _ _ hj]
    unfold cpQ
    by_cases hl : j < i
    · simp [hl, show j < i + 1 by omega]
    · simp [hl, show ¬ j < i + 1 by omega]
set_option maxHeartbeats 4000000 in
set_option maxRecDepth 100000 in
theorem c_Qu_init (l : Launch) (E : jE) {h : jH} {sz a : Nat} (e0 : h a = some (jO 3 [.null, .int 0])) (hz : sz = a + 1) : jC l M_Qu_init 3 E [.ref a] h sz 25 120 (fun r h' sz' => r = none ∧ isQu E h' a 0 (fun _ => mz) ∧ (∀ q, q < a → h' q = h q) ∧ sz' = a + 26) := by
  subst hz
  refine jC.of (by decide) (Nat.le_of_ble_eq_true rfl) ?_
  intro x C0 hx
  subst hx

  refine j_aload_n C0 d_Qu_init_0 rfl (by rfl) ?_
  refine j_obj C0 d_Qu_init_1 w_1_107 w_1_18 w_1_19 (by omega) (Nat.le_of_ble_eq_true rfl) ?_
  refine j_aload_n C0 d_Qu_init_4 rfl (by rfl) ?_
  refine j_bipush C0 d_Qu_init_5 (v := 6) (by decide) ?_
  refine j_newq C0 (N := 6) (t := 2) d_Qu_init_7 w_1_108 (by decide) rfl rfl (by decide) (by omega) (by omega) ?_
  refine j_putF C0 d_Qu_init_10 fp_Qu_11 (by (repeat (first | rw [jset_s] | rw [jset_n (by omega)] | rw [reH_0] | rw [reH_1] | rw [reH_2] | rw [reH_n (by omega)])) <;> first | rfl | assumption) (Nat.le_of_ble_eq_true rfl) (by rfl) (by rfl) rfl ?_
  refine j_aload_n C0 d_Qu_init_13 rfl (by rfl) ?_
  refine j_iconst C0 d_Qu_init_14 (v := 0) (by decide) ?_
  refine j_putf C0 d_Qu_init_15 fp_Qu_17 (by (repeat (first | rw [jset_s] | rw [jset_n (by omega)] | rw [reH_0] | rw [reH_1] | rw [reH_2] | rw [reH_n (by omega)])) <;> first | rfl | assumption) (Nat.le_of_ble_eq_true rfl) (by rfl) (by rfl) ?_
  refine j_iconst C0 d_Qu_init_18 (v := 0) (by decide) ?_
  refine j_istore_n C0 d_Qu_init_19 rfl (Nat.le_of_ble_eq_true rfl) ?_
  refine j_lv (lv' := [(0, .ref a), (1, .int (nI 0))]) ⟨rfl, rfl, trivial⟩ ?_
  refine j_forR 6 (fun i hh => hh a = some (quO a 0) ∧ hh (a + 1) = some (jQa E 2 6 (fun k => if k < i then some (a + 2 + 4 * k) else none)) ∧ (∀ k, k < i → isMe E hh (a + 2 + 4 * k) mz) ∧ ∀ q, q < a → hh q = h q) (fun i => a + 2 + 4 * i) (fun i => 1 + 4 * i) (fun i => 6 + 19 * i) (fun i => [(0, .ref a), (1, .int (nI i))]) ?_ ?_ 0 _ (by decide) ⟨by rw [jset_s]; rfl, by rw [jset_n (by omega), jset_n (by omega), jset_s]; rfl, fun k hk => absurd hk (by omega), fun q hq => by rw [jset_n (by omega), jset_n (by omega), jset_n (by omega)]⟩
  · intro i hh hi hI ih
    obtain ⟨g0, g1, g2, g3⟩ := hI
    refine j_iload_n C0 d_Qu_init_20 rfl (by rfl) ?_
    refine j_bipush C0 d_Qu_init_21 (v := 6) (by decide) ?_
    refine j_icmp_ge C0 d_Qu_init_23 (tgt := 45) (by decide) (fun c_23 => ?_) (fun c_23 => ?_)
    · exact absurd c_23 (nI_ge (b := 6) hi (by decide))
    · refine j_aload_n C0 d_Qu_init_26 rfl (by rfl) ?_
      refine j_getf C0 d_Qu_init_27 fl_Qu_11 (by (repeat (first | rw [jset_s] | rw [jset_n (by omega)] | rw [reH_0] | rw [reH_1] | rw [reH_2] | rw [reH_n (by omega)])) <;> first | rfl | assumption) (by rfl) ?_
      refine j_iload_n C0 d_Qu_init_30 rfl (by rfl) ?_
      refine j_new C0 d_Qu_init_31 nw_Qu_9 (by omega) (by omega) ?_
      refine j_dup C0 d_Qu_init_34 rfl ?_
      refine j_callIN C0 d_Qu_init_35 cn_Qu_21 cn_Qu_21v rfl rfl (c_Me_init _ E jset_s rfl) rfl rfl ⟨by decide, by decide⟩ ⟨by omega, by omega⟩ (Nat.le_of_ble_eq_true rfl) (fun r_ h_ z_ hp_ => ?_)
      obtain ⟨rfl, rfl, rfl⟩ := hp_
      refine j_aast C0 d_Qu_init_38 (by rw [meH_n (by omega), jset_n (by omega)]; exact g1) (meH_is (by show 0 ≤ 4; omega)).1 rfl rfl rfl (by omega) (by decide) ?_
      refine j_iinc C0 d_Qu_init_39 (by rfl) (jinc _) (Nat.le_of_ble_eq_true rfl) ?_
      refine j_goto C0 d_Qu_init_42 (tgt := 20) (by decide) ?_
      refine j_lv (lv' := [(0, .ref a), (1, .int (nI (i + 1)))]) ⟨rfl, rfl, trivial⟩ ?_
      refine j_eq (ih _ ?_) rfl (by omega) (by omega) (by omega) rfl rfl rfl
      refine ⟨by rw [jset_n (by omega), meH_n (by omega), jset_n (by omega)]; exact g0, ?_, fun k hk => ?_, fun q hq => by rw [jset_n (by omega), meH_n (by omega), jset_n (by omega)]; exact g3 q hq⟩
      · rw [jset_s]
        congr 6
        funext k
        unfold va_up
        by_cases hk : k = i
        · subst hk; simp
        · by_cases hl : k < i
          · simp [hk, hl, show k < i + 1 by omega]
          · simp [hk, hl, show ¬ k < i + 1 by omega]
      · by_cases hki : k = i
        · subst hki
          exact (meH_is (m := mz) (by show 0 ≤ 4; omega)).keep (fun q h1 h2 => jset_n (by omega))
        · exact (g2 k (by omega)).keep (fun q h1 h2 => by rw [jset_n (by omega), meH_n (by omega), jset_n (by omega)])
  · intro hh hI
    obtain ⟨g0, g1, g2, g3⟩ := hI
    refine j_iload_n C0 d_Qu_init_20 rfl (by rfl) ?_
    refine j_bipush C0 d_Qu_init_21 (v := 6) (by decide) ?_
    refine j_icmp_ge C0 d_Qu_init_23 (tgt := 45) (by decide) (fun c_23 => ?_) (fun c_23 => ?_)
    · exact j_vret C0 d_Qu_init_45 rfl (by omega) (by omega) ⟨rfl, ⟨fun i => i, _, fun i hi => hi, fun i j _ _ e => e, g0, g1, fun i hi => if_pos hi, g2, by decide⟩, g3, rfl⟩
    · exact absurd (nI_le (Nat.le_refl 6) (by decide)) c_23
set_option maxHeartbeats 4000000 in
set_option maxRecDepth 100000 in
theorem c_Qu_addSpare (l : Launch) (E : jE) {h : jH} {sz a qn : Nat} {Q : Nat → jMsg} (hq : isQu E h a qn Q) (hn : qn < 6) : jC l M_Qu_addSpare 0 E [.ref a] h sz 0 0 (fun r h' sz' => ∃ f m, h (a + 1) = some (jQa E 2 6 f) ∧ f qn = some m ∧ r = some (.ref m) ∧ h' = jset h a (quO a (qn + 1)) ∧ sz' = sz) := by
  have e0 := hq.obj
  obtain ⟨f, e1⟩ := hq.arr
  have h6 := hq.le
  obtain ⟨m, hm, -⟩ := hq.at e1 hn
  refine jC.of (by decide) (Nat.le_of_ble_eq_true rfl) ?_
  intro x C0 hx
  subst hx

  refine j_aload_n C0 d_Qu_addSpare_0 rfl (by rfl) ?_
  refine j_getf C0 d_Qu_addSpare_1 fl_Qu_11 (by (repeat (first | rw [jset_s] | rw [jset_n (by omega)] | rw [reH_0] | rw [reH_1] | rw [reH_2] | rw [reH_n (by omega)])) <;> first | rfl | assumption) (by rfl) ?_
  refine j_aload_n C0 d_Qu_addSpare_4 rfl (by rfl) ?_
  refine j_getf C0 d_Qu_addSpare_5 fl_Qu_17 (by (repeat (first | rw [jset_s] | rw [jset_n (by omega)] | rw [reH_0] | rw [reH_1] | rw [reH_2] | rw [reH_n (by omega)])) <;> first | rfl | assumption) (by rfl) ?_
  refine j_aald C0 d_Qu_addSpare_8 (by (repeat (first | rw [jset_s] | rw [jset_n (by omega)] | rw [reH_0] | rw [reH_1] | rw [reH_2] | rw [reH_n (by omega)])) <;> first | rfl | assumption) rfl rfl (by omega) (by decide) hm ?_
  refine j_astore_n C0 d_Qu_addSpare_9 rfl (Nat.le_of_ble_eq_true rfl) ?_
  refine j_aload_n C0 d_Qu_addSpare_10 rfl (by rfl) ?_
  refine j_dup C0 d_Qu_addSpare_11 rfl ?_
  refine j_getf C0 d_Qu_addSpare_12 fl_Qu_17 (by (repeat (first | rw [jset_s] | rw [jset_n (by omega)] | rw [reH_0] | rw [reH_1] | rw [reH_2] | rw [reH_n (by omega)])) <;> first | rfl | assumption) (by rfl) ?_
  refine j_iconst C0 d_Qu_addSpare_15 (v := 1) (by decide) ?_
  refine j_iadd C0 d_Qu_addSpare_16 ?_
  refine j_putf C0 d_Qu_addSpare_17 fp_Qu_17 (by (repeat (first | rw [jset_s] | rw [jset_n (by omega)] | rw [reH_0] | rw [reH_1] | rw [reH_2] | rw [reH_n (by omega)])) <;> first | rfl | assumption) (Nat.le_of_ble_eq_true rfl) (by rfl) (by rfl) ?_
  refine j_aload_n C0 d_Qu_addSpare_20 rfl (by rfl) ?_
  exact j_aret C0 d_Qu_addSpare_21 rfl (by omega) (by omega) ⟨f, m, e1, hm, rfl, by show jset _ _ (jO 3 [_, .int (nI qn + 1)]) = _; rw [nI_1], rfl⟩
theorem isQu.rem {E : jE} {h h' : jH} {a qn k : Nat} {Q : Nat → jMsg} {f g : Nat → Option Nat} (hq : isQu E h a qn Q) (hk : k < qn) (hf : h (a + 1) = some (jQa E 2 6 f)) (h0 : h' a = some (quO a (qn - 1))) (h1 : h' (a + 1) = some (jQa E 2 6 g)) (hg : ∀ i, i < 6 → g i = f (rho k qn i)) (hk2 : ∀ q, a + 2 ≤ q → q < a + 26 → h' q = h q) : isQu E h' a (qn - 1) (fun i => Q (rho k qn i)) := by
  obtain ⟨pm, f', p1, p2, p3, p4, p7, p5, p6⟩ := hq
  have e := hf.symm.trans p4
  cases e
  have hr : ∀ i, i < 6 → rho k qn i < 6 := fun i hi => by unfold rho; (repeat' split) <;> omega
  have hi : ∀ i j, i < 6 → j < 6 → rho k qn i = rho k qn j → i = j := fun i j hi hj e => by unfold rho at e; (repeat' (split at e)) <;> omega
  refine ⟨fun i => pm (rho k qn i), g, fun i h => p1 _ (hr i h), fun i j h1 h2 e => hi i j h1 h2 (p2 _ _ (hr i h1) (hr j h2) e), h0, h1, fun i h => by rw [hg i h]; exact p7 _ (hr i h), fun i h => (p5 _ (hr i h)).keep (fun q g1 g2 => hk2 q (by omega) (by have := p1 _ (hr i h); omega)), by omega⟩
set_option maxHeartbeats 4000000 in
set_option maxRecDepth 100000 in
theorem c_Qu_removeAt (l : Launch) (E : jE) {h : jH} {sz a qn : Nat} {Q : Nat → jMsg} {k : Nat} (hq : isQu E h a qn Q) (hk : k < qn) : jC l M_Qu_removeAt 0 E [.ref a, .int (nI k)] h sz 0 0 (fun r h' sz' => r = none ∧ isQu E h' a (qn - 1) (fun i => Q (rho k qn i)) ∧ (∀ q, q < a ∨ a + 26 ≤ q → h' q = h q) ∧ sz' = sz) := by
  have e0 := hq.obj
  obtain ⟨f, e1⟩ := hq.arr
  have h6 := hq.le
  obtain ⟨m, hm, hm1, hm2, hm3, -⟩ := hq.at e1 (show k < 6 by omega)
  refine jC.of (by decide) (Nat.le_of_ble_eq_true rfl) ?_
  intro x C0 hx
  subst hx

  refine j_aload_n C0 d_Qu_removeAt_0 rfl (by rfl) ?_
  refine j_getf C0 d_Qu_removeAt_1 fl_Qu_11 (by (repeat (first | rw [jset_s] | rw [jset_n (by omega)] | rw [reH_0] | rw [reH_1] | rw [reH_2] | rw [reH_n (by omega)])) <;> first | rfl | assumption) (by rfl) ?_
  refine j_iload_n C0 d_Qu_removeAt_4 rfl (by rfl) ?_
  refine j_aald C0 d_Qu_removeAt_5 (by (repeat (first | rw [jset_s] | rw [jset_n (by omega)] | rw [reH_0] | rw [reH_1] | rw [reH_2] | rw [reH_n (by omega)])) <;> first | rfl | assumption) rfl rfl (by omega) (by decide) hm ?_
  refine j_astore_n C0 d_Qu_removeAt_6 rfl (Nat.le_of_ble_eq_true rfl) ?_
  refine j_iload_n C0 d_Qu_removeAt_7 rfl (by rfl) ?_
  refine j_istore_n C0 d_Qu_removeAt_8 rfl (Nat.le_of_ble_eq_true rfl) ?_
  have ef : (fun j => if k ≤ j ∧ j < k + 0 then f (j + 1) else f j) = f := by funext j; rw [if_neg (by omega)]
  refine j_to (h' := jset h (a + 1) (jQa E 2 6 (fun j => if k ≤ j ∧ j < k + 0 then f (j + 1) else f j))) (lv' := [(0, .ref a), (1, .int (nI k)), (2, .ref m), (3, .int (nI (k + 0)))]) ?_ (by rw [ef, jset_self e1]) ⟨rfl, rfl, rfl, rfl, trivial⟩
  refine j_for (qn - 1 - k) (fun i => jset h (a + 1) (jQa E 2 6 (fun j => if k ≤ j ∧ j < k + i then f (j + 1) else f j))) (fun i => [(0, .ref a), (1, .int (nI k)), (2, .ref m), (3, .int (nI (k + i)))]) ?_ ?_ 0 (Nat.zero_le _)
  · intro i hi ih
    obtain ⟨m1, hx1, hy1, hy2, hx3, -⟩ := hq.at e1 (show k + i + 1 < 6 by omega)
    have es : nI qn - 1 = nI (qn - 1) := by obtain ⟨n', rfl⟩ : ∃ n', qn = n' + 1 := ⟨qn - 1, by omega⟩; exact nI_pred n'
    have ea : nI (k + i) + 1 = nI (k + i + 1) := nI_1 _
    refine j_iload_n C0 d_Qu_removeAt_9 rfl (by rfl) ?_
    refine j_aload_n C0 d_Qu_removeAt_10 rfl (by rfl) ?_
    refine j_getf C0 d_Qu_removeAt_11 fl_Qu_17 (by (repeat (first | rw [jset_s] | rw [jset_n (by omega)] | rw [reH_0] | rw [reH_1] | rw [reH_2] | rw [reH_n (by omega)])) <;> first | rfl | assumption) (by rfl) ?_
    refine j_iconst C0 d_Qu_removeAt_14 (v := 1) (by decide) ?_
    refine j_isub C0 d_Qu_removeAt_15 ?_
    rw [es]
    refine j_icmp_ge C0 d_Qu_removeAt_16 (tgt := 39) (by decide) (fun c_16 => ?_) (fun c_16 => ?_)
    · exact absurd c_16 (nI_ge (show k + i < qn - 1 by omega) (by omega))
    · refine j_aload_n C0 d_Qu_removeAt_19 rfl (by rfl) ?_
      refine j_getf C0 d_Qu_removeAt_20 fl_Qu_11 (by (repeat (first | rw [jset_s] | rw [jset_n (by omega)] | rw [reH_0] | rw [reH_1] | rw [reH_2] | rw [reH_n (by omega)])) <;> first | rfl | assumption) (by rfl) ?_
      refine j_iload_n C0 d_Qu_removeAt_23 rfl (by rfl) ?_
      refine j_aload_n C0 d_Qu_removeAt_24 rfl (by rfl) ?_
      refine j_getf C0 d_Qu_removeAt_25 fl_Qu_11 (by (repeat (first | rw [jset_s] | rw [jset_n (by omega)] | rw [reH_0] | rw [reH_1] | rw [reH_2] | rw [reH_n (by omega)])) <;> first | rfl | assumption) (by rfl) ?_
      refine j_iload_n C0 d_Qu_removeAt_28 rfl (by rfl) ?_
      refine j_iconst C0 d_Qu_removeAt_29 (v := 1) (by decide) ?_
      refine j_iadd C0 d_Qu_removeAt_30 ?_
      rw [ea]
      refine j_aald C0 d_Qu_removeAt_31 (by (repeat (first | rw [jset_s] | rw [jset_n (by omega)] | rw [reH_0] | rw [reH_1] | rw [reH_2] | rw [reH_n (by omega)])) <;> first | rfl | assumption) rfl rfl (by omega) (by decide) (by show (if _ then _ else _) = _; rw [if_neg (by omega)]; exact hx1) ?_
      refine j_aast C0 d_Qu_removeAt_32 (by (repeat (first | rw [jset_s] | rw [jset_n (by omega)] | rw [reH_0] | rw [reH_1] | rw [reH_2] | rw [reH_n (by omega)])) <;> first | rfl | assumption) (by rw [jset_n (by omega)]; exact hx3.1) rfl rfl rfl (by omega) (by decide) ?_
      rw [jset_ss]
      refine j_iinc C0 d_Qu_removeAt_33 (by rfl) (jinc _) (Nat.le_of_ble_eq_true rfl) ?_
      refine j_goto C0 d_Qu_removeAt_36 (tgt := 9) (by decide) ?_
      refine j_to ih ?_ ⟨rfl, rfl, rfl, rfl, trivial⟩
      congr 8
      funext j
      unfold va_up
      by_cases hj : j = k + i
      · subst hj
        rw [if_pos rfl, if_pos (by omega)]
        exact hx1.symm
      · rw [if_neg hj]
        dsimp only
        by_cases hl : k ≤ j ∧ j < k + i
        · rw [if_pos hl, if_pos (by omega)]
        · rw [if_neg hl, if_neg (by omega)]
  · have es : nI qn - 1 = nI (qn - 1) := by obtain ⟨n', rfl⟩ : ∃ n', qn = n' + 1 := ⟨qn - 1, by omega⟩; exact nI_pred n'
    have ek : k + (qn - 1 - k) = qn - 1 := by omega
    refine j_iload_n C0 d_Qu_removeAt_9 rfl (by rfl) ?_
    refine j_aload_n C0 d_Qu_removeAt_10 rfl (by rfl) ?_
    refine j_getf C0 d_Qu_removeAt_11 fl_Qu_17 (by (repeat (first | rw [jset_s] | rw [jset_n (by omega)] | rw [reH_0] | rw [reH_1] | rw [reH_2] | rw [reH_n (by omega)])) <;> first | rfl | assumption) (by rfl) ?_
    refine j_iconst C0 d_Qu_removeAt_14 (v := 1) (by decide) ?_
    refine j_isub C0 d_Qu_removeAt_15 ?_
    rw [es, ek]
    refine j_icmp_ge C0 d_Qu_removeAt_16 (tgt := 39) (by decide) (fun c_16 => ?_) (fun c_16 => ?_)
    · refine j_aload_n C0 d_Qu_removeAt_39 rfl (by rfl) ?_
      refine j_dup C0 d_Qu_removeAt_40 rfl ?_
      refine j_getf C0 d_Qu_removeAt_41 fl_Qu_17 (by (repeat (first | rw [jset_s] | rw [jset_n (by omega)] | rw [reH_0] | rw [reH_1] | rw [reH_2] | rw [reH_n (by omega)])) <;> first | rfl | assumption) (by rfl) ?_
      refine j_iconst C0 d_Qu_removeAt_44 (v := 1) (by decide) ?_
      refine j_isub C0 d_Qu_removeAt_45 ?_
      rw [es]
      refine j_putf C0 d_Qu_removeAt_46 fp_Qu_17 (by (repeat (first | rw [jset_s] | rw [jset_n (by omega)] | rw [reH_0] | rw [reH_1] | rw [reH_2] | rw [reH_n (by omega)])) <;> first | rfl | assumption) (Nat.le_of_ble_eq_true rfl) (by rfl) (by rfl) ?_
      refine j_aload_n C0 d_Qu_removeAt_49 rfl (by rfl) ?_
      refine j_getf C0 d_Qu_removeAt_50 fl_Qu_11 (by (repeat (first | rw [jset_s] | rw [jset_n (by omega)] | rw [reH_0] | rw [reH_1] | rw [reH_2] | rw [reH_n (by omega)])) <;> first | rfl | assumption) (by rfl) ?_
      refine j_aload_n C0 d_Qu_removeAt_53 rfl (by rfl) ?_
      refine j_getf C0 d_Qu_removeAt_54 fl_Qu_17 (by (repeat (first | rw [jset_s] | rw [jset_n (by omega)] | rw [reH_0] | rw [reH_1] | rw [reH_2] | rw [reH_n (by omega)])) <;> first | rfl | assumption) (by rfl) ?_
      refine j_aload_n C0 d_Qu_removeAt_57 rfl (by rfl) ?_
      refine j_aast C0 d_Qu_removeAt_58 (by (repeat (first | rw [jset_s] | rw [jset_n (by omega)] | rw [reH_0] | rw [reH_1] | rw [reH_2] | rw [reH_n (by omega)])) <;> first | rfl | assumption) (by rw [jset_n (by omega), jset_n (by omega)]; exact hm3.1) rfl rfl rfl (by omega) (by decide) ?_
      exact j_vret C0 d_Qu_removeAt_59 rfl (by omega) (by omega) ⟨rfl, hq.rem (k := k) hk e1 (by rw [jset_n (by omega), jset_s]; rfl) jset_s (fun i hi => by
              unfold va_up rho
              dsimp only
              by_cases h0 : i = qn - 1
              · rw [if_pos h0, if_neg (by omega), if_neg (by omega), if_pos (by omega), hm]
              · rw [if_neg h0]
                by_cases h1 : i < k
                · rw [if_neg (by omega), if_pos h1]
                · by_cases h2 : i + 1 < qn
                  · rw [if_pos (by omega), if_neg h1, if_pos h2]
                  · rw [if_neg (by omega), if_neg h1, if_neg h2, if_neg (by omega)]) (fun q h1 h2 => by rw [jset_n (by omega), jset_n (by omega), jset_n (by omega)]), fun q hq => by rw [jset_n (by omega), jset_n (by omega), jset_n (by omega)], rfl⟩
    · exact absurd (nI_le (Nat.le_refl _) (by omega)) c_16
set_option maxHeartbeats 4000000 in
set_option maxRecDepth 100000 in
theorem c_Qu_indexOf (l : Launch) (E : jE) {h : jH} {sz a qn : Nat} {Q : Nat → jMsg} (v : Int32) (hq : isQu E h a qn Q) : jC l M_Qu_indexOf 0 E [.ref a, .int v] h sz 0 0 (fun r h' sz' => r = some (.int (sG (fun j => (Q j).1 1) nI (-1) v 0 qn)) ∧ h' = h ∧ sz' = sz) := by
  have e0 := hq.obj
  obtain ⟨f, e1⟩ := hq.arr
  have h6 := hq.le
  refine jC.of (by decide) (Nat.le_of_ble_eq_true rfl) ?_
  intro x C0 hx
  subst hx

  refine j_iconst C0 d_Qu_indexOf_0 (v := 0) (by decide) ?_
  refine j_istore_n C0 d_Qu_indexOf_1 rfl (Nat.le_of_ble_eq_true rfl) ?_
  refine j_lv (lv' := [(0, .ref a), (1, .int v), (2, .int (nI 0))]) ⟨rfl, rfl, rfl, trivial⟩ ?_
  refine j_forI qn (fun i => sG (fun j => (Q j).1 1) nI (-1) v 0 qn = sG (fun j => (Q j).1 1) nI (-1) v i (qn - i)) (fun _ => h) (fun i => [(0, .ref a), (1, .int v), (2, .int (nI i))]) ?_ ?_ 0 (Nat.zero_le qn) rfl
  · intro i hi hI ih
    obtain ⟨m, hm, hm1, hm2, ⟨hm3, -⟩, -⟩ := hq.at e1 (show i < 6 by omega)
    refine j_iload_n C0 d_Qu_indexOf_2 rfl (by rfl) ?_
    refine j_aload_n C0 d_Qu_indexOf_3 rfl (by rfl) ?_
    refine j_getf C0 d_Qu_indexOf_4 fl_Qu_17 (by (repeat (first | rw [jset_s] | rw [jset_n (by omega)] | rw [reH_0] | rw [reH_1] | rw [reH_2] | rw [reH_n (by omega)])) <;> first | rfl | assumption) (by rfl) ?_
    refine j_icmp_ge C0 d_Qu_indexOf_7 (tgt := 31) (by decide) (fun c_7 => ?_) (fun c_7 => ?_)
    · exact absurd c_7 (nI_ge hi (by omega))
    · refine j_aload_n C0 d_Qu_indexOf_10 rfl (by rfl) ?_
      refine j_getf C0 d_Qu_indexOf_11 fl_Qu_11 (by (repeat (first | rw [jset_s] | rw [jset_n (by omega)] | rw [reH_0] | rw [reH_1] | rw [reH_2] | rw [reH_n (by omega)])) <;> first | rfl | assumption) (by rfl) ?_
      refine j_iload_n C0 d_Qu_indexOf_14 rfl (by rfl) ?_
      refine j_aald C0 d_Qu_indexOf_15 (by (repeat (first | rw [jset_s] | rw [jset_n (by omega)] | rw [reH_0] | rw [reH_1] | rw [reH_2] | rw [reH_n (by omega)])) <;> first | rfl | assumption) rfl rfl (by omega) (by decide) hm ?_
      refine j_getf C0 d_Qu_indexOf_16 fl_Qu_22 (by (repeat (first | rw [jset_s] | rw [jset_n (by omega)] | rw [reH_0] | rw [reH_1] | rw [reH_2] | rw [reH_n (by omega)])) <;> first | rfl | assumption) (by rfl) ?_
      refine j_iload_n C0 d_Qu_indexOf_19 rfl (by rfl) ?_
      refine j_icmp_ne C0 d_Qu_indexOf_20 (tgt := 25) (by decide) (fun c_20 => ?_) (fun c_20 => ?_)
      · refine j_iinc C0 d_Qu_indexOf_25 (by rfl) (jinc _) (Nat.le_of_ble_eq_true rfl) ?_
        refine j_goto C0 d_Qu_indexOf_28 (tgt := 2) (by decide) ?_
        exact j_to (ih (by rw [hI, sG_n hi c_20])) rfl ⟨rfl, rfl, rfl, trivial⟩
      · refine j_iload_n C0 d_Qu_indexOf_23 rfl (by rfl) ?_
        exact j_iret C0 d_Qu_indexOf_24 rfl (by omega) (by omega) ⟨by rw [hI, sG_y hi c_20], rfl, rfl⟩
  · intro hI
    refine j_iload_n C0 d_Qu_indexOf_2 rfl (by rfl) ?_
    refine j_aload_n C0 d_Qu_indexOf_3 rfl (by rfl) ?_
    refine j_getf C0 d_Qu_indexOf_4 fl_Qu_17 (by (repeat (first | rw [jset_s] | rw [jset_n (by omega)] | rw [reH_0] | rw [reH_1] | rw [reH_2] | rw [reH_n (by omega)])) <;> first | rfl | assumption) (by rfl) ?_
    refine j_icmp_ge C0 d_Qu_indexOf_7 (tgt := 31) (by decide) (fun c_7 => ?_) (fun c_7 => ?_)
    · refine j_iconst C0 d_Qu_indexOf_31 (v := -1) (by decide) ?_
      exact j_iret C0 d_Qu_indexOf_32 rfl (by omega) (by omega) ⟨by rw [hI, Nat.sub_self]; rfl, rfl, rfl⟩
    · exact absurd (nI_le (Nat.le_refl _) (by omega)) c_7
set_option maxHeartbeats 4000000 in
set_option maxRecDepth 100000 in
theorem c_Qu_costs (l : Launch) (E : jE) {h : jH} {sz a qn : Nat} {Q : Nat → jMsg} (hq : isQu E h a qn Q) : jC l M_Qu_costs 1 E [.ref a] h sz 0 0 (fun r h' sz' => r = some (.int (csQ Q qn)) ∧ h' = h ∧ sz' = sz) := by
  have e0 := hq.obj
  obtain ⟨f, e1⟩ := hq.arr
  have h6 := hq.le
  refine jC.of (by decide) (Nat.le_of_ble_eq_true rfl) ?_
  intro x C0 hx
  subst hx

  refine j_iconst C0 d_Qu_costs_0 (v := 0) (by decide) ?_
  refine j_istore_n C0 d_Qu_costs_1 rfl (Nat.le_of_ble_eq_true rfl) ?_
  refine j_iconst C0 d_Qu_costs_2 (v := 0) (by decide) ?_
  refine j_istore_n C0 d_Qu_costs_3 rfl (Nat.le_of_ble_eq_true rfl) ?_
  refine j_lv (lv' := [(0, .ref a), (1, .int (csQ Q 0)), (2, .int (nI 0))]) ⟨rfl, rfl, rfl, trivial⟩ ?_
  refine j_for qn (fun _ => h) (fun i => [(0, .ref a), (1, .int (csQ Q i)), (2, .int (nI i))]) ?_ ?_ 0 (Nat.zero_le qn)
  · intro i hi ih
    obtain ⟨m, hm, hm1, hm2, ⟨hm3, hm4, hm5⟩, -⟩ := hq.at e1 (show i < 6 by omega)
    refine j_iload_n C0 d_Qu_costs_4 rfl (by rfl) ?_
    refine j_aload_n C0 d_Qu_costs_5 rfl (by rfl) ?_
    refine j_getf C0 d_Qu_costs_6 fl_Qu_17 (by (repeat (first | rw [jset_s] | rw [jset_n (by omega)] | rw [reH_0] | rw [reH_1] | rw [reH_2] | rw [reH_n (by omega)])) <;> first | rfl | assumption) (by rfl) ?_
    refine j_icmp_ge C0 d_Qu_costs_9 (tgt := 45) (by decide) (fun c_9 => ?_) (fun c_9 => ?_)
    · exact absurd c_9 (nI_ge hi (by omega))
    · refine j_iload_n C0 d_Qu_costs_12 rfl (by rfl) ?_
      refine j_aload_n C0 d_Qu_costs_13 rfl (by rfl) ?_
      refine j_getf C0 d_Qu_costs_14 fl_Qu_11 (by (repeat (first | rw [jset_s] | rw [jset_n (by omega)] | rw [reH_0] | rw [reH_1] | rw [reH_2] | rw [reH_n (by omega)])) <;> first | rfl | assumption) (by rfl) ?_
      refine j_iload_n C0 d_Qu_costs_17 rfl (by rfl) ?_
      refine j_aald C0 d_Qu_costs_18 (by (repeat (first | rw [jset_s] | rw [jset_n (by omega)] | rw [reH_0] | rw [reH_1] | rw [reH_2] | rw [reH_n (by omega)])) <;> first | rfl | assumption) rfl rfl (by omega) (by decide) hm ?_
      refine j_getf C0 d_Qu_costs_19 fl_Qu_25 (by (repeat (first | rw [jset_s] | rw [jset_n (by omega)] | rw [reH_0] | rw [reH_1] | rw [reH_2] | rw [reH_n (by omega)])) <;> first | rfl | assumption) (by rfl) ?_
      refine j_aload_n C0 d_Qu_costs_22 rfl (by rfl) ?_
      refine j_getf C0 d_Qu_costs_23 fl_Qu_11 (by (repeat (first | rw [jset_s] | rw [jset_n (by omega)] | rw [reH_0] | rw [reH_1] | rw [reH_2] | rw [reH_n (by omega)])) <;> first | rfl | assumption) (by rfl) ?_
      refine j_iload_n C0 d_Qu_costs_26 rfl (by rfl) ?_
      refine j_aald C0 d_Qu_costs_27 (by (repeat (first | rw [jset_s] | rw [jset_n (by omega)] | rw [reH_0] | rw [reH_1] | rw [reH_2] | rw [reH_n (by omega)])) <;> first | rfl | assumption) rfl rfl (by omega) (by decide) hm ?_
      refine j_getf C0 d_Qu_costs_28 fl_Qu_26 (by (repeat (first | rw [jset_s] | rw [jset_n (by omega)] | rw [reH_0] | rw [reH_1] | rw [reH_2] | rw [reH_n (by omega)])) <;> first | rfl | assumption) (by rfl) ?_
      refine j_getf C0 d_Qu_costs_31 fl_Qu_30 (by (repeat (first | rw [jset_s] | rw [jset_n (by omega)] | rw [reH_0] | rw [reH_1] | rw [reH_2] | rw [reH_n (by omega)])) <;> first | rfl | assumption) (by rfl) ?_
      refine j_callSN C0 d_Qu_costs_34 cn_Qu_33 cn_Qu_33v (c_Ma_costOf _ E _ _) rfl rfl ⟨by decide, by decide⟩ ⟨by omega, by omega⟩ (Nat.le_of_ble_eq_true rfl) (fun r_ h_ z_ hp_ => ?_)
      obtain ⟨rfl, rfl, rfl⟩ := hp_
      refine j_iadd C0 d_Qu_costs_37 ?_
      refine j_istore_n C0 d_Qu_costs_38 rfl (Nat.le_of_ble_eq_true rfl) ?_
      refine j_iinc C0 d_Qu_costs_39 (by rfl) (jinc _) (Nat.le_of_ble_eq_true rfl) ?_
      refine j_goto C0 d_Qu_costs_42 (tgt := 4) (by decide) ?_
      exact j_to ih rfl ⟨rfl, rfl, rfl, trivial⟩
  · refine j_iload_n C0 d_Qu_costs_4 rfl (by rfl) ?_
    refine j_aload_n C0 d_Qu_costs_5 rfl (by rfl) ?_
    refine j_getf C0 d_Qu_costs_6 fl_Qu_17 (by (repeat (first | rw [jset_s] | rw [jset_n (by omega)] | rw [reH_0] | rw [reH_1] | rw [reH_2] | rw [reH_n (by omega)])) <;> first | rfl | assumption) (by rfl) ?_
    refine j_icmp_ge C0 d_Qu_costs_9 (tgt := 45) (by decide) (fun c_9 => ?_) (fun c_9 => ?_)
    · refine j_iload_n C0 d_Qu_costs_45 rfl (by rfl) ?_
      exact j_iret C0 d_Qu_costs_46 rfl (by omega) (by omega) ⟨rfl, rfl, rfl⟩
    · exact absurd (nI_le (Nat.le_refl _) (by omega)) c_9
set_option maxHeartbeats 4000000 in
set_option maxRecDepth 100000 in
theorem c_Qu_waitingRecipients (l : Launch) (E : jE) {h : jH} {sz a qn : Nat} {Q : Nat → jMsg} (hq : isQu E h a qn Q) : jC l M_Qu_waitingRecipients 1 E [.ref a] h sz 0 0 (fun r h' sz' => r = some (.int (wtQ Q qn)) ∧ h' = h ∧ sz' = sz) := by
  have e0 := hq.obj
  obtain ⟨f, e1⟩ := hq.arr
  have h6 := hq.le
  refine jC.of (by decide) (Nat.le_of_ble_eq_true rfl) ?_
  intro x C0 hx
  subst hx

  refine j_iconst C0 d_Qu_waitingRecipients_0 (v := 0) (by decide) ?_
  refine j_istore_n C0 d_Qu_waitingRecipients_1 rfl (Nat.le_of_ble_eq_true rfl) ?_
  refine j_iconst C0 d_Qu_waitingRecipients_2 (v := 0) (by decide) ?_
  refine j_istore_n C0 d_Qu_waitingRecipients_3 rfl (Nat.le_of_ble_eq_true rfl) ?_
  refine j_lv (lv' := [(0, .ref a), (1, .int (wtQ Q 0)), (2, .int (nI 0))]) ⟨rfl, rfl, rfl, trivial⟩ ?_
  refine j_for qn (fun _ => h) (fun i => [(0, .ref a), (1, .int (wtQ Q i)), (2, .int (nI i))]) ?_ ?_ 0 (Nat.zero_le qn)
  · intro i hi ih
    obtain ⟨m, hm, hm1, hm2, ⟨hm3, hm4⟩, -⟩ := hq.at e1 (show i < 6 by omega)
    refine j_iload_n C0 d_Qu_waitingRecipients_4 rfl (by rfl) ?_
    refine j_aload_n C0 d_Qu_waitingRecipients_5 rfl (by rfl) ?_
    refine j_getf C0 d_Qu_waitingRecipients_6 fl_Qu_17 (by (repeat (first | rw [jset_s] | rw [jset_n (by omega)] | rw [reH_0] | rw [reH_1] | rw [reH_2] | rw [reH_n (by omega)])) <;> first | rfl | assumption) (by rfl) ?_
    refine j_icmp_ge C0 d_Qu_waitingRecipients_9 (tgt := 34) (by decide) (fun c_9 => ?_) (fun c_9 => ?_)
    · exact absurd c_9 (nI_ge hi (by omega))
    · refine j_iload_n C0 d_Qu_waitingRecipients_12 rfl (by rfl) ?_
      refine j_aload_n C0 d_Qu_waitingRecipients_13 rfl (by rfl) ?_
      refine j_getf C0 d_Qu_waitingRecipients_14 fl_Qu_11 (by (repeat (first | rw [jset_s] | rw [jset_n (by omega)] | rw [reH_0] | rw [reH_1] | rw [reH_2] | rw [reH_n (by omega)])) <;> first | rfl | assumption) (by rfl) ?_
      refine j_iload_n C0 d_Qu_waitingRecipients_17 rfl (by rfl) ?_
      refine j_aald C0 d_Qu_waitingRecipients_18 (by (repeat (first | rw [jset_s] | rw [jset_n (by omega)] | rw [reH_0] | rw [reH_1] | rw [reH_2] | rw [reH_n (by omega)])) <;> first | rfl | assumption) rfl rfl (by omega) (by decide) hm ?_
      refine j_getf C0 d_Qu_waitingRecipients_19 fl_Qu_26 (by (repeat (first | rw [jset_s] | rw [jset_n (by omega)] | rw [reH_0] | rw [reH_1] | rw [reH_2] | rw [reH_n (by omega)])) <;> first | rfl | assumption) (by rfl) ?_
      refine j_iconst C0 d_Qu_waitingRecipients_22 (v := 1) (by decide) ?_
      refine j_callV C0 d_Qu_waitingRecipients_23 cl_Qu_37 cl_Qu_37v (c_Re_inState _ E 1 hm4) hm4.1 rfl rfl rfl ⟨by decide, by decide⟩ ⟨by omega, by omega⟩ (Nat.le_of_ble_eq_true rfl) (fun r_ h_ z_ hp_ => ?_)
      obtain ⟨rfl, rfl, rfl⟩ := hp_
      refine j_iadd C0 d_Qu_waitingRecipients_26 ?_
      refine j_istore_n C0 d_Qu_waitingRecipients_27 rfl (Nat.le_of_ble_eq_true rfl) ?_
      refine j_iinc C0 d_Qu_waitingRecipients_28 (by rfl) (jinc _) (Nat.le_of_ble_eq_true rfl) ?_
      refine j_goto C0 d_Qu_waitingRecipients_31 (tgt := 4) (by decide) ?_
      exact j_to ih rfl ⟨rfl, rfl, rfl, trivial⟩
  · refine j_iload_n C0 d_Qu_waitingRecipients_4 rfl (by rfl) ?_
    refine j_aload_n C0 d_Qu_waitingRecipients_5 rfl (by rfl) ?_
    refine j_getf C0 d_Qu_waitingRecipients_6 fl_Qu_17 (by (repeat (first | rw [jset_s] | rw [jset_n (by omega)] | rw [reH_0] | rw [reH_1] | rw [reH_2] | rw [reH_n (by omega)])) <;> first | rfl | assumption) (by rfl) ?_
    refine j_icmp_ge C0 d_Qu_waitingRecipients_9 (tgt := 34) (by decide) (fun c_9 => ?_) (fun c_9 => ?_)
    · refine j_iload_n C0 d_Qu_waitingRecipients_34 rfl (by rfl) ?_
      exact j_iret C0 d_Qu_waitingRecipients_35 rfl (by omega) (by omega) ⟨rfl, rfl, rfl⟩
    · exact absurd (nI_le (Nat.le_refl _) (by omega)) c_9
set_option maxHeartbeats 4000000 in
set_option maxRecDepth 100000 in
theorem c_Qu_copyFrom (l : Launch) (E : jE) {h : jH} {sz a qn : Nat} {Q : Nat → jMsg} {b n2 : Nat} {Q2 : Nat → jMsg} (hq : isQu E h a qn Q) (hq2 : isQu E h b n2 Q2) (hab : a + 26 ≤ b ∨ b + 26 ≤ a) (hb : ∀ i, i < n2 → (Q2 i).1 7 = 0 ∨ (Q2 i).1 7 = 1) : jC l M_Qu_copyFrom 2 E [.ref a, .ref b] h sz 0 0 (fun r h' sz' => r = none ∧ isQu E h' a n2 (cpQ Q Q2 n2) ∧ (∀ q, q < a ∨ a + 26 ≤ q → h' q = h q) ∧ sz' = sz) := by
  have h6 := hq2.le
  refine jC.of (by decide) (Nat.le_of_ble_eq_true rfl) ?_
  intro x C0 hx
  subst hx

  refine j_iconst C0 d_Qu_copyFrom_0 (v := 0) (by decide) ?_
  refine j_istore_n C0 d_Qu_copyFrom_1 rfl (Nat.le_of_ble_eq_true rfl) ?_
  refine j_lv (lv' := [(0, .ref a), (1, .ref b), (2, .int (nI 0))]) ⟨rfl, rfl, rfl, trivial⟩ ?_
  refine j_forR n2 (fun i hh => isQu E hh a qn (cpQ Q Q2 i) ∧ ∀ q, q < a ∨ a + 26 ≤ q → hh q = h q) (fun _ => sz) (fun _ => 0) (fun _ => 0) (fun i => [(0, .ref a), (1, .ref b), (2, .int (nI i))]) ?_ ?_ 0 h (Nat.zero_le n2) ⟨hq, fun q _ => rfl⟩
  · intro i hh hi hI ih
    obtain ⟨g1, g2⟩ := hI
    have k1 := hq2.keep (h' := hh) (fun q h1 h2 => g2 q (by omega))
    have e0 := k1.obj
    have e1 := g1.obj
    obtain ⟨f, e2⟩ := g1.arr
    obtain ⟨f2, e3⟩ := k1.arr
    obtain ⟨m, hm, hm1, hm2, hm3, hm4⟩ := g1.at e2 (show i < 6 by omega)
    obtain ⟨m2, hn, hn1, hn2, hn3, -⟩ := k1.at e3 (show i < 6 by omega)
    have eq : cpQ Q Q2 i i = Q i := by simp [cpQ]
    rw [eq] at hm3
    refine j_iload_n C0 d_Qu_copyFrom_2 rfl (by rfl) ?_
    refine j_aload_n C0 d_Qu_copyFrom_3 rfl (by rfl) ?_
    refine j_getf C0 d_Qu_copyFrom_4 fl_Qu_17 (by (repeat (first | rw [jset_s] | rw [jset_n (by omega)] | rw [reH_0] | rw [reH_1] | rw [reH_2] | rw [reH_n (by omega)])) <;> first | rfl | assumption) (by rfl) ?_
    refine j_icmp_ge C0 d_Qu_copyFrom_7 (tgt := 31) (by decide) (fun c_7 => ?_) (fun c_7 => ?_)
    · exact absurd c_7 (nI_ge hi (by omega))
    · refine j_aload_n C0 d_Qu_copyFrom_10 rfl (by rfl) ?_
      refine j_getf C0 d_Qu_copyFrom_11 fl_Qu_11 (by (repeat (first | rw [jset_s] | rw [jset_n (by omega)] | rw [reH_0] | rw [reH_1] | rw [reH_2] | rw [reH_n (by omega)])) <;> first | rfl | assumption) (by rfl) ?_
      refine j_iload_n C0 d_Qu_copyFrom_14 rfl (by rfl) ?_
      refine j_aald C0 d_Qu_copyFrom_15 (by (repeat (first | rw [jset_s] | rw [jset_n (by omega)] | rw [reH_0] | rw [reH_1] | rw [reH_2] | rw [reH_n (by omega)])) <;> first | rfl | assumption) rfl rfl (by omega) (by decide) hm ?_
      refine j_aload_n C0 d_Qu_copyFrom_16 rfl (by rfl) ?_
      refine j_getf C0 d_Qu_copyFrom_17 fl_Qu_11 (by (repeat (first | rw [jset_s] | rw [jset_n (by omega)] | rw [reH_0] | rw [reH_1] | rw [reH_2] | rw [reH_n (by omega)])) <;> first | rfl | assumption) (by rfl) ?_
      refine j_iload_n C0 d_Qu_copyFrom_20 rfl (by rfl) ?_
      refine j_aald C0 d_Qu_copyFrom_21 (by (repeat (first | rw [jset_s] | rw [jset_n (by omega)] | rw [reH_0] | rw [reH_1] | rw [reH_2] | rw [reH_n (by omega)])) <;> first | rfl | assumption) rfl rfl (by omega) (by decide) hn ?_
      refine j_callV C0 d_Qu_copyFrom_22 cl_Qu_41 cl_Qu_41v (c_Me_copyFrom _ E hm3 hn3 (by omega) (hb i hi)) hm3.1 rfl rfl rfl ⟨by decide, by decide⟩ ⟨by omega, by omega⟩ (Nat.le_of_ble_eq_true rfl) (fun r_ h_ z_ hp_ => ?_)
      obtain ⟨rfl, rfl, rfl⟩ := hp_
      refine j_iinc C0 d_Qu_copyFrom_25 (by rfl) (jinc _) (Nat.le_of_ble_eq_true rfl) ?_
      refine j_goto C0 d_Qu_copyFrom_28 (tgt := 2) (by decide) ?_
      refine j_lv (lv' := [(0, .ref a), (1, .ref b), (2, .int (nI (i + 1)))]) ⟨rfl, rfl, rfl, trivial⟩ ?_
      refine ih _ ⟨?_, fun q hq => by rw [meH_n (by omega)]; exact g2 q hq⟩
      rw [← cpQ_s]
      exact hm4 _ _ (meH_is hn3.2.2.2.2) (fun q hq => meH_n hq)
  · intro hh hI
    obtain ⟨g1, g2⟩ := hI
    have k1 := hq2.keep (h' := hh) (fun q h1 h2 => g2 q (by omega))
    have e0 := k1.obj
    have e1 := g1.obj
    refine j_iload_n C0 d_Qu_copyFrom_2 rfl (by rfl) ?_
    refine j_aload_n C0 d_Qu_copyFrom_3 rfl (by rfl) ?_
    refine j_getf C0 d_Qu_copyFrom_4 fl_Qu_17 (by (repeat (first | rw [jset_s] | rw [jset_n (by omega)] | rw [reH_0] | rw [reH_1] | rw [reH_2] | rw [reH_n (by omega)])) <;> first | rfl | assumption) (by rfl) ?_
    refine j_icmp_ge C0 d_Qu_copyFrom_7 (tgt := 31) (by decide) (fun c_7 => ?_) (fun c_7 => ?_)
    · refine j_aload_n C0 d_Qu_copyFrom_31 rfl (by rfl) ?_
      refine j_aload_n C0 d_Qu_copyFrom_32 rfl (by rfl) ?_
      refine j_getf C0 d_Qu_copyFrom_33 fl_Qu_17 (by (repeat (first | rw [jset_s] | rw [jset_n (by omega)] | rw [reH_0] | rw [reH_1] | rw [reH_2] | rw [reH_n (by omega)])) <;> first | rfl | assumption) (by rfl) ?_
      refine j_putf C0 d_Qu_copyFrom_36 fp_Qu_17 (by (repeat (first | rw [jset_s] | rw [jset_n (by omega)] | rw [reH_0] | rw [reH_1] | rw [reH_2] | rw [reH_n (by omega)])) <;> first | rfl | assumption) (Nat.le_of_ble_eq_true rfl) (by rfl) (by rfl) ?_
      exact j_vret C0 d_Qu_copyFrom_39 rfl (by omega) (by omega) ⟨rfl, g1.size h6, fun q hq => by rw [jset_n (by omega)]; exact g2 q hq, rfl⟩
    · exact absurd (nI_le (Nat.le_refl _) (by omega)) c_7
end
section
section JLoop3
variable {x : jX} {M : jM} {E : jE} {Q : State → Prop} {sz ce sl pc : Nat} {st : List Value}
theorem j_down (I : Nat → Prop) (h : Nat → jH) (lv : Nat → List (Nat × Value)) (zero : I 0 → jJ x M E Q (h 0) sz ce sl (lv 0) pc st) (succ : ∀ p, I (p + 1) → (I p → jJ x M E Q (h p) sz ce sl (lv p) pc st) → jJ x M E Q (h (p + 1)) sz ce sl (lv (p + 1)) pc st) : ∀ p, I p → jJ x M E Q (h p) sz ce sl (lv p) pc st := by
  intro p
  induction p with
  | zero => exact zero
  | succ p ih => exact fun hI => succ p hI ih
end JLoop3
/-- Aliases at a: masks by local -/
def isAl (E : jE) (h : jH) (a : Nat) (g : Nat → Nat) : Prop := h a = some (jO 0 [.ref (a + 1)]) ∧ h (a + 1) = some (jL E 8 (fun i => lN (g i))) ∧ ∀ i, g i < 2 ^ 64
theorem up_lN (g : Nat → Nat) (k m : Nat) : vp_updL (fun i => lN (g i)) k (lN m) = fun i => lN (va_up g k m i) := by
  funext i
  unfold vp_updL va_up
  by_cases h : i = k <;> simp [h]
theorem up_lt {g : Nat → Nat} {k m : Nat} (hg : ∀ i, g i < 2 ^ 64) (hm : m < 2 ^ 64) : ∀ i, va_up g k m i < 2 ^ 64 := by
  intro i
  unfold va_up
  split
  · exact hm
  · exact hg i
theorem p64 {k : Nat} (hk : k < 64) : 2 ^ k < 2 ^ 64 := Nat.pow_lt_pow_right (by decide) hk
def rIn (g : Nat → Nat) (s : Nat) : Nat → Nat
  | 0 => s
  | i + 1 => if (rIn g s i).testBit i then rIn g s i ||| g i else rIn g s i
def rOut (g : Nat → Nat) (s : Nat) : Nat → Nat
  | 0 => s
  | r + 1 => rIn g (rOut g s r) 8
theorem rIn_lt {g : Nat → Nat} {s : Nat} (hg : ∀ i, g i < 2 ^ 64) (hs : s < 2 ^ 64) : ∀ i, rIn g s i < 2 ^ 64
  | 0 => hs
  | i + 1 => by
    unfold rIn
    split
    · exact Nat.or_lt_two_pow (rIn_lt hg hs i) (hg i)
    · exact rIn_lt hg hs i
theorem rOut_lt {g : Nat → Nat} {s : Nat} (hg : ∀ i, g i < 2 ^ 64) (hs : s < 2 ^ 64) : ∀ r, rOut g s r < 2 ^ 64
  | 0 => hs
  | r + 1 => rIn_lt hg (rOut_lt hg hs r) 8
def fin8 (g : Nat → Nat) (s : Nat) : Nat → Nat
  | 0 => s
  | i + 1 => if g i = 0 then fin8 g s i else fin8 g s i &&& (2 ^ i ^^^ (2 ^ 64 - 1))
theorem fin8_lt {g : Nat → Nat} {s : Nat} (hs : s < 2 ^ 64) : ∀ i, fin8 g s i < 2 ^ 64
  | 0 => hs
  | i + 1 => by
    unfold fin8
    split
    · exact fin8_lt hs i
    · exact Nat.lt_of_le_of_lt Nat.and_le_left (fin8_lt hs i)
theorem x64 {a : Nat} (ha : a < 2 ^ 64) : a ^^^ (2 ^ 64 - 1) < 2 ^ 64 := Nat.xor_lt_two_pow ha (by decide)
set_option maxHeartbeats 4000000 in
set_option maxRecDepth 100000 in
theorem c_Al_init (l : Launch) (E : jE) {h : jH} {sz a : Nat} (e0 : h a = some (jO 0 [.null])) (hz : sz = a + 1) : jC l M_Al_init 1 E [.ref a] h sz 1 8 (fun r h' sz' => r = none ∧ isAl E h' a (fun _ => 0) ∧ (∀ q, q < a → h' q = h q) ∧ sz' = a + 2) := by
  subst hz
  refine jC.of (by decide) (Nat.le_of_ble_eq_true rfl) ?_
  intro x C0 hx
  subst hx

  refine j_aload_n C0 d_Al_init_0 rfl (by rfl) ?_
  refine j_obj C0 d_Al_init_1 w_1_34 w_1_18 w_1_19 (by omega) (Nat.le_of_ble_eq_true rfl) ?_
  refine j_aload_n C0 d_Al_init_4 rfl (by rfl) ?_
  refine j_bipush C0 d_Al_init_5 (v := 8) (by decide) ?_
  refine j_newl C0 (N := 8) d_Al_init_7 w_1_39 rfl (by decide) (by omega) (by omega) ?_
  refine j_putF C0 d_Al_init_9 fp_Al_9 (by (repeat (first | rw [jset_s] | rw [jset_n (by omega)] | rw [reH_0] | rw [reH_1] | rw [reH_2] | rw [reH_n (by omega)])) <;> first | rfl | assumption) (Nat.le_of_ble_eq_true rfl) (by rfl) (by rfl) rfl ?_
  exact j_vret C0 d_Al_init_12 rfl (by omega) (by omega) ⟨rfl, ⟨by rw [jset_s]; rfl, by rw [jset_n (by omega), jset_s]; rfl, fun _ => by show 0 < 2 ^ 64; decide⟩, fun q hq => by rw [jset_n (by omega), jset_n (by omega)], rfl⟩
theorem pp_le (n : Nat) : ∀ k, pp_c n k ≤ k
  | 0 => Nat.le_refl 0
  | k + 1 => by
    have := pp_le n k
    simp only [pp_c]
    omega
set_option maxHeartbeats 4000000 in
set_option maxRecDepth 100000 in
theorem c_Al_hasRoomFor (l : Launch) (E : jE) {h : jH} {sz a k : Nat} {g : Nat → Nat} (hk : k < 8) {u : Nat} (hu : u < 64) (ha : isAl E h a g) : jC l M_Al_hasRoomFor 1 E [.ref a, .int (nI k), .int (nI u)] h sz 0 0 (fun r h' sz' => r = some (.int (jb (pp_c (g k) 64 < 4 ∧ (g k).testBit u = false))) ∧ h' = h ∧ sz' = sz) := by
  obtain ⟨e0, e1, hg⟩ := ha
  refine jC.of (by decide) (Nat.le_of_ble_eq_true rfl) ?_
  intro x C0 hx
  subst hx

  refine j_aload_n C0 d_Al_hasRoomFor_0 rfl (by rfl) ?_
  refine j_getf C0 d_Al_hasRoomFor_1 fl_Al_9 (by (repeat (first | rw [jset_s] | rw [jset_n (by omega)] | rw [reH_0] | rw [reH_1] | rw [reH_2] | rw [reH_n (by omega)])) <;> first | rfl | assumption) (by rfl) ?_
  refine j_iload_n C0 d_Al_hasRoomFor_4 rfl (by rfl) ?_
  refine j_lald C0 d_Al_hasRoomFor_5 (by (repeat (first | rw [jset_s] | rw [jset_n (by omega)] | rw [reH_0] | rw [reH_1] | rw [reH_2] | rw [reH_n (by omega)])) <;> first | rfl | assumption) rfl (by omega) (by decide) ?_
  refine j_callS C0 d_Al_hasRoomFor_6 cl_Al_15 cl_Al_15v (c_Lo_bitCount _ E (hg k)) rfl rfl ⟨by decide, by decide⟩ ⟨by omega, by omega⟩ (Nat.le_of_ble_eq_true rfl) (fun r_ h_ z_ hp_ => ?_)
  obtain ⟨rfl, rfl, rfl⟩ := hp_
  refine j_iconst C0 d_Al_hasRoomFor_9 (v := 4) (by decide) ?_
  refine j_icmp_ge C0 d_Al_hasRoomFor_10 (tgt := 32) (by decide) (fun c_10 => ?_) (fun c_10 => ?_)
  · have hA : ¬ (pp_c (g k) 64 < 4) := fun hh => nI_ge (b := 4) hh (by decide) c_10
    refine j_iconst C0 d_Al_hasRoomFor_32 (v := 0) (by decide) ?_
    exact j_zret C0 d_Al_hasRoomFor_33 rfl (by rfl) (by omega) (by omega) ⟨by first | (simp [jb, hA]; done) | (simp [jb, hA, hT]; done), rfl, rfl⟩
  · have hA : pp_c (g k) 64 < 4 := Nat.lt_of_not_le (fun hh => c_10 (nI_le (a := 4) hh (Nat.lt_of_le_of_lt (pp_le _ 64) (by decide))))
    refine j_aload_n C0 d_Al_hasRoomFor_13 rfl (by rfl) ?_
    refine j_getf C0 d_Al_hasRoomFor_14 fl_Al_9 (by (repeat (first | rw [jset_s] | rw [jset_n (by omega)] | rw [reH_0] | rw [reH_1] | rw [reH_2] | rw [reH_n (by omega)])) <;> first | rfl | assumption) (by rfl) ?_
    refine j_iload_n C0 d_Al_hasRoomFor_17 rfl (by rfl) ?_
    refine j_lald C0 d_Al_hasRoomFor_18 (by (repeat (first | rw [jset_s] | rw [jset_n (by omega)] | rw [reH_0] | rw [reH_1] | rw [reH_2] | rw [reH_n (by omega)])) <;> first | rfl | assumption) rfl (by omega) (by decide) ?_
    refine j_lconst C0 d_Al_hasRoomFor_19 (v := 1) (by decide) ?_
    refine j_iload_n C0 d_Al_hasRoomFor_20 rfl (by rfl) ?_
    refine j_lshl C0 d_Al_hasRoomFor_21 (jshl1 hu) ?_
    refine j_land C0 d_Al_hasRoomFor_22 ?_
    refine j_lconst C0 d_Al_hasRoomFor_23 (v := 0) (by decide) ?_
    refine j_lcmp C0 d_Al_hasRoomFor_24 ?_
    refine j_if_ne C0 d_Al_hasRoomFor_25 (tgt := 32) (by decide) (fun c_25 => ?_) (fun c_25 => ?_)
    · have hT : ¬ (g k).testBit u = false := fun hh => c_25 ((jbit (hg k) hu).mpr hh)
      refine j_iconst C0 d_Al_hasRoomFor_32 (v := 0) (by decide) ?_
      exact j_zret C0 d_Al_hasRoomFor_33 rfl (by rfl) (by omega) (by omega) ⟨by first | (simp [jb, hA]; done) | (simp [jb, hA, hT]; done), rfl, rfl⟩
    · have hT : (g k).testBit u = false := (jbit (hg k) hu).mp c_25
      refine j_iconst C0 d_Al_hasRoomFor_28 (v := 1) (by decide) ?_
      refine j_goto C0 d_Al_hasRoomFor_29 (tgt := 33) (by decide) ?_
      exact j_zret C0 d_Al_hasRoomFor_33 rfl (by rfl) (by omega) (by omega) ⟨by first | (simp [jb, hA]; done) | (simp [jb, hA, hT]; done), rfl, rfl⟩
set_option maxHeartbeats 4000000 in
set_option maxRecDepth 100000 in
theorem c_Al_add (l : Launch) (E : jE) {h : jH} {sz a k : Nat} {g : Nat → Nat} (hk : k < 8) {u : Nat} (hu : u < 64) (ha : isAl E h a g) : jC l M_Al_add 1 E [.ref a, .int (nI k), .int (nI u)] h sz 0 0 (fun r h' sz' => r = some (.int (nI (pp_c (g k ||| 2 ^ u) 64))) ∧ isAl E h' a (va_up g k (g k ||| 2 ^ u)) ∧ (∀ q, q < a ∨ a + 2 ≤ q → h' q = h q) ∧ sz' = sz) := by
  obtain ⟨e0, e1, hg⟩ := ha
  have hb := Nat.or_lt_two_pow (hg k) (p64 hu)
  refine jC.of (by decide) (Nat.le_of_ble_eq_true rfl) ?_
  intro x C0 hx
  subst hx

  refine j_aload_n C0 d_Al_add_0 rfl (by rfl) ?_
  refine j_getf C0 d_Al_add_1 fl_Al_9 (by (repeat (first | rw [jset_s] | rw [jset_n (by omega)] | rw [reH_0] | rw [reH_1] | rw [reH_2] | rw [reH_n (by omega)])) <;> first | rfl | assumption) (by rfl) ?_
  refine j_iload_n C0 d_Al_add_4 rfl (by rfl) ?_
  refine j_dup2_11 C0 d_Al_add_5 rfl rfl ?_
  refine j_lald C0 d_Al_add_6 (by (repeat (first | rw [jset_s] | rw [jset_n (by omega)] | rw [reH_0] | rw [reH_1] | rw [reH_2] | rw [reH_n (by omega)])) <;> first | rfl | assumption) rfl (by omega) (by decide) ?_
  refine j_lconst C0 d_Al_add_7 (v := 1) (by decide) ?_
  refine j_iload_n C0 d_Al_add_8 rfl (by rfl) ?_
  refine j_lshl C0 d_Al_add_9 (jshl1 hu) ?_
  refine j_lor C0 d_Al_add_10 ?_
  rw [wb_or (hg k) (p64 hu)]
  refine j_last C0 d_Al_add_11 (by (repeat (first | rw [jset_s] | rw [jset_n (by omega)] | rw [reH_0] | rw [reH_1] | rw [reH_2] | rw [reH_n (by omega)])) <;> first | rfl | assumption) rfl (by omega) (by decide) ?_
  rw [up_lN]
  refine j_aload_n C0 d_Al_add_12 rfl (by rfl) ?_
  refine j_getf C0 d_Al_add_13 fl_Al_9 (by (repeat (first | rw [jset_s] | rw [jset_n (by omega)] | rw [reH_0] | rw [reH_1] | rw [reH_2] | rw [reH_n (by omega)])) <;> first | rfl | assumption) (by rfl) ?_
  refine j_iload_n C0 d_Al_add_16 rfl (by rfl) ?_
  refine j_lald C0 d_Al_add_17 (by (repeat (first | rw [jset_s] | rw [jset_n (by omega)] | rw [reH_0] | rw [reH_1] | rw [reH_2] | rw [reH_n (by omega)])) <;> first | rfl | assumption) rfl (by omega) (by decide) ?_
  rw [va_up_self]
  refine j_callS C0 d_Al_add_18 cl_Al_15 cl_Al_15v (c_Lo_bitCount _ E hb) rfl rfl ⟨by decide, by decide⟩ ⟨by omega, by omega⟩ (Nat.le_of_ble_eq_true rfl) (fun r_ h_ z_ hp_ => ?_)
  obtain ⟨rfl, rfl, rfl⟩ := hp_
  exact j_iret C0 d_Al_add_21 rfl (by omega) (by omega) ⟨rfl, ⟨by rw [jset_n (by omega)]; exact e0, jset_s, up_lt hg hb⟩, fun q hq => by rw [jset_n (by omega)], rfl⟩
set_option maxHeartbeats 4000000 in
set_option maxRecDepth 100000 in
theorem c_Al_clear (l : Launch) (E : jE) {h : jH} {sz a k : Nat} {g : Nat → Nat} (hk : k < 8) (ha : isAl E h a g) : jC l M_Al_clear 1 E [.ref a, .int (nI k)] h sz 0 0 (fun r h' sz' => r = some (.int (nI (pp_c (g k) 64))) ∧ isAl E h' a (va_up g k 0) ∧ (∀ q, q < a ∨ a + 2 ≤ q → h' q = h q) ∧ sz' = sz) := by
  obtain ⟨e0, e1, hg⟩ := ha
  refine jC.of (by decide) (Nat.le_of_ble_eq_true rfl) ?_
  intro x C0 hx
  subst hx

  refine j_aload_n C0 d_Al_clear_0 rfl (by rfl) ?_
  refine j_getf C0 d_Al_clear_1 fl_Al_9 (by (repeat (first | rw [jset_s] | rw [jset_n (by omega)] | rw [reH_0] | rw [reH_1] | rw [reH_2] | rw [reH_n (by omega)])) <;> first | rfl | assumption) (by rfl) ?_
  refine j_iload_n C0 d_Al_clear_4 rfl (by rfl) ?_
  refine j_lald C0 d_Al_clear_5 (by (repeat (first | rw [jset_s] | rw [jset_n (by omega)] | rw [reH_0] | rw [reH_1] | rw [reH_2] | rw [reH_n (by omega)])) <;> first | rfl | assumption) rfl (by omega) (by decide) ?_
  refine j_callS C0 d_Al_clear_6 cl_Al_15 cl_Al_15v (c_Lo_bitCount _ E (hg k)) rfl rfl ⟨by decide, by decide⟩ ⟨by omega, by omega⟩ (Nat.le_of_ble_eq_true rfl) (fun r_ h_ z_ hp_ => ?_)
  obtain ⟨rfl, rfl, rfl⟩ := hp_
  refine j_istore_n C0 d_Al_clear_9 rfl (Nat.le_of_ble_eq_true rfl) ?_
  refine j_aload_n C0 d_Al_clear_10 rfl (by rfl) ?_
  refine j_getf C0 d_Al_clear_11 fl_Al_9 (by (repeat (first | rw [jset_s] | rw [jset_n (by omega)] | rw [reH_0] | rw [reH_1] | rw [reH_2] | rw [reH_n (by omega)])) <;> first | rfl | assumption) (by rfl) ?_
  refine j_iload_n C0 d_Al_clear_14 rfl (by rfl) ?_
  refine j_lconst C0 d_Al_clear_15 (v := 0) (by decide) ?_
  refine j_last C0 d_Al_clear_16 (by (repeat (first | rw [jset_s] | rw [jset_n (by omega)] | rw [reH_0] | rw [reH_1] | rw [reH_2] | rw [reH_n (by omega)])) <;> first | rfl | assumption) rfl (by omega) (by decide) ?_
  rw [show (0 : Int64) = lN 0 from rfl, up_lN]
  refine j_iload_n C0 d_Al_clear_17 rfl (by rfl) ?_
  exact j_iret C0 d_Al_clear_18 rfl (by omega) (by omega) ⟨rfl, ⟨by rw [jset_n (by omega)]; exact e0, jset_s, up_lt hg (by decide)⟩, fun q hq => by rw [jset_n (by omega)], rfl⟩
set_option maxHeartbeats 4000000 in
set_option maxRecDepth 100000 in
theorem c_Al_reachedFrom (l : Launch) (E : jE) {h : jH} {sz a u : Nat} {g : Nat → Nat} (hu : u < 64) (ha : isAl E h a g) : jC l M_Al_reachedFrom 0 E [.ref a, .int (nI u)] h sz 0 0 (fun r h' sz' => r = some (.long (lN (rOut g (2 ^ u) 8))) ∧ h' = h ∧ sz' = sz) := by
  obtain ⟨e0, e1, hg⟩ := ha
  refine jC.of (by decide) (Nat.le_of_ble_eq_true rfl) ?_
  intro x C0 hx
  subst hx

  refine j_lconst C0 d_Al_reachedFrom_0 (v := 1) (by decide) ?_
  refine j_iload_n C0 d_Al_reachedFrom_1 rfl (by rfl) ?_
  refine j_lshl C0 d_Al_reachedFrom_2 (jshl1 hu) ?_
  refine j_lstore_n C0 d_Al_reachedFrom_3 rfl (Nat.le_of_ble_eq_true rfl) ?_
  refine j_iconst C0 d_Al_reachedFrom_4 (v := 0) (by decide) ?_
  refine j_istore C0 d_Al_reachedFrom_5 (Nat.le_of_ble_eq_true rfl) ?_
  refine j_lv (lv' := [(0, .ref a), (1, .int (nI u)), (2, .long (lN (rOut g (2 ^ u) 0))), (4, .int (nI 0))]) ⟨rfl, rfl, rfl, rfl, trivial⟩ ?_
  refine j_for 8 (fun _ => h) (fun r => [(0, .ref a), (1, .int (nI u)), (2, .long (lN (rOut g (2 ^ u) r))), (4, .int (nI r))]) ?_ ?_ 0 (by decide)
  · intro r hr ihr
    have hs := rOut_lt hg (p64 hu) r
    refine j_iload C0 d_Al_reachedFrom_7 (by rfl) ?_
    refine j_bipush C0 d_Al_reachedFrom_9 (v := 8) (by decide) ?_
    refine j_icmp_ge C0 d_Al_reachedFrom_11 (tgt := 57) (by decide) (fun c_11 => ?_) (fun c_11 => ?_)
    · exact absurd c_11 (nI_ge (b := 8) hr (by decide))
    · refine j_iconst C0 d_Al_reachedFrom_14 (v := 0) (by decide) ?_
      refine j_istore C0 d_Al_reachedFrom_15 (Nat.le_of_ble_eq_true rfl) ?_
      refine j_lv (lv' := [(0, .ref a), (1, .int (nI u)), (2, .long (lN (rIn g (rOut g (2 ^ u) r) 0))), (4, .int (nI r)), (5, .int (nI 0))]) ⟨rfl, rfl, rfl, rfl, rfl, trivial⟩ ?_
      refine j_for 8 (fun _ => h) (fun i => [(0, .ref a), (1, .int (nI u)), (2, .long (lN (rIn g (rOut g (2 ^ u) r) i))), (4, .int (nI r)), (5, .int (nI i))]) ?_ ?_ 0 (by decide)
      · intro i hi ih
        have hb := rIn_lt hg hs i
        refine j_iload C0 d_Al_reachedFrom_17 (by rfl) ?_
        refine j_bipush C0 d_Al_reachedFrom_19 (v := 8) (by decide) ?_
        refine j_icmp_ge C0 d_Al_reachedFrom_21 (tgt := 51) (by decide) (fun c_21 => ?_) (fun c_21 => ?_)
        · exact absurd c_21 (nI_ge (b := 8) hi (by decide))
        · refine j_lload_n C0 d_Al_reachedFrom_24 rfl (by rfl) ?_
          refine j_lconst C0 d_Al_reachedFrom_25 (v := 1) (by decide) ?_
          refine j_iload C0 d_Al_reachedFrom_26 (by rfl) ?_
          refine j_lshl C0 d_Al_reachedFrom_28 (jshl1 (by omega)) ?_
          refine j_land C0 d_Al_reachedFrom_29 ?_
          refine j_lconst C0 d_Al_reachedFrom_30 (v := 0) (by decide) ?_
          refine j_lcmp C0 d_Al_reachedFrom_31 ?_
          refine j_if_eq C0 d_Al_reachedFrom_32 (tgt := 45) (by decide) (fun c_32 => ?_) (fun c_32 => ?_)
          · have hT := (jbit hb (by omega)).mp c_32
            have eT : rIn g (rOut g (2 ^ u) r) (i + 1) = rIn g (rOut g (2 ^ u) r) i := by show (if _ then _ else _) = _; rw [hT]; rfl
            rw [eT] at ih
            refine j_iinc C0 d_Al_reachedFrom_45 (by rfl) (jinc _) (Nat.le_of_ble_eq_true rfl) ?_
            refine j_goto C0 d_Al_reachedFrom_48 (tgt := 17) (by decide) ?_
            exact j_to ih rfl ⟨rfl, rfl, rfl, rfl, rfl, trivial⟩
          · have hT : (rIn g (rOut g (2 ^ u) r) i).testBit i = true := by
              cases hh : (rIn g (rOut g (2 ^ u) r) i).testBit i with
              | false => exact absurd ((jbit hb (by omega)).mpr hh) c_32
              | true => rfl
            have eT : rIn g (rOut g (2 ^ u) r) (i + 1) = rIn g (rOut g (2 ^ u) r) i ||| g i := by show (if _ then _ else _) = _; rw [hT]; rfl
            rw [eT] at ih
            refine j_lload_n C0 d_Al_reachedFrom_35 rfl (by rfl) ?_
            refine j_aload_n C0 d_Al_reachedFrom_36 rfl (by rfl) ?_
            refine j_getf C0 d_Al_reachedFrom_37 fl_Al_9 (by (repeat (first | rw [jset_s] | rw [jset_n (by omega)] | rw [reH_0] | rw [reH_1] | rw [reH_2] | rw [reH_n (by omega)])) <;> first | rfl | assumption) (by rfl) ?_
            refine j_iload C0 d_Al_reachedFrom_40 (by rfl) ?_
            refine j_lald C0 d_Al_reachedFrom_42 (by (repeat (first | rw [jset_s] | rw [jset_n (by omega)] | rw [reH_0] | rw [reH_1] | rw [reH_2] | rw [reH_n (by omega)])) <;> first | rfl | assumption) rfl (by omega) (by decide) ?_
            refine j_lor C0 d_Al_reachedFrom_43 ?_
            rw [wb_or hb (hg i)]
            refine j_lstore_n C0 d_Al_reachedFrom_44 rfl (Nat.le_of_ble_eq_true rfl) ?_
            refine j_iinc C0 d_Al_reachedFrom_45 (by rfl) (jinc _) (Nat.le_of_ble_eq_true rfl) ?_
            refine j_goto C0 d_Al_reachedFrom_48 (tgt := 17) (by decide) ?_
            exact j_to ih rfl ⟨rfl, rfl, rfl, rfl, rfl, trivial⟩
      · refine j_iload C0 d_Al_reachedFrom_17 (by rfl) ?_
        refine j_bipush C0 d_Al_reachedFrom_19 (v := 8) (by decide) ?_
        refine j_icmp_ge C0 d_Al_reachedFrom_21 (tgt := 51) (by decide) (fun c_21 => ?_) (fun c_21 => ?_)
        · refine j_iinc C0 d_Al_reachedFrom_51 (by rfl) (jinc _) (Nat.le_of_ble_eq_true rfl) ?_
          refine j_goto C0 d_Al_reachedFrom_54 (tgt := 7) (by decide) ?_
          exact j_to ihr rfl ⟨rfl, rfl, rfl, rfl, trivial⟩
        · exact absurd (nI_le (Nat.le_refl 8) (by decide)) c_21
  · refine j_iload C0 d_Al_reachedFrom_7 (by rfl) ?_
    refine j_bipush C0 d_Al_reachedFrom_9 (v := 8) (by decide) ?_
    refine j_icmp_ge C0 d_Al_reachedFrom_11 (tgt := 57) (by decide) (fun c_11 => ?_) (fun c_11 => ?_)
    · refine j_lload_n C0 d_Al_reachedFrom_57 rfl (by rfl) ?_
      exact j_lret C0 d_Al_reachedFrom_58 rfl (by omega) (by omega) ⟨rfl, rfl, rfl⟩
    · exact absurd (nI_le (Nat.le_refl 8) (by decide)) c_11
set_option maxHeartbeats 4000000 in
set_option maxRecDepth 100000 in
theorem c_Al_finalsOf (l : Launch) (E : jE) {h : jH} {sz a u : Nat} {g : Nat → Nat} (hu : u < 64) (ha : isAl E h a g) : jC l M_Al_finalsOf 1 E [.ref a, .int (nI u)] h sz 0 0 (fun r h' sz' => r = some (.long (lN (fin8 g (rOut g (2 ^ u) 8) 8))) ∧ h' = h ∧ sz' = sz) := by
  have ha0 := ha
  obtain ⟨e0, e1, hg⟩ := ha
  have hs := rOut_lt hg (p64 hu) 8
  refine jC.of (by decide) (Nat.le_of_ble_eq_true rfl) ?_
  intro x C0 hx
  subst hx

  refine j_aload_n C0 d_Al_finalsOf_0 rfl (by rfl) ?_
  refine j_iload_n C0 d_Al_finalsOf_1 rfl (by rfl) ?_
  refine j_callV C0 d_Al_finalsOf_2 cl_Al_21 cl_Al_21v (c_Al_reachedFrom _ E hu ha0) (by (repeat (first | rw [jset_s] | rw [jset_n (by omega)] | rw [reH_0] | rw [reH_1] | rw [reH_2] | rw [reH_n (by omega)])) <;> first | rfl | assumption) rfl rfl rfl ⟨by decide, by decide⟩ ⟨by omega, by omega⟩ (Nat.le_of_ble_eq_true rfl) (fun r_ h_ z_ hp_ => ?_)
  obtain ⟨rfl, rfl, rfl⟩ := hp_
  refine j_lstore_n C0 d_Al_finalsOf_5 rfl (Nat.le_of_ble_eq_true rfl) ?_
  refine j_iconst C0 d_Al_finalsOf_6 (v := 0) (by decide) ?_
  refine j_istore C0 d_Al_finalsOf_7 (Nat.le_of_ble_eq_true rfl) ?_
  refine j_lv (lv' := [(0, .ref a), (1, .int (nI u)), (2, .long (lN (fin8 g (rOut g (2 ^ u) 8) 0))), (4, .int (nI 0))]) ⟨rfl, rfl, rfl, rfl, trivial⟩ ?_
  refine j_for 8 (fun _ => _) (fun i => [(0, .ref a), (1, .int (nI u)), (2, .long (lN (fin8 g (rOut g (2 ^ u) 8) i))), (4, .int (nI i))]) ?_ ?_ 0 (by decide)
  · intro i hi ih
    have hb := fin8_lt (g := g) hs i
    refine j_iload C0 d_Al_finalsOf_9 (by rfl) ?_
    refine j_bipush C0 d_Al_finalsOf_11 (v := 8) (by decide) ?_
    refine j_icmp_ge C0 d_Al_finalsOf_13 (tgt := 45) (by decide) (fun c_13 => ?_) (fun c_13 => ?_)
    · exact absurd c_13 (nI_ge (b := 8) hi (by decide))
    · refine j_aload_n C0 d_Al_finalsOf_16 rfl (by rfl) ?_
      refine j_getf C0 d_Al_finalsOf_17 fl_Al_9 (by (repeat (first | rw [jset_s] | rw [jset_n (by omega)] | rw [reH_0] | rw [reH_1] | rw [reH_2] | rw [reH_n (by omega)])) <;> first | rfl | assumption) (by rfl) ?_
      refine j_iload C0 d_Al_finalsOf_20 (by rfl) ?_
      refine j_lald C0 d_Al_finalsOf_22 (by (repeat (first | rw [jset_s] | rw [jset_n (by omega)] | rw [reH_0] | rw [reH_1] | rw [reH_2] | rw [reH_n (by omega)])) <;> first | rfl | assumption) rfl (by omega) (by decide) ?_
      refine j_lconst C0 d_Al_finalsOf_23 (v := 0) (by decide) ?_
      refine j_lcmp C0 d_Al_finalsOf_24 ?_
      refine j_if_eq C0 d_Al_finalsOf_25 (tgt := 39) (by decide) (fun c_25 => ?_) (fun c_25 => ?_)
      · have hZ : g i = 0 := (lN_z (hg i)).mp (lcmp_z.mp c_25)
        have eT : fin8 g (rOut g (2 ^ u) 8) (i + 1) = fin8 g (rOut g (2 ^ u) 8) i := by show (if _ then _ else _) = _; rw [if_pos hZ]
        rw [eT] at ih
        refine j_iinc C0 d_Al_finalsOf_39 (by rfl) (jinc _) (Nat.le_of_ble_eq_true rfl) ?_
        refine j_goto C0 d_Al_finalsOf_42 (tgt := 9) (by decide) ?_
        exact j_to ih rfl ⟨rfl, rfl, rfl, rfl, trivial⟩
      · have hZ : ¬ g i = 0 := fun hh => c_25 (lcmp_z.mpr ((lN_z (hg i)).mpr hh))
        have eT : fin8 g (rOut g (2 ^ u) 8) (i + 1) = fin8 g (rOut g (2 ^ u) 8) i &&& (2 ^ i ^^^ (2 ^ 64 - 1)) := by show (if _ then _ else _) = _; rw [if_neg hZ]
        rw [eT] at ih
        refine j_lload_n C0 d_Al_finalsOf_28 rfl (by rfl) ?_
        refine j_lconst C0 d_Al_finalsOf_29 (v := 1) (by decide) ?_
        refine j_iload C0 d_Al_finalsOf_30 (by rfl) ?_
        refine j_lshl C0 d_Al_finalsOf_32 (jshl1 (by omega)) ?_
        refine j_ldc2 C0 d_Al_finalsOf_33 w_2_60 ?_
        refine j_lxor C0 d_Al_finalsOf_36 ?_
        rw [show (-1 : Int64) = lN (2 ^ 64 - 1) from rfl, lN_xor]
        refine j_land C0 d_Al_finalsOf_37 ?_
        rw [wb_and hb (x64 (p64 (by omega)))]
        refine j_lstore_n C0 d_Al_finalsOf_38 rfl (Nat.le_of_ble_eq_true rfl) ?_
        refine j_iinc C0 d_Al_finalsOf_39 (by rfl) (jinc _) (Nat.le_of_ble_eq_true rfl) ?_
        refine j_goto C0 d_Al_finalsOf_42 (tgt := 9) (by decide) ?_
        exact j_to ih rfl ⟨rfl, rfl, rfl, rfl, trivial⟩
  · refine j_iload C0 d_Al_finalsOf_9 (by rfl) ?_
    refine j_bipush C0 d_Al_finalsOf_11 (v := 8) (by decide) ?_
    refine j_icmp_ge C0 d_Al_finalsOf_13 (tgt := 45) (by decide) (fun c_13 => ?_) (fun c_13 => ?_)
    · refine j_lload_n C0 d_Al_finalsOf_45 rfl (by rfl) ?_
      exact j_lret C0 d_Al_finalsOf_46 rfl (by omega) (by omega) ⟨rfl, rfl, rfl⟩
    · exact absurd (nI_le (Nat.le_refl 8) (by decide)) c_13
abbrev roO (a n : Nat) : va_E := jO 5 [.ref (a + 1), .ref (a + 2), .int (nI n)]
def isRo (E : jE) (h : jH) (a n : Nat) (hs pr : Nat → Int32) : Prop := h a = some (roO a n) ∧ h (a + 1) = some (jI E 3 hs) ∧ h (a + 2) = some (jI E 3 pr) ∧ n ≤ 3
theorem isRo.keep {E : jE} {h h' : jH} {a n : Nat} {hs pr : Nat → Int32} (hm : isRo E h a n hs pr) (hk : ∀ q, a ≤ q → q < a + 3 → h' q = h q) : isRo E h' a n hs pr :=
  ⟨by rw [hk a (by omega) (by omega)]; exact hm.1, by rw [hk (a + 1) (by omega) (by omega)]; exact hm.2.1, by rw [hk (a + 2) (by omega) (by omega)]; exact hm.2.2.1, hm.2.2.2⟩
def insP (pr : Nat → Int32) (v : Int32) : Nat → Nat
  | 0 => 0
  | p + 1 => if v < pr p then insP pr v p else p + 1
theorem insP_le (pr : Nat → Int32) (v : Int32) : ∀ n, insP pr v n ≤ n
  | 0 => Nat.le_refl 0
  | n + 1 => by
    unfold insP
    split
    · have := insP_le pr v n; omega
    · exact Nat.le_refl _
def insF (f : Nat → Int32) (p n : Nat) (v : Int32) : Nat → Int32 := fun j => if j < p then f j else if j = p then v else if j ≤ n then f (j - 1) else f j
def shF (f : Nat → Int32) (p n : Nat) : Nat → Int32 := fun j => if p < j ∧ j ≤ n then f (j - 1) else f j
theorem shF_n (f : Nat → Int32) (n : Nat) : shF f n n = f := by funext j; unfold shF; rw [if_neg (by omega)]
theorem shF_s (f : Nat → Int32) {p n : Nat} (hp : p + 1 ≤ n) : upd (shF f (p + 1) n) (p + 1) (shF f (p + 1) n p) = shF f p n := by
  funext j
  unfold upd shF
  by_cases h0 : j = p + 1
  · subst h0; rw [if_pos rfl, if_neg (by omega), if_pos (by omega)]; rfl
  · rw [if_neg h0]
    by_cases h1 : p + 1 < j ∧ j ≤ n
    · rw [if_pos h1, if_pos (by omega)]
    · rw [if_neg h1, if_neg (by omega)]
theorem shF_f (f : Nat → Int32) (v : Int32) {p n : Nat} (hp : p ≤ n) : upd (shF f p n) p v = insF f p n v := by
  funext j
  unfold upd shF insF
  by_cases h0 : j = p
  · subst h0; rw [if_pos rfl, if_neg (by omega), if_pos rfl]
  · rw [if_neg h0]
    by_cases h1 : j < p
    · rw [if_neg (by omega), if_pos h1]
    · rw [if_neg h1, if_neg h0]
      by_cases h2 : j ≤ n
      · rw [if_pos (by omega), if_pos h2]
      · rw [if_neg (by omega), if_neg h2]
set_option maxHeartbeats 4000000 in
set_option maxRecDepth 100000 in
theorem c_Ro_init (l : Launch) (E : jE) {h : jH} {sz a : Nat} (e0 : h a = some (jO 5 [.null, .null, .int 0])) (hz : sz = a + 1) : jC l M_Ro_init 1 E [.ref a] h sz 2 6 (fun r h' sz' => r = none ∧ isRo E h' a 0 (fun _ => 0) (fun _ => 0) ∧ (∀ q, q < a → h' q = h q) ∧ sz' = a + 3) := by
  subst hz
  refine jC.of (by decide) (Nat.le_of_ble_eq_true rfl) ?_
  intro x C0 hx
  subst hx

  refine j_aload_n C0 d_Ro_init_0 rfl (by rfl) ?_
  refine j_obj C0 d_Ro_init_1 w_1_46 w_1_18 w_1_19 (by omega) (Nat.le_of_ble_eq_true rfl) ?_
  refine j_aload_n C0 d_Ro_init_4 rfl (by rfl) ?_
  refine j_iconst C0 d_Ro_init_5 (v := 3) (by decide) ?_
  refine j_newi C0 (N := 3) d_Ro_init_6 w_1_59 rfl (by decide) (by omega) (by omega) ?_
  refine j_putF C0 d_Ro_init_8 fp_Ro_9 (by (repeat (first | rw [jset_s] | rw [jset_n (by omega)] | rw [reH_0] | rw [reH_1] | rw [reH_2] | rw [reH_n (by omega)])) <;> first | rfl | assumption) (Nat.le_of_ble_eq_true rfl) (by rfl) (by rfl) rfl ?_
  refine j_aload_n C0 d_Ro_init_11 rfl (by rfl) ?_
  refine j_iconst C0 d_Ro_init_12 (v := 3) (by decide) ?_
  refine j_newi C0 (N := 3) d_Ro_init_13 w_1_59 rfl (by decide) (by omega) (by omega) ?_
  refine j_putF C0 d_Ro_init_15 fp_Ro_15 (by (repeat (first | rw [jset_s] | rw [jset_n (by omega)] | rw [reH_0] | rw [reH_1] | rw [reH_2] | rw [reH_n (by omega)])) <;> first | rfl | assumption) (Nat.le_of_ble_eq_true rfl) (by rfl) (by rfl) rfl ?_
  refine j_aload_n C0 d_Ro_init_18 rfl (by rfl) ?_
  refine j_iconst C0 d_Ro_init_19 (v := 0) (by decide) ?_
  refine j_putf C0 d_Ro_init_20 fp_Ro_18 (by (repeat (first | rw [jset_s] | rw [jset_n (by omega)] | rw [reH_0] | rw [reH_1] | rw [reH_2] | rw [reH_n (by omega)])) <;> first | rfl | assumption) (Nat.le_of_ble_eq_true rfl) (by rfl) (by rfl) ?_
  exact j_vret C0 d_Ro_init_23 rfl (by omega) (by omega) ⟨rfl, ⟨by rw [jset_s]; rfl, by repeat (first | rw [jset_s] | rw [jset_n (by omega)]), by repeat (first | rw [jset_s] | rw [jset_n (by omega)]), by decide⟩, fun q hq => by (repeat rw [jset_n (by omega)]), rfl⟩
set_option maxHeartbeats 4000000 in
set_option maxRecDepth 100000 in
theorem c_Ro_clear (l : Launch) (E : jE) {h : jH} {sz a n : Nat} {hs pr : Nat → Int32} (hr : isRo E h a n hs pr) : jC l M_Ro_clear 0 E [.ref a] h sz 0 0 (fun r h' sz' => r = some (.int (nI n)) ∧ isRo E h' a 0 hs pr ∧ (∀ q, q < a ∨ a + 3 ≤ q → h' q = h q) ∧ sz' = sz) := by
  obtain ⟨e0, e1, e2, hn⟩ := hr
  refine jC.of (by decide) (Nat.le_of_ble_eq_true rfl) ?_
  intro x C0 hx
  subst hx

  refine j_aload_n C0 d_Ro_clear_0 rfl (by rfl) ?_
  refine j_getf C0 d_Ro_clear_1 fl_Ro_18 (by (repeat (first | rw [jset_s] | rw [jset_n (by omega)] | rw [reH_0] | rw [reH_1] | rw [reH_2] | rw [reH_n (by omega)])) <;> first | rfl | assumption) (by rfl) ?_
  refine j_istore_n C0 d_Ro_clear_4 rfl (Nat.le_of_ble_eq_true rfl) ?_
  refine j_aload_n C0 d_Ro_clear_5 rfl (by rfl) ?_
  refine j_iconst C0 d_Ro_clear_6 (v := 0) (by decide) ?_
  refine j_putf C0 d_Ro_clear_7 fp_Ro_18 (by (repeat (first | rw [jset_s] | rw [jset_n (by omega)] | rw [reH_0] | rw [reH_1] | rw [reH_2] | rw [reH_n (by omega)])) <;> first | rfl | assumption) (Nat.le_of_ble_eq_true rfl) (by rfl) (by rfl) ?_
  refine j_iload_n C0 d_Ro_clear_10 rfl (by rfl) ?_
  exact j_iret C0 d_Ro_clear_11 rfl (by omega) (by omega) ⟨rfl, ⟨by rw [jset_s]; rfl, by rw [jset_n (by omega)]; exact e1, by rw [jset_n (by omega)]; exact e2, by decide⟩, fun q hq => by rw [jset_n (by omega)], rfl⟩
theorem cnt_mono (f : Nat → Int32) (v : Int32) : ∀ {i j : Nat}, i ≤ j → cnt f v i ≤ cnt f v j := by
  intro i j h
  induction j with
  | zero => rw [show i = 0 by omega]; exact Nat.le_refl _
  | succ j ih =>
    by_cases hij : i = j + 1
    · rw [hij]; exact Nat.le_refl _
    · have := ih (by omega)
      simp only [cnt]
      omega
set_option maxHeartbeats 4000000 in
set_option maxRecDepth 100000 in
theorem c_Ro_hasRoomFor (l : Launch) (E : jE) {h : jH} {sz a n : Nat} {hs pr : Nat → Int32} (v : Int32) (hr : isRo E h a n hs pr) : jC l M_Ro_hasRoomFor 0 E [.ref a, .int v] h sz 0 0 (fun r h' sz' => r = some (.int (jb (cnt hs v n = 0 ∧ n < 3))) ∧ h' = h ∧ sz' = sz) := by
  obtain ⟨e0, e1, e2, hn⟩ := hr
  refine jC.of (by decide) (Nat.le_of_ble_eq_true rfl) ?_
  intro x C0 hx
  subst hx

  refine j_iconst C0 d_Ro_hasRoomFor_0 (v := 0) (by decide) ?_
  refine j_istore_n C0 d_Ro_hasRoomFor_1 rfl (Nat.le_of_ble_eq_true rfl) ?_
  refine j_lv (lv' := [(0, .ref a), (1, .int v), (2, .int (nI 0))]) ⟨rfl, rfl, rfl, trivial⟩ ?_
  refine j_forI n (fun i => cnt hs v i = 0) (fun _ => h) (fun i => [(0, .ref a), (1, .int v), (2, .int (nI i))]) ?_ ?_ 0 (Nat.zero_le n) rfl
  · intro i hi hI ih
    refine j_iload_n C0 d_Ro_hasRoomFor_2 rfl (by rfl) ?_
    refine j_aload_n C0 d_Ro_hasRoomFor_3 rfl (by rfl) ?_
    refine j_getf C0 d_Ro_hasRoomFor_4 fl_Ro_18 (by (repeat (first | rw [jset_s] | rw [jset_n (by omega)] | rw [reH_0] | rw [reH_1] | rw [reH_2] | rw [reH_n (by omega)])) <;> first | rfl | assumption) (by rfl) ?_
    refine j_icmp_ge C0 d_Ro_hasRoomFor_7 (tgt := 28) (by decide) (fun c_7 => ?_) (fun c_7 => ?_)
    · exact absurd c_7 (nI_ge hi (by omega))
    · refine j_aload_n C0 d_Ro_hasRoomFor_10 rfl (by rfl) ?_
      refine j_getf C0 d_Ro_hasRoomFor_11 fl_Ro_9 (by (repeat (first | rw [jset_s] | rw [jset_n (by omega)] | rw [reH_0] | rw [reH_1] | rw [reH_2] | rw [reH_n (by omega)])) <;> first | rfl | assumption) (by rfl) ?_
      refine j_iload_n C0 d_Ro_hasRoomFor_14 rfl (by rfl) ?_
      refine j_iald C0 d_Ro_hasRoomFor_15 (by (repeat (first | rw [jset_s] | rw [jset_n (by omega)] | rw [reH_0] | rw [reH_1] | rw [reH_2] | rw [reH_n (by omega)])) <;> first | rfl | assumption) rfl (by omega) (by decide) ?_
      refine j_iload_n C0 d_Ro_hasRoomFor_16 rfl (by rfl) ?_
      refine j_icmp_ne C0 d_Ro_hasRoomFor_17 (tgt := 22) (by decide) (fun c_17 => ?_) (fun c_17 => ?_)
      · refine j_iinc C0 d_Ro_hasRoomFor_22 (by rfl) (jinc _) (Nat.le_of_ble_eq_true rfl) ?_
        refine j_goto C0 d_Ro_hasRoomFor_25 (tgt := 2) (by decide) ?_
        exact j_to (ih (by rw [cnt_n c_17]; exact hI)) rfl ⟨rfl, rfl, rfl, trivial⟩
      · refine j_iconst C0 d_Ro_hasRoomFor_20 (v := 0) (by decide) ?_
        exact j_zret C0 d_Ro_hasRoomFor_21 rfl (by rfl) (by omega) (by omega) ⟨by have h1 := cnt_y (f := hs) c_17; have h2 := cnt_mono hs v (show i + 1 ≤ n by omega); rw [jb, if_neg (by omega)], rfl, rfl⟩
  · intro hI
    refine j_iload_n C0 d_Ro_hasRoomFor_2 rfl (by rfl) ?_
    refine j_aload_n C0 d_Ro_hasRoomFor_3 rfl (by rfl) ?_
    refine j_getf C0 d_Ro_hasRoomFor_4 fl_Ro_18 (by (repeat (first | rw [jset_s] | rw [jset_n (by omega)] | rw [reH_0] | rw [reH_1] | rw [reH_2] | rw [reH_n (by omega)])) <;> first | rfl | assumption) (by rfl) ?_
    refine j_icmp_ge C0 d_Ro_hasRoomFor_7 (tgt := 28) (by decide) (fun c_7 => ?_) (fun c_7 => ?_)
    · refine j_aload_n C0 d_Ro_hasRoomFor_28 rfl (by rfl) ?_
      refine j_getf C0 d_Ro_hasRoomFor_29 fl_Ro_18 (by (repeat (first | rw [jset_s] | rw [jset_n (by omega)] | rw [reH_0] | rw [reH_1] | rw [reH_2] | rw [reH_n (by omega)])) <;> first | rfl | assumption) (by rfl) ?_
      refine j_iconst C0 d_Ro_hasRoomFor_32 (v := 3) (by decide) ?_
      refine j_icmp_ge C0 d_Ro_hasRoomFor_33 (tgt := 40) (by decide) (fun c_33 => ?_) (fun c_33 => ?_)
      · have hA : ¬ n < 3 := fun hh => nI_ge (b := 3) hh (by decide) c_33
        refine j_iconst C0 d_Ro_hasRoomFor_40 (v := 0) (by decide) ?_
        exact j_zret C0 d_Ro_hasRoomFor_41 rfl (by rfl) (by omega) (by omega) ⟨by simp [jb, hI, hA], rfl, rfl⟩
      · have hA : n < 3 := Nat.lt_of_not_le (fun hh => c_33 (nI_le (a := 3) hh (by omega)))
        refine j_iconst C0 d_Ro_hasRoomFor_36 (v := 1) (by decide) ?_
        refine j_goto C0 d_Ro_hasRoomFor_37 (tgt := 41) (by decide) ?_
        exact j_zret C0 d_Ro_hasRoomFor_41 rfl (by rfl) (by omega) (by omega) ⟨by simp [jb, hI, hA], rfl, rfl⟩
    · exact absurd (nI_le (Nat.le_refl _) (by omega)) c_7
set_option maxHeartbeats 4000000 in
set_option maxRecDepth 100000 in
theorem c_Ro_add (l : Launch) (E : jE) {h : jH} {sz a n : Nat} {hs pr : Nat → Int32} (u v : Int32) (hr : isRo E h a n hs pr) (h3 : n < 3) : jC l M_Ro_add 0 E [.ref a, .int u, .int v] h sz 0 0 (fun r h' sz' => r = some (.int (nI (n + 1))) ∧ isRo E h' a (n + 1) (insF hs (insP pr v n) n u) (insF pr (insP pr v n) n v) ∧ (∀ q, q < a ∨ a + 3 ≤ q → h' q = h q) ∧ sz' = sz) := by
  obtain ⟨e0, e1, e2, hn⟩ := hr
  refine jC.of (by decide) (Nat.le_of_ble_eq_true rfl) ?_
  intro x C0 hx
  subst hx

  refine j_aload_n C0 d_Ro_add_0 rfl (by rfl) ?_
  refine j_getf C0 d_Ro_add_1 fl_Ro_18 (by (repeat (first | rw [jset_s] | rw [jset_n (by omega)] | rw [reH_0] | rw [reH_1] | rw [reH_2] | rw [reH_n (by omega)])) <;> first | rfl | assumption) (by rfl) ?_
  refine j_istore_n C0 d_Ro_add_4 rfl (Nat.le_of_ble_eq_true rfl) ?_
  refine j_to (h' := jset (jset h (a + 1) (jI E 3 (shF hs n n))) (a + 2) (jI E 3 (shF pr n n))) (lv' := [(0, .ref a), (1, .int u), (2, .int v), (3, .int (nI n))]) ?_ (by rw [shF_n, shF_n, jset_self e1, jset_self e2]) ⟨rfl, rfl, rfl, rfl, trivial⟩
  refine j_down (fun p => p ≤ n ∧ insP pr v n = insP pr v p) (fun p => jset (jset h (a + 1) (jI E 3 (shF hs p n))) (a + 2) (jI E 3 (shF pr p n))) (fun p => [(0, .ref a), (1, .int u), (2, .int v), (3, .int (nI p))]) ?_ ?_ n ⟨Nat.le_refl n, rfl⟩
  · intro hI
    obtain ⟨hI1, hI2⟩ := hI
    have hI2 : insP pr v n = 0 := hI2
    refine j_iload_n C0 d_Ro_add_5 rfl (by rfl) ?_
    refine j_if_le C0 d_Ro_add_6 (tgt := 55) (by decide) (fun c_6 => ?_) (fun c_6 => ?_)
    · refine j_aload_n C0 d_Ro_add_55 rfl (by rfl) ?_
      refine j_getf C0 d_Ro_add_56 fl_Ro_9 (by (repeat (first | rw [jset_s] | rw [jset_n (by omega)] | rw [reH_0] | rw [reH_1] | rw [reH_2] | rw [reH_n (by omega)])) <;> first | rfl | assumption) (by rfl) ?_
      refine j_iload_n C0 d_Ro_add_59 rfl (by rfl) ?_
      refine j_iload_n C0 d_Ro_add_60 rfl (by rfl) ?_
      refine j_iast C0 d_Ro_add_61 (by (repeat (first | rw [jset_s] | rw [jset_n (by omega)] | rw [reH_0] | rw [reH_1] | rw [reH_2] | rw [reH_n (by omega)])) <;> first | rfl | assumption) rfl (by omega) (by decide) ?_
      rw [show jset (jset (jset h (a + 1) (jI E 3 (shF hs 0 n))) (a + 2) (jI E 3 (shF pr 0 n))) (a + 1) (jI E 3 (upd (shF hs 0 n) 0 u)) = jset (jset h (a + 1) (jI E 3 (insF hs 0 n u))) (a + 2) (jI E 3 (shF pr 0 n)) by rw [shF_f _ _ (by omega)]; funext q; unfold jset; by_cases h1 : q = a + 1 <;> simp [h1]]
      refine j_aload_n C0 d_Ro_add_62 rfl (by rfl) ?_
      refine j_getf C0 d_Ro_add_63 fl_Ro_15 (by (repeat (first | rw [jset_s] | rw [jset_n (by omega)] | rw [reH_0] | rw [reH_1] | rw [reH_2] | rw [reH_n (by omega)])) <;> first | rfl | assumption) (by rfl) ?_
      refine j_iload_n C0 d_Ro_add_66 rfl (by rfl) ?_
      refine j_iload_n C0 d_Ro_add_67 rfl (by rfl) ?_
      refine j_iast C0 d_Ro_add_68 (by (repeat (first | rw [jset_s] | rw [jset_n (by omega)] | rw [reH_0] | rw [reH_1] | rw [reH_2] | rw [reH_n (by omega)])) <;> first | rfl | assumption) rfl (by omega) (by decide) ?_
      rw [jset_ss, shF_f _ _ (by omega)]
      refine j_aload_n C0 d_Ro_add_69 rfl (by rfl) ?_
      refine j_dup C0 d_Ro_add_70 rfl ?_
      refine j_getf C0 d_Ro_add_71 fl_Ro_18 (by (repeat (first | rw [jset_s] | rw [jset_n (by omega)] | rw [reH_0] | rw [reH_1] | rw [reH_2] | rw [reH_n (by omega)])) <;> first | rfl | assumption) (by rfl) ?_
      refine j_iconst C0 d_Ro_add_74 (v := 1) (by decide) ?_
      refine j_iadd C0 d_Ro_add_75 ?_
      rw [nI_1]
      refine j_putf C0 d_Ro_add_76 fp_Ro_18 (by (repeat (first | rw [jset_s] | rw [jset_n (by omega)] | rw [reH_0] | rw [reH_1] | rw [reH_2] | rw [reH_n (by omega)])) <;> first | rfl | assumption) (Nat.le_of_ble_eq_true rfl) (by rfl) (by rfl) ?_
      refine j_aload_n C0 d_Ro_add_79 rfl (by rfl) ?_
      refine j_getf C0 d_Ro_add_80 fl_Ro_18 (by (repeat (first | rw [jset_s] | rw [jset_n (by omega)] | rw [reH_0] | rw [reH_1] | rw [reH_2] | rw [reH_n (by omega)])) <;> first | rfl | assumption) (by rfl) ?_
      exact j_iret C0 d_Ro_add_83 rfl (by omega) (by omega) ⟨rfl, ⟨by rw [jset_s]; rfl, by rw [hI2]; repeat (first | rw [jset_s] | rw [jset_n (by omega)]), by rw [hI2]; repeat (first | rw [jset_s] | rw [jset_n (by omega)]), by omega⟩, fun q hq => by (repeat rw [jset_n (by omega)]), rfl⟩
    · exact absurd (show nI 0 ≤ 0 by decide) c_6
  · intro p hI ih
    obtain ⟨hI1, hI2⟩ := hI
    have es : nI (p + 1) - 1 = nI p := nI_pred p
    have ep : shF pr (p + 1) n p = pr p := by unfold shF; rw [if_neg (by omega)]
    refine j_iload_n C0 d_Ro_add_5 rfl (by rfl) ?_
    refine j_if_le C0 d_Ro_add_6 (tgt := 55) (by decide) (fun c_6 => ?_) (fun c_6 => ?_)
    · exact absurd c_6 (nI_nle (by omega) (by omega))
    · refine j_aload_n C0 d_Ro_add_9 rfl (by rfl) ?_
      refine j_getf C0 d_Ro_add_10 fl_Ro_15 (by (repeat (first | rw [jset_s] | rw [jset_n (by omega)] | rw [reH_0] | rw [reH_1] | rw [reH_2] | rw [reH_n (by omega)])) <;> first | rfl | assumption) (by rfl) ?_
      refine j_iload_n C0 d_Ro_add_13 rfl (by rfl) ?_
      refine j_iconst C0 d_Ro_add_14 (v := 1) (by decide) ?_
      refine j_isub C0 d_Ro_add_15 ?_
      rw [es]
      refine j_iald C0 d_Ro_add_16 (by (repeat (first | rw [jset_s] | rw [jset_n (by omega)] | rw [reH_0] | rw [reH_1] | rw [reH_2] | rw [reH_n (by omega)])) <;> first | rfl | assumption) rfl (by omega) (by decide) ?_
      refine j_iload_n C0 d_Ro_add_17 rfl (by rfl) ?_
      rw [ep]
      refine j_icmp_le C0 d_Ro_add_18 (tgt := 55) (by decide) (fun c_18 => ?_) (fun c_18 => ?_)
      · have hI2 : insP pr v n = p + 1 := by rw [hI2]; show (if _ then _ else _) = _; rw [if_neg (Int32.not_lt.mpr c_18)]
        refine j_aload_n C0 d_Ro_add_55 rfl (by rfl) ?_
        refine j_getf C0 d_Ro_add_56 fl_Ro_9 (by (repeat (first | rw [jset_s] | rw [jset_n (by omega)] | rw [reH_0] | rw [reH_1] | rw [reH_2] | rw [reH_n (by omega)])) <;> first | rfl | assumption) (by rfl) ?_
        refine j_iload_n C0 d_Ro_add_59 rfl (by rfl) ?_
        refine j_iload_n C0 d_Ro_add_60 rfl (by rfl) ?_
        refine j_iast C0 d_Ro_add_61 (by (repeat (first | rw [jset_s] | rw [jset_n (by omega)] | rw [reH_0] | rw [reH_1] | rw [reH_2] | rw [reH_n (by omega)])) <;> first | rfl | assumption) rfl (by omega) (by decide) ?_
        rw [show jset (jset (jset h (a + 1) (jI E 3 (shF hs (p + 1) n))) (a + 2) (jI E 3 (shF pr (p + 1) n))) (a + 1) (jI E 3 (upd (shF hs (p + 1) n) (p + 1) u)) = jset (jset h (a + 1) (jI E 3 (insF hs (p + 1) n u))) (a + 2) (jI E 3 (shF pr (p + 1) n)) by rw [shF_f _ _ (by omega)]; funext q; unfold jset; by_cases h1 : q = a + 1 <;> simp [h1]]
        refine j_aload_n C0 d_Ro_add_62 rfl (by rfl) ?_
        refine j_getf C0 d_Ro_add_63 fl_Ro_15 (by (repeat (first | rw [jset_s] | rw [jset_n (by omega)] | rw [reH_0] | rw [reH_1] | rw [reH_2] | rw [reH_n (by omega)])) <;> first | rfl | assumption) (by rfl) ?_
        refine j_iload_n C0 d_Ro_add_66 rfl (by rfl) ?_
        refine j_iload_n C0 d_Ro_add_67 rfl (by rfl) ?_
        refine j_iast C0 d_Ro_add_68 (by (repeat (first | rw [jset_s] | rw [jset_n (by omega)] | rw [reH_0] | rw [reH_1] | rw [reH_2] | rw [reH_n (by omega)])) <;> first | rfl | assumption) rfl (by omega) (by decide) ?_
        rw [jset_ss, shF_f _ _ (by omega)]
        refine j_aload_n C0 d_Ro_add_69 rfl (by rfl) ?_
        refine j_dup C0 d_Ro_add_70 rfl ?_
        refine j_getf C0 d_Ro_add_71 fl_Ro_18 (by (repeat (first | rw [jset_s] | rw [jset_n (by omega)] | rw [reH_0] | rw [reH_1] | rw [reH_2] | rw [reH_n (by omega)])) <;> first | rfl | assumption) (by rfl) ?_
        refine j_iconst C0 d_Ro_add_74 (v := 1) (by decide) ?_
        refine j_iadd C0 d_Ro_add_75 ?_
        rw [nI_1]
        refine j_putf C0 d_Ro_add_76 fp_Ro_18 (by (repeat (first | rw [jset_s] | rw [jset_n (by omega)] | rw [reH_0] | rw [reH_1] | rw [reH_2] | rw [reH_n (by omega)])) <;> first | rfl | assumption) (Nat.le_of_ble_eq_true rfl) (by rfl) (by rfl) ?_
        refine j_aload_n C0 d_Ro_add_79 rfl (by rfl) ?_
        refine j_getf C0 d_Ro_add_80 fl_Ro_18 (by (repeat (first | rw [jset_s] | rw [jset_n (by omega)] | rw [reH_0] | rw [reH_1] | rw [reH_2] | rw [reH_n (by omega)])) <;> first | rfl | assumption) (by rfl) ?_
        exact j_iret C0 d_Ro_add_83 rfl (by omega) (by omega) ⟨rfl, ⟨by rw [jset_s]; rfl, by rw [hI2]; repeat (first | rw [jset_s] | rw [jset_n (by omega)]), by rw [hI2]; repeat (first | rw [jset_s] | rw [jset_n (by omega)]), by omega⟩, fun q hq => by (repeat rw [jset_n (by omega)]), rfl⟩
      · have hI3 : insP pr v n = insP pr v p := by rw [hI2]; show (if _ then _ else _) = _; rw [if_pos (Int32.not_le.mp c_18)]
        refine j_aload_n C0 d_Ro_add_21 rfl (by rfl) ?_
        refine j_getf C0 d_Ro_add_22 fl_Ro_9 (by (repeat (first | rw [jset_s] | rw [jset_n (by omega)] | rw [reH_0] | rw [reH_1] | rw [reH_2] | rw [reH_n (by omega)])) <;> first | rfl | assumption) (by rfl) ?_
        refine j_iload_n C0 d_Ro_add_25 rfl (by rfl) ?_
        refine j_aload_n C0 d_Ro_add_26 rfl (by rfl) ?_
        refine j_getf C0 d_Ro_add_27 fl_Ro_9 (by (repeat (first | rw [jset_s] | rw [jset_n (by omega)] | rw [reH_0] | rw [reH_1] | rw [reH_2] | rw [reH_n (by omega)])) <;> first | rfl | assumption) (by rfl) ?_
        refine j_iload_n C0 d_Ro_add_30 rfl (by rfl) ?_
        refine j_iconst C0 d_Ro_add_31 (v := 1) (by decide) ?_
        refine j_isub C0 d_Ro_add_32 ?_
        rw [es]
        refine j_iald C0 d_Ro_add_33 (by (repeat (first | rw [jset_s] | rw [jset_n (by omega)] | rw [reH_0] | rw [reH_1] | rw [reH_2] | rw [reH_n (by omega)])) <;> first | rfl | assumption) rfl (by omega) (by decide) ?_
        refine j_iast C0 d_Ro_add_34 (by (repeat (first | rw [jset_s] | rw [jset_n (by omega)] | rw [reH_0] | rw [reH_1] | rw [reH_2] | rw [reH_n (by omega)])) <;> first | rfl | assumption) rfl (by omega) (by decide) ?_
        rw [show jset (jset (jset h (a + 1) (jI E 3 (shF hs (p + 1) n))) (a + 2) (jI E 3 (shF pr (p + 1) n))) (a + 1) (jI E 3 (upd (shF hs (p + 1) n) (p + 1) (shF hs (p + 1) n p))) = jset (jset h (a + 1) (jI E 3 (shF hs p n))) (a + 2) (jI E 3 (shF pr (p + 1) n)) by rw [shF_s _ hI1]; funext q; unfold jset; by_cases h1 : q = a + 1 <;> simp [h1]]
        refine j_aload_n C0 d_Ro_add_35 rfl (by rfl) ?_
        refine j_getf C0 d_Ro_add_36 fl_Ro_15 (by (repeat (first | rw [jset_s] | rw [jset_n (by omega)] | rw [reH_0] | rw [reH_1] | rw [reH_2] | rw [reH_n (by omega)])) <;> first | rfl | assumption) (by rfl) ?_
        refine j_iload_n C0 d_Ro_add_39 rfl (by rfl) ?_
        refine j_aload_n C0 d_Ro_add_40 rfl (by rfl) ?_
        refine j_getf C0 d_Ro_add_41 fl_Ro_15 (by (repeat (first | rw [jset_s] | rw [jset_n (by omega)] | rw [reH_0] | rw [reH_1] | rw [reH_2] | rw [reH_n (by omega)])) <;> first | rfl | assumption) (by rfl) ?_
        refine j_iload_n C0 d_Ro_add_44 rfl (by rfl) ?_
        refine j_iconst C0 d_Ro_add_45 (v := 1) (by decide) ?_
        refine j_isub C0 d_Ro_add_46 ?_
        rw [es]
        refine j_iald C0 d_Ro_add_47 (by (repeat (first | rw [jset_s] | rw [jset_n (by omega)] | rw [reH_0] | rw [reH_1] | rw [reH_2] | rw [reH_n (by omega)])) <;> first | rfl | assumption) rfl (by omega) (by decide) ?_
        refine j_iast C0 d_Ro_add_48 (by (repeat (first | rw [jset_s] | rw [jset_n (by omega)] | rw [reH_0] | rw [reH_1] | rw [reH_2] | rw [reH_n (by omega)])) <;> first | rfl | assumption) rfl (by omega) (by decide) ?_
        rw [jset_ss, shF_s _ hI1]
        refine j_iinc C0 d_Ro_add_49 (by rfl) (show nI (p + 1) + Int32.ofInt (-1) = nI p from pk_m1 p) (Nat.le_of_ble_eq_true rfl) ?_
        refine j_goto C0 d_Ro_add_52 (tgt := 5) (by decide) ?_
        exact j_to (ih ⟨by omega, hI3⟩) rfl ⟨rfl, rfl, rfl, rfl, trivial⟩
end
section
theorem jb_y {p : Prop} [Decidable p] (h : p) : jb p = 1 := if_pos h
theorem jb_n {p : Prop} [Decidable p] (h : ¬ p) : jb p = 0 := if_neg h
theorem isAl.keep {E : jE} {h h' : jH} {a : Nat} {g : Nat → Nat} (hm : isAl E h a g) (hk : ∀ q, a ≤ q → q < a + 2 → h' q = h q) : isAl E h' a g :=
  ⟨by rw [hk a (by omega) (by omega)]; exact hm.1, by rw [hk (a + 1) (by omega) (by omega)]; exact hm.2.1, hm.2.2⟩
theorem isTr.keep {E : jE} {h h' : jH} {a n : Nat} {op snd : Int32} {ad st : Nat → Int32} (hm : isTr E h a op snd n ad st) (hk : ∀ q, a ≤ q → q < a + 4 → h' q = h q) : isTr E h' a op snd n ad st :=
  ⟨by rw [hk a (by omega) (by omega)]; exact hm.1, hm.2.keep (fun q h1 h2 => hk q (by omega) (by omega))⟩
theorem isDe.keep {E : jE} {h h' : jH} {a : Nat} {le re la ca : Nat → Int32} (hm : isDe E h a le re la ca) (hk : ∀ q, a ≤ q → q < a + 5 → h' q = h q) : isDe E h' a le re la ca :=
  ⟨by rw [hk a (by omega) (by omega)]; exact hm.1, by rw [hk (a + 1) (by omega) (by omega)]; exact hm.2.1, by rw [hk (a + 2) (by omega) (by omega)]; exact hm.2.2.1, by rw [hk (a + 3) (by omega) (by omega)]; exact hm.2.2.2.1, by rw [hk (a + 4) (by omega) (by omega)]; exact hm.2.2.2.2⟩
/-- the state of a MailAgent: numbers by field; masks; routes by domain; hosts; transaction; queue; durable; deliveries -/
abbrev jRt : Type := Nat × (Nat → Int32) × (Nat → Int32)
abbrev jTr : Type := Int32 × Int32 × Nat × (Nat → Int32) × (Nat → Int32)
abbrev jDe : Type := (Nat → Int32) × (Nat → Int32) × (Nat → Int32) × (Nat → Int32)
abbrev maS : Type := (Nat → Int32) × (Nat → Nat) × (Nat → jRt) × (Nat → Int32) × jTr × (Nat × (Nat → jMsg)) × (Nat × (Nat → jMsg)) × jDe
abbrev mv (S : maS) : Nat → Int32 := S.1
abbrev mg (S : maS) : Nat → Nat := S.2.1
abbrev mR (S : maS) : Nat → jRt := S.2.2.1
abbrev mh (S : maS) : Nat → Int32 := S.2.2.2.1
abbrev mT (S : maS) : jTr := S.2.2.2.2.1
abbrev mQ (S : maS) : Nat × (Nat → jMsg) := S.2.2.2.2.2.1
abbrev mD (S : maS) : Nat × (Nat → jMsg) := S.2.2.2.2.2.2.1
abbrev mL (S : maS) : jDe := S.2.2.2.2.2.2.2
abbrev maO (b : Nat) (v : Nat → Int32) : va_E := jO 7 [.int (v 0), .int (v 1), .int (v 2), .ref (b + 1), .ref (b + 3), .ref (b + 28), .ref (b + 29), .ref (b + 33), .ref (b + 59), .ref (b + 85), .int (v 10), .int (v 11), .int (v 12)]
def isMA (E : jE) (h : jH) (b : Nat) (S : maS) : Prop :=
  h b = some (maO b (mv S)) ∧ isAl E h (b + 1) (mg S) ∧ (∃ f, h (b + 3) = some (jQa E 3 8 f) ∧ ∀ d, d < 8 → f d = some (b + 4 + 3 * d)) ∧ (∀ d, d < 8 → isRo E h (b + 4 + 3 * d) (mR S d).1 (mR S d).2.1 (mR S d).2.2) ∧ h (b + 28) = some (jI E 8 (mh S)) ∧ isTr E h (b + 29) (mT S).1 (mT S).2.1 (mT S).2.2.1 (mT S).2.2.2.1 (mT S).2.2.2.2 ∧ isQu E h (b + 33) (mQ S).1 (mQ S).2 ∧ isQu E h (b + 59) (mD S).1 (mD S).2 ∧ isDe E h (b + 85) (mL S).1 (mL S).2.1 (mL S).2.2.1 (mL S).2.2.2
section MA
variable {E : jE} {h h' : jH} {b : Nat} {S : maS}
theorem isMA.obj (m : isMA E h b S) : h b = some (maO b (mv S)) := m.1
theorem isMA.al (m : isMA E h b S) : isAl E h (b + 1) (mg S) := m.2.1
theorem isMA.ra (m : isMA E h b S) : ∃ f, h (b + 3) = some (jQa E 3 8 f) ∧ ∀ d, d < 8 → f d = some (b + 4 + 3 * d) := m.2.2.1
theorem isMA.ro (m : isMA E h b S) : ∀ d, d < 8 → isRo E h (b + 4 + 3 * d) (mR S d).1 (mR S d).2.1 (mR S d).2.2 := m.2.2.2.1
theorem isMA.hs (m : isMA E h b S) : h (b + 28) = some (jI E 8 (mh S)) := m.2.2.2.2.1
theorem isMA.tr (m : isMA E h b S) : isTr E h (b + 29) (mT S).1 (mT S).2.1 (mT S).2.2.1 (mT S).2.2.2.1 (mT S).2.2.2.2 := m.2.2.2.2.2.1
theorem isMA.qu (m : isMA E h b S) : isQu E h (b + 33) (mQ S).1 (mQ S).2 := m.2.2.2.2.2.2.1
theorem isMA.du (m : isMA E h b S) : isQu E h (b + 59) (mD S).1 (mD S).2 := m.2.2.2.2.2.2.2.1
theorem isMA.de (m : isMA E h b S) : isDe E h (b + 85) (mL S).1 (mL S).2.1 (mL S).2.2.1 (mL S).2.2.2 := m.2.2.2.2.2.2.2.2
theorem isMA.keep (m : isMA E h b S) (hk : ∀ q, b ≤ q → q < b + 90 → h' q = h q) : isMA E h' b S := by
  obtain ⟨f, h1, h2⟩ := m.ra
  exact ⟨by rw [hk b (by omega) (by omega)]; exact m.obj, m.al.keep (fun q _ _ => hk q (by omega) (by omega)), ⟨f, by rw [hk _ (by omega) (by omega)]; exact h1, h2⟩, fun d hd => (m.ro d hd).keep (fun q _ _ => hk q (by omega) (by omega)), by rw [hk _ (by omega) (by omega)]; exact m.hs, m.tr.keep (fun q _ _ => hk q (by omega) (by omega)), m.qu.keep (fun q _ _ => hk q (by omega) (by omega)), m.du.keep (fun q _ _ => hk q (by omega) (by omega)), m.de.keep (fun q _ _ => hk q (by omega) (by omega))⟩
theorem isMA.setV (m : isMA E h b S) {v : Nat → Int32} (n : h' b = some (maO b v)) (hk : ∀ q, q < b ∨ b + 1 ≤ q → h' q = h q) : isMA E h' b (v, S.2) := by
  obtain ⟨f, h1, h2⟩ := m.ra
  exact ⟨n, m.al.keep (fun q _ _ => hk q (by omega)), ⟨f, by rw [hk _ (by omega)]; exact h1, h2⟩, fun d hd => (m.ro d hd).keep (fun q _ _ => hk q (by omega)), by rw [hk _ (by omega)]; exact m.hs, m.tr.keep (fun q _ _ => hk q (by omega)), m.qu.keep (fun q _ _ => hk q (by omega)), m.du.keep (fun q _ _ => hk q (by omega)), m.de.keep (fun q _ _ => hk q (by omega))⟩
theorem isMA.setAl (m : isMA E h b S) {g : Nat → Nat} (n : isAl E h' (b + 1) g) (hk : ∀ q, q < b + 1 ∨ b + 3 ≤ q → h' q = h q) : isMA E h' b (S.1, g, S.2.2) := by
  obtain ⟨f, h1, h2⟩ := m.ra
  exact ⟨by rw [hk b (by omega)]; exact m.obj, n, ⟨f, by rw [hk _ (by omega)]; exact h1, h2⟩, fun d hd => (m.ro d hd).keep (fun q _ _ => hk q (by omega)), by rw [hk _ (by omega)]; exact m.hs, m.tr.keep (fun q _ _ => hk q (by omega)), m.qu.keep (fun q _ _ => hk q (by omega)), m.du.keep (fun q _ _ => hk q (by omega)), m.de.keep (fun q _ _ => hk q (by omega))⟩
theorem isMA.setRo (m : isMA E h b S) {k rn : Nat} {hs pr : Nat → Int32} (hd8 : k < 8) (n : isRo E h' (b + 4 + 3 * k) rn hs pr) (hk : ∀ q, q < b + 4 + 3 * k ∨ b + 4 + 3 * k + 3 ≤ q → h' q = h q) : isMA E h' b (S.1, S.2.1, va_up (mR S) k (rn, hs, pr), S.2.2.2) := by
  obtain ⟨f, h1, h2⟩ := m.ra
  exact ⟨by rw [hk b (by omega)]; exact m.obj, m.al.keep (fun q _ _ => hk q (by omega)), ⟨f, by rw [hk _ (by omega)]; exact h1, h2⟩, fun d hd => by
    show isRo E h' _ (va_up (mR S) k (rn, hs, pr) d).1 (va_up (mR S) k (rn, hs, pr) d).2.1 (va_up (mR S) k (rn, hs, pr) d).2.2
    by_cases hdk : d = k
    · subst hdk; rw [va_up_self]; exact n
    · rw [va_up_ne _ _ hdk]; exact (m.ro d hd).keep (fun q _ _ => hk q (by omega)), by rw [hk _ (by omega)]; exact m.hs, m.tr.keep (fun q _ _ => hk q (by omega)), m.qu.keep (fun q _ _ => hk q (by omega)), m.du.keep (fun q _ _ => hk q (by omega)), m.de.keep (fun q _ _ => hk q (by omega))⟩
theorem isMA.setHs (m : isMA E h b S) {f0 : Nat → Int32} (n : h' (b + 28) = some (jI E 8 f0)) (hk : ∀ q, q < b + 28 ∨ b + 29 ≤ q → h' q = h q) : isMA E h' b (S.1, S.2.1, S.2.2.1, f0, S.2.2.2.2) := by
  obtain ⟨f, h1, h2⟩ := m.ra
  exact ⟨by rw [hk b (by omega)]; exact m.obj, m.al.keep (fun q _ _ => hk q (by omega)), ⟨f, by rw [hk _ (by omega)]; exact h1, h2⟩, fun d hd => (m.ro d hd).keep (fun q _ _ => hk q (by omega)), n, m.tr.keep (fun q _ _ => hk q (by omega)), m.qu.keep (fun q _ _ => hk q (by omega)), m.du.keep (fun q _ _ => hk q (by omega)), m.de.keep (fun q _ _ => hk q (by omega))⟩
theorem isMA.setTr (m : isMA E h b S) {op snd : Int32} {tn : Nat} {ad st : Nat → Int32} (n : isTr E h' (b + 29) op snd tn ad st) (hk : ∀ q, q < b + 29 ∨ b + 33 ≤ q → h' q = h q) : isMA E h' b (S.1, S.2.1, S.2.2.1, S.2.2.2.1, (op, snd, tn, ad, st), S.2.2.2.2.2) := by
  obtain ⟨f, h1, h2⟩ := m.ra
  exact ⟨by rw [hk b (by omega)]; exact m.obj, m.al.keep (fun q _ _ => hk q (by omega)), ⟨f, by rw [hk _ (by omega)]; exact h1, h2⟩, fun d hd => (m.ro d hd).keep (fun q _ _ => hk q (by omega)), by rw [hk _ (by omega)]; exact m.hs, n, m.qu.keep (fun q _ _ => hk q (by omega)), m.du.keep (fun q _ _ => hk q (by omega)), m.de.keep (fun q _ _ => hk q (by omega))⟩
theorem isMA.setQu (m : isMA E h b S) {qn : Nat} {Q1 : Nat → jMsg} (n : isQu E h' (b + 33) qn Q1) (hk : ∀ q, q < b + 33 ∨ b + 59 ≤ q → h' q = h q) : isMA E h' b (S.1, S.2.1, S.2.2.1, S.2.2.2.1, S.2.2.2.2.1, (qn, Q1), S.2.2.2.2.2.2) := by
  obtain ⟨f, h1, h2⟩ := m.ra
  exact ⟨by rw [hk b (by omega)]; exact m.obj, m.al.keep (fun q _ _ => hk q (by omega)), ⟨f, by rw [hk _ (by omega)]; exact h1, h2⟩, fun d hd => (m.ro d hd).keep (fun q _ _ => hk q (by omega)), by rw [hk _ (by omega)]; exact m.hs, m.tr.keep (fun q _ _ => hk q (by omega)), n, m.du.keep (fun q _ _ => hk q (by omega)), m.de.keep (fun q _ _ => hk q (by omega))⟩
theorem isMA.setDu (m : isMA E h b S) {qn : Nat} {Q1 : Nat → jMsg} (n : isQu E h' (b + 59) qn Q1) (hk : ∀ q, q < b + 59 ∨ b + 85 ≤ q → h' q = h q) : isMA E h' b (S.1, S.2.1, S.2.2.1, S.2.2.2.1, S.2.2.2.2.1, S.2.2.2.2.2.1, (qn, Q1), S.2.2.2.2.2.2.2) := by
  obtain ⟨f, h1, h2⟩ := m.ra
  exact ⟨by rw [hk b (by omega)]; exact m.obj, m.al.keep (fun q _ _ => hk q (by omega)), ⟨f, by rw [hk _ (by omega)]; exact h1, h2⟩, fun d hd => (m.ro d hd).keep (fun q _ _ => hk q (by omega)), by rw [hk _ (by omega)]; exact m.hs, m.tr.keep (fun q _ _ => hk q (by omega)), m.qu.keep (fun q _ _ => hk q (by omega)), n, m.de.keep (fun q _ _ => hk q (by omega))⟩
theorem isMA.setDe (m : isMA E h b S) {le re la ca : Nat → Int32} (n : isDe E h' (b + 85) le re la ca) (hk : ∀ q, q < b + 85 ∨ b + 90 ≤ q → h' q = h q) : isMA E h' b (S.1, S.2.1, S.2.2.1, S.2.2.2.1, S.2.2.2.2.1, S.2.2.2.2.2.1, S.2.2.2.2.2.2.1, (le, re, la, ca)) := by
  obtain ⟨f, h1, h2⟩ := m.ra
  exact ⟨by rw [hk b (by omega)]; exact m.obj, m.al.keep (fun q _ _ => hk q (by omega)), ⟨f, by rw [hk _ (by omega)]; exact h1, h2⟩, fun d hd => (m.ro d hd).keep (fun q _ _ => hk q (by omega)), by rw [hk _ (by omega)]; exact m.hs, m.tr.keep (fun q _ _ => hk q (by omega)), m.qu.keep (fun q _ _ => hk q (by omega)), m.du.keep (fun q _ _ => hk q (by omega)), n⟩
end MA
abbrev wb7 (qn : Nat) (Q : Nat → jMsg) : Prop := ∀ i, i < qn → (Q i).1 7 = 0 ∨ (Q i).1 7 = 1
def mkDur (S : maS) : maS := (upd (mv S) 12 0, S.2.1, S.2.2.1, S.2.2.2.1, S.2.2.2.2.1, S.2.2.2.2.2.1, ((mQ S).1, cpQ (mD S).2 (mQ S).2 (mQ S).1), S.2.2.2.2.2.2.2)
def kcf (S : maS) : maS := if 24 ≤ mv S 12 then mkDur S else S
set_option maxHeartbeats 4000000 in
set_option maxRecDepth 100000 in
theorem c_Ma_makeDurable (l : Launch) (E : jE) {h : jH} {sz b : Nat} {S : maS} (m : isMA E h b S) (hb : wb7 (mQ S).1 (mQ S).2) : jC l M_Ma_makeDurable 3 E [.ref b] h sz 0 0 (fun r h' sz' => r = none ∧ isMA E h' b (mkDur S) ∧ (∀ q, q < b ∨ b + 90 ≤ q → h' q = h q) ∧ sz' = sz) := by
  have e0 := m.obj
  have e1 := m.du.obj
  refine jC.of (by decide) (Nat.le_of_ble_eq_true rfl) ?_
  intro x C0 hx
  subst hx

  refine j_aload_n C0 d_Ma_makeDurable_0 rfl (by rfl) ?_
  refine j_getf C0 d_Ma_makeDurable_1 fl_Ma_55 (by (repeat (first | rw [jset_s] | rw [jset_n (by omega)] | rw [reH_0] | rw [reH_1] | rw [reH_2] | rw [reH_n (by omega)])) <;> first | rfl | assumption) (by rfl) ?_
  refine j_aload_n C0 d_Ma_makeDurable_4 rfl (by rfl) ?_
  refine j_getf C0 d_Ma_makeDurable_5 fl_Ma_51 (by (repeat (first | rw [jset_s] | rw [jset_n (by omega)] | rw [reH_0] | rw [reH_1] | rw [reH_2] | rw [reH_n (by omega)])) <;> first | rfl | assumption) (by rfl) ?_
  refine j_callV C0 d_Ma_makeDurable_8 cl_Ma_186 cl_Ma_186v (c_Qu_copyFrom _ E m.du m.qu (by omega) hb) (by (repeat (first | rw [jset_s] | rw [jset_n (by omega)] | rw [reH_0] | rw [reH_1] | rw [reH_2] | rw [reH_n (by omega)])) <;> first | rfl | assumption) rfl rfl rfl ⟨by decide, by decide⟩ ⟨by omega, by omega⟩ (Nat.le_of_ble_eq_true rfl) (fun r_ h_ z_ hp_ => ?_)
  obtain ⟨rfl, k1, k2, rfl⟩ := hp_
  have m1 := m.setDu k1 (fun q hq => k2 q (by omega))
  have e2 := m1.obj
  refine j_aload_n C0 d_Ma_makeDurable_11 rfl (by rfl) ?_
  refine j_iconst C0 d_Ma_makeDurable_12 (v := 0) (by decide) ?_
  refine j_putf C0 d_Ma_makeDurable_13 fp_Ma_71 (by (repeat (first | rw [jset_s] | rw [jset_n (by omega)] | rw [reH_0] | rw [reH_1] | rw [reH_2] | rw [reH_n (by omega)])) <;> first | rfl | assumption) (Nat.le_of_ble_eq_true rfl) (by rfl) (by rfl) ?_
  exact j_vret C0 d_Ma_makeDurable_16 rfl (by omega) (by omega) ⟨rfl, m1.setV (v := upd (mv S) 12 0) (by rw [jset_s]; rfl) (fun q hq => jset_n (by omega)), fun q hq => by rw [jset_n (by omega)]; exact k2 q (by omega), rfl⟩
set_option maxHeartbeats 4000000 in
set_option maxRecDepth 100000 in
theorem c_Ma_keepChangesFew (l : Launch) (E : jE) {h : jH} {sz b : Nat} {S : maS} (m : isMA E h b S) (hb : wb7 (mQ S).1 (mQ S).2) : jC l M_Ma_keepChangesFew 4 E [.ref b] h sz 0 0 (fun r h' sz' => r = none ∧ isMA E h' b (kcf S) ∧ (∀ q, q < b ∨ b + 90 ≤ q → h' q = h q) ∧ sz' = sz) := by
  have e0 := m.obj
  refine jC.of (by decide) (Nat.le_of_ble_eq_true rfl) ?_
  intro x C0 hx
  subst hx

  refine j_aload_n C0 d_Ma_keepChangesFew_0 rfl (by rfl) ?_
  refine j_getf C0 d_Ma_keepChangesFew_1 fl_Ma_71 (by (repeat (first | rw [jset_s] | rw [jset_n (by omega)] | rw [reH_0] | rw [reH_1] | rw [reH_2] | rw [reH_n (by omega)])) <;> first | rfl | assumption) (by rfl) ?_
  refine j_bipush C0 d_Ma_keepChangesFew_4 (v := 24) (by decide) ?_
  refine j_icmp_lt C0 d_Ma_keepChangesFew_6 (tgt := 13) (by decide) (fun c_6 => ?_) (fun c_6 => ?_)
  · have ek : kcf S = S := if_neg (Int32.not_le.mpr c_6)
    exact j_vret C0 d_Ma_keepChangesFew_13 rfl (by omega) (by omega) ⟨rfl, by rw [ek]; assumption, by first | exact k1 | exact fun q _ => rfl, rfl⟩
  · have ek : kcf S = mkDur S := if_pos (Int32.not_lt.mp c_6)
    refine j_aload_n C0 d_Ma_keepChangesFew_9 rfl (by rfl) ?_
    refine j_callV C0 d_Ma_keepChangesFew_10 cl_Ma_157 cl_Ma_157v (c_Ma_makeDurable _ E m hb) (by (repeat (first | rw [jset_s] | rw [jset_n (by omega)] | rw [reH_0] | rw [reH_1] | rw [reH_2] | rw [reH_n (by omega)])) <;> first | rfl | assumption) rfl rfl rfl ⟨by decide, by decide⟩ ⟨by omega, by omega⟩ (Nat.le_of_ble_eq_true rfl) (fun r_ h_ z_ hp_ => ?_)
    obtain ⟨rfl, m1, k1, rfl⟩ := hp_
    exact j_vret C0 d_Ma_keepChangesFew_13 rfl (by omega) (by omega) ⟨rfl, by rw [ek]; assumption, by first | exact k1 | exact fun q _ => rfl, rfl⟩
set_option maxHeartbeats 4000000 in
set_option maxRecDepth 100000 in
theorem c_Ma_sync (l : Launch) (E : jE) {h : jH} {sz b : Nat} {S : maS} (m : isMA E h b S) (hb : wb7 (mQ S).1 (mQ S).2) : jC l M_Ma_sync 4 E [.ref b] h sz 0 0 (fun r h' sz' => r = some (.int (mv S 12)) ∧ isMA E h' b (mkDur S) ∧ (∀ q, q < b ∨ b + 90 ≤ q → h' q = h q) ∧ sz' = sz) := by
  have e0 := m.obj
  refine jC.of (by decide) (Nat.le_of_ble_eq_true rfl) ?_
  intro x C0 hx
  subst hx

  refine j_aload_n C0 d_Ma_sync_0 rfl (by rfl) ?_
  refine j_getf C0 d_Ma_sync_1 fl_Ma_71 (by (repeat (first | rw [jset_s] | rw [jset_n (by omega)] | rw [reH_0] | rw [reH_1] | rw [reH_2] | rw [reH_n (by omega)])) <;> first | rfl | assumption) (by rfl) ?_
  refine j_istore_n C0 d_Ma_sync_4 rfl (Nat.le_of_ble_eq_true rfl) ?_
  refine j_aload_n C0 d_Ma_sync_5 rfl (by rfl) ?_
  refine j_callV C0 d_Ma_sync_6 cl_Ma_157 cl_Ma_157v (c_Ma_makeDurable _ E m hb) (by (repeat (first | rw [jset_s] | rw [jset_n (by omega)] | rw [reH_0] | rw [reH_1] | rw [reH_2] | rw [reH_n (by omega)])) <;> first | rfl | assumption) rfl rfl rfl ⟨by decide, by decide⟩ ⟨by omega, by omega⟩ (Nat.le_of_ble_eq_true rfl) (fun r_ h_ z_ hp_ => ?_)
  obtain ⟨rfl, m1, k1, rfl⟩ := hp_
  refine j_iload_n C0 d_Ma_sync_9 rfl (by rfl) ?_
  exact j_iret C0 d_Ma_sync_10 rfl (by omega) (by omega) ⟨rfl, m1, k1, rfl⟩
def crS (S : maS) : maS := (upd (mv S) 12 0, S.2.1, S.2.2.1, S.2.2.2.1, (0, (mT S).2), ((mD S).1, cpQ (mQ S).2 (mD S).2 (mD S).1), S.2.2.2.2.2.2)
set_option maxHeartbeats 4000000 in
set_option maxRecDepth 100000 in
theorem c_Ma_crash (l : Launch) (E : jE) {h : jH} {sz b : Nat} {S : maS} (m : isMA E h b S) (hb : wb7 (mD S).1 (mD S).2) : jC l M_Ma_crash 3 E [.ref b] h sz 0 0 (fun r h' sz' => r = some (.int (mv S 12)) ∧ isMA E h' b (crS S) ∧ (∀ q, q < b ∨ b + 90 ≤ q → h' q = h q) ∧ sz' = sz) := by
  have e0 := m.obj
  have e1 := m.qu.obj
  refine jC.of (by decide) (Nat.le_of_ble_eq_true rfl) ?_
  intro x C0 hx
  subst hx

  refine j_aload_n C0 d_Ma_crash_0 rfl (by rfl) ?_
  refine j_getf C0 d_Ma_crash_1 fl_Ma_71 (by (repeat (first | rw [jset_s] | rw [jset_n (by omega)] | rw [reH_0] | rw [reH_1] | rw [reH_2] | rw [reH_n (by omega)])) <;> first | rfl | assumption) (by rfl) ?_
  refine j_istore_n C0 d_Ma_crash_4 rfl (Nat.le_of_ble_eq_true rfl) ?_
  refine j_aload_n C0 d_Ma_crash_5 rfl (by rfl) ?_
  refine j_getf C0 d_Ma_crash_6 fl_Ma_51 (by (repeat (first | rw [jset_s] | rw [jset_n (by omega)] | rw [reH_0] | rw [reH_1] | rw [reH_2] | rw [reH_n (by omega)])) <;> first | rfl | assumption) (by rfl) ?_
  refine j_aload_n C0 d_Ma_crash_9 rfl (by rfl) ?_
  refine j_getf C0 d_Ma_crash_10 fl_Ma_55 (by (repeat (first | rw [jset_s] | rw [jset_n (by omega)] | rw [reH_0] | rw [reH_1] | rw [reH_2] | rw [reH_n (by omega)])) <;> first | rfl | assumption) (by rfl) ?_
  refine j_callV C0 d_Ma_crash_13 cl_Ma_186 cl_Ma_186v (c_Qu_copyFrom _ E m.qu m.du (by omega) hb) (by (repeat (first | rw [jset_s] | rw [jset_n (by omega)] | rw [reH_0] | rw [reH_1] | rw [reH_2] | rw [reH_n (by omega)])) <;> first | rfl | assumption) rfl rfl rfl ⟨by decide, by decide⟩ ⟨by omega, by omega⟩ (Nat.le_of_ble_eq_true rfl) (fun r_ h_ z_ hp_ => ?_)
  obtain ⟨rfl, k1, k2, rfl⟩ := hp_
  have m1 := m.setQu k1 (fun q hq => k2 q (by omega))
  have e2 := m1.obj
  obtain ⟨t0, t1⟩ := m1.tr
  refine j_aload_n C0 d_Ma_crash_16 rfl (by rfl) ?_
  refine j_iconst C0 d_Ma_crash_17 (v := 0) (by decide) ?_
  refine j_putf C0 d_Ma_crash_18 fp_Ma_71 (by (repeat (first | rw [jset_s] | rw [jset_n (by omega)] | rw [reH_0] | rw [reH_1] | rw [reH_2] | rw [reH_n (by omega)])) <;> first | rfl | assumption) (Nat.le_of_ble_eq_true rfl) (by rfl) (by rfl) ?_
  have m2 := m1.setV (h' := jset h_ b _) (v := upd (mv S) 12 0) jset_s (fun q hq => jset_n (by omega))
  refine j_aload_n C0 d_Ma_crash_21 rfl (by rfl) ?_
  refine j_getf C0 d_Ma_crash_22 fl_Ma_44 (by (repeat (first | rw [jset_s] | rw [jset_n (by omega)] | rw [reH_0] | rw [reH_1] | rw [reH_2] | rw [reH_n (by omega)])) <;> first | rfl | assumption) (by rfl) ?_
  refine j_iconst C0 d_Ma_crash_25 (v := 0) (by decide) ?_
  refine j_putf C0 d_Ma_crash_26 fp_Ma_103 (by (repeat (first | rw [jset_s] | rw [jset_n (by omega)] | rw [reH_0] | rw [reH_1] | rw [reH_2] | rw [reH_n (by omega)])) <;> first | rfl | assumption) (Nat.le_of_ble_eq_true rfl) (by rfl) (by rfl) ?_
  refine j_iload_n C0 d_Ma_crash_29 rfl (by rfl) ?_
  exact j_iret C0 d_Ma_crash_30 rfl (by omega) (by omega) ⟨rfl, m2.setTr (op := 0) (snd := (mT S).2.1) (tn := (mT S).2.2.1) (ad := (mT S).2.2.2.1) (st := (mT S).2.2.2.2) ⟨by rw [jset_s]; rfl, t1.keep (fun q h1 h2 => by rw [jset_n (by omega), jset_n (by omega)])⟩ (fun q hq => jset_n (by omega)), fun q hq => by rw [jset_n (by omega), jset_n (by omega)]; exact k2 q (by omega), rfl⟩
theorem inR {x : Int32} {n : Nat} (hn : n < 2 ^ 31) {N : Int32} (hN : N = nI n) (h : ¬ x < 0 ∧ ¬ N ≤ x) : ∃ k, k < n ∧ x = nI k := by
  subst hN
  rcases pk_ix x hn with h1 | h1 | h1
  · exact absurd h1 h.1
  · exact absurd h1 h.2
  · exact h1
theorem okR {k n : Nat} (hk : k < n) (hn : n < 2 ^ 31) {N : Int32} (hN : N = nI n) : ¬ nI k < 0 ∧ ¬ N ≤ nI k := by
  subst hN
  exact ⟨nI_pos (by omega), nI_ge hk hn⟩
set_option maxHeartbeats 4000000 in
set_option maxRecDepth 100000 in
theorem c_Ma_alias_bad (l : Launch) (E : jE) {h : jH} {sz b : Nat} {S : maS} (m : isMA E h b S) (p q : Int32) (hbad : ¬ (¬ p < 0 ∧ ¬ 8 ≤ p) ∨ ¬ (¬ q < 0 ∧ ¬ 64 ≤ q)) : jC l M_Ma_alias 2 E [.ref b, .int p, .int q] h sz 0 0 (fun r h' sz' => r = some (.int (-501)) ∧ isMA E h' b S ∧ (∀ q, q < b ∨ b + 90 ≤ q → h' q = h q) ∧ sz' = sz) := by
  refine jC.of (by decide) (Nat.le_of_ble_eq_true rfl) ?_
  intro x C0 hx
  subst hx

  by_cases h1 : ¬ p < 0 ∧ ¬ 8 ≤ p
  · have h2 : ¬ (¬ q < 0 ∧ ¬ 64 ≤ q) := hbad.resolve_left (fun h => h h1)
    refine j_iload_n C0 d_Ma_alias_0 rfl (by rfl) ?_
    refine j_bipush C0 d_Ma_alias_1 (v := 8) (by decide) ?_
    refine j_callS C0 d_Ma_alias_3 cl_Ma_74 cl_Ma_74v (c_Ma_isBelow _ E _ _) rfl rfl ⟨by decide, by decide⟩ ⟨by omega, by omega⟩ (Nat.le_of_ble_eq_true rfl) (fun r_ h_ z_ hp_ => ?_)
    obtain ⟨rfl, rfl, rfl⟩ := hp_
    rw [jb_y h1]
    refine j_if_eq C0 d_Ma_alias_6 (tgt := 18) (by decide) (fun c_6 => ?_) (fun c_6 => ?_)
    · exact absurd c_6 (by decide)
    · refine j_iload_n C0 d_Ma_alias_9 rfl (by rfl) ?_
      refine j_bipush C0 d_Ma_alias_10 (v := 64) (by decide) ?_
      refine j_callS C0 d_Ma_alias_12 cl_Ma_74 cl_Ma_74v (c_Ma_isBelow _ E _ _) rfl rfl ⟨by decide, by decide⟩ ⟨by omega, by omega⟩ (Nat.le_of_ble_eq_true rfl) (fun r_ h_ z_ hp_ => ?_)
      obtain ⟨rfl, rfl, rfl⟩ := hp_
      rw [jb_n h2]
      refine j_if_ne C0 d_Ma_alias_15 (tgt := 22) (by decide) (fun c_15 => ?_) (fun c_15 => ?_)
      · exact absurd c_15 (by decide)
      · refine j_sipush C0 d_Ma_alias_18 (v := -501) (by decide) ?_
        exact j_iret C0 d_Ma_alias_21 rfl (by omega) (by omega) ⟨rfl, m, fun q _ => rfl, rfl⟩
  · refine j_iload_n C0 d_Ma_alias_0 rfl (by rfl) ?_
    refine j_bipush C0 d_Ma_alias_1 (v := 8) (by decide) ?_
    refine j_callS C0 d_Ma_alias_3 cl_Ma_74 cl_Ma_74v (c_Ma_isBelow _ E _ _) rfl rfl ⟨by decide, by decide⟩ ⟨by omega, by omega⟩ (Nat.le_of_ble_eq_true rfl) (fun r_ h_ z_ hp_ => ?_)
    obtain ⟨rfl, rfl, rfl⟩ := hp_
    rw [jb_n h1]
    refine j_if_eq C0 d_Ma_alias_6 (tgt := 18) (by decide) (fun c_6 => ?_) (fun c_6 => ?_)
    · refine j_sipush C0 d_Ma_alias_18 (v := -501) (by decide) ?_
      exact j_iret C0 d_Ma_alias_21 rfl (by omega) (by omega) ⟨rfl, m, fun q _ => rfl, rfl⟩
    · exact absurd c_6 (by decide)
set_option maxHeartbeats 4000000 in
set_option maxRecDepth 100000 in
theorem c_Ma_alias_full (l : Launch) (E : jE) {h : jH} {sz b : Nat} {S : maS} (m : isMA E h b S) {k u : Nat} (hk : k < 8) (hu : u < 64) (hF : ¬ (pp_c (mg S k) 64 < 4 ∧ (mg S k).testBit u = false)) : jC l M_Ma_alias 2 E [.ref b, .int (nI k), .int (nI u)] h sz 0 0 (fun r h' sz' => r = some (.int (-452)) ∧ isMA E h' b S ∧ (∀ q, q < b ∨ b + 90 ≤ q → h' q = h q) ∧ sz' = sz) := by
  have e0 := m.obj
  refine jC.of (by decide) (Nat.le_of_ble_eq_true rfl) ?_
  intro x C0 hx
  subst hx

  refine j_iload_n C0 d_Ma_alias_0 rfl (by rfl) ?_
  refine j_bipush C0 d_Ma_alias_1 (v := 8) (by decide) ?_
  refine j_callS C0 d_Ma_alias_3 cl_Ma_74 cl_Ma_74v (c_Ma_isBelow _ E _ _) rfl rfl ⟨by decide, by decide⟩ ⟨by omega, by omega⟩ (Nat.le_of_ble_eq_true rfl) (fun r_ h_ z_ hp_ => ?_)
  obtain ⟨rfl, rfl, rfl⟩ := hp_
  rw [jb_y (okR (N := 8) hk (by decide) rfl)]
  refine j_if_eq C0 d_Ma_alias_6 (tgt := 18) (by decide) (fun c_6 => ?_) (fun c_6 => ?_)
  · exact absurd c_6 (by decide)
  · refine j_iload_n C0 d_Ma_alias_9 rfl (by rfl) ?_
    refine j_bipush C0 d_Ma_alias_10 (v := 64) (by decide) ?_
    refine j_callS C0 d_Ma_alias_12 cl_Ma_74 cl_Ma_74v (c_Ma_isBelow _ E _ _) rfl rfl ⟨by decide, by decide⟩ ⟨by omega, by omega⟩ (Nat.le_of_ble_eq_true rfl) (fun r_ h_ z_ hp_ => ?_)
    obtain ⟨rfl, rfl, rfl⟩ := hp_
    rw [jb_y (okR (N := 64) hu (by decide) rfl)]
    refine j_if_ne C0 d_Ma_alias_15 (tgt := 22) (by decide) (fun c_15 => ?_) (fun c_15 => ?_)
    · refine j_aload_n C0 d_Ma_alias_22 rfl (by rfl) ?_
      refine j_getf C0 d_Ma_alias_23 fl_Ma_26 (by (repeat (first | rw [jset_s] | rw [jset_n (by omega)] | rw [reH_0] | rw [reH_1] | rw [reH_2] | rw [reH_n (by omega)])) <;> first | rfl | assumption) (by rfl) ?_
      refine j_iload_n C0 d_Ma_alias_26 rfl (by rfl) ?_
      refine j_iload_n C0 d_Ma_alias_27 rfl (by rfl) ?_
      refine j_callV C0 d_Ma_alias_28 cl_Ma_78 cl_Ma_78v (c_Al_hasRoomFor _ E hk hu m.al) m.al.1 rfl rfl rfl ⟨by decide, by decide⟩ ⟨by omega, by omega⟩ (Nat.le_of_ble_eq_true rfl) (fun r_ h_ z_ hp_ => ?_)
      obtain ⟨rfl, rfl, rfl⟩ := hp_
      rw [jb_n hF]
      refine j_if_ne C0 d_Ma_alias_31 (tgt := 38) (by decide) (fun c_31 => ?_) (fun c_31 => ?_)
      · exact absurd c_31 (by decide)
      · refine j_sipush C0 d_Ma_alias_34 (v := -452) (by decide) ?_
        exact j_iret C0 d_Ma_alias_37 rfl (by omega) (by omega) ⟨rfl, m, fun q _ => rfl, rfl⟩
    · exact absurd c_15 (by decide)
set_option maxHeartbeats 4000000 in
set_option maxRecDepth 100000 in
theorem c_Ma_alias (l : Launch) (E : jE) {h : jH} {sz b : Nat} {S : maS} (m : isMA E h b S) {k u : Nat} (hk : k < 8) (hu : u < 64) (hF : pp_c (mg S k) 64 < 4 ∧ (mg S k).testBit u = false) : jC l M_Ma_alias 2 E [.ref b, .int (nI k), .int (nI u)] h sz 0 0 (fun r h' sz' => r = some (.int (nI (pp_c (mg S k ||| 2 ^ u) 64))) ∧ isMA E h' b (S.1, va_up (mg S) k (mg S k ||| 2 ^ u), S.2.2) ∧ (∀ q, q < b ∨ b + 90 ≤ q → h' q = h q) ∧ sz' = sz) := by
  have e0 := m.obj
  refine jC.of (by decide) (Nat.le_of_ble_eq_true rfl) ?_
  intro x C0 hx
  subst hx

  refine j_iload_n C0 d_Ma_alias_0 rfl (by rfl) ?_
  refine j_bipush C0 d_Ma_alias_1 (v := 8) (by decide) ?_
  refine j_callS C0 d_Ma_alias_3 cl_Ma_74 cl_Ma_74v (c_Ma_isBelow _ E _ _) rfl rfl ⟨by decide, by decide⟩ ⟨by omega, by omega⟩ (Nat.le_of_ble_eq_true rfl) (fun r_ h_ z_ hp_ => ?_)
  obtain ⟨rfl, rfl, rfl⟩ := hp_
  rw [jb_y (okR (N := 8) hk (by decide) rfl)]
  refine j_if_eq C0 d_Ma_alias_6 (tgt := 18) (by decide) (fun c_6 => ?_) (fun c_6 => ?_)
  · exact absurd c_6 (by decide)
  · refine j_iload_n C0 d_Ma_alias_9 rfl (by rfl) ?_
    refine j_bipush C0 d_Ma_alias_10 (v := 64) (by decide) ?_
    refine j_callS C0 d_Ma_alias_12 cl_Ma_74 cl_Ma_74v (c_Ma_isBelow _ E _ _) rfl rfl ⟨by decide, by decide⟩ ⟨by omega, by omega⟩ (Nat.le_of_ble_eq_true rfl) (fun r_ h_ z_ hp_ => ?_)
    obtain ⟨rfl, rfl, rfl⟩ := hp_
    rw [jb_y (okR (N := 64) hu (by decide) rfl)]
    refine j_if_ne C0 d_Ma_alias_15 (tgt := 22) (by decide) (fun c_15 => ?_) (fun c_15 => ?_)
    · refine j_aload_n C0 d_Ma_alias_22 rfl (by rfl) ?_
      refine j_getf C0 d_Ma_alias_23 fl_Ma_26 (by (repeat (first | rw [jset_s] | rw [jset_n (by omega)] | rw [reH_0] | rw [reH_1] | rw [reH_2] | rw [reH_n (by omega)])) <;> first | rfl | assumption) (by rfl) ?_
      refine j_iload_n C0 d_Ma_alias_26 rfl (by rfl) ?_
      refine j_iload_n C0 d_Ma_alias_27 rfl (by rfl) ?_
      refine j_callV C0 d_Ma_alias_28 cl_Ma_78 cl_Ma_78v (c_Al_hasRoomFor _ E hk hu m.al) m.al.1 rfl rfl rfl ⟨by decide, by decide⟩ ⟨by omega, by omega⟩ (Nat.le_of_ble_eq_true rfl) (fun r_ h_ z_ hp_ => ?_)
      obtain ⟨rfl, rfl, rfl⟩ := hp_
      rw [jb_y hF]
      refine j_if_ne C0 d_Ma_alias_31 (tgt := 38) (by decide) (fun c_31 => ?_) (fun c_31 => ?_)
      · refine j_aload_n C0 d_Ma_alias_38 rfl (by rfl) ?_
        refine j_getf C0 d_Ma_alias_39 fl_Ma_26 (by (repeat (first | rw [jset_s] | rw [jset_n (by omega)] | rw [reH_0] | rw [reH_1] | rw [reH_2] | rw [reH_n (by omega)])) <;> first | rfl | assumption) (by rfl) ?_
        refine j_iload_n C0 d_Ma_alias_42 rfl (by rfl) ?_
        refine j_iload_n C0 d_Ma_alias_43 rfl (by rfl) ?_
        refine j_callV C0 d_Ma_alias_44 cl_Ma_81 cl_Ma_81v (c_Al_add _ E hk hu m.al) m.al.1 rfl rfl rfl ⟨by decide, by decide⟩ ⟨by omega, by omega⟩ (Nat.le_of_ble_eq_true rfl) (fun r_ h_ z_ hp_ => ?_)
        obtain ⟨rfl, k1, k2, rfl⟩ := hp_
        exact j_iret C0 d_Ma_alias_47 rfl (by omega) (by omega) ⟨rfl, m.setAl k1 (fun q hq => k2 q (by omega)), fun q hq => k2 q (by omega), rfl⟩
      · exact absurd c_31 (by decide)
    · exact absurd c_15 (by decide)
set_option maxHeartbeats 4000000 in
set_option maxRecDepth 100000 in
theorem c_Ma_unalias_bad (l : Launch) (E : jE) {h : jH} {sz b : Nat} {S : maS} (m : isMA E h b S) (p : Int32) (hbad : ¬ (¬ p < 0 ∧ ¬ 8 ≤ p)) : jC l M_Ma_unalias 2 E [.ref b, .int p] h sz 0 0 (fun r h' sz' => r = some (.int (-501)) ∧ isMA E h' b S ∧ (∀ q, q < b ∨ b + 90 ≤ q → h' q = h q) ∧ sz' = sz) := by
  refine jC.of (by decide) (Nat.le_of_ble_eq_true rfl) ?_
  intro x C0 hx
  subst hx

  refine j_iload_n C0 d_Ma_unalias_0 rfl (by rfl) ?_
  refine j_bipush C0 d_Ma_unalias_1 (v := 8) (by decide) ?_
  refine j_callS C0 d_Ma_unalias_3 cl_Ma_74 cl_Ma_74v (c_Ma_isBelow _ E _ _) rfl rfl ⟨by decide, by decide⟩ ⟨by omega, by omega⟩ (Nat.le_of_ble_eq_true rfl) (fun r_ h_ z_ hp_ => ?_)
  obtain ⟨rfl, rfl, rfl⟩ := hp_
  rw [jb_n hbad]
  refine j_if_ne C0 d_Ma_unalias_6 (tgt := 13) (by decide) (fun c_6 => ?_) (fun c_6 => ?_)
  · exact absurd c_6 (by decide)
  · refine j_sipush C0 d_Ma_unalias_9 (v := -501) (by decide) ?_
    exact j_iret C0 d_Ma_unalias_12 rfl (by omega) (by omega) ⟨rfl, m, fun q _ => rfl, rfl⟩
set_option maxHeartbeats 4000000 in
set_option maxRecDepth 100000 in
theorem c_Ma_unalias (l : Launch) (E : jE) {h : jH} {sz b : Nat} {S : maS} (m : isMA E h b S) {k : Nat} (hk : k < 8) : jC l M_Ma_unalias 2 E [.ref b, .int (nI k)] h sz 0 0 (fun r h' sz' => r = some (.int (nI (pp_c (mg S k) 64))) ∧ isMA E h' b (S.1, va_up (mg S) k 0, S.2.2) ∧ (∀ q, q < b ∨ b + 90 ≤ q → h' q = h q) ∧ sz' = sz) := by
  have e0 := m.obj
  refine jC.of (by decide) (Nat.le_of_ble_eq_true rfl) ?_
  intro x C0 hx
  subst hx

  refine j_iload_n C0 d_Ma_unalias_0 rfl (by rfl) ?_
  refine j_bipush C0 d_Ma_unalias_1 (v := 8) (by decide) ?_
  refine j_callS C0 d_Ma_unalias_3 cl_Ma_74 cl_Ma_74v (c_Ma_isBelow _ E _ _) rfl rfl ⟨by decide, by decide⟩ ⟨by omega, by omega⟩ (Nat.le_of_ble_eq_true rfl) (fun r_ h_ z_ hp_ => ?_)
  obtain ⟨rfl, rfl, rfl⟩ := hp_
  rw [jb_y (okR (N := 8) hk (by decide) rfl)]
  refine j_if_ne C0 d_Ma_unalias_6 (tgt := 13) (by decide) (fun c_6 => ?_) (fun c_6 => ?_)
  · refine j_aload_n C0 d_Ma_unalias_13 rfl (by rfl) ?_
    refine j_getf C0 d_Ma_unalias_14 fl_Ma_26 (by (repeat (first | rw [jset_s] | rw [jset_n (by omega)] | rw [reH_0] | rw [reH_1] | rw [reH_2] | rw [reH_n (by omega)])) <;> first | rfl | assumption) (by rfl) ?_
    refine j_iload_n C0 d_Ma_unalias_17 rfl (by rfl) ?_
    refine j_callV C0 d_Ma_unalias_18 cl_Ma_85 cl_Ma_85v (c_Al_clear _ E hk m.al) m.al.1 rfl rfl rfl ⟨by decide, by decide⟩ ⟨by omega, by omega⟩ (Nat.le_of_ble_eq_true rfl) (fun r_ h_ z_ hp_ => ?_)
    obtain ⟨rfl, k1, k2, rfl⟩ := hp_
    exact j_iret C0 d_Ma_unalias_21 rfl (by omega) (by omega) ⟨rfl, m.setAl k1 (fun q hq => k2 q (by omega)), fun q hq => k2 q (by omega), rfl⟩
  · exact absurd c_6 (by decide)
theorem okF {k : Nat} (hk : k < 8) (h0 : 0 < k) : ¬ nI k = 0 ∧ ¬ nI k < 0 ∧ ¬ (8 : Int32) ≤ nI k := ⟨nI_ne0 h0 (by omega), okR hk (by decide) rfl⟩
set_option maxHeartbeats 4000000 in
set_option maxRecDepth 100000 in
theorem c_Ma_route_bad (l : Launch) (E : jE) {h : jH} {sz b : Nat} {S : maS} (m : isMA E h b S) (p q s : Int32) (hbad : ¬ (¬ p = 0 ∧ ¬ p < 0 ∧ ¬ 8 ≤ p) ∨ ¬ (¬ q < 0 ∧ ¬ 8 ≤ q) ∨ ¬ (¬ s < 0 ∧ ¬ 100 ≤ s)) : jC l M_Ma_route 2 E [.ref b, .int p, .int q, .int s] h sz 0 0 (fun r h' sz' => r = some (.int (-501)) ∧ isMA E h' b S ∧ (∀ q, q < b ∨ b + 90 ≤ q → h' q = h q) ∧ sz' = sz) := by
  refine jC.of (by decide) (Nat.le_of_ble_eq_true rfl) ?_
  intro x C0 hx
  subst hx

  by_cases h1 : ¬ p = 0 ∧ ¬ p < 0 ∧ ¬ 8 ≤ p
  · by_cases h2 : ¬ q < 0 ∧ ¬ 8 ≤ q
    · have h3 : ¬ (¬ s < 0 ∧ ¬ 100 ≤ s) := (hbad.resolve_left (fun h => h h1)).resolve_left (fun h => h h2)
      refine j_iload_n C0 d_Ma_route_0 rfl (by rfl) ?_
      refine j_callS C0 d_Ma_route_1 cl_Ma_89 cl_Ma_89v (c_Ma_isForeign _ E _) rfl rfl ⟨by decide, by decide⟩ ⟨by omega, by omega⟩ (Nat.le_of_ble_eq_true rfl) (fun r_ h_ z_ hp_ => ?_)
      obtain ⟨rfl, rfl, rfl⟩ := hp_
      rw [jb_y h1]
      refine j_if_eq C0 d_Ma_route_4 (tgt := 25) (by decide) (fun c_4 => ?_) (fun c_4 => ?_)
      · exact absurd c_4 (by decide)
      · refine j_iload_n C0 d_Ma_route_7 rfl (by rfl) ?_
        refine j_bipush C0 d_Ma_route_8 (v := 8) (by decide) ?_
        refine j_callS C0 d_Ma_route_10 cl_Ma_74 cl_Ma_74v (c_Ma_isBelow _ E _ _) rfl rfl ⟨by decide, by decide⟩ ⟨by omega, by omega⟩ (Nat.le_of_ble_eq_true rfl) (fun r_ h_ z_ hp_ => ?_)
        obtain ⟨rfl, rfl, rfl⟩ := hp_
        rw [jb_y h2]
        refine j_if_eq C0 d_Ma_route_13 (tgt := 25) (by decide) (fun c_13 => ?_) (fun c_13 => ?_)
        · exact absurd c_13 (by decide)
        · refine j_iload_n C0 d_Ma_route_16 rfl (by rfl) ?_
          refine j_bipush C0 d_Ma_route_17 (v := 100) (by decide) ?_
          refine j_callS C0 d_Ma_route_19 cl_Ma_74 cl_Ma_74v (c_Ma_isBelow _ E _ _) rfl rfl ⟨by decide, by decide⟩ ⟨by omega, by omega⟩ (Nat.le_of_ble_eq_true rfl) (fun r_ h_ z_ hp_ => ?_)
          obtain ⟨rfl, rfl, rfl⟩ := hp_
          rw [jb_n h3]
          refine j_if_ne C0 d_Ma_route_22 (tgt := 29) (by decide) (fun c_22 => ?_) (fun c_22 => ?_)
          · exact absurd c_22 (by decide)
          · refine j_sipush C0 d_Ma_route_25 (v := -501) (by decide) ?_
            exact j_iret C0 d_Ma_route_28 rfl (by omega) (by omega) ⟨rfl, m, fun q _ => rfl, rfl⟩
    · refine j_iload_n C0 d_Ma_route_0 rfl (by rfl) ?_
      refine j_callS C0 d_Ma_route_1 cl_Ma_89 cl_Ma_89v (c_Ma_isForeign _ E _) rfl rfl ⟨by decide, by decide⟩ ⟨by omega, by omega⟩ (Nat.le_of_ble_eq_true rfl) (fun r_ h_ z_ hp_ => ?_)
      obtain ⟨rfl, rfl, rfl⟩ := hp_
      rw [jb_y h1]
      refine j_if_eq C0 d_Ma_route_4 (tgt := 25) (by decide) (fun c_4 => ?_) (fun c_4 => ?_)
      · exact absurd c_4 (by decide)
      · refine j_iload_n C0 d_Ma_route_7 rfl (by rfl) ?_
        refine j_bipush C0 d_Ma_route_8 (v := 8) (by decide) ?_
        refine j_callS C0 d_Ma_route_10 cl_Ma_74 cl_Ma_74v (c_Ma_isBelow _ E _ _) rfl rfl ⟨by decide, by decide⟩ ⟨by omega, by omega⟩ (Nat.le_of_ble_eq_true rfl) (fun r_ h_ z_ hp_ => ?_)
        obtain ⟨rfl, rfl, rfl⟩ := hp_
        rw [jb_n h2]
        refine j_if_eq C0 d_Ma_route_13 (tgt := 25) (by decide) (fun c_13 => ?_) (fun c_13 => ?_)
        · refine j_sipush C0 d_Ma_route_25 (v := -501) (by decide) ?_
          exact j_iret C0 d_Ma_route_28 rfl (by omega) (by omega) ⟨rfl, m, fun q _ => rfl, rfl⟩
        · exact absurd c_13 (by decide)
  · refine j_iload_n C0 d_Ma_route_0 rfl (by rfl) ?_
    refine j_callS C0 d_Ma_route_1 cl_Ma_89 cl_Ma_89v (c_Ma_isForeign _ E _) rfl rfl ⟨by decide, by decide⟩ ⟨by omega, by omega⟩ (Nat.le_of_ble_eq_true rfl) (fun r_ h_ z_ hp_ => ?_)
    obtain ⟨rfl, rfl, rfl⟩ := hp_
    rw [jb_n h1]
    refine j_if_eq C0 d_Ma_route_4 (tgt := 25) (by decide) (fun c_4 => ?_) (fun c_4 => ?_)
    · refine j_sipush C0 d_Ma_route_25 (v := -501) (by decide) ?_
      exact j_iret C0 d_Ma_route_28 rfl (by omega) (by omega) ⟨rfl, m, fun q _ => rfl, rfl⟩
    · exact absurd c_4 (by decide)
set_option maxHeartbeats 4000000 in
set_option maxRecDepth 100000 in
theorem c_Ma_route_full (l : Launch) (E : jE) {h : jH} {sz b : Nat} {S : maS} (m : isMA E h b S) {k u s : Nat} (hk : k < 8) (h0 : 0 < k) (hu : u < 8) (hs : s < 100) (hF : ¬ (cnt (mR S k).2.1 (nI u) (mR S k).1 = 0 ∧ (mR S k).1 < 3)) : jC l M_Ma_route 2 E [.ref b, .int (nI k), .int (nI u), .int (nI s)] h sz 0 0 (fun r h' sz' => r = some (.int (-452)) ∧ isMA E h' b S ∧ (∀ q, q < b ∨ b + 90 ≤ q → h' q = h q) ∧ sz' = sz) := by
  have e0 := m.obj
  obtain ⟨f, e1, hf⟩ := m.ra
  have er := m.ro k hk
  refine jC.of (by decide) (Nat.le_of_ble_eq_true rfl) ?_
  intro x C0 hx
  subst hx

  refine j_iload_n C0 d_Ma_route_0 rfl (by rfl) ?_
  refine j_callS C0 d_Ma_route_1 cl_Ma_89 cl_Ma_89v (c_Ma_isForeign _ E _) rfl rfl ⟨by decide, by decide⟩ ⟨by omega, by omega⟩ (Nat.le_of_ble_eq_true rfl) (fun r_ h_ z_ hp_ => ?_)
  obtain ⟨rfl, rfl, rfl⟩ := hp_
  rw [jb_y (okF hk h0)]
  refine j_if_eq C0 d_Ma_route_4 (tgt := 25) (by decide) (fun c_4 => ?_) (fun c_4 => ?_)
  · exact absurd c_4 (by decide)
  · refine j_iload_n C0 d_Ma_route_7 rfl (by rfl) ?_
    refine j_bipush C0 d_Ma_route_8 (v := 8) (by decide) ?_
    refine j_callS C0 d_Ma_route_10 cl_Ma_74 cl_Ma_74v (c_Ma_isBelow _ E _ _) rfl rfl ⟨by decide, by decide⟩ ⟨by omega, by omega⟩ (Nat.le_of_ble_eq_true rfl) (fun r_ h_ z_ hp_ => ?_)
    obtain ⟨rfl, rfl, rfl⟩ := hp_
    rw [jb_y (okR (N := 8) hu (by decide) rfl)]
    refine j_if_eq C0 d_Ma_route_13 (tgt := 25) (by decide) (fun c_13 => ?_) (fun c_13 => ?_)
    · exact absurd c_13 (by decide)
    · refine j_iload_n C0 d_Ma_route_16 rfl (by rfl) ?_
      refine j_bipush C0 d_Ma_route_17 (v := 100) (by decide) ?_
      refine j_callS C0 d_Ma_route_19 cl_Ma_74 cl_Ma_74v (c_Ma_isBelow _ E _ _) rfl rfl ⟨by decide, by decide⟩ ⟨by omega, by omega⟩ (Nat.le_of_ble_eq_true rfl) (fun r_ h_ z_ hp_ => ?_)
      obtain ⟨rfl, rfl, rfl⟩ := hp_
      rw [jb_y (okR (N := 100) hs (by decide) rfl)]
      refine j_if_ne C0 d_Ma_route_22 (tgt := 29) (by decide) (fun c_22 => ?_) (fun c_22 => ?_)
      · refine j_aload_n C0 d_Ma_route_29 rfl (by rfl) ?_
        refine j_getf C0 d_Ma_route_30 fl_Ma_32 (by (repeat (first | rw [jset_s] | rw [jset_n (by omega)] | rw [reH_0] | rw [reH_1] | rw [reH_2] | rw [reH_n (by omega)])) <;> first | rfl | assumption) (by rfl) ?_
        refine j_iload_n C0 d_Ma_route_33 rfl (by rfl) ?_
        refine j_aald C0 d_Ma_route_34 (by (repeat (first | rw [jset_s] | rw [jset_n (by omega)] | rw [reH_0] | rw [reH_1] | rw [reH_2] | rw [reH_n (by omega)])) <;> first | rfl | assumption) rfl rfl (by omega) (by decide) (hf k hk) ?_
        refine j_iload_n C0 d_Ma_route_35 rfl (by rfl) ?_
        refine j_callV C0 d_Ma_route_36 cl_Ma_93 cl_Ma_93v (c_Ro_hasRoomFor _ E (nI u) er) er.1 rfl rfl rfl ⟨by decide, by decide⟩ ⟨by omega, by omega⟩ (Nat.le_of_ble_eq_true rfl) (fun r_ h_ z_ hp_ => ?_)
        obtain ⟨rfl, rfl, rfl⟩ := hp_
        rw [jb_n hF]
        refine j_if_ne C0 d_Ma_route_39 (tgt := 46) (by decide) (fun c_39 => ?_) (fun c_39 => ?_)
        · exact absurd c_39 (by decide)
        · refine j_sipush C0 d_Ma_route_42 (v := -452) (by decide) ?_
          exact j_iret C0 d_Ma_route_45 rfl (by omega) (by omega) ⟨rfl, m, fun q _ => rfl, rfl⟩
      · exact absurd c_22 (by decide)
set_option maxHeartbeats 4000000 in
set_option maxRecDepth 100000 in
theorem c_Ma_route (l : Launch) (E : jE) {h : jH} {sz b : Nat} {S : maS} (m : isMA E h b S) {k u s : Nat} (hk : k < 8) (h0 : 0 < k) (hu : u < 8) (hs : s < 100) (hF : cnt (mR S k).2.1 (nI u) (mR S k).1 = 0 ∧ (mR S k).1 < 3) : jC l M_Ma_route 2 E [.ref b, .int (nI k), .int (nI u), .int (nI s)] h sz 0 0 (fun r h' sz' => r = some (.int (nI ((mR S k).1 + 1))) ∧ isMA E h' b (S.1, S.2.1, va_up (mR S) k ((mR S k).1 + 1, insF (mR S k).2.1 (insP (mR S k).2.2 (nI s) (mR S k).1) (mR S k).1 (nI u), insF (mR S k).2.2 (insP (mR S k).2.2 (nI s) (mR S k).1) (mR S k).1 (nI s)), S.2.2.2) ∧ (∀ q, q < b ∨ b + 90 ≤ q → h' q = h q) ∧ sz' = sz) := by
  have e0 := m.obj
  obtain ⟨f, e1, hf⟩ := m.ra
  have er := m.ro k hk
  refine jC.of (by decide) (Nat.le_of_ble_eq_true rfl) ?_
  intro x C0 hx
  subst hx

  refine j_iload_n C0 d_Ma_route_0 rfl (by rfl) ?_
  refine j_callS C0 d_Ma_route_1 cl_Ma_89 cl_Ma_89v (c_Ma_isForeign _ E _) rfl rfl ⟨by decide, by decide⟩ ⟨by omega, by omega⟩ (Nat.le_of_ble_eq_true rfl) (fun r_ h_ z_ hp_ => ?_)
  obtain ⟨rfl, rfl, rfl⟩ := hp_
  rw [jb_y (okF hk h0)]
  refine j_if_eq C0 d_Ma_route_4 (tgt := 25) (by decide) (fun c_4 => ?_) (fun c_4 => ?_)
  · exact absurd c_4 (by decide)
  · refine j_iload_n C0 d_Ma_route_7 rfl (by rfl) ?_
    refine j_bipush C0 d_Ma_route_8 (v := 8) (by decide) ?_
    refine j_callS C0 d_Ma_route_10 cl_Ma_74 cl_Ma_74v (c_Ma_isBelow _ E _ _) rfl rfl ⟨by decide, by decide⟩ ⟨by omega, by omega⟩ (Nat.le_of_ble_eq_true rfl) (fun r_ h_ z_ hp_ => ?_)
    obtain ⟨rfl, rfl, rfl⟩ := hp_
    rw [jb_y (okR (N := 8) hu (by decide) rfl)]
    refine j_if_eq C0 d_Ma_route_13 (tgt := 25) (by decide) (fun c_13 => ?_) (fun c_13 => ?_)
    · exact absurd c_13 (by decide)
    · refine j_iload_n C0 d_Ma_route_16 rfl (by rfl) ?_
      refine j_bipush C0 d_Ma_route_17 (v := 100) (by decide) ?_
      refine j_callS C0 d_Ma_route_19 cl_Ma_74 cl_Ma_74v (c_Ma_isBelow _ E _ _) rfl rfl ⟨by decide, by decide⟩ ⟨by omega, by omega⟩ (Nat.le_of_ble_eq_true rfl) (fun r_ h_ z_ hp_ => ?_)
      obtain ⟨rfl, rfl, rfl⟩ := hp_
      rw [jb_y (okR (N := 100) hs (by decide) rfl)]
      refine j_if_ne C0 d_Ma_route_22 (tgt := 29) (by decide) (fun c_22 => ?_) (fun c_22 => ?_)
      · refine j_aload_n C0 d_Ma_route_29 rfl (by rfl) ?_
        refine j_getf C0 d_Ma_route_30 fl_Ma_32 (by (repeat (first | rw [jset_s] | rw [jset_n (by omega)] | rw [reH_0] | rw [reH_1] | rw [reH_2] | rw [reH_n (by omega)])) <;> first | rfl | assumption) (by rfl) ?_
        refine j_iload_n C0 d_Ma_route_33 rfl (by rfl) ?_
        refine j_aald C0 d_Ma_route_34 (by (repeat (first | rw [jset_s] | rw [jset_n (by omega)] | rw [reH_0] | rw [reH_1] | rw [reH_2] | rw [reH_n (by omega)])) <;> first | rfl | assumption) rfl rfl (by omega) (by decide) (hf k hk) ?_
        refine j_iload_n C0 d_Ma_route_35 rfl (by rfl) ?_
        refine j_callV C0 d_Ma_route_36 cl_Ma_93 cl_Ma_93v (c_Ro_hasRoomFor _ E (nI u) er) er.1 rfl rfl rfl ⟨by decide, by decide⟩ ⟨by omega, by omega⟩ (Nat.le_of_ble_eq_true rfl) (fun r_ h_ z_ hp_ => ?_)
        obtain ⟨rfl, rfl, rfl⟩ := hp_
        rw [jb_y hF]
        refine j_if_ne C0 d_Ma_route_39 (tgt := 46) (by decide) (fun c_39 => ?_) (fun c_39 => ?_)
        · refine j_aload_n C0 d_Ma_route_46 rfl (by rfl) ?_
          refine j_getf C0 d_Ma_route_47 fl_Ma_32 (by (repeat (first | rw [jset_s] | rw [jset_n (by omega)] | rw [reH_0] | rw [reH_1] | rw [reH_2] | rw [reH_n (by omega)])) <;> first | rfl | assumption) (by rfl) ?_
          refine j_iload_n C0 d_Ma_route_50 rfl (by rfl) ?_
          refine j_aald C0 d_Ma_route_51 (by (repeat (first | rw [jset_s] | rw [jset_n (by omega)] | rw [reH_0] | rw [reH_1] | rw [reH_2] | rw [reH_n (by omega)])) <;> first | rfl | assumption) rfl rfl (by omega) (by decide) (hf k hk) ?_
          refine j_iload_n C0 d_Ma_route_52 rfl (by rfl) ?_
          refine j_iload_n C0 d_Ma_route_53 rfl (by rfl) ?_
          refine j_callV C0 d_Ma_route_54 cl_Ma_95 cl_Ma_95v (c_Ro_add _ E (nI u) (nI s) er hF.2) er.1 rfl rfl rfl ⟨by decide, by decide⟩ ⟨by omega, by omega⟩ (Nat.le_of_ble_eq_true rfl) (fun r_ h_ z_ hp_ => ?_)
          obtain ⟨rfl, k1, k2, rfl⟩ := hp_
          exact j_iret C0 d_Ma_route_57 rfl (by omega) (by omega) ⟨rfl, m.setRo hk k1 (fun q hq => k2 q (by omega)), fun q hq => k2 q (by omega), rfl⟩
        · exact absurd c_39 (by decide)
      · exact absurd c_22 (by decide)
set_option maxHeartbeats 4000000 in
set_option maxRecDepth 100000 in
theorem c_Ma_unroute_bad (l : Launch) (E : jE) {h : jH} {sz b : Nat} {S : maS} (m : isMA E h b S) (p : Int32) (hbad : ¬ (¬ p = 0 ∧ ¬ p < 0 ∧ ¬ 8 ≤ p)) : jC l M_Ma_unroute 2 E [.ref b, .int p] h sz 0 0 (fun r h' sz' => r = some (.int (-501)) ∧ isMA E h' b S ∧ (∀ q, q < b ∨ b + 90 ≤ q → h' q = h q) ∧ sz' = sz) := by
  refine jC.of (by decide) (Nat.le_of_ble_eq_true rfl) ?_
  intro x C0 hx
  subst hx

  refine j_iload_n C0 d_Ma_unroute_0 rfl (by rfl) ?_
  refine j_callS C0 d_Ma_unroute_1 cl_Ma_89 cl_Ma_89v (c_Ma_isForeign _ E _) rfl rfl ⟨by decide, by decide⟩ ⟨by omega, by omega⟩ (Nat.le_of_ble_eq_true rfl) (fun r_ h_ z_ hp_ => ?_)
  obtain ⟨rfl, rfl, rfl⟩ := hp_
  rw [jb_n hbad]
  refine j_if_ne C0 d_Ma_unroute_4 (tgt := 11) (by decide) (fun c_4 => ?_) (fun c_4 => ?_)
  · exact absurd c_4 (by decide)
  · refine j_sipush C0 d_Ma_unroute_7 (v := -501) (by decide) ?_
    exact j_iret C0 d_Ma_unroute_10 rfl (by omega) (by omega) ⟨rfl, m, fun q _ => rfl, rfl⟩
set_option maxHeartbeats 4000000 in
set_option maxRecDepth 100000 in
theorem c_Ma_unroute (l : Launch) (E : jE) {h : jH} {sz b : Nat} {S : maS} (m : isMA E h b S) {k : Nat} (hk : k < 8) (h0 : 0 < k) : jC l M_Ma_unroute 2 E [.ref b, .int (nI k)] h sz 0 0 (fun r h' sz' => r = some (.int (nI (mR S k).1)) ∧ isMA E h' b (S.1, S.2.1, va_up (mR S) k (0, (mR S k).2.1, (mR S k).2.2), S.2.2.2) ∧ (∀ q, q < b ∨ b + 90 ≤ q → h' q = h q) ∧ sz' = sz) := by
  have e0 := m.obj
  obtain ⟨f, e1, hf⟩ := m.ra
  have er := m.ro k hk
  refine jC.of (by decide) (Nat.le_of_ble_eq_true rfl) ?_
  intro x C0 hx
  subst hx

  refine j_iload_n C0 d_Ma_unroute_0 rfl (by rfl) ?_
  refine j_callS C0 d_Ma_unroute_1 cl_Ma_89 cl_Ma_89v (c_Ma_isForeign _ E _) rfl rfl ⟨by decide, by decide⟩ ⟨by omega, by omega⟩ (Nat.le_of_ble_eq_true rfl) (fun r_ h_ z_ hp_ => ?_)
  obtain ⟨rfl, rfl, rfl⟩ := hp_
  rw [jb_y (okF hk h0)]
  refine j_if_ne C0 d_Ma_unroute_4 (tgt := 11) (by decide) (fun c_4 => ?_) (fun c_4 => ?_)
  · refine j_aload_n C0 d_Ma_unroute_11 rfl (by rfl) ?_
    refine j_getf C0 d_Ma_unroute_12 fl_Ma_32 (by (repeat (first | rw [jset_s] | rw [jset_n (by omega)] | rw [reH_0] | rw [reH_1] | rw [reH_2] | rw [reH_n (by omega)])) <;> first | rfl | assumption) (by rfl) ?_
    refine j_iload_n C0 d_Ma_unroute_15 rfl (by rfl) ?_
    refine j_aald C0 d_Ma_unroute_16 (by (repeat (first | rw [jset_s] | rw [jset_n (by omega)] | rw [reH_0] | rw [reH_1] | rw [reH_2] | rw [reH_n (by omega)])) <;> first | rfl | assumption) rfl rfl (by omega) (by decide) (hf k hk) ?_
    refine j_callV C0 d_Ma_unroute_17 cl_Ma_96 cl_Ma_96v (c_Ro_clear _ E er) er.1 rfl rfl rfl ⟨by decide, by decide⟩ ⟨by omega, by omega⟩ (Nat.le_of_ble_eq_true rfl) (fun r_ h_ z_ hp_ => ?_)
    obtain ⟨rfl, k1, k2, rfl⟩ := hp_
    exact j_iret C0 d_Ma_unroute_20 rfl (by omega) (by omega) ⟨rfl, m.setRo hk k1 (fun q hq => k2 q (by omega)), fun q hq => k2 q (by omega), rfl⟩
  · exact absurd c_4 (by decide)
set_option maxHeartbeats 4000000 in
set_option maxRecDepth 100000 in
theorem c_Ma_host_bad (l : Launch) (E : jE) {h : jH} {sz b : Nat} {S : maS} (m : isMA E h b S) (p q : Int32) (hbad : ¬ (¬ p < 0 ∧ ¬ 8 ≤ p) ∨ ¬ (¬ q < 0 ∧ ¬ 3 ≤ q)) : jC l M_Ma_host 2 E [.ref b, .int p, .int q] h sz 0 0 (fun r h' sz' => r = some (.int (-501)) ∧ isMA E h' b S ∧ (∀ q, q < b ∨ b + 90 ≤ q → h' q = h q) ∧ sz' = sz) := by
  refine jC.of (by decide) (Nat.le_of_ble_eq_true rfl) ?_
  intro x C0 hx
  subst hx

  by_cases h1 : ¬ p < 0 ∧ ¬ 8 ≤ p
  · have h2 : ¬ (¬ q < 0 ∧ ¬ 3 ≤ q) := hbad.resolve_left (fun h => h h1)
    refine j_iload_n C0 d_Ma_host_0 rfl (by rfl) ?_
    refine j_bipush C0 d_Ma_host_1 (v := 8) (by decide) ?_
    refine j_callS C0 d_Ma_host_3 cl_Ma_74 cl_Ma_74v (c_Ma_isBelow _ E _ _) rfl rfl ⟨by decide, by decide⟩ ⟨by omega, by omega⟩ (Nat.le_of_ble_eq_true rfl) (fun r_ h_ z_ hp_ => ?_)
    obtain ⟨rfl, rfl, rfl⟩ := hp_
    rw [jb_y h1]
    refine j_if_eq C0 d_Ma_host_6 (tgt := 17) (by decide) (fun c_6 => ?_) (fun c_6 => ?_)
    · exact absurd c_6 (by decide)
    · refine j_iload_n C0 d_Ma_host_9 rfl (by rfl) ?_
      refine j_iconst C0 d_Ma_host_10 (v := 3) (by decide) ?_
      refine j_callS C0 d_Ma_host_11 cl_Ma_74 cl_Ma_74v (c_Ma_isBelow _ E _ _) rfl rfl ⟨by decide, by decide⟩ ⟨by omega, by omega⟩ (Nat.le_of_ble_eq_true rfl) (fun r_ h_ z_ hp_ => ?_)
      obtain ⟨rfl, rfl, rfl⟩ := hp_
      rw [jb_n h2]
      refine j_if_ne C0 d_Ma_host_14 (tgt := 21) (by decide) (fun c_14 => ?_) (fun c_14 => ?_)
      · exact absurd c_14 (by decide)
      · refine j_sipush C0 d_Ma_host_17 (v := -501) (by decide) ?_
        exact j_iret C0 d_Ma_host_20 rfl (by omega) (by omega) ⟨rfl, m, fun q _ => rfl, rfl⟩
  · refine j_iload_n C0 d_Ma_host_0 rfl (by rfl) ?_
    refine j_bipush C0 d_Ma_host_1 (v := 8) (by decide) ?_
    refine j_callS C0 d_Ma_host_3 cl_Ma_74 cl_Ma_74v (c_Ma_isBelow _ E _ _) rfl rfl ⟨by decide, by decide⟩ ⟨by omega, by omega⟩ (Nat.le_of_ble_eq_true rfl) (fun r_ h_ z_ hp_ => ?_)
    obtain ⟨rfl, rfl, rfl⟩ := hp_
    rw [jb_n h1]
    refine j_if_eq C0 d_Ma_host_6 (tgt := 17) (by decide) (fun c_6 => ?_) (fun c_6 => ?_)
    · refine j_sipush C0 d_Ma_host_17 (v := -501) (by decide) ?_
      exact j_iret C0 d_Ma_host_20 rfl (by omega) (by omega) ⟨rfl, m, fun q _ => rfl, rfl⟩
    · exact absurd c_6 (by decide)
set_option maxHeartbeats 4000000 in
set_option maxRecDepth 100000 in
theorem c_Ma_host (l : Launch) (E : jE) {h : jH} {sz b : Nat} {S : maS} (m : isMA E h b S) {k : Nat} (q : Int32) (hk : k < 8) (hq : ¬ q < 0 ∧ ¬ 3 ≤ q) : jC l M_Ma_host 2 E [.ref b, .int (nI k), .int q] h sz 0 0 (fun r h' sz' => r = some (.int (mh S k)) ∧ isMA E h' b (S.1, S.2.1, S.2.2.1, upd (mh S) k q, S.2.2.2.2) ∧ (∀ q, q < b ∨ b + 90 ≤ q → h' q = h q) ∧ sz' = sz) := by
  have e0 := m.obj
  have e1 := m.hs
  refine jC.of (by decide) (Nat.le_of_ble_eq_true rfl) ?_
  intro x C0 hx
  subst hx

  refine j_iload_n C0 d_Ma_host_0 rfl (by rfl) ?_
  refine j_bipush C0 d_Ma_host_1 (v := 8) (by decide) ?_
  refine j_callS C0 d_Ma_host_3 cl_Ma_74 cl_Ma_74v (c_Ma_isBelow _ E _ _) rfl rfl ⟨by decide, by decide⟩ ⟨by omega, by omega⟩ (Nat.le_of_ble_eq_true rfl) (fun r_ h_ z_ hp_ => ?_)
  obtain ⟨rfl, rfl, rfl⟩ := hp_
  rw [jb_y (okR (N := 8) hk (by decide) rfl)]
  refine j_if_eq C0 d_Ma_host_6 (tgt := 17) (by decide) (fun c_6 => ?_) (fun c_6 => ?_)
  · exact absurd c_6 (by decide)
  · refine j_iload_n C0 d_Ma_host_9 rfl (by rfl) ?_
    refine j_iconst C0 d_Ma_host_10 (v := 3) (by decide) ?_
    refine j_callS C0 d_Ma_host_11 cl_Ma_74 cl_Ma_74v (c_Ma_isBelow _ E _ _) rfl rfl ⟨by decide, by decide⟩ ⟨by omega, by omega⟩ (Nat.le_of_ble_eq_true rfl) (fun r_ h_ z_ hp_ => ?_)
    obtain ⟨rfl, rfl, rfl⟩ := hp_
    rw [jb_y hq]
    refine j_if_ne C0 d_Ma_host_14 (tgt := 21) (by decide) (fun c_14 => ?_) (fun c_14 => ?_)
    · refine j_aload_n C0 d_Ma_host_21 rfl (by rfl) ?_
      refine j_getf C0 d_Ma_host_22 fl_Ma_37 (by (repeat (first | rw [jset_s] | rw [jset_n (by omega)] | rw [reH_0] | rw [reH_1] | rw [reH_2] | rw [reH_n (by omega)])) <;> first | rfl | assumption) (by rfl) ?_
      refine j_iload_n C0 d_Ma_host_25 rfl (by rfl) ?_
      refine j_iald C0 d_Ma_host_26 (by (repeat (first | rw [jset_s] | rw [jset_n (by omega)] | rw [reH_0] | rw [reH_1] | rw [reH_2] | rw [reH_n (by omega)])) <;> first | rfl | assumption) rfl (by omega) (by decide) ?_
      refine j_istore_n C0 d_Ma_host_27 rfl (Nat.le_of_ble_eq_true rfl) ?_
      refine j_aload_n C0 d_Ma_host_28 rfl (by rfl) ?_
      refine j_getf C0 d_Ma_host_29 fl_Ma_37 (by (repeat (first | rw [jset_s] | rw [jset_n (by omega)] | rw [reH_0] | rw [reH_1] | rw [reH_2] | rw [reH_n (by omega)])) <;> first | rfl | assumption) (by rfl) ?_
      refine j_iload_n C0 d_Ma_host_32 rfl (by rfl) ?_
      refine j_iload_n C0 d_Ma_host_33 rfl (by rfl) ?_
      refine j_iast C0 d_Ma_host_34 (by (repeat (first | rw [jset_s] | rw [jset_n (by omega)] | rw [reH_0] | rw [reH_1] | rw [reH_2] | rw [reH_n (by omega)])) <;> first | rfl | assumption) rfl (by omega) (by decide) ?_
      refine j_iload_n C0 d_Ma_host_35 rfl (by rfl) ?_
      exact j_iret C0 d_Ma_host_36 rfl (by omega) (by omega) ⟨rfl, m.setHs jset_s (fun q hq => jset_n (by omega)), fun q hq => jset_n (by omega), rfl⟩
    · exact absurd c_14 (by decide)
set_option maxHeartbeats 4000000 in
set_option maxRecDepth 100000 in
theorem c_Ma_from_bad (l : Launch) (E : jE) {h : jH} {sz b : Nat} {S : maS} (m : isMA E h b S) (p : Int32) (hbad : ¬ p = -1 ∧ ¬ (¬ p < 0 ∧ ¬ 64 ≤ p)) : jC l M_Ma_from 2 E [.ref b, .int p] h sz 0 0 (fun r h' sz' => r = some (.int (-501)) ∧ isMA E h' b S ∧ (∀ q, q < b ∨ b + 90 ≤ q → h' q = h q) ∧ sz' = sz) := by
  refine jC.of (by decide) (Nat.le_of_ble_eq_true rfl) ?_
  intro x C0 hx
  subst hx

  refine j_iload_n C0 d_Ma_from_0 rfl (by rfl) ?_
  refine j_iconst C0 d_Ma_from_1 (v := -1) (by decide) ?_
  refine j_icmp_eq C0 d_Ma_from_2 (tgt := 18) (by decide) (fun c_2 => ?_) (fun c_2 => ?_)
  · exact absurd c_2 hbad.1
  · refine j_iload_n C0 d_Ma_from_5 rfl (by rfl) ?_
    refine j_bipush C0 d_Ma_from_6 (v := 64) (by decide) ?_
    refine j_callS C0 d_Ma_from_8 cl_Ma_74 cl_Ma_74v (c_Ma_isBelow _ E _ _) rfl rfl ⟨by decide, by decide⟩ ⟨by omega, by omega⟩ (Nat.le_of_ble_eq_true rfl) (fun r_ h_ z_ hp_ => ?_)
    obtain ⟨rfl, rfl, rfl⟩ := hp_
    rw [jb_n hbad.2]
    refine j_if_ne C0 d_Ma_from_11 (tgt := 18) (by decide) (fun c_11 => ?_) (fun c_11 => ?_)
    · exact absurd c_11 (by decide)
    · refine j_sipush C0 d_Ma_from_14 (v := -501) (by decide) ?_
      exact j_iret C0 d_Ma_from_17 rfl (by omega) (by omega) ⟨rfl, m, fun q _ => rfl, rfl⟩
set_option maxHeartbeats 4000000 in
set_option maxRecDepth 100000 in
theorem c_Ma_from (l : Launch) (E : jE) {h : jH} {sz b : Nat} {S : maS} (m : isMA E h b S) (p : Int32) (hok : p = -1 ∨ (¬ p < 0 ∧ ¬ 64 ≤ p)) : jC l M_Ma_from 2 E [.ref b, .int p] h sz 0 0 (fun r h' sz' => r = some (.int 0) ∧ isMA E h' b (S.1, S.2.1, S.2.2.1, S.2.2.2.1, (1, p, 0, (mT S).2.2.2.1, (mT S).2.2.2.2), S.2.2.2.2.2) ∧ (∀ q, q < b ∨ b + 90 ≤ q → h' q = h q) ∧ sz' = sz) := by
  have e0 := m.obj
  refine jC.of (by decide) (Nat.le_of_ble_eq_true rfl) ?_
  intro x C0 hx
  subst hx

  rcases hok with hok | hok
  · refine j_iload_n C0 d_Ma_from_0 rfl (by rfl) ?_
    refine j_iconst C0 d_Ma_from_1 (v := -1) (by decide) ?_
    refine j_icmp_eq C0 d_Ma_from_2 (tgt := 18) (by decide) (fun c_2 => ?_) (fun c_2 => ?_)
    · refine j_aload_n C0 d_Ma_from_18 rfl (by rfl) ?_
      refine j_getf C0 d_Ma_from_19 fl_Ma_44 (by (repeat (first | rw [jset_s] | rw [jset_n (by omega)] | rw [reH_0] | rw [reH_1] | rw [reH_2] | rw [reH_n (by omega)])) <;> first | rfl | assumption) (by rfl) ?_
      refine j_iload_n C0 d_Ma_from_22 rfl (by rfl) ?_
      refine j_callV C0 d_Ma_from_23 cl_Ma_99 cl_Ma_99v (c_Tr_start _ E p m.tr) m.tr.1 rfl rfl rfl ⟨by decide, by decide⟩ ⟨by omega, by omega⟩ (Nat.le_of_ble_eq_true rfl) (fun r_ h_ z_ hp_ => ?_)
      obtain ⟨rfl, k1, k2, rfl⟩ := hp_
      refine j_iconst C0 d_Ma_from_26 (v := 0) (by decide) ?_
      exact j_iret C0 d_Ma_from_27 rfl (by omega) (by omega) ⟨rfl, m.setTr k1 (fun q hq => k2 q (by omega)), fun q hq => k2 q (by omega), rfl⟩
    · exact absurd hok c_2
  · have hne : ¬ p = -1 := fun e => hok.1 (by rw [e]; decide)
    refine j_iload_n C0 d_Ma_from_0 rfl (by rfl) ?_
    refine j_iconst C0 d_Ma_from_1 (v := -1) (by decide) ?_
    refine j_icmp_eq C0 d_Ma_from_2 (tgt := 18) (by decide) (fun c_2 => ?_) (fun c_2 => ?_)
    · exact absurd c_2 hne
    · refine j_iload_n C0 d_Ma_from_5 rfl (by rfl) ?_
      refine j_bipush C0 d_Ma_from_6 (v := 64) (by decide) ?_
      refine j_callS C0 d_Ma_from_8 cl_Ma_74 cl_Ma_74v (c_Ma_isBelow _ E _ _) rfl rfl ⟨by decide, by decide⟩ ⟨by omega, by omega⟩ (Nat.le_of_ble_eq_true rfl) (fun r_ h_ z_ hp_ => ?_)
      obtain ⟨rfl, rfl, rfl⟩ := hp_
      rw [jb_y hok]
      refine j_if_ne C0 d_Ma_from_11 (tgt := 18) (by decide) (fun c_11 => ?_) (fun c_11 => ?_)
      · refine j_aload_n C0 d_Ma_from_18 rfl (by rfl) ?_
        refine j_getf C0 d_Ma_from_19 fl_Ma_44 (by (repeat (first | rw [jset_s] | rw [jset_n (by omega)] | rw [reH_0] | rw [reH_1] | rw [reH_2] | rw [reH_n (by omega)])) <;> first | rfl | assumption) (by rfl) ?_
        refine j_iload_n C0 d_Ma_from_22 rfl (by rfl) ?_
        refine j_callV C0 d_Ma_from_23 cl_Ma_99 cl_Ma_99v (c_Tr_start _ E p m.tr) m.tr.1 rfl rfl rfl ⟨by decide, by decide⟩ ⟨by omega, by omega⟩ (Nat.le_of_ble_eq_true rfl) (fun r_ h_ z_ hp_ => ?_)
        obtain ⟨rfl, k1, k2, rfl⟩ := hp_
        refine j_iconst C0 d_Ma_from_26 (v := 0) (by decide) ?_
        exact j_iret C0 d_Ma_from_27 rfl (by omega) (by omega) ⟨rfl, m.setTr k1 (fun q hq => k2 q (by omega)), fun q hq => k2 q (by omega), rfl⟩
      · exact absurd c_11 (by decide)
end
section
set_option maxHeartbeats 4000000 in
set_option maxRecDepth 100000 in
theorem c_Ma_drop_no (l : Launch) (E : jE) {h : jH} {sz b : Nat} {S : maS} (m : isMA E h b S) (v : Int32) (hx : sG (fun j => ((mQ S).2 j).1 1) nI (-1) v 0 (mQ S).1 = -1) : jC l M_Ma_drop 5 E [.ref b, .int v] h sz 0 0 (fun r h' sz' => r = some (.int (-550)) ∧ isMA E h' b S ∧ (∀ q, q < b ∨ b + 90 ≤ q → h' q = h q) ∧ sz' = sz) := by
  have e0 := m.obj
  have eq := m.qu.obj
  refine jC.of (by decide) (Nat.le_of_ble_eq_true rfl) ?_
  intro x C0 hx
  subst hx

  refine j_aload_n C0 d_Ma_drop_0 rfl (by rfl) ?_
  refine j_getf C0 d_Ma_drop_1 fl_Ma_51 (by (repeat (first | rw [jset_s] | rw [jset_n (by omega)] | rw [reH_0] | rw [reH_1] | rw [reH_2] | rw [reH_n (by omega)])) <;> first | rfl | assumption) (by rfl) ?_
  refine j_iload_n C0 d_Ma_drop_4 rfl (by rfl) ?_
  refine j_callV C0 d_Ma_drop_5 cl_Ma_190 cl_Ma_190v (c_Qu_indexOf _ E v m.qu) m.qu.obj rfl rfl rfl ⟨by decide, by decide⟩ ⟨by omega, by omega⟩ (Nat.le_of_ble_eq_true rfl) (fun r_ h_ z_ hp_ => ?_)
  obtain ⟨rfl, rfl, rfl⟩ := hp_
  rw [hx]
  refine j_istore_n C0 d_Ma_drop_8 rfl (Nat.le_of_ble_eq_true rfl) ?_
  refine j_iload_n C0 d_Ma_drop_9 rfl (by rfl) ?_
  refine j_if_ge C0 d_Ma_drop_10 (tgt := 17) (by decide) (fun c_10 => ?_) (fun c_10 => ?_)
  · exact absurd c_10 (by decide)
  · refine j_sipush C0 d_Ma_drop_13 (v := -550) (by decide) ?_
    exact j_iret C0 d_Ma_drop_16 rfl (by omega) (by omega) ⟨rfl, m, fun q _ => rfl, rfl⟩
def drS (S : maS) (i : Nat) : maS := kcf (upd (mv S) 12 (mv S 12 + 1), S.2.1, S.2.2.1, S.2.2.2.1, S.2.2.2.2.1, ((mQ S).1 - 1, fun j => (mQ S).2 (rho i (mQ S).1 j)), S.2.2.2.2.2.2)
theorem wb7_rho {qn i : Nat} {Q : Nat → jMsg} (hb : wb7 qn Q) (hi : i < qn) : wb7 (qn - 1) (fun j => Q (rho i qn j)) := fun j hj => hb _ (by unfold rho; (repeat' split) <;> omega)
set_option maxHeartbeats 4000000 in
set_option maxRecDepth 100000 in
theorem c_Ma_drop (l : Launch) (E : jE) {h : jH} {sz b : Nat} {S : maS} (m : isMA E h b S) (v : Int32) {i : Nat} (hx : sG (fun j => ((mQ S).2 j).1 1) nI (-1) v 0 (mQ S).1 = nI i) (hi : i < (mQ S).1) (hb : wb7 (mQ S).1 (mQ S).2) : jC l M_Ma_drop 5 E [.ref b, .int v] h sz 0 0 (fun r h' sz' => r = some (.int 1) ∧ isMA E h' b (drS S i) ∧ (∀ q, q < b ∨ b + 90 ≤ q → h' q = h q) ∧ sz' = sz) := by
  have e0 := m.obj
  have eq := m.qu.obj
  have h6 := m.qu.le
  refine jC.of (by decide) (Nat.le_of_ble_eq_true rfl) ?_
  intro x C0 hx
  subst hx

  refine j_aload_n C0 d_Ma_drop_0 rfl (by rfl) ?_
  refine j_getf C0 d_Ma_drop_1 fl_Ma_51 (by (repeat (first | rw [jset_s] | rw [jset_n (by omega)] | rw [reH_0] | rw [reH_1] | rw [reH_2] | rw [reH_n (by omega)])) <;> first | rfl | assumption) (by rfl) ?_
  refine j_iload_n C0 d_Ma_drop_4 rfl (by rfl) ?_
  refine j_callV C0 d_Ma_drop_5 cl_Ma_190 cl_Ma_190v (c_Qu_indexOf _ E v m.qu) m.qu.obj rfl rfl rfl ⟨by decide, by decide⟩ ⟨by omega, by omega⟩ (Nat.le_of_ble_eq_true rfl) (fun r_ h_ z_ hp_ => ?_)
  obtain ⟨rfl, rfl, rfl⟩ := hp_
  rw [hx]
  refine j_istore_n C0 d_Ma_drop_8 rfl (Nat.le_of_ble_eq_true rfl) ?_
  refine j_iload_n C0 d_Ma_drop_9 rfl (by rfl) ?_
  refine j_if_ge C0 d_Ma_drop_10 (tgt := 17) (by decide) (fun c_10 => ?_) (fun c_10 => ?_)
  · refine j_aload_n C0 d_Ma_drop_17 rfl (by rfl) ?_
    refine j_getf C0 d_Ma_drop_18 fl_Ma_51 (by (repeat (first | rw [jset_s] | rw [jset_n (by omega)] | rw [reH_0] | rw [reH_1] | rw [reH_2] | rw [reH_n (by omega)])) <;> first | rfl | assumption) (by rfl) ?_
    refine j_iload_n C0 d_Ma_drop_21 rfl (by rfl) ?_
    refine j_callV C0 d_Ma_drop_22 cl_Ma_180 cl_Ma_180v (c_Qu_removeAt _ E m.qu hi) m.qu.obj rfl rfl rfl ⟨by decide, by decide⟩ ⟨by omega, by omega⟩ (Nat.le_of_ble_eq_true rfl) (fun r_ h_ z_ hp_ => ?_)
    obtain ⟨rfl, k1, k2, rfl⟩ := hp_
    have m1 := m.setQu k1 (fun q hq => k2 q (by omega))
    have e2 := m1.obj
    refine j_aload_n C0 d_Ma_drop_25 rfl (by rfl) ?_
    refine j_dup C0 d_Ma_drop_26 rfl ?_
    refine j_getf C0 d_Ma_drop_27 fl_Ma_71 (by (repeat (first | rw [jset_s] | rw [jset_n (by omega)] | rw [reH_0] | rw [reH_1] | rw [reH_2] | rw [reH_n (by omega)])) <;> first | rfl | assumption) (by rfl) ?_
    refine j_iconst C0 d_Ma_drop_30 (v := 1) (by decide) ?_
    refine j_iadd C0 d_Ma_drop_31 ?_
    refine j_putf C0 d_Ma_drop_32 fp_Ma_71 (by (repeat (first | rw [jset_s] | rw [jset_n (by omega)] | rw [reH_0] | rw [reH_1] | rw [reH_2] | rw [reH_n (by omega)])) <;> first | rfl | assumption) (Nat.le_of_ble_eq_true rfl) (by rfl) (by rfl) ?_
    have m2 := m1.setV (h' := jset h_ b _) (v := upd (mv S) 12 (mv S 12 + 1)) jset_s (fun q hq => jset_n (by omega))
    refine j_aload_n C0 d_Ma_drop_35 rfl (by rfl) ?_
    refine j_callV C0 d_Ma_drop_36 cl_Ma_183 cl_Ma_183v (c_Ma_keepChangesFew _ E m2 (wb7_rho hb hi)) m2.obj rfl rfl rfl ⟨by decide, by decide⟩ ⟨by omega, by omega⟩ (Nat.le_of_ble_eq_true rfl) (fun r_ h_ z_ hp_ => ?_)
    obtain ⟨rfl, m3, k3, rfl⟩ := hp_
    refine j_iconst C0 d_Ma_drop_39 (v := 1) (by decide) ?_
    exact j_iret C0 d_Ma_drop_40 rfl (by omega) (by omega) ⟨rfl, m3, fun q hq => by rw [k3 q hq, jset_n (by omega)]; exact k2 q (by omega), rfl⟩
  · exact absurd (nI_pos' (by omega)) c_10
set_option maxHeartbeats 4000000 in
set_option maxRecDepth 100000 in
theorem c_Ma_hurry_no (l : Launch) (E : jE) {h : jH} {sz b : Nat} {S : maS} (m : isMA E h b S) (v : Int32) (hx : sG (fun j => ((mQ S).2 j).1 1) nI (-1) v 0 (mQ S).1 = -1) : jC l M_Ma_hurry 5 E [.ref b, .int v] h sz 0 0 (fun r h' sz' => r = some (.int (-550)) ∧ isMA E h' b S ∧ (∀ q, q < b ∨ b + 90 ≤ q → h' q = h q) ∧ sz' = sz) := by
  have e0 := m.obj
  have eq := m.qu.obj
  refine jC.of (by decide) (Nat.le_of_ble_eq_true rfl) ?_
  intro x C0 hx
  subst hx

  refine j_aload_n C0 d_Ma_hurry_0 rfl (by rfl) ?_
  refine j_getf C0 d_Ma_hurry_1 fl_Ma_51 (by (repeat (first | rw [jset_s] | rw [jset_n (by omega)] | rw [reH_0] | rw [reH_1] | rw [reH_2] | rw [reH_n (by omega)])) <;> first | rfl | assumption) (by rfl) ?_
  refine j_iload_n C0 d_Ma_hurry_4 rfl (by rfl) ?_
  refine j_callV C0 d_Ma_hurry_5 cl_Ma_190 cl_Ma_190v (c_Qu_indexOf _ E v m.qu) m.qu.obj rfl rfl rfl ⟨by decide, by decide⟩ ⟨by omega, by omega⟩ (Nat.le_of_ble_eq_true rfl) (fun r_ h_ z_ hp_ => ?_)
  obtain ⟨rfl, rfl, rfl⟩ := hp_
  rw [hx]
  refine j_istore_n C0 d_Ma_hurry_8 rfl (Nat.le_of_ble_eq_true rfl) ?_
  refine j_iload_n C0 d_Ma_hurry_9 rfl (by rfl) ?_
  refine j_if_ge C0 d_Ma_hurry_10 (tgt := 17) (by decide) (fun c_10 => ?_) (fun c_10 => ?_)
  · exact absurd c_10 (by decide)
  · refine j_sipush C0 d_Ma_hurry_13 (v := -550) (by decide) ?_
    exact j_iret C0 d_Ma_hurry_16 rfl (by omega) (by omega) ⟨rfl, m, fun q _ => rfl, rfl⟩
def huM (S : maS) (i : Nat) : jMsg := (upd ((mQ S).2 i).1 5 (mv S 10), ((mQ S).2 i).2)
def huS (S : maS) (i : Nat) : maS := kcf (upd (mv S) 12 (mv S 12 + 1), S.2.1, S.2.2.1, S.2.2.2.1, S.2.2.2.2.1, ((mQ S).1, va_up (mQ S).2 i (huM S i)), S.2.2.2.2.2.2)
theorem wb7_up {qn i : Nat} {Q : Nat → jMsg} {y : jMsg} (hb : wb7 qn Q) (hy : y.1 7 = 0 ∨ y.1 7 = 1) : wb7 qn (va_up Q i y) := fun j hj => by
  by_cases h : j = i
  · subst h; rw [va_up_self]; exact hy
  · rw [va_up_ne _ _ h]; exact hb j hj
set_option maxHeartbeats 4000000 in
set_option maxRecDepth 100000 in
theorem c_Ma_hurry (l : Launch) (E : jE) {h : jH} {sz b : Nat} {S : maS} (m : isMA E h b S) (v : Int32) {i : Nat} (hx : sG (fun j => ((mQ S).2 j).1 1) nI (-1) v 0 (mQ S).1 = nI i) (hi : i < (mQ S).1) (hb : wb7 (mQ S).1 (mQ S).2) : jC l M_Ma_hurry 5 E [.ref b, .int v] h sz 0 0 (fun r h' sz' => r = some (.int 1) ∧ isMA E h' b (huS S i) ∧ (∀ q, q < b ∨ b + 90 ≤ q → h' q = h q) ∧ sz' = sz) := by
  have e0 := m.obj
  have eq := m.qu.obj
  have h6 := m.qu.le
  obtain ⟨f, e1⟩ := m.qu.arr
  obtain ⟨a, ha, ha1, ha2, hme, hup⟩ := m.qu.at e1 (show i < 6 by omega)
  obtain ⟨ea, er⟩ := hme
  refine jC.of (by decide) (Nat.le_of_ble_eq_true rfl) ?_
  intro x C0 hx
  subst hx

  refine j_aload_n C0 d_Ma_hurry_0 rfl (by rfl) ?_
  refine j_getf C0 d_Ma_hurry_1 fl_Ma_51 (by (repeat (first | rw [jset_s] | rw [jset_n (by omega)] | rw [reH_0] | rw [reH_1] | rw [reH_2] | rw [reH_n (by omega)])) <;> first | rfl | assumption) (by rfl) ?_
  refine j_iload_n C0 d_Ma_hurry_4 rfl (by rfl) ?_
  refine j_callV C0 d_Ma_hurry_5 cl_Ma_190 cl_Ma_190v (c_Qu_indexOf _ E v m.qu) m.qu.obj rfl rfl rfl ⟨by decide, by decide⟩ ⟨by omega, by omega⟩ (Nat.le_of_ble_eq_true rfl) (fun r_ h_ z_ hp_ => ?_)
  obtain ⟨rfl, rfl, rfl⟩ := hp_
  rw [hx]
  refine j_istore_n C0 d_Ma_hurry_8 rfl (Nat.le_of_ble_eq_true rfl) ?_
  refine j_iload_n C0 d_Ma_hurry_9 rfl (by rfl) ?_
  refine j_if_ge C0 d_Ma_hurry_10 (tgt := 17) (by decide) (fun c_10 => ?_) (fun c_10 => ?_)
  · refine j_aload_n C0 d_Ma_hurry_17 rfl (by rfl) ?_
    refine j_getf C0 d_Ma_hurry_18 fl_Ma_51 (by (repeat (first | rw [jset_s] | rw [jset_n (by omega)] | rw [reH_0] | rw [reH_1] | rw [reH_2] | rw [reH_n (by omega)])) <;> first | rfl | assumption) (by rfl) ?_
    refine j_getf C0 d_Ma_hurry_21 fl_Ma_161 (by (repeat (first | rw [jset_s] | rw [jset_n (by omega)] | rw [reH_0] | rw [reH_1] | rw [reH_2] | rw [reH_n (by omega)])) <;> first | rfl | assumption) (by rfl) ?_
    refine j_iload_n C0 d_Ma_hurry_24 rfl (by rfl) ?_
    refine j_aald C0 d_Ma_hurry_25 (by (repeat (first | rw [jset_s] | rw [jset_n (by omega)] | rw [reH_0] | rw [reH_1] | rw [reH_2] | rw [reH_n (by omega)])) <;> first | rfl | assumption) rfl rfl (by omega) (by decide) ha ?_
    refine j_aload_n C0 d_Ma_hurry_26 rfl (by rfl) ?_
    refine j_getf C0 d_Ma_hurry_27 fl_Ma_65 (by (repeat (first | rw [jset_s] | rw [jset_n (by omega)] | rw [reH_0] | rw [reH_1] | rw [reH_2] | rw [reH_n (by omega)])) <;> first | rfl | assumption) (by rfl) ?_
    refine j_putf C0 d_Ma_hurry_30 fp_Ma_165 (by (repeat (first | rw [jset_s] | rw [jset_n (by omega)] | rw [reH_0] | rw [reH_1] | rw [reH_2] | rw [reH_n (by omega)])) <;> first | rfl | assumption) (Nat.le_of_ble_eq_true rfl) (by rfl) (by rfl) ?_
    have m1 := m.setQu (hup (jset _ a _) (huM S i) ⟨jset_s, er.keep (fun q h1 h2 => jset_n (by omega))⟩ (fun q hq => jset_n (by omega))) (fun q hq => jset_n (by omega))
    have e2 := m1.obj
    refine j_aload_n C0 d_Ma_hurry_33 rfl (by rfl) ?_
    refine j_dup C0 d_Ma_hurry_34 rfl ?_
    refine j_getf C0 d_Ma_hurry_35 fl_Ma_71 (by (repeat (first | rw [jset_s] | rw [jset_n (by omega)] | rw [reH_0] | rw [reH_1] | rw [reH_2] | rw [reH_n (by omega)])) <;> first | rfl | assumption) (by rfl) ?_
    refine j_iconst C0 d_Ma_hurry_38 (v := 1) (by decide) ?_
    refine j_iadd C0 d_Ma_hurry_39 ?_
    refine j_putf C0 d_Ma_hurry_40 fp_Ma_71 (by (repeat (first | rw [jset_s] | rw [jset_n (by omega)] | rw [reH_0] | rw [reH_1] | rw [reH_2] | rw [reH_n (by omega)])) <;> first | rfl | assumption) (Nat.le_of_ble_eq_true rfl) (by rfl) (by rfl) ?_
    have m2 := m1.setV (h' := jset (jset _ a _) b _) (v := upd (mv S) 12 (mv S 12 + 1)) jset_s (fun q hq => jset_n (by omega))
    refine j_aload_n C0 d_Ma_hurry_43 rfl (by rfl) ?_
    refine j_callV C0 d_Ma_hurry_44 cl_Ma_183 cl_Ma_183v (c_Ma_keepChangesFew _ E m2 (wb7_up hb (hb i hi))) m2.obj rfl rfl rfl ⟨by decide, by decide⟩ ⟨by omega, by omega⟩ (Nat.le_of_ble_eq_true rfl) (fun r_ h_ z_ hp_ => ?_)
    obtain ⟨rfl, m3, k3, rfl⟩ := hp_
    refine j_iconst C0 d_Ma_hurry_47 (v := 1) (by decide) ?_
    exact j_iret C0 d_Ma_hurry_48 rfl (by omega) (by omega) ⟨rfl, m3, fun q hq => by rw [k3 q hq, jset_n (by omega), jset_n (by omega)], rfl⟩
  · exact absurd (nI_pos' (by omega)) c_10
set_option maxHeartbeats 4000000 in
set_option maxRecDepth 100000 in
theorem c_Ma_sender_no (l : Launch) (E : jE) {h : jH} {sz b : Nat} {S : maS} (m : isMA E h b S) (v : Int32) (hx : sG (fun j => ((mQ S).2 j).1 1) nI (-1) v 0 (mQ S).1 = -1) : jC l M_Ma_sender 1 E [.ref b, .int v] h sz 0 0 (fun r h' sz' => r = some (.int (-2)) ∧ isMA E h' b S ∧ (∀ q, q < b ∨ b + 90 ≤ q → h' q = h q) ∧ sz' = sz) := by
  have e0 := m.obj
  have eq := m.qu.obj
  refine jC.of (by decide) (Nat.le_of_ble_eq_true rfl) ?_
  intro x C0 hx
  subst hx

  refine j_aload_n C0 d_Ma_sender_0 rfl (by rfl) ?_
  refine j_getf C0 d_Ma_sender_1 fl_Ma_51 (by (repeat (first | rw [jset_s] | rw [jset_n (by omega)] | rw [reH_0] | rw [reH_1] | rw [reH_2] | rw [reH_n (by omega)])) <;> first | rfl | assumption) (by rfl) ?_
  refine j_iload_n C0 d_Ma_sender_4 rfl (by rfl) ?_
  refine j_callV C0 d_Ma_sender_5 cl_Ma_190 cl_Ma_190v (c_Qu_indexOf _ E v m.qu) m.qu.obj rfl rfl rfl ⟨by decide, by decide⟩ ⟨by omega, by omega⟩ (Nat.le_of_ble_eq_true rfl) (fun r_ h_ z_ hp_ => ?_)
  obtain ⟨rfl, rfl, rfl⟩ := hp_
  rw [hx]
  refine j_istore_n C0 d_Ma_sender_8 rfl (Nat.le_of_ble_eq_true rfl) ?_
  refine j_iload_n C0 d_Ma_sender_9 rfl (by rfl) ?_
  refine j_if_ge C0 d_Ma_sender_10 (tgt := 18) (by decide) (fun c_10 => ?_) (fun c_10 => ?_)
  · exact absurd c_10 (by decide)
  · refine j_bipush C0 d_Ma_sender_13 (v := -2) (by decide) ?_
    refine j_goto C0 d_Ma_sender_15 (tgt := 30) (by decide) ?_
    exact j_iret C0 d_Ma_sender_30 rfl (by omega) (by omega) ⟨rfl, m, fun q _ => rfl, rfl⟩
set_option maxHeartbeats 4000000 in
set_option maxRecDepth 100000 in
theorem c_Ma_sender (l : Launch) (E : jE) {h : jH} {sz b : Nat} {S : maS} (m : isMA E h b S) (v : Int32) {i : Nat} (hx : sG (fun j => ((mQ S).2 j).1 1) nI (-1) v 0 (mQ S).1 = nI i) (hi : i < (mQ S).1) : jC l M_Ma_sender 1 E [.ref b, .int v] h sz 0 0 (fun r h' sz' => r = some (.int (((mQ S).2 i).1 2)) ∧ isMA E h' b S ∧ (∀ q, q < b ∨ b + 90 ≤ q → h' q = h q) ∧ sz' = sz) := by
  have e0 := m.obj
  have eq := m.qu.obj
  have h6 := m.qu.le
  obtain ⟨f, e1⟩ := m.qu.arr
  obtain ⟨a, ha, ha1, ha2, hme, hup⟩ := m.qu.at e1 (show i < 6 by omega)
  obtain ⟨ea, er⟩ := hme
  refine jC.of (by decide) (Nat.le_of_ble_eq_true rfl) ?_
  intro x C0 hx
  subst hx

  refine j_aload_n C0 d_Ma_sender_0 rfl (by rfl) ?_
  refine j_getf C0 d_Ma_sender_1 fl_Ma_51 (by (repeat (first | rw [jset_s] | rw [jset_n (by omega)] | rw [reH_0] | rw [reH_1] | rw [reH_2] | rw [reH_n (by omega)])) <;> first | rfl | assumption) (by rfl) ?_
  refine j_iload_n C0 d_Ma_sender_4 rfl (by rfl) ?_
  refine j_callV C0 d_Ma_sender_5 cl_Ma_190 cl_Ma_190v (c_Qu_indexOf _ E v m.qu) m.qu.obj rfl rfl rfl ⟨by decide, by decide⟩ ⟨by omega, by omega⟩ (Nat.le_of_ble_eq_true rfl) (fun r_ h_ z_ hp_ => ?_)
  obtain ⟨rfl, rfl, rfl⟩ := hp_
  rw [hx]
  refine j_istore_n C0 d_Ma_sender_8 rfl (Nat.le_of_ble_eq_true rfl) ?_
  refine j_iload_n C0 d_Ma_sender_9 rfl (by rfl) ?_
  refine j_if_ge C0 d_Ma_sender_10 (tgt := 18) (by decide) (fun c_10 => ?_) (fun c_10 => ?_)
  · refine j_aload_n C0 d_Ma_sender_18 rfl (by rfl) ?_
    refine j_getf C0 d_Ma_sender_19 fl_Ma_51 (by (repeat (first | rw [jset_s] | rw [jset_n (by omega)] | rw [reH_0] | rw [reH_1] | rw [reH_2] | rw [reH_n (by omega)])) <;> first | rfl | assumption) (by rfl) ?_
    refine j_getf C0 d_Ma_sender_22 fl_Ma_161 (by (repeat (first | rw [jset_s] | rw [jset_n (by omega)] | rw [reH_0] | rw [reH_1] | rw [reH_2] | rw [reH_n (by omega)])) <;> first | rfl | assumption) (by rfl) ?_
    refine j_iload_n C0 d_Ma_sender_25 rfl (by rfl) ?_
    refine j_aald C0 d_Ma_sender_26 (by (repeat (first | rw [jset_s] | rw [jset_n (by omega)] | rw [reH_0] | rw [reH_1] | rw [reH_2] | rw [reH_n (by omega)])) <;> first | rfl | assumption) rfl rfl (by omega) (by decide) ha ?_
    refine j_getf C0 d_Ma_sender_27 fl_Ma_203 (by (repeat (first | rw [jset_s] | rw [jset_n (by omega)] | rw [reH_0] | rw [reH_1] | rw [reH_2] | rw [reH_n (by omega)])) <;> first | rfl | assumption) (by rfl) ?_
    exact j_iret C0 d_Ma_sender_30 rfl (by omega) (by omega) ⟨rfl, m, fun q _ => rfl, rfl⟩
  · exact absurd (nI_pos' (by omega)) c_10
set_option maxHeartbeats 4000000 in
set_option maxRecDepth 100000 in
theorem c_Ma_due_no (l : Launch) (E : jE) {h : jH} {sz b : Nat} {S : maS} (m : isMA E h b S) (v : Int32) (hx : sG (fun j => ((mQ S).2 j).1 1) nI (-1) v 0 (mQ S).1 = -1) : jC l M_Ma_due 1 E [.ref b, .int v] h sz 0 0 (fun r h' sz' => r = some (.int (-1)) ∧ isMA E h' b S ∧ (∀ q, q < b ∨ b + 90 ≤ q → h' q = h q) ∧ sz' = sz) := by
  have e0 := m.obj
  have eq := m.qu.obj
  refine jC.of (by decide) (Nat.le_of_ble_eq_true rfl) ?_
  intro x C0 hx
  subst hx

  refine j_aload_n C0 d_Ma_due_0 rfl (by rfl) ?_
  refine j_getf C0 d_Ma_due_1 fl_Ma_51 (by (repeat (first | rw [jset_s] | rw [jset_n (by omega)] | rw [reH_0] | rw [reH_1] | rw [reH_2] | rw [reH_n (by omega)])) <;> first | rfl | assumption) (by rfl) ?_
  refine j_iload_n C0 d_Ma_due_4 rfl (by rfl) ?_
  refine j_callV C0 d_Ma_due_5 cl_Ma_190 cl_Ma_190v (c_Qu_indexOf _ E v m.qu) m.qu.obj rfl rfl rfl ⟨by decide, by decide⟩ ⟨by omega, by omega⟩ (Nat.le_of_ble_eq_true rfl) (fun r_ h_ z_ hp_ => ?_)
  obtain ⟨rfl, rfl, rfl⟩ := hp_
  rw [hx]
  refine j_istore_n C0 d_Ma_due_8 rfl (Nat.le_of_ble_eq_true rfl) ?_
  refine j_iload_n C0 d_Ma_due_9 rfl (by rfl) ?_
  refine j_if_ge C0 d_Ma_due_10 (tgt := 17) (by decide) (fun c_10 => ?_) (fun c_10 => ?_)
  · exact absurd c_10 (by decide)
  · refine j_iconst C0 d_Ma_due_13 (v := -1) (by decide) ?_
    refine j_goto C0 d_Ma_due_14 (tgt := 29) (by decide) ?_
    exact j_iret C0 d_Ma_due_29 rfl (by omega) (by omega) ⟨rfl, m, fun q _ => rfl, rfl⟩
set_option maxHeartbeats 4000000 in
set_option maxRecDepth 100000 in
theorem c_Ma_due (l : Launch) (E : jE) {h : jH} {sz b : Nat} {S : maS} (m : isMA E h b S) (v : Int32) {i : Nat} (hx : sG (fun j => ((mQ S).2 j).1 1) nI (-1) v 0 (mQ S).1 = nI i) (hi : i < (mQ S).1) : jC l M_Ma_due 1 E [.ref b, .int v] h sz 0 0 (fun r h' sz' => r = some (.int (((mQ S).2 i).1 5)) ∧ isMA E h' b S ∧ (∀ q, q < b ∨ b + 90 ≤ q → h' q = h q) ∧ sz' = sz) := by
  have e0 := m.obj
  have eq := m.qu.obj
  have h6 := m.qu.le
  obtain ⟨f, e1⟩ := m.qu.arr
  obtain ⟨a, ha, ha1, ha2, hme, hup⟩ := m.qu.at e1 (show i < 6 by omega)
  obtain ⟨ea, er⟩ := hme
  refine jC.of (by decide) (Nat.le_of_ble_eq_true rfl) ?_
  intro x C0 hx
  subst hx

  refine j_aload_n C0 d_Ma_due_0 rfl (by rfl) ?_
  refine j_getf C0 d_Ma_due_1 fl_Ma_51 (by (repeat (first | rw [jset_s] | rw [jset_n (by omega)] | rw [reH_0] | rw [reH_1] | rw [reH_2] | rw [reH_n (by omega)])) <;> first | rfl | assumption) (by rfl) ?_
  refine j_iload_n C0 d_Ma_due_4 rfl (by rfl) ?_
  refine j_callV C0 d_Ma_due_5 cl_Ma_190 cl_Ma_190v (c_Qu_indexOf _ E v m.qu) m.qu.obj rfl rfl rfl ⟨by decide, by decide⟩ ⟨by omega, by omega⟩ (Nat.le_of_ble_eq_true rfl) (fun r_ h_ z_ hp_ => ?_)
  obtain ⟨rfl, rfl, rfl⟩ := hp_
  rw [hx]
  refine j_istore_n C0 d_Ma_due_8 rfl (Nat.le_of_ble_eq_true rfl) ?_
  refine j_iload_n C0 d_Ma_due_9 rfl (by rfl) ?_
  refine j_if_ge C0 d_Ma_due_10 (tgt := 17) (by decide) (fun c_10 => ?_) (fun c_10 => ?_)
  · refine j_aload_n C0 d_Ma_due_17 rfl (by rfl) ?_
    refine j_getf C0 d_Ma_due_18 fl_Ma_51 (by (repeat (first | rw [jset_s] | rw [jset_n (by omega)] | rw [reH_0] | rw [reH_1] | rw [reH_2] | rw [reH_n (by omega)])) <;> first | rfl | assumption) (by rfl) ?_
    refine j_getf C0 d_Ma_due_21 fl_Ma_161 (by (repeat (first | rw [jset_s] | rw [jset_n (by omega)] | rw [reH_0] | rw [reH_1] | rw [reH_2] | rw [reH_n (by omega)])) <;> first | rfl | assumption) (by rfl) ?_
    refine j_iload_n C0 d_Ma_due_24 rfl (by rfl) ?_
    refine j_aald C0 d_Ma_due_25 (by (repeat (first | rw [jset_s] | rw [jset_n (by omega)] | rw [reH_0] | rw [reH_1] | rw [reH_2] | rw [reH_n (by omega)])) <;> first | rfl | assumption) rfl rfl (by omega) (by decide) ha ?_
    refine j_getf C0 d_Ma_due_26 fl_Ma_165 (by (repeat (first | rw [jset_s] | rw [jset_n (by omega)] | rw [reH_0] | rw [reH_1] | rw [reH_2] | rw [reH_n (by omega)])) <;> first | rfl | assumption) (by rfl) ?_
    exact j_iret C0 d_Ma_due_29 rfl (by omega) (by omega) ⟨rfl, m, fun q _ => rfl, rfl⟩
  · exact absurd (nI_pos' (by omega)) c_10
set_option maxHeartbeats 4000000 in
set_option maxRecDepth 100000 in
theorem c_Ma_status_no (l : Launch) (E : jE) {h : jH} {sz b : Nat} {S : maS} (m : isMA E h b S) (v : Int32) (hx : sG (fun j => ((mQ S).2 j).1 1) nI (-1) v 0 (mQ S).1 = -1) (w : Int32) : jC l M_Ma_status 1 E [.ref b, .int v, .int w] h sz 0 0 (fun r h' sz' => r = some (.int 0) ∧ isMA E h' b S ∧ (∀ q, q < b ∨ b + 90 ≤ q → h' q = h q) ∧ sz' = sz) := by
  have e0 := m.obj
  have eq := m.qu.obj
  refine jC.of (by decide) (Nat.le_of_ble_eq_true rfl) ?_
  intro x C0 hx
  subst hx

  refine j_aload_n C0 d_Ma_status_0 rfl (by rfl) ?_
  refine j_getf C0 d_Ma_status_1 fl_Ma_51 (by (repeat (first | rw [jset_s] | rw [jset_n (by omega)] | rw [reH_0] | rw [reH_1] | rw [reH_2] | rw [reH_n (by omega)])) <;> first | rfl | assumption) (by rfl) ?_
  refine j_iload_n C0 d_Ma_status_4 rfl (by rfl) ?_
  refine j_callV C0 d_Ma_status_5 cl_Ma_190 cl_Ma_190v (c_Qu_indexOf _ E v m.qu) m.qu.obj rfl rfl rfl ⟨by decide, by decide⟩ ⟨by omega, by omega⟩ (Nat.le_of_ble_eq_true rfl) (fun r_ h_ z_ hp_ => ?_)
  obtain ⟨rfl, rfl, rfl⟩ := hp_
  rw [hx]
  refine j_istore_n C0 d_Ma_status_8 rfl (Nat.le_of_ble_eq_true rfl) ?_
  refine j_iload_n C0 d_Ma_status_9 rfl (by rfl) ?_
  refine j_if_ge C0 d_Ma_status_10 (tgt := 17) (by decide) (fun c_10 => ?_) (fun c_10 => ?_)
  · exact absurd c_10 (by decide)
  · refine j_iconst C0 d_Ma_status_13 (v := 0) (by decide) ?_
    refine j_goto C0 d_Ma_status_14 (tgt := 33) (by decide) ?_
    exact j_iret C0 d_Ma_status_33 rfl (by omega) (by omega) ⟨rfl, m, fun q _ => rfl, rfl⟩
set_option maxHeartbeats 4000000 in
set_option maxRecDepth 100000 in
theorem c_Ma_status (l : Launch) (E : jE) {h : jH} {sz b : Nat} {S : maS} (m : isMA E h b S) (v : Int32) {i : Nat} (hx : sG (fun j => ((mQ S).2 j).1 1) nI (-1) v 0 (mQ S).1 = nI i) (hi : i < (mQ S).1) (w : Int32) : jC l M_Ma_status 1 E [.ref b, .int v, .int w] h sz 0 0 (fun r h' sz' => r = some (.int (sF ((mQ S).2 i).2.2.1 ((mQ S).2 i).2.2.2 w 0 ((mQ S).2 i).2.1)) ∧ isMA E h' b S ∧ (∀ q, q < b ∨ b + 90 ≤ q → h' q = h q) ∧ sz' = sz) := by
  have e0 := m.obj
  have eq := m.qu.obj
  have h6 := m.qu.le
  obtain ⟨f, e1⟩ := m.qu.arr
  obtain ⟨a, ha, ha1, ha2, hme, hup⟩ := m.qu.at e1 (show i < 6 by omega)
  obtain ⟨ea, er⟩ := hme
  refine jC.of (by decide) (Nat.le_of_ble_eq_true rfl) ?_
  intro x C0 hx
  subst hx

  refine j_aload_n C0 d_Ma_status_0 rfl (by rfl) ?_
  refine j_getf C0 d_Ma_status_1 fl_Ma_51 (by (repeat (first | rw [jset_s] | rw [jset_n (by omega)] | rw [reH_0] | rw [reH_1] | rw [reH_2] | rw [reH_n (by omega)])) <;> first | rfl | assumption) (by rfl) ?_
  refine j_iload_n C0 d_Ma_status_4 rfl (by rfl) ?_
  refine j_callV C0 d_Ma_status_5 cl_Ma_190 cl_Ma_190v (c_Qu_indexOf _ E v m.qu) m.qu.obj rfl rfl rfl ⟨by decide, by decide⟩ ⟨by omega, by omega⟩ (Nat.le_of_ble_eq_true rfl) (fun r_ h_ z_ hp_ => ?_)
  obtain ⟨rfl, rfl, rfl⟩ := hp_
  rw [hx]
  refine j_istore_n C0 d_Ma_status_8 rfl (Nat.le_of_ble_eq_true rfl) ?_
  refine j_iload_n C0 d_Ma_status_9 rfl (by rfl) ?_
  refine j_if_ge C0 d_Ma_status_10 (tgt := 17) (by decide) (fun c_10 => ?_) (fun c_10 => ?_)
  · refine j_aload_n C0 d_Ma_status_17 rfl (by rfl) ?_
    refine j_getf C0 d_Ma_status_18 fl_Ma_51 (by (repeat (first | rw [jset_s] | rw [jset_n (by omega)] | rw [reH_0] | rw [reH_1] | rw [reH_2] | rw [reH_n (by omega)])) <;> first | rfl | assumption) (by rfl) ?_
    refine j_getf C0 d_Ma_status_21 fl_Ma_161 (by (repeat (first | rw [jset_s] | rw [jset_n (by omega)] | rw [reH_0] | rw [reH_1] | rw [reH_2] | rw [reH_n (by omega)])) <;> first | rfl | assumption) (by rfl) ?_
    refine j_iload_n C0 d_Ma_status_24 rfl (by rfl) ?_
    refine j_aald C0 d_Ma_status_25 (by (repeat (first | rw [jset_s] | rw [jset_n (by omega)] | rw [reH_0] | rw [reH_1] | rw [reH_2] | rw [reH_n (by omega)])) <;> first | rfl | assumption) rfl rfl (by omega) (by decide) ha ?_
    refine j_getf C0 d_Ma_status_26 fl_Ma_199 (by (repeat (first | rw [jset_s] | rw [jset_n (by omega)] | rw [reH_0] | rw [reH_1] | rw [reH_2] | rw [reH_n (by omega)])) <;> first | rfl | assumption) (by rfl) ?_
    refine j_iload_n C0 d_Ma_status_29 rfl (by rfl) ?_
    refine j_callV C0 d_Ma_status_30 cl_Ma_200 cl_Ma_200v (c_Re_stateOf _ E w er) er.1 rfl rfl rfl ⟨by decide, by decide⟩ ⟨by omega, by omega⟩ (Nat.le_of_ble_eq_true rfl) (fun r_ h_ z_ hp_ => ?_)
    obtain ⟨rfl, rfl, rfl⟩ := hp_
    exact j_iret C0 d_Ma_status_33 rfl (by omega) (by omega) ⟨rfl, m, fun q _ => rfl, rfl⟩
  · exact absurd (nI_pos' (by omega)) c_10
set_option maxHeartbeats 4000000 in
set_option maxRecDepth 100000 in
theorem c_Ma_message_bad (l : Launch) (E : jE) {h : jH} {sz b : Nat} {S : maS} (m : isMA E h b S) (p : Int32) (hbad : ¬ (¬ p < 0 ∧ ¬ nI (mQ S).1 ≤ p)) : jC l M_Ma_message 1 E [.ref b, .int p] h sz 0 0 (fun r h' sz' => r = some (.int 0) ∧ isMA E h' b S ∧ (∀ q, q < b ∨ b + 90 ≤ q → h' q = h q) ∧ sz' = sz) := by
  have e0 := m.obj
  have eq := m.qu.obj
  refine jC.of (by decide) (Nat.le_of_ble_eq_true rfl) ?_
  intro x C0 hx
  subst hx

  refine j_iload_n C0 d_Ma_message_0 rfl (by rfl) ?_
  refine j_aload_n C0 d_Ma_message_1 rfl (by rfl) ?_
  refine j_getf C0 d_Ma_message_2 fl_Ma_51 (by (repeat (first | rw [jset_s] | rw [jset_n (by omega)] | rw [reH_0] | rw [reH_1] | rw [reH_2] | rw [reH_n (by omega)])) <;> first | rfl | assumption) (by rfl) ?_
  refine j_getf C0 d_Ma_message_5 fl_Ma_139 (by (repeat (first | rw [jset_s] | rw [jset_n (by omega)] | rw [reH_0] | rw [reH_1] | rw [reH_2] | rw [reH_n (by omega)])) <;> first | rfl | assumption) (by rfl) ?_
  refine j_callS C0 d_Ma_message_8 cl_Ma_74 cl_Ma_74v (c_Ma_isBelow _ E _ _) rfl rfl ⟨by decide, by decide⟩ ⟨by omega, by omega⟩ (Nat.le_of_ble_eq_true rfl) (fun r_ h_ z_ hp_ => ?_)
  obtain ⟨rfl, rfl, rfl⟩ := hp_
  rw [jb_n hbad]
  refine j_if_eq C0 d_Ma_message_11 (tgt := 29) (by decide) (fun c_11 => ?_) (fun c_11 => ?_)
  · refine j_iconst C0 d_Ma_message_29 (v := 0) (by decide) ?_
    exact j_iret C0 d_Ma_message_30 rfl (by omega) (by omega) ⟨rfl, m, fun q _ => rfl, rfl⟩
  · exact absurd c_11 (by decide)
set_option maxHeartbeats 4000000 in
set_option maxRecDepth 100000 in
theorem c_Ma_message (l : Launch) (E : jE) {h : jH} {sz b : Nat} {S : maS} (m : isMA E h b S) {i : Nat} (hi : i < (mQ S).1) : jC l M_Ma_message 1 E [.ref b, .int (nI i)] h sz 0 0 (fun r h' sz' => r = some (.int (((mQ S).2 i).1 1)) ∧ isMA E h' b S ∧ (∀ q, q < b ∨ b + 90 ≤ q → h' q = h q) ∧ sz' = sz) := by
  have e0 := m.obj
  have eq := m.qu.obj
  have h6 := m.qu.le
  obtain ⟨f, e1⟩ := m.qu.arr
  obtain ⟨a, ha, ha1, ha2, hme, hup⟩ := m.qu.at e1 (show i < 6 by omega)
  obtain ⟨ea, er⟩ := hme
  refine jC.of (by decide) (Nat.le_of_ble_eq_true rfl) ?_
  intro x C0 hx
  subst hx

  refine j_iload_n C0 d_Ma_message_0 rfl (by rfl) ?_
  refine j_aload_n C0 d_Ma_message_1 rfl (by rfl) ?_
  refine j_getf C0 d_Ma_message_2 fl_Ma_51 (by (repeat (first | rw [jset_s] | rw [jset_n (by omega)] | rw [reH_0] | rw [reH_1] | rw [reH_2] | rw [reH_n (by omega)])) <;> first | rfl | assumption) (by rfl) ?_
  refine j_getf C0 d_Ma_message_5 fl_Ma_139 (by (repeat (first | rw [jset_s] | rw [jset_n (by omega)] | rw [reH_0] | rw [reH_1] | rw [reH_2] | rw [reH_n (by omega)])) <;> first | rfl | assumption) (by rfl) ?_
  refine j_callS C0 d_Ma_message_8 cl_Ma_74 cl_Ma_74v (c_Ma_isBelow _ E _ _) rfl rfl ⟨by decide, by decide⟩ ⟨by omega, by omega⟩ (Nat.le_of_ble_eq_true rfl) (fun r_ h_ z_ hp_ => ?_)
  obtain ⟨rfl, rfl, rfl⟩ := hp_
  rw [jb_y (okR hi (by omega) rfl)]
  refine j_if_eq C0 d_Ma_message_11 (tgt := 29) (by decide) (fun c_11 => ?_) (fun c_11 => ?_)
  · exact absurd c_11 (by decide)
  · refine j_aload_n C0 d_Ma_message_14 rfl (by rfl) ?_
    refine j_getf C0 d_Ma_message_15 fl_Ma_51 (by (repeat (first | rw [jset_s] | rw [jset_n (by omega)] | rw [reH_0] | rw [reH_1] | rw [reH_2] | rw [reH_n (by omega)])) <;> first | rfl | assumption) (by rfl) ?_
    refine j_getf C0 d_Ma_message_18 fl_Ma_161 (by (repeat (first | rw [jset_s] | rw [jset_n (by omega)] | rw [reH_0] | rw [reH_1] | rw [reH_2] | rw [reH_n (by omega)])) <;> first | rfl | assumption) (by rfl) ?_
    refine j_iload_n C0 d_Ma_message_21 rfl (by rfl) ?_
    refine j_aald C0 d_Ma_message_22 (by (repeat (first | rw [jset_s] | rw [jset_n (by omega)] | rw [reH_0] | rw [reH_1] | rw [reH_2] | rw [reH_n (by omega)])) <;> first | rfl | assumption) rfl rfl (by omega) (by decide) ha ?_
    refine j_getf C0 d_Ma_message_23 fl_Ma_196 (by (repeat (first | rw [jset_s] | rw [jset_n (by omega)] | rw [reH_0] | rw [reH_1] | rw [reH_2] | rw [reH_n (by omega)])) <;> first | rfl | assumption) (by rfl) ?_
    refine j_goto C0 d_Ma_message_26 (tgt := 30) (by decide) ?_
    exact j_iret C0 d_Ma_message_30 rfl (by omega) (by omega) ⟨rfl, m, fun q _ => rfl, rfl⟩
set_option maxHeartbeats 4000000 in
set_option maxRecDepth 100000 in
theorem c_Ma_count_0 (l : Launch) (E : jE) {h : jH} {sz b : Nat} {S : maS} (m : isMA E h b S) : jC l M_Ma_count 2 E [.ref b, .int 0] h sz 0 0 (fun r h' sz' => r = some (.int (nI (mQ S).1)) ∧ isMA E h' b S ∧ (∀ q, q < b ∨ b + 90 ≤ q → h' q = h q) ∧ sz' = sz) := by
  have e0 := m.obj
  have eq := m.qu.obj
  obtain ⟨t0, t1⟩ := m.tr
  have t2 := t1.1
  refine jC.of (by decide) (Nat.le_of_ble_eq_true rfl) ?_
  intro x C0 hx
  subst hx

  refine j_iload_n C0 d_Ma_count_0 rfl (by rfl) ?_
  refine j_tableIn C0 d_Ma_count_1 (v := 0) (off := 43) (tgt := 44) (by decide) (by decide) (by decide) (by decide) ?_
  refine j_aload_n C0 d_Ma_count_44 rfl (by rfl) ?_
  refine j_getf C0 d_Ma_count_45 fl_Ma_51 (by (repeat (first | rw [jset_s] | rw [jset_n (by omega)] | rw [reH_0] | rw [reH_1] | rw [reH_2] | rw [reH_n (by omega)])) <;> first | rfl | assumption) (by rfl) ?_
  refine j_getf C0 d_Ma_count_48 fl_Ma_139 (by (repeat (first | rw [jset_s] | rw [jset_n (by omega)] | rw [reH_0] | rw [reH_1] | rw [reH_2] | rw [reH_n (by omega)])) <;> first | rfl | assumption) (by rfl) ?_
  exact j_iret C0 d_Ma_count_51 rfl (by omega) (by omega) ⟨rfl, m, fun q _ => rfl, rfl⟩
set_option maxHeartbeats 4000000 in
set_option maxRecDepth 100000 in
theorem c_Ma_count_1 (l : Launch) (E : jE) {h : jH} {sz b : Nat} {S : maS} (m : isMA E h b S) : jC l M_Ma_count 2 E [.ref b, .int 1] h sz 0 0 (fun r h' sz' => r = some (.int (csQ (mQ S).2 (mQ S).1)) ∧ isMA E h' b S ∧ (∀ q, q < b ∨ b + 90 ≤ q → h' q = h q) ∧ sz' = sz) := by
  have e0 := m.obj
  have eq := m.qu.obj
  obtain ⟨t0, t1⟩ := m.tr
  have t2 := t1.1
  refine jC.of (by decide) (Nat.le_of_ble_eq_true rfl) ?_
  intro x C0 hx
  subst hx

  refine j_iload_n C0 d_Ma_count_0 rfl (by rfl) ?_
  refine j_tableIn C0 d_Ma_count_1 (v := 1) (off := 51) (tgt := 52) (by decide) (by decide) (by decide) (by decide) ?_
  refine j_aload_n C0 d_Ma_count_52 rfl (by rfl) ?_
  refine j_getf C0 d_Ma_count_53 fl_Ma_51 (by (repeat (first | rw [jset_s] | rw [jset_n (by omega)] | rw [reH_0] | rw [reH_1] | rw [reH_2] | rw [reH_n (by omega)])) <;> first | rfl | assumption) (by rfl) ?_
  refine j_callV C0 d_Ma_count_56 cl_Ma_140 cl_Ma_140v (c_Qu_costs _ E m.qu) m.qu.obj rfl rfl rfl ⟨by decide, by decide⟩ ⟨by omega, by omega⟩ (Nat.le_of_ble_eq_true rfl) (fun r_ h_ z_ hp_ => ?_)
  obtain ⟨rfl, rfl, rfl⟩ := hp_
  exact j_iret C0 d_Ma_count_59 rfl (by omega) (by omega) ⟨rfl, m, fun q _ => rfl, rfl⟩
set_option maxHeartbeats 4000000 in
set_option maxRecDepth 100000 in
theorem c_Ma_count_2 (l : Launch) (E : jE) {h : jH} {sz b : Nat} {S : maS} (m : isMA E h b S) : jC l M_Ma_count 2 E [.ref b, .int 2] h sz 0 0 (fun r h' sz' => r = some (.int (wtQ (mQ S).2 (mQ S).1)) ∧ isMA E h' b S ∧ (∀ q, q < b ∨ b + 90 ≤ q → h' q = h q) ∧ sz' = sz) := by
  have e0 := m.obj
  have eq := m.qu.obj
  obtain ⟨t0, t1⟩ := m.tr
  have t2 := t1.1
  refine jC.of (by decide) (Nat.le_of_ble_eq_true rfl) ?_
  intro x C0 hx
  subst hx

  refine j_iload_n C0 d_Ma_count_0 rfl (by rfl) ?_
  refine j_tableIn C0 d_Ma_count_1 (v := 2) (off := 59) (tgt := 60) (by decide) (by decide) (by decide) (by decide) ?_
  refine j_aload_n C0 d_Ma_count_60 rfl (by rfl) ?_
  refine j_getf C0 d_Ma_count_61 fl_Ma_51 (by (repeat (first | rw [jset_s] | rw [jset_n (by omega)] | rw [reH_0] | rw [reH_1] | rw [reH_2] | rw [reH_n (by omega)])) <;> first | rfl | assumption) (by rfl) ?_
  refine j_callV C0 d_Ma_count_64 cl_Ma_193 cl_Ma_193v (c_Qu_waitingRecipients _ E m.qu) m.qu.obj rfl rfl rfl ⟨by decide, by decide⟩ ⟨by omega, by omega⟩ (Nat.le_of_ble_eq_true rfl) (fun r_ h_ z_ hp_ => ?_)
  obtain ⟨rfl, rfl, rfl⟩ := hp_
  exact j_iret C0 d_Ma_count_67 rfl (by omega) (by omega) ⟨rfl, m, fun q _ => rfl, rfl⟩
set_option maxHeartbeats 4000000 in
set_option maxRecDepth 100000 in
theorem c_Ma_count_3 (l : Launch) (E : jE) {h : jH} {sz b : Nat} {S : maS} (m : isMA E h b S) : jC l M_Ma_count 2 E [.ref b, .int 3] h sz 0 0 (fun r h' sz' => r = some (.int (mv S 12)) ∧ isMA E h' b S ∧ (∀ q, q < b ∨ b + 90 ≤ q → h' q = h q) ∧ sz' = sz) := by
  have e0 := m.obj
  have eq := m.qu.obj
  obtain ⟨t0, t1⟩ := m.tr
  have t2 := t1.1
  refine jC.of (by decide) (Nat.le_of_ble_eq_true rfl) ?_
  intro x C0 hx
  subst hx

  refine j_iload_n C0 d_Ma_count_0 rfl (by rfl) ?_
  refine j_tableIn C0 d_Ma_count_1 (v := 3) (off := 67) (tgt := 68) (by decide) (by decide) (by decide) (by decide) ?_
  refine j_aload_n C0 d_Ma_count_68 rfl (by rfl) ?_
  refine j_getf C0 d_Ma_count_69 fl_Ma_71 (by (repeat (first | rw [jset_s] | rw [jset_n (by omega)] | rw [reH_0] | rw [reH_1] | rw [reH_2] | rw [reH_n (by omega)])) <;> first | rfl | assumption) (by rfl) ?_
  exact j_iret C0 d_Ma_count_72 rfl (by omega) (by omega) ⟨rfl, m, fun q _ => rfl, rfl⟩
set_option maxHeartbeats 4000000 in
set_option maxRecDepth 100000 in
theorem c_Ma_count_4 (l : Launch) (E : jE) {h : jH} {sz b : Nat} {S : maS} (m : isMA E h b S) : jC l M_Ma_count 2 E [.ref b, .int 4] h sz 0 0 (fun r h' sz' => r = some (.int (mv S 10)) ∧ isMA E h' b S ∧ (∀ q, q < b ∨ b + 90 ≤ q → h' q = h q) ∧ sz' = sz) := by
  have e0 := m.obj
  have eq := m.qu.obj
  obtain ⟨t0, t1⟩ := m.tr
  have t2 := t1.1
  refine jC.of (by decide) (Nat.le_of_ble_eq_true rfl) ?_
  intro x C0 hx
  subst hx

  refine j_iload_n C0 d_Ma_count_0 rfl (by rfl) ?_
  refine j_tableIn C0 d_Ma_count_1 (v := 4) (off := 72) (tgt := 73) (by decide) (by decide) (by decide) (by decide) ?_
  refine j_aload_n C0 d_Ma_count_73 rfl (by rfl) ?_
  refine j_getf C0 d_Ma_count_74 fl_Ma_65 (by (repeat (first | rw [jset_s] | rw [jset_n (by omega)] | rw [reH_0] | rw [reH_1] | rw [reH_2] | rw [reH_n (by omega)])) <;> first | rfl | assumption) (by rfl) ?_
  exact j_iret C0 d_Ma_count_77 rfl (by omega) (by omega) ⟨rfl, m, fun q _ => rfl, rfl⟩
set_option maxHeartbeats 4000000 in
set_option maxRecDepth 100000 in
theorem c_Ma_count_5 (l : Launch) (E : jE) {h : jH} {sz b : Nat} {S : maS} (m : isMA E h b S) : jC l M_Ma_count 2 E [.ref b, .int 5] h sz 0 0 (fun r h' sz' => r = some (.int (mv S 11)) ∧ isMA E h' b S ∧ (∀ q, q < b ∨ b + 90 ≤ q → h' q = h q) ∧ sz' = sz) := by
  have e0 := m.obj
  have eq := m.qu.obj
  obtain ⟨t0, t1⟩ := m.tr
  have t2 := t1.1
  refine jC.of (by decide) (Nat.le_of_ble_eq_true rfl) ?_
  intro x C0 hx
  subst hx

  refine j_iload_n C0 d_Ma_count_0 rfl (by rfl) ?_
  refine j_tableIn C0 d_Ma_count_1 (v := 5) (off := 77) (tgt := 78) (by decide) (by decide) (by decide) (by decide) ?_
  refine j_aload_n C0 d_Ma_count_78 rfl (by rfl) ?_
  refine j_getf C0 d_Ma_count_79 fl_Ma_68 (by (repeat (first | rw [jset_s] | rw [jset_n (by omega)] | rw [reH_0] | rw [reH_1] | rw [reH_2] | rw [reH_n (by omega)])) <;> first | rfl | assumption) (by rfl) ?_
  exact j_iret C0 d_Ma_count_82 rfl (by omega) (by omega) ⟨rfl, m, fun q _ => rfl, rfl⟩
set_option maxHeartbeats 4000000 in
set_option maxRecDepth 100000 in
theorem c_Ma_count_6 (l : Launch) (E : jE) {h : jH} {sz b : Nat} {S : maS} (m : isMA E h b S) : jC l M_Ma_count 2 E [.ref b, .int 6] h sz 0 0 (fun r h' sz' => r = some (.int (if (mT S).1 = 0 then -1 else nI (mT S).2.2.1)) ∧ isMA E h' b S ∧ (∀ q, q < b ∨ b + 90 ≤ q → h' q = h q) ∧ sz' = sz) := by
  have e0 := m.obj
  have eq := m.qu.obj
  obtain ⟨t0, t1⟩ := m.tr
  have t2 := t1.1
  refine jC.of (by decide) (Nat.le_of_ble_eq_true rfl) ?_
  intro x C0 hx
  subst hx

  refine j_iload_n C0 d_Ma_count_0 rfl (by rfl) ?_
  refine j_tableIn C0 d_Ma_count_1 (v := 6) (off := 82) (tgt := 83) (by decide) (by decide) (by decide) (by decide) ?_
  refine j_aload_n C0 d_Ma_count_83 rfl (by rfl) ?_
  refine j_getf C0 d_Ma_count_84 fl_Ma_44 (by (repeat (first | rw [jset_s] | rw [jset_n (by omega)] | rw [reH_0] | rw [reH_1] | rw [reH_2] | rw [reH_n (by omega)])) <;> first | rfl | assumption) (by rfl) ?_
  refine j_getf C0 d_Ma_count_87 fl_Ma_103 (by (repeat (first | rw [jset_s] | rw [jset_n (by omega)] | rw [reH_0] | rw [reH_1] | rw [reH_2] | rw [reH_n (by omega)])) <;> first | rfl | assumption) (by rfl) ?_
  refine j_if_eq C0 d_Ma_count_90 (tgt := 106) (by decide) (fun c_90 => ?_) (fun c_90 => ?_)
  · refine j_iconst C0 d_Ma_count_106 (v := -1) (by decide) ?_
    exact j_iret C0 d_Ma_count_107 rfl (by omega) (by omega) ⟨by simp [c_90], m, fun q _ => rfl, rfl⟩
  · refine j_aload_n C0 d_Ma_count_93 rfl (by rfl) ?_
    refine j_getf C0 d_Ma_count_94 fl_Ma_44 (by (repeat (first | rw [jset_s] | rw [jset_n (by omega)] | rw [reH_0] | rw [reH_1] | rw [reH_2] | rw [reH_n (by omega)])) <;> first | rfl | assumption) (by rfl) ?_
    refine j_getf C0 d_Ma_count_97 fl_Ma_111 (by (repeat (first | rw [jset_s] | rw [jset_n (by omega)] | rw [reH_0] | rw [reH_1] | rw [reH_2] | rw [reH_n (by omega)])) <;> first | rfl | assumption) (by rfl) ?_
    refine j_getf C0 d_Ma_count_100 fl_Ma_129 (by (repeat (first | rw [jset_s] | rw [jset_n (by omega)] | rw [reH_0] | rw [reH_1] | rw [reH_2] | rw [reH_n (by omega)])) <;> first | rfl | assumption) (by rfl) ?_
    refine j_goto C0 d_Ma_count_103 (tgt := 107) (by decide) ?_
    exact j_iret C0 d_Ma_count_107 rfl (by omega) (by omega) ⟨by simp [c_90], m, fun q _ => rfl, rfl⟩
set_option maxHeartbeats 4000000 in
set_option maxRecDepth 100000 in
theorem c_Ma_count_bad (l : Launch) (E : jE) {h : jH} {sz b : Nat} {S : maS} (m : isMA E h b S) (p : Int32) (hp : p.toInt < 0 ∨ 6 < p.toInt) : jC l M_Ma_count 2 E [.ref b, .int p] h sz 0 0 (fun r h' sz' => r = some (.int (-501)) ∧ isMA E h' b S ∧ (∀ q, q < b ∨ b + 90 ≤ q → h' q = h q) ∧ sz' = sz) := by
  refine jC.of (by decide) (Nat.le_of_ble_eq_true rfl) ?_
  intro x C0 hx
  subst hx

  refine j_iload_n C0 d_Ma_count_0 rfl (by rfl) ?_
  refine j_tableOut C0 d_Ma_count_1 hp (tgt := 108) (by decide) ?_
  refine j_sipush C0 d_Ma_count_108 (v := -501) (by decide) ?_
  exact j_iret C0 d_Ma_count_111 rfl (by omega) (by omega) ⟨rfl, m, fun q _ => rfl, rfl⟩
set_option maxHeartbeats 4000000 in
set_option maxRecDepth 100000 in
theorem c_Ma_received_bad (l : Launch) (E : jE) {h : jH} {sz b : Nat} {S : maS} (m : isMA E h b S) (p q : Int32) (hbad : ¬ (¬ p < 0 ∧ ¬ (if q = 3 then 8 else 64) ≤ p)) : jC l M_Ma_received 2 E [.ref b, .int p, .int q] h sz 0 0 (fun r h' sz' => r = some (.int (-501)) ∧ isMA E h' b S ∧ (∀ q, q < b ∨ b + 90 ≤ q → h' q = h q) ∧ sz' = sz) := by
  refine jC.of (by decide) (Nat.le_of_ble_eq_true rfl) ?_
  intro x C0 hx
  subst hx

  refine j_iload_n C0 d_Ma_received_0 rfl (by rfl) ?_
  refine j_iload_n C0 d_Ma_received_1 rfl (by rfl) ?_
  refine j_iconst C0 d_Ma_received_2 (v := 3) (by decide) ?_
  refine j_icmp_ne C0 d_Ma_received_3 (tgt := 11) (by decide) (fun c_3 => ?_) (fun c_3 => ?_)
  · rw [if_neg c_3] at hbad
    refine j_bipush C0 d_Ma_received_11 (v := 64) (by decide) ?_
    refine j_callS C0 d_Ma_received_13 cl_Ma_74 cl_Ma_74v (c_Ma_isBelow _ E _ _) rfl rfl ⟨by decide, by decide⟩ ⟨by omega, by omega⟩ (Nat.le_of_ble_eq_true rfl) (fun r_ h_ z_ hp_ => ?_)
    obtain ⟨rfl, rfl, rfl⟩ := hp_
    rw [jb_n hbad]
    refine j_if_ne C0 d_Ma_received_16 (tgt := 23) (by decide) (fun c_16 => ?_) (fun c_16 => ?_)
    · exact absurd c_16 (by decide)
    · refine j_sipush C0 d_Ma_received_19 (v := -501) (by decide) ?_
      exact j_iret C0 d_Ma_received_22 rfl (by omega) (by omega) ⟨rfl, m, fun q _ => rfl, rfl⟩
  · rw [if_pos c_3] at hbad
    refine j_bipush C0 d_Ma_received_6 (v := 8) (by decide) ?_
    refine j_goto C0 d_Ma_received_8 (tgt := 13) (by decide) ?_
    refine j_callS C0 d_Ma_received_13 cl_Ma_74 cl_Ma_74v (c_Ma_isBelow _ E _ _) rfl rfl ⟨by decide, by decide⟩ ⟨by omega, by omega⟩ (Nat.le_of_ble_eq_true rfl) (fun r_ h_ z_ hp_ => ?_)
    obtain ⟨rfl, rfl, rfl⟩ := hp_
    rw [jb_n hbad]
    refine j_if_ne C0 d_Ma_received_16 (tgt := 23) (by decide) (fun c_16 => ?_) (fun c_16 => ?_)
    · exact absurd c_16 (by decide)
    · refine j_sipush C0 d_Ma_received_19 (v := -501) (by decide) ?_
      exact j_iret C0 d_Ma_received_22 rfl (by omega) (by omega) ⟨rfl, m, fun q _ => rfl, rfl⟩
set_option maxHeartbeats 4000000 in
set_option maxRecDepth 100000 in
theorem c_Ma_received_what (l : Launch) (E : jE) {h : jH} {sz b : Nat} {S : maS} (m : isMA E h b S) {k : Nat} (q : Int32) (hk : k < 64) (hq : q.toInt < 0 ∨ 3 < q.toInt) : jC l M_Ma_received 2 E [.ref b, .int (nI k), .int q] h sz 0 0 (fun r h' sz' => r = some (.int (-501)) ∧ isMA E h' b S ∧ (∀ q, q < b ∨ b + 90 ≤ q → h' q = h q) ∧ sz' = sz) := by
  refine jC.of (by decide) (Nat.le_of_ble_eq_true rfl) ?_
  intro x C0 hx
  subst hx

  refine j_iload_n C0 d_Ma_received_0 rfl (by rfl) ?_
  refine j_iload_n C0 d_Ma_received_1 rfl (by rfl) ?_
  refine j_iconst C0 d_Ma_received_2 (v := 3) (by decide) ?_
  refine j_icmp_ne C0 d_Ma_received_3 (tgt := 11) (by decide) (fun c_3 => ?_) (fun c_3 => ?_)
  · refine j_bipush C0 d_Ma_received_11 (v := 64) (by decide) ?_
    refine j_callS C0 d_Ma_received_13 cl_Ma_74 cl_Ma_74v (c_Ma_isBelow _ E _ _) rfl rfl ⟨by decide, by decide⟩ ⟨by omega, by omega⟩ (Nat.le_of_ble_eq_true rfl) (fun r_ h_ z_ hp_ => ?_)
    obtain ⟨rfl, rfl, rfl⟩ := hp_
    rw [jb_y (okR (N := 64) hk (by decide) rfl)]
    refine j_if_ne C0 d_Ma_received_16 (tgt := 23) (by decide) (fun c_16 => ?_) (fun c_16 => ?_)
    · refine j_iload_n C0 d_Ma_received_23 rfl (by rfl) ?_
      refine j_tableOut C0 d_Ma_received_24 hq (tgt := 96) (by decide) ?_
      refine j_sipush C0 d_Ma_received_96 (v := -501) (by decide) ?_
      exact j_iret C0 d_Ma_received_99 rfl (by omega) (by omega) ⟨rfl, m, fun q _ => rfl, rfl⟩
    · exact absurd c_16 (by decide)
  · exact absurd hq (by rw [c_3]; decide)
set_option maxHeartbeats 4000000 in
set_option maxRecDepth 100000 in
theorem c_Ma_received_0 (l : Launch) (E : jE) {h : jH} {sz b : Nat} {S : maS} (m : isMA E h b S) {k : Nat} (hk : k < 64) : jC l M_Ma_received 2 E [.ref b, .int (nI k), .int 0] h sz 0 0 (fun r h' sz' => r = some (.int ((mL S).1 k)) ∧ isMA E h' b S ∧ (∀ q, q < b ∨ b + 90 ≤ q → h' q = h q) ∧ sz' = sz) := by
  have e0 := m.obj
  obtain ⟨d0, d1, d2, d3, d4⟩ := m.de
  refine jC.of (by decide) (Nat.le_of_ble_eq_true rfl) ?_
  intro x C0 hx
  subst hx

  refine j_iload_n C0 d_Ma_received_0 rfl (by rfl) ?_
  refine j_iload_n C0 d_Ma_received_1 rfl (by rfl) ?_
  refine j_iconst C0 d_Ma_received_2 (v := 3) (by decide) ?_
  refine j_icmp_ne C0 d_Ma_received_3 (tgt := 11) (by decide) (fun c_3 => ?_) (fun c_3 => ?_)
  · refine j_bipush C0 d_Ma_received_11 (v := 64) (by decide) ?_
    refine j_callS C0 d_Ma_received_13 cl_Ma_74 cl_Ma_74v (c_Ma_isBelow _ E _ _) rfl rfl ⟨by decide, by decide⟩ ⟨by omega, by omega⟩ (Nat.le_of_ble_eq_true rfl) (fun r_ h_ z_ hp_ => ?_)
    obtain ⟨rfl, rfl, rfl⟩ := hp_
    rw [jb_y (okR (N := 64) hk (by decide) rfl)]
    refine j_if_ne C0 d_Ma_received_16 (tgt := 23) (by decide) (fun c_16 => ?_) (fun c_16 => ?_)
    · refine j_iload_n C0 d_Ma_received_23 rfl (by rfl) ?_
      refine j_tableIn C0 d_Ma_received_24 (v := 0) (off := 32) (tgt := 56) (by decide) (by decide) (by decide) (by decide) ?_
      refine j_aload_n C0 d_Ma_received_56 rfl (by rfl) ?_
      refine j_getf C0 d_Ma_received_57 fl_Ma_61 (by (repeat (first | rw [jset_s] | rw [jset_n (by omega)] | rw [reH_0] | rw [reH_1] | rw [reH_2] | rw [reH_n (by omega)])) <;> first | rfl | assumption) (by rfl) ?_
      refine j_getf C0 d_Ma_received_60 fl_Ma_206 (by (repeat (first | rw [jset_s] | rw [jset_n (by omega)] | rw [reH_0] | rw [reH_1] | rw [reH_2] | rw [reH_n (by omega)])) <;> first | rfl | assumption) (by rfl) ?_
      refine j_iload_n C0 d_Ma_received_63 rfl (by rfl) ?_
      refine j_iald C0 d_Ma_received_64 (by (repeat (first | rw [jset_s] | rw [jset_n (by omega)] | rw [reH_0] | rw [reH_1] | rw [reH_2] | rw [reH_n (by omega)])) <;> first | rfl | assumption) rfl (by omega) (by decide) ?_
      exact j_iret C0 d_Ma_received_65 rfl (by omega) (by omega) ⟨rfl, m, fun q _ => rfl, rfl⟩
    · exact absurd c_16 (by decide)
  · exact absurd c_3 (by decide)
set_option maxHeartbeats 4000000 in
set_option maxRecDepth 100000 in
theorem c_Ma_received_1 (l : Launch) (E : jE) {h : jH} {sz b : Nat} {S : maS} (m : isMA E h b S) {k : Nat} (hk : k < 64) : jC l M_Ma_received 2 E [.ref b, .int (nI k), .int 1] h sz 0 0 (fun r h' sz' => r = some (.int ((mL S).2.1 k)) ∧ isMA E h' b S ∧ (∀ q, q < b ∨ b + 90 ≤ q → h' q = h q) ∧ sz' = sz) := by
  have e0 := m.obj
  obtain ⟨d0, d1, d2, d3, d4⟩ := m.de
  refine jC.of (by decide) (Nat.le_of_ble_eq_true rfl) ?_
  intro x C0 hx
  subst hx

  refine j_iload_n C0 d_Ma_received_0 rfl (by rfl) ?_
  refine j_iload_n C0 d_Ma_received_1 rfl (by rfl) ?_
  refine j_iconst C0 d_Ma_received_2 (v := 3) (by decide) ?_
  refine j_icmp_ne C0 d_Ma_received_3 (tgt := 11) (by decide) (fun c_3 => ?_) (fun c_3 => ?_)
  · refine j_bipush C0 d_Ma_received_11 (v := 64) (by decide) ?_
    refine j_callS C0 d_Ma_received_13 cl_Ma_74 cl_Ma_74v (c_Ma_isBelow _ E _ _) rfl rfl ⟨by decide, by decide⟩ ⟨by omega, by omega⟩ (Nat.le_of_ble_eq_true rfl) (fun r_ h_ z_ hp_ => ?_)
    obtain ⟨rfl, rfl, rfl⟩ := hp_
    rw [jb_y (okR (N := 64) hk (by decide) rfl)]
    refine j_if_ne C0 d_Ma_received_16 (tgt := 23) (by decide) (fun c_16 => ?_) (fun c_16 => ?_)
    · refine j_iload_n C0 d_Ma_received_23 rfl (by rfl) ?_
      refine j_tableIn C0 d_Ma_received_24 (v := 1) (off := 42) (tgt := 66) (by decide) (by decide) (by decide) (by decide) ?_
      refine j_aload_n C0 d_Ma_received_66 rfl (by rfl) ?_
      refine j_getf C0 d_Ma_received_67 fl_Ma_61 (by (repeat (first | rw [jset_s] | rw [jset_n (by omega)] | rw [reH_0] | rw [reH_1] | rw [reH_2] | rw [reH_n (by omega)])) <;> first | rfl | assumption) (by rfl) ?_
      refine j_getf C0 d_Ma_received_70 fl_Ma_209 (by (repeat (first | rw [jset_s] | rw [jset_n (by omega)] | rw [reH_0] | rw [reH_1] | rw [reH_2] | rw [reH_n (by omega)])) <;> first | rfl | assumption) (by rfl) ?_
      refine j_iload_n C0 d_Ma_received_73 rfl (by rfl) ?_
      refine j_iald C0 d_Ma_received_74 (by (repeat (first | rw [jset_s] | rw [jset_n (by omega)] | rw [reH_0] | rw [reH_1] | rw [reH_2] | rw [reH_n (by omega)])) <;> first | rfl | assumption) rfl (by omega) (by decide) ?_
      exact j_iret C0 d_Ma_received_75 rfl (by omega) (by omega) ⟨rfl, m, fun q _ => rfl, rfl⟩
    · exact absurd c_16 (by decide)
  · exact absurd c_3 (by decide)
set_option maxHeartbeats 4000000 in
set_option maxRecDepth 100000 in
theorem c_Ma_received_2 (l : Launch) (E : jE) {h : jH} {sz b : Nat} {S : maS} (m : isMA E h b S) {k : Nat} (hk : k < 64) : jC l M_Ma_received 2 E [.ref b, .int (nI k), .int 2] h sz 0 0 (fun r h' sz' => r = some (.int ((mL S).2.2.1 k)) ∧ isMA E h' b S ∧ (∀ q, q < b ∨ b + 90 ≤ q → h' q = h q) ∧ sz' = sz) := by
  have e0 := m.obj
  obtain ⟨d0, d1, d2, d3, d4⟩ := m.de
  refine jC.of (by decide) (Nat.le_of_ble_eq_true rfl) ?_
  intro x C0 hx
  subst hx

  refine j_iload_n C0 d_Ma_received_0 rfl (by rfl) ?_
  refine j_iload_n C0 d_Ma_received_1 rfl (by rfl) ?_
  refine j_iconst C0 d_Ma_received_2 (v := 3) (by decide) ?_
  refine j_icmp_ne C0 d_Ma_received_3 (tgt := 11) (by decide) (fun c_3 => ?_) (fun c_3 => ?_)
  · refine j_bipush C0 d_Ma_received_11 (v := 64) (by decide) ?_
    refine j_callS C0 d_Ma_received_13 cl_Ma_74 cl_Ma_74v (c_Ma_isBelow _ E _ _) rfl rfl ⟨by decide, by decide⟩ ⟨by omega, by omega⟩ (Nat.le_of_ble_eq_true rfl) (fun r_ h_ z_ hp_ => ?_)
    obtain ⟨rfl, rfl, rfl⟩ := hp_
    rw [jb_y (okR (N := 64) hk (by decide) rfl)]
    refine j_if_ne C0 d_Ma_received_16 (tgt := 23) (by decide) (fun c_16 => ?_) (fun c_16 => ?_)
    · refine j_iload_n C0 d_Ma_received_23 rfl (by rfl) ?_
      refine j_tableIn C0 d_Ma_received_24 (v := 2) (off := 52) (tgt := 76) (by decide) (by decide) (by decide) (by decide) ?_
      refine j_aload_n C0 d_Ma_received_76 rfl (by rfl) ?_
      refine j_getf C0 d_Ma_received_77 fl_Ma_61 (by (repeat (first | rw [jset_s] | rw [jset_n (by omega)] | rw [reH_0] | rw [reH_1] | rw [reH_2] | rw [reH_n (by omega)])) <;> first | rfl | assumption) (by rfl) ?_
      refine j_getf C0 d_Ma_received_80 fl_Ma_212 (by (repeat (first | rw [jset_s] | rw [jset_n (by omega)] | rw [reH_0] | rw [reH_1] | rw [reH_2] | rw [reH_n (by omega)])) <;> first | rfl | assumption) (by rfl) ?_
      refine j_iload_n C0 d_Ma_received_83 rfl (by rfl) ?_
      refine j_iald C0 d_Ma_received_84 (by (repeat (first | rw [jset_s] | rw [jset_n (by omega)] | rw [reH_0] | rw [reH_1] | rw [reH_2] | rw [reH_n (by omega)])) <;> first | rfl | assumption) rfl (by omega) (by decide) ?_
      exact j_iret C0 d_Ma_received_85 rfl (by omega) (by omega) ⟨rfl, m, fun q _ => rfl, rfl⟩
    · exact absurd c_16 (by decide)
  · exact absurd c_3 (by decide)
set_option maxHeartbeats 4000000 in
set_option maxRecDepth 100000 in
theorem c_Ma_received_3 (l : Launch) (E : jE) {h : jH} {sz b : Nat} {S : maS} (m : isMA E h b S) {k : Nat} (hk : k < 8) : jC l M_Ma_received 2 E [.ref b, .int (nI k), .int 3] h sz 0 0 (fun r h' sz' => r = some (.int ((mL S).2.2.2 k)) ∧ isMA E h' b S ∧ (∀ q, q < b ∨ b + 90 ≤ q → h' q = h q) ∧ sz' = sz) := by
  have e0 := m.obj
  obtain ⟨d0, d1, d2, d3, d4⟩ := m.de
  refine jC.of (by decide) (Nat.le_of_ble_eq_true rfl) ?_
  intro x C0 hx
  subst hx

  refine j_iload_n C0 d_Ma_received_0 rfl (by rfl) ?_
  refine j_iload_n C0 d_Ma_received_1 rfl (by rfl) ?_
  refine j_iconst C0 d_Ma_received_2 (v := 3) (by decide) ?_
  refine j_icmp_ne C0 d_Ma_received_3 (tgt := 11) (by decide) (fun c_3 => ?_) (fun c_3 => ?_)
  · exact absurd c_3 (by decide)
  · refine j_bipush C0 d_Ma_received_6 (v := 8) (by decide) ?_
    refine j_goto C0 d_Ma_received_8 (tgt := 13) (by decide) ?_
    refine j_callS C0 d_Ma_received_13 cl_Ma_74 cl_Ma_74v (c_Ma_isBelow _ E _ _) rfl rfl ⟨by decide, by decide⟩ ⟨by omega, by omega⟩ (Nat.le_of_ble_eq_true rfl) (fun r_ h_ z_ hp_ => ?_)
    obtain ⟨rfl, rfl, rfl⟩ := hp_
    rw [jb_y (okR (N := 8) hk (by decide) rfl)]
    refine j_if_ne C0 d_Ma_received_16 (tgt := 23) (by decide) (fun c_16 => ?_) (fun c_16 => ?_)
    · refine j_iload_n C0 d_Ma_received_23 rfl (by rfl) ?_
      refine j_tableIn C0 d_Ma_received_24 (v := 3) (off := 62) (tgt := 86) (by decide) (by decide) (by decide) (by decide) ?_
      refine j_aload_n C0 d_Ma_received_86 rfl (by rfl) ?_
      refine j_getf C0 d_Ma_received_87 fl_Ma_61 (by (repeat (first | rw [jset_s] | rw [jset_n (by omega)] | rw [reH_0] | rw [reH_1] | rw [reH_2] | rw [reH_n (by omega)])) <;> first | rfl | assumption) (by rfl) ?_
      refine j_getf C0 d_Ma_received_90 fl_Ma_215 (by (repeat (first | rw [jset_s] | rw [jset_n (by omega)] | rw [reH_0] | rw [reH_1] | rw [reH_2] | rw [reH_n (by omega)])) <;> first | rfl | assumption) (by rfl) ?_
      refine j_iload_n C0 d_Ma_received_93 rfl (by rfl) ?_
      refine j_iald C0 d_Ma_received_94 (by (repeat (first | rw [jset_s] | rw [jset_n (by omega)] | rw [reH_0] | rw [reH_1] | rw [reH_2] | rw [reH_n (by omega)])) <;> first | rfl | assumption) rfl (by omega) (by decide) ?_
      exact j_iret C0 d_Ma_received_95 rfl (by omega) (by omega) ⟨rfl, m, fun q _ => rfl, rfl⟩
    · exact absurd c_16 (by decide)
end
section
theorem pp_cP (m : Nat) : ∀ k, pp_c m k = cP (fun i => m.testBit i) k
  | 0 => rfl
  | k + 1 => by
    rw [pp_bit, pp_cP m k]
    show _ = cP _ k + (if m.testBit k then 1 else 0)
    cases m.testBit k <;> rfl
theorem cP_max (P : Nat → Bool) : ∀ k, cP P k ≤ k
  | 0 => Nat.le_refl 0
  | k + 1 => by
    have := cP_max P k
    simp only [cP]
    split <;> omega
abbrev wad (n : Nat) (ad : Nat → Int32) : Prop := ∀ i, i < n → ∃ k, k < 64 ∧ ad i = nI k
abbrev fnl (S : maS) (u : Nat) : Nat := fin8 (mg S) (rOut (mg S) (2 ^ u) 8) 8
abbrev frs (S : maS) (u : Nat) : Nat := fnl S u &&& (bm (mT S).2.2.2.1 (mT S).2.2.1 ^^^ (2 ^ 64 - 1))
def toS (S : maS) (u : Nat) : maS := (S.1, S.2.1, S.2.2.1, S.2.2.2.1, ((mT S).1, (mT S).2.1, (mT S).2.2.1 + cP (fun i => (frs S u).testBit i) 64, aP (fun i => (frs S u).testBit i) (mT S).2.2.1 (mT S).2.2.2.1 nI 64, aP (fun i => (frs S u).testBit i) (mT S).2.2.1 (mT S).2.2.2.2 (fun _ => 1) 64), S.2.2.2.2.2)
set_option maxHeartbeats 4000000 in
set_option maxRecDepth 100000 in
theorem c_Ma_to_bad (l : Launch) (E : jE) {h : jH} {sz b : Nat} {S : maS} (m : isMA E h b S) (p : Int32) (hbad : ¬ (¬ p < 0 ∧ ¬ 64 ≤ p)) : jC l M_Ma_to 2 E [.ref b, .int p] h sz 0 0 (fun r h' sz' => r = some (.int (-501)) ∧ isMA E h' b S ∧ (∀ q, q < b ∨ b + 90 ≤ q → h' q = h q) ∧ sz' = sz) := by
  refine jC.of (by decide) (Nat.le_of_ble_eq_true rfl) ?_
  intro x C0 hx
  subst hx

  refine j_iload_n C0 d_Ma_to_0 rfl (by rfl) ?_
  refine j_bipush C0 d_Ma_to_1 (v := 64) (by decide) ?_
  refine j_callS C0 d_Ma_to_3 cl_Ma_74 cl_Ma_74v (c_Ma_isBelow _ E _ _) rfl rfl ⟨by decide, by decide⟩ ⟨by omega, by omega⟩ (Nat.le_of_ble_eq_true rfl) (fun r_ h_ z_ hp_ => ?_)
  obtain ⟨rfl, rfl, rfl⟩ := hp_
  rw [jb_n hbad]
  refine j_if_ne C0 d_Ma_to_6 (tgt := 13) (by decide) (fun c_6 => ?_) (fun c_6 => ?_)
  · exact absurd c_6 (by decide)
  · refine j_sipush C0 d_Ma_to_9 (v := -501) (by decide) ?_
    exact j_iret C0 d_Ma_to_12 rfl (by omega) (by omega) ⟨rfl, m, fun q _ => rfl, rfl⟩
set_option maxHeartbeats 4000000 in
set_option maxRecDepth 100000 in
theorem c_Ma_to_seq (l : Launch) (E : jE) {h : jH} {sz b : Nat} {S : maS} (m : isMA E h b S) {u : Nat} (hu : u < 64) (hop : (mT S).1 = 0) : jC l M_Ma_to 2 E [.ref b, .int (nI u)] h sz 0 0 (fun r h' sz' => r = some (.int (-503)) ∧ isMA E h' b S ∧ (∀ q, q < b ∨ b + 90 ≤ q → h' q = h q) ∧ sz' = sz) := by
  have e0 := m.obj
  obtain ⟨t0, t1⟩ := m.tr
  have t2 := t1.1
  have ea := m.al.1
  have hg := m.al.2.2
  refine jC.of (by decide) (Nat.le_of_ble_eq_true rfl) ?_
  intro x C0 hx
  subst hx

  refine j_iload_n C0 d_Ma_to_0 rfl (by rfl) ?_
  refine j_bipush C0 d_Ma_to_1 (v := 64) (by decide) ?_
  refine j_callS C0 d_Ma_to_3 cl_Ma_74 cl_Ma_74v (c_Ma_isBelow _ E _ _) rfl rfl ⟨by decide, by decide⟩ ⟨by omega, by omega⟩ (Nat.le_of_ble_eq_true rfl) (fun r_ h_ z_ hp_ => ?_)
  obtain ⟨rfl, rfl, rfl⟩ := hp_
  rw [jb_y (okR (N := 64) hu (by decide) rfl)]
  refine j_if_ne C0 d_Ma_to_6 (tgt := 13) (by decide) (fun c_6 => ?_) (fun c_6 => ?_)
  · refine j_aload_n C0 d_Ma_to_13 rfl (by rfl) ?_
    refine j_getf C0 d_Ma_to_14 fl_Ma_44 (by (repeat (first | rw [jset_s] | rw [jset_n (by omega)] | rw [reH_0] | rw [reH_1] | rw [reH_2] | rw [reH_n (by omega)])) <;> first | rfl | assumption) (by rfl) ?_
    refine j_getf C0 d_Ma_to_17 fl_Ma_103 (by (repeat (first | rw [jset_s] | rw [jset_n (by omega)] | rw [reH_0] | rw [reH_1] | rw [reH_2] | rw [reH_n (by omega)])) <;> first | rfl | assumption) (by rfl) ?_
    refine j_if_ne C0 d_Ma_to_20 (tgt := 27) (by decide) (fun c_20 => ?_) (fun c_20 => ?_)
    · exact absurd hop c_20
    · refine j_sipush C0 d_Ma_to_23 (v := -503) (by decide) ?_
      exact j_iret C0 d_Ma_to_26 rfl (by omega) (by omega) ⟨rfl, m, fun q _ => rfl, rfl⟩
  · exact absurd c_6 (by decide)
set_option maxHeartbeats 4000000 in
set_option maxRecDepth 100000 in
theorem c_Ma_to_unk (l : Launch) (E : jE) {h : jH} {sz b : Nat} {S : maS} (m : isMA E h b S) {u : Nat} (hu : u < 64) (hop : ¬ (mT S).1 = 0) (hz : fnl S u = 0) : jC l M_Ma_to 2 E [.ref b, .int (nI u)] h sz 0 0 (fun r h' sz' => r = some (.int (-550)) ∧ isMA E h' b S ∧ (∀ q, q < b ∨ b + 90 ≤ q → h' q = h q) ∧ sz' = sz) := by
  have e0 := m.obj
  obtain ⟨t0, t1⟩ := m.tr
  have t2 := t1.1
  have ea := m.al.1
  have hg := m.al.2.2
  have hF : fnl S u < 2 ^ 64 := fin8_lt (rOut_lt hg (p64 hu) 8) 8
  refine jC.of (by decide) (Nat.le_of_ble_eq_true rfl) ?_
  intro x C0 hx
  subst hx

  refine j_iload_n C0 d_Ma_to_0 rfl (by rfl) ?_
  refine j_bipush C0 d_Ma_to_1 (v := 64) (by decide) ?_
  refine j_callS C0 d_Ma_to_3 cl_Ma_74 cl_Ma_74v (c_Ma_isBelow _ E _ _) rfl rfl ⟨by decide, by decide⟩ ⟨by omega, by omega⟩ (Nat.le_of_ble_eq_true rfl) (fun r_ h_ z_ hp_ => ?_)
  obtain ⟨rfl, rfl, rfl⟩ := hp_
  rw [jb_y (okR (N := 64) hu (by decide) rfl)]
  refine j_if_ne C0 d_Ma_to_6 (tgt := 13) (by decide) (fun c_6 => ?_) (fun c_6 => ?_)
  · refine j_aload_n C0 d_Ma_to_13 rfl (by rfl) ?_
    refine j_getf C0 d_Ma_to_14 fl_Ma_44 (by (repeat (first | rw [jset_s] | rw [jset_n (by omega)] | rw [reH_0] | rw [reH_1] | rw [reH_2] | rw [reH_n (by omega)])) <;> first | rfl | assumption) (by rfl) ?_
    refine j_getf C0 d_Ma_to_17 fl_Ma_103 (by (repeat (first | rw [jset_s] | rw [jset_n (by omega)] | rw [reH_0] | rw [reH_1] | rw [reH_2] | rw [reH_n (by omega)])) <;> first | rfl | assumption) (by rfl) ?_
    refine j_if_ne C0 d_Ma_to_20 (tgt := 27) (by decide) (fun c_20 => ?_) (fun c_20 => ?_)
    · refine j_aload_n C0 d_Ma_to_27 rfl (by rfl) ?_
      refine j_getf C0 d_Ma_to_28 fl_Ma_26 (by (repeat (first | rw [jset_s] | rw [jset_n (by omega)] | rw [reH_0] | rw [reH_1] | rw [reH_2] | rw [reH_n (by omega)])) <;> first | rfl | assumption) (by rfl) ?_
      refine j_iload_n C0 d_Ma_to_31 rfl (by rfl) ?_
      refine j_callV C0 d_Ma_to_32 cl_Ma_107 cl_Ma_107v (c_Al_finalsOf _ E hu m.al) ea rfl rfl rfl ⟨by decide, by decide⟩ ⟨by omega, by omega⟩ (Nat.le_of_ble_eq_true rfl) (fun r_ h_ z_ hp_ => ?_)
      obtain ⟨rfl, rfl, rfl⟩ := hp_
      refine j_lstore_n C0 d_Ma_to_35 rfl (Nat.le_of_ble_eq_true rfl) ?_
      refine j_lload_n C0 d_Ma_to_36 rfl (by rfl) ?_
      refine j_lconst C0 d_Ma_to_37 (v := 0) (by decide) ?_
      refine j_lcmp C0 d_Ma_to_38 ?_
      refine j_if_ne C0 d_Ma_to_39 (tgt := 46) (by decide) (fun c_39 => ?_) (fun c_39 => ?_)
      · exact absurd (lcmp_z.mpr ((lN_z hF).mpr hz)) c_39
      · refine j_sipush C0 d_Ma_to_42 (v := -550) (by decide) ?_
        exact j_iret C0 d_Ma_to_45 rfl (by omega) (by omega) ⟨rfl, m, fun q _ => rfl, rfl⟩
    · exact absurd c_20 hop
  · exact absurd c_6 (by decide)
set_option maxHeartbeats 4000000 in
set_option maxRecDepth 100000 in
theorem c_Ma_to_full (l : Launch) (E : jE) {h : jH} {sz b : Nat} {S : maS} (m : isMA E h b S) {u : Nat} (hu : u < 64) (hop : ¬ (mT S).1 = 0) (hz : ¬ fnl S u = 0) (hw : wad (mT S).2.2.1 (mT S).2.2.2.1) (hov : 4 < (mT S).2.2.1 + cP (fun i => (frs S u).testBit i) 64) : jC l M_Ma_to 2 E [.ref b, .int (nI u)] h sz 0 0 (fun r h' sz' => r = some (.int (-452)) ∧ isMA E h' b S ∧ (∀ q, q < b ∨ b + 90 ≤ q → h' q = h q) ∧ sz' = sz) := by
  have e0 := m.obj
  obtain ⟨t0, t1⟩ := m.tr
  have t2 := t1.1
  have ea := m.al.1
  have hg := m.al.2.2
  have hF : fnl S u < 2 ^ 64 := fin8_lt (rOut_lt hg (p64 hu) 8) 8
  have hn4 : (mT S).2.2.1 ≤ 4 := t1.2.2.2
  have hbm : bm (mT S).2.2.2.1 (mT S).2.2.1 < 2 ^ 64 := bm_lt _ (fun i hi => by obtain ⟨k, hk, ek⟩ := hw i hi; rw [ek, nI_clamp (by omega)]; exact hk)
  have hA : frs S u < 2 ^ 64 := Nat.lt_of_le_of_lt Nat.and_le_left hF
  have hcm : pp_c (frs S u) 64 = cP (fun i => (frs S u).testBit i) 64 := pp_cP _ 64
  have hc64 := cP_max (fun i => (frs S u).testBit i) 64
  refine jC.of (by decide) (Nat.le_of_ble_eq_true rfl) ?_
  intro x C0 hx
  subst hx

  refine j_iload_n C0 d_Ma_to_0 rfl (by rfl) ?_
  refine j_bipush C0 d_Ma_to_1 (v := 64) (by decide) ?_
  refine j_callS C0 d_Ma_to_3 cl_Ma_74 cl_Ma_74v (c_Ma_isBelow _ E _ _) rfl rfl ⟨by decide, by decide⟩ ⟨by omega, by omega⟩ (Nat.le_of_ble_eq_true rfl) (fun r_ h_ z_ hp_ => ?_)
  obtain ⟨rfl, rfl, rfl⟩ := hp_
  rw [jb_y (okR (N := 64) hu (by decide) rfl)]
  refine j_if_ne C0 d_Ma_to_6 (tgt := 13) (by decide) (fun c_6 => ?_) (fun c_6 => ?_)
  · refine j_aload_n C0 d_Ma_to_13 rfl (by rfl) ?_
    refine j_getf C0 d_Ma_to_14 fl_Ma_44 (by (repeat (first | rw [jset_s] | rw [jset_n (by omega)] | rw [reH_0] | rw [reH_1] | rw [reH_2] | rw [reH_n (by omega)])) <;> first | rfl | assumption) (by rfl) ?_
    refine j_getf C0 d_Ma_to_17 fl_Ma_103 (by (repeat (first | rw [jset_s] | rw [jset_n (by omega)] | rw [reH_0] | rw [reH_1] | rw [reH_2] | rw [reH_n (by omega)])) <;> first | rfl | assumption) (by rfl) ?_
    refine j_if_ne C0 d_Ma_to_20 (tgt := 27) (by decide) (fun c_20 => ?_) (fun c_20 => ?_)
    · refine j_aload_n C0 d_Ma_to_27 rfl (by rfl) ?_
      refine j_getf C0 d_Ma_to_28 fl_Ma_26 (by (repeat (first | rw [jset_s] | rw [jset_n (by omega)] | rw [reH_0] | rw [reH_1] | rw [reH_2] | rw [reH_n (by omega)])) <;> first | rfl | assumption) (by rfl) ?_
      refine j_iload_n C0 d_Ma_to_31 rfl (by rfl) ?_
      refine j_callV C0 d_Ma_to_32 cl_Ma_107 cl_Ma_107v (c_Al_finalsOf _ E hu m.al) ea rfl rfl rfl ⟨by decide, by decide⟩ ⟨by omega, by omega⟩ (Nat.le_of_ble_eq_true rfl) (fun r_ h_ z_ hp_ => ?_)
      obtain ⟨rfl, rfl, rfl⟩ := hp_
      refine j_lstore_n C0 d_Ma_to_35 rfl (Nat.le_of_ble_eq_true rfl) ?_
      refine j_lload_n C0 d_Ma_to_36 rfl (by rfl) ?_
      refine j_lconst C0 d_Ma_to_37 (v := 0) (by decide) ?_
      refine j_lcmp C0 d_Ma_to_38 ?_
      refine j_if_ne C0 d_Ma_to_39 (tgt := 46) (by decide) (fun c_39 => ?_) (fun c_39 => ?_)
      · refine j_lload_n C0 d_Ma_to_46 rfl (by rfl) ?_
        refine j_aload_n C0 d_Ma_to_47 rfl (by rfl) ?_
        refine j_getf C0 d_Ma_to_48 fl_Ma_44 (by (repeat (first | rw [jset_s] | rw [jset_n (by omega)] | rw [reH_0] | rw [reH_1] | rw [reH_2] | rw [reH_n (by omega)])) <;> first | rfl | assumption) (by rfl) ?_
        refine j_getf C0 d_Ma_to_51 fl_Ma_111 (by (repeat (first | rw [jset_s] | rw [jset_n (by omega)] | rw [reH_0] | rw [reH_1] | rw [reH_2] | rw [reH_n (by omega)])) <;> first | rfl | assumption) (by rfl) ?_
        refine j_callV C0 d_Ma_to_54 cl_Ma_115 cl_Ma_115v (c_Re_asBits _ E t1 hw) t2 rfl rfl rfl ⟨by decide, by decide⟩ ⟨by omega, by omega⟩ (Nat.le_of_ble_eq_true rfl) (fun r_ h_ z_ hp_ => ?_)
        obtain ⟨rfl, rfl, rfl⟩ := hp_
        refine j_ldc2 C0 d_Ma_to_57 w_2_65 ?_
        refine j_lxor C0 d_Ma_to_60 ?_
        refine j_land C0 d_Ma_to_61 ?_
        rw [show (-1 : Int64) = lN (2 ^ 64 - 1) from rfl, lN_xor, wb_and hF (x64 hbm)]
        refine j_lstore C0 d_Ma_to_62 (Nat.le_of_ble_eq_true rfl) ?_
        refine j_lload C0 d_Ma_to_64 (by rfl) ?_
        refine j_callS C0 d_Ma_to_66 cl_Ma_123 cl_Ma_123v (c_Lo_bitCount _ E hA) rfl rfl ⟨by decide, by decide⟩ ⟨by omega, by omega⟩ (Nat.le_of_ble_eq_true rfl) (fun r_ h_ z_ hp_ => ?_)
        obtain ⟨rfl, rfl, rfl⟩ := hp_
        refine j_istore C0 d_Ma_to_69 (Nat.le_of_ble_eq_true rfl) ?_
        refine j_aload_n C0 d_Ma_to_71 rfl (by rfl) ?_
        refine j_getf C0 d_Ma_to_72 fl_Ma_44 (by (repeat (first | rw [jset_s] | rw [jset_n (by omega)] | rw [reH_0] | rw [reH_1] | rw [reH_2] | rw [reH_n (by omega)])) <;> first | rfl | assumption) (by rfl) ?_
        refine j_getf C0 d_Ma_to_75 fl_Ma_111 (by (repeat (first | rw [jset_s] | rw [jset_n (by omega)] | rw [reH_0] | rw [reH_1] | rw [reH_2] | rw [reH_n (by omega)])) <;> first | rfl | assumption) (by rfl) ?_
        refine j_getf C0 d_Ma_to_78 fl_Ma_129 (by (repeat (first | rw [jset_s] | rw [jset_n (by omega)] | rw [reH_0] | rw [reH_1] | rw [reH_2] | rw [reH_n (by omega)])) <;> first | rfl | assumption) (by rfl) ?_
        refine j_iload C0 d_Ma_to_81 (by rfl) ?_
        refine j_iadd C0 d_Ma_to_83 ?_
        refine j_iconst C0 d_Ma_to_84 (v := 4) (by decide) ?_
        rw [nI_add, hcm]
        refine j_icmp_le C0 d_Ma_to_85 (tgt := 92) (by decide) (fun c_85 => ?_) (fun c_85 => ?_)
        · exact absurd c_85 (nI_ge (a := 4) hov (by omega))
        · refine j_sipush C0 d_Ma_to_88 (v := -452) (by decide) ?_
          exact j_iret C0 d_Ma_to_91 rfl (by omega) (by omega) ⟨rfl, m, fun q _ => rfl, rfl⟩
      · exact absurd ((lN_z hF).mp (lcmp_z.mp c_39)) hz
    · exact absurd c_20 hop
  · exact absurd c_6 (by decide)
set_option maxHeartbeats 4000000 in
set_option maxRecDepth 100000 in
theorem c_Ma_to (l : Launch) (E : jE) {h : jH} {sz b : Nat} {S : maS} (m : isMA E h b S) {u : Nat} (hu : u < 64) (hop : ¬ (mT S).1 = 0) (hz : ¬ fnl S u = 0) (hw : wad (mT S).2.2.1 (mT S).2.2.2.1) (hov : (mT S).2.2.1 + cP (fun i => (frs S u).testBit i) 64 ≤ 4) : jC l M_Ma_to 2 E [.ref b, .int (nI u)] h sz 0 0 (fun r h' sz' => r = some (.int (nI (cP (fun i => (frs S u).testBit i) 64))) ∧ isMA E h' b (toS S u) ∧ (∀ q, q < b ∨ b + 90 ≤ q → h' q = h q) ∧ sz' = sz) := by
  have e0 := m.obj
  obtain ⟨t0, t1⟩ := m.tr
  have t2 := t1.1
  have ea := m.al.1
  have hg := m.al.2.2
  have hF : fnl S u < 2 ^ 64 := fin8_lt (rOut_lt hg (p64 hu) 8) 8
  have hn4 : (mT S).2.2.1 ≤ 4 := t1.2.2.2
  have hbm : bm (mT S).2.2.2.1 (mT S).2.2.1 < 2 ^ 64 := bm_lt _ (fun i hi => by obtain ⟨k, hk, ek⟩ := hw i hi; rw [ek, nI_clamp (by omega)]; exact hk)
  have hA : frs S u < 2 ^ 64 := Nat.lt_of_le_of_lt Nat.and_le_left hF
  have hcm : pp_c (frs S u) 64 = cP (fun i => (frs S u).testBit i) 64 := pp_cP _ 64
  have hc64 := cP_max (fun i => (frs S u).testBit i) 64
  refine jC.of (by decide) (Nat.le_of_ble_eq_true rfl) ?_
  intro x C0 hx
  subst hx

  refine j_iload_n C0 d_Ma_to_0 rfl (by rfl) ?_
  refine j_bipush C0 d_Ma_to_1 (v := 64) (by decide) ?_
  refine j_callS C0 d_Ma_to_3 cl_Ma_74 cl_Ma_74v (c_Ma_isBelow _ E _ _) rfl rfl ⟨by decide, by decide⟩ ⟨by omega, by omega⟩ (Nat.le_of_ble_eq_true rfl) (fun r_ h_ z_ hp_ => ?_)
  obtain ⟨rfl, rfl, rfl⟩ := hp_
  rw [jb_y (okR (N := 64) hu (by decide) rfl)]
  refine j_if_ne C0 d_Ma_to_6 (tgt := 13) (by decide) (fun c_6 => ?_) (fun c_6 => ?_)
  · refine j_aload_n C0 d_Ma_to_13 rfl (by rfl) ?_
    refine j_getf C0 d_Ma_to_14 fl_Ma_44 (by (repeat (first | rw [jset_s] | rw [jset_n (by omega)] | rw [reH_0] | rw [reH_1] | rw [reH_2] | rw [reH_n (by omega)])) <;> first | rfl | assumption) (by rfl) ?_
    refine j_getf C0 d_Ma_to_17 fl_Ma_103 (by (repeat (first | rw [jset_s] | rw [jset_n (by omega)] | rw [reH_0] | rw [reH_1] | rw [reH_2] | rw [reH_n (by omega)])) <;> first | rfl | assumption) (by rfl) ?_
    refine j_if_ne C0 d_Ma_to_20 (tgt := 27) (by decide) (fun c_20 => ?_) (fun c_20 => ?_)
    · refine j_aload_n C0 d_Ma_to_27 rfl (by rfl) ?_
      refine j_getf C0 d_Ma_to_28 fl_Ma_26 (by (repeat (first | rw [jset_s] | rw [jset_n (by omega)] | rw [reH_0] | rw [reH_1] | rw [reH_2] | rw [reH_n (by omega)])) <;> first | rfl | assumption) (by rfl) ?_
      refine j_iload_n C0 d_Ma_to_31 rfl (by rfl) ?_
      refine j_callV C0 d_Ma_to_32 cl_Ma_107 cl_Ma_107v (c_Al_finalsOf _ E hu m.al) ea rfl rfl rfl ⟨by decide, by decide⟩ ⟨by omega, by omega⟩ (Nat.le_of_ble_eq_true rfl) (fun r_ h_ z_ hp_ => ?_)
      obtain ⟨rfl, rfl, rfl⟩ := hp_
      refine j_lstore_n C0 d_Ma_to_35 rfl (Nat.le_of_ble_eq_true rfl) ?_
      refine j_lload_n C0 d_Ma_to_36 rfl (by rfl) ?_
      refine j_lconst C0 d_Ma_to_37 (v := 0) (by decide) ?_
      refine j_lcmp C0 d_Ma_to_38 ?_
      refine j_if_ne C0 d_Ma_to_39 (tgt := 46) (by decide) (fun c_39 => ?_) (fun c_39 => ?_)
      · refine j_lload_n C0 d_Ma_to_46 rfl (by rfl) ?_
        refine j_aload_n C0 d_Ma_to_47 rfl (by rfl) ?_
        refine j_getf C0 d_Ma_to_48 fl_Ma_44 (by (repeat (first | rw [jset_s] | rw [jset_n (by omega)] | rw [reH_0] | rw [reH_1] | rw [reH_2] | rw [reH_n (by omega)])) <;> first | rfl | assumption) (by rfl) ?_
        refine j_getf C0 d_Ma_to_51 fl_Ma_111 (by (repeat (first | rw [jset_s] | rw [jset_n (by omega)] | rw [reH_0] | rw [reH_1] | rw [reH_2] | rw [reH_n (by omega)])) <;> first | rfl | assumption) (by rfl) ?_
        refine j_callV C0 d_Ma_to_54 cl_Ma_115 cl_Ma_115v (c_Re_asBits _ E t1 hw) t2 rfl rfl rfl ⟨by decide, by decide⟩ ⟨by omega, by omega⟩ (Nat.le_of_ble_eq_true rfl) (fun r_ h_ z_ hp_ => ?_)
        obtain ⟨rfl, rfl, rfl⟩ := hp_
        refine j_ldc2 C0 d_Ma_to_57 w_2_65 ?_
        refine j_lxor C0 d_Ma_to_60 ?_
        refine j_land C0 d_Ma_to_61 ?_
        rw [show (-1 : Int64) = lN (2 ^ 64 - 1) from rfl, lN_xor, wb_and hF (x64 hbm)]
        refine j_lstore C0 d_Ma_to_62 (Nat.le_of_ble_eq_true rfl) ?_
        refine j_lload C0 d_Ma_to_64 (by rfl) ?_
        refine j_callS C0 d_Ma_to_66 cl_Ma_123 cl_Ma_123v (c_Lo_bitCount _ E hA) rfl rfl ⟨by decide, by decide⟩ ⟨by omega, by omega⟩ (Nat.le_of_ble_eq_true rfl) (fun r_ h_ z_ hp_ => ?_)
        obtain ⟨rfl, rfl, rfl⟩ := hp_
        refine j_istore C0 d_Ma_to_69 (Nat.le_of_ble_eq_true rfl) ?_
        refine j_aload_n C0 d_Ma_to_71 rfl (by rfl) ?_
        refine j_getf C0 d_Ma_to_72 fl_Ma_44 (by (repeat (first | rw [jset_s] | rw [jset_n (by omega)] | rw [reH_0] | rw [reH_1] | rw [reH_2] | rw [reH_n (by omega)])) <;> first | rfl | assumption) (by rfl) ?_
        refine j_getf C0 d_Ma_to_75 fl_Ma_111 (by (repeat (first | rw [jset_s] | rw [jset_n (by omega)] | rw [reH_0] | rw [reH_1] | rw [reH_2] | rw [reH_n (by omega)])) <;> first | rfl | assumption) (by rfl) ?_
        refine j_getf C0 d_Ma_to_78 fl_Ma_129 (by (repeat (first | rw [jset_s] | rw [jset_n (by omega)] | rw [reH_0] | rw [reH_1] | rw [reH_2] | rw [reH_n (by omega)])) <;> first | rfl | assumption) (by rfl) ?_
        refine j_iload C0 d_Ma_to_81 (by rfl) ?_
        refine j_iadd C0 d_Ma_to_83 ?_
        refine j_iconst C0 d_Ma_to_84 (v := 4) (by decide) ?_
        rw [nI_add, hcm]
        refine j_icmp_le C0 d_Ma_to_85 (tgt := 92) (by decide) (fun c_85 => ?_) (fun c_85 => ?_)
        · refine j_aload_n C0 d_Ma_to_92 rfl (by rfl) ?_
          refine j_getf C0 d_Ma_to_93 fl_Ma_44 (by (repeat (first | rw [jset_s] | rw [jset_n (by omega)] | rw [reH_0] | rw [reH_1] | rw [reH_2] | rw [reH_n (by omega)])) <;> first | rfl | assumption) (by rfl) ?_
          refine j_getf C0 d_Ma_to_96 fl_Ma_111 (by (repeat (first | rw [jset_s] | rw [jset_n (by omega)] | rw [reH_0] | rw [reH_1] | rw [reH_2] | rw [reH_n (by omega)])) <;> first | rfl | assumption) (by rfl) ?_
          refine j_lload C0 d_Ma_to_99 (by rfl) ?_
          refine j_callV C0 d_Ma_to_101 cl_Ma_132 cl_Ma_132v (c_Re_addRising _ E t1 hA hov) t2 rfl rfl rfl ⟨by decide, by decide⟩ ⟨by omega, by omega⟩ (Nat.le_of_ble_eq_true rfl) (fun r_ h_ z_ hp_ => ?_)
          obtain ⟨rfl, rfl, rfl⟩ := hp_
          refine j_iload C0 d_Ma_to_104 (by rfl) ?_
          exact j_iret C0 d_Ma_to_106 rfl (by omega) (by omega) ⟨rfl, m.setTr (op := (mT S).1) (snd := (mT S).2.1) ⟨by rw [reH_n (by omega)]; exact t0, reH_is hov⟩ (fun q hq => reH_n (by omega)), fun q hq => reH_n (by omega), rfl⟩
        · exact absurd (nI_le (b := 4) hov (by decide)) c_85
      · exact absurd ((lN_z hF).mp (lcmp_z.mp c_39)) hz
    · exact absurd c_20 hop
  · exact absurd c_6 (by decide)
def newA (S : maS) (z : Int32) : jMsg := (upd (upd (upd (upd ((mQ S).2 (mQ S).1).1 1 (mv S 11 + 1)) 2 (mT S).2.1) 3 z) 7 0, (mT S).2.2.1, cp ((mQ S).2 (mQ S).1).2.2.1 (mT S).2.2.2.1 (mT S).2.2.1, cp ((mQ S).2 (mQ S).1).2.2.2 (mT S).2.2.2.2 (mT S).2.2.1)
def newM (S : maS) (z : Int32) : jMsg := (upd (upd (upd (newA S z).1 4 (mv S 10)) 5 (mv S 10)) 6 (mv S 0), (newA S z).2)
theorem wb7_new {qn : Nat} {Q : Nat → jMsg} {y : jMsg} (hb : wb7 qn Q) (hy : y.1 7 = 0 ∨ y.1 7 = 1) : wb7 (qn + 1) (va_up Q qn y) := fun j hj => by
  by_cases h : j = qn
  · subst h; rw [va_up_self]; exact hy
  · rw [va_up_ne _ _ h]; exact hb j (by omega)
def daS (S : maS) (z : Int32) : maS := mkDur (upd (mv S) 11 (mv S 11 + 1), S.2.1, S.2.2.1, S.2.2.2.1, (0, (mT S).2), ((mQ S).1 + 1, va_up (mQ S).2 (mQ S).1 (newM S z)), S.2.2.2.2.2.2)
set_option maxHeartbeats 4000000 in
set_option maxRecDepth 100000 in
theorem c_Ma_data_bad (l : Launch) (E : jE) {h : jH} {sz b : Nat} {S : maS} (m : isMA E h b S) (p : Int32) (hbad : ¬ (¬ p < 0 ∧ ¬ 41 ≤ p)) : jC l M_Ma_data 5 E [.ref b, .int p] h sz 0 0 (fun r h' sz' => r = some (.int (-501)) ∧ isMA E h' b S ∧ (∀ q, q < b ∨ b + 90 ≤ q → h' q = h q) ∧ sz' = sz) := by
  refine jC.of (by decide) (Nat.le_of_ble_eq_true rfl) ?_
  intro x C0 hx
  subst hx

  refine j_iload_n C0 d_Ma_data_0 rfl (by rfl) ?_
  refine j_bipush C0 d_Ma_data_1 (v := 41) (by decide) ?_
  refine j_callS C0 d_Ma_data_3 cl_Ma_74 cl_Ma_74v (c_Ma_isBelow _ E _ _) rfl rfl ⟨by decide, by decide⟩ ⟨by omega, by omega⟩ (Nat.le_of_ble_eq_true rfl) (fun r_ h_ z_ hp_ => ?_)
  obtain ⟨rfl, rfl, rfl⟩ := hp_
  rw [jb_n hbad]
  refine j_if_ne C0 d_Ma_data_6 (tgt := 13) (by decide) (fun c_6 => ?_) (fun c_6 => ?_)
  · exact absurd c_6 (by decide)
  · refine j_sipush C0 d_Ma_data_9 (v := -501) (by decide) ?_
    exact j_iret C0 d_Ma_data_12 rfl (by omega) (by omega) ⟨rfl, m, fun q _ => rfl, rfl⟩
set_option maxHeartbeats 4000000 in
set_option maxRecDepth 100000 in
theorem c_Ma_data_seq (l : Launch) (E : jE) {h : jH} {sz b : Nat} {S : maS} (m : isMA E h b S) (z : Int32) (hz : ¬ z < 0 ∧ ¬ 41 ≤ z) (hop : (mT S).1 = 0 ∨ (mT S).2.2.1 = 0) : jC l M_Ma_data 5 E [.ref b, .int z] h sz 0 0 (fun r h' sz' => r = some (.int (-503)) ∧ isMA E h' b S ∧ (∀ q, q < b ∨ b + 90 ≤ q → h' q = h q) ∧ sz' = sz) := by
  have e0 := m.obj
  obtain ⟨t0, t1⟩ := m.tr
  have t2 := t1.1
  have eq := m.qu.obj
  have h6 := m.qu.le
  have hn4 : (mT S).2.2.1 ≤ 4 := t1.2.2.2
  refine jC.of (by decide) (Nat.le_of_ble_eq_true rfl) ?_
  intro x C0 hx
  subst hx

  refine j_iload_n C0 d_Ma_data_0 rfl (by rfl) ?_
  refine j_bipush C0 d_Ma_data_1 (v := 41) (by decide) ?_
  refine j_callS C0 d_Ma_data_3 cl_Ma_74 cl_Ma_74v (c_Ma_isBelow _ E _ _) rfl rfl ⟨by decide, by decide⟩ ⟨by omega, by omega⟩ (Nat.le_of_ble_eq_true rfl) (fun r_ h_ z_ hp_ => ?_)
  obtain ⟨rfl, rfl, rfl⟩ := hp_
  rw [jb_y hz]
  refine j_if_ne C0 d_Ma_data_6 (tgt := 13) (by decide) (fun c_6 => ?_) (fun c_6 => ?_)
  · refine j_aload_n C0 d_Ma_data_13 rfl (by rfl) ?_
    refine j_getf C0 d_Ma_data_14 fl_Ma_44 (by (repeat (first | rw [jset_s] | rw [jset_n (by omega)] | rw [reH_0] | rw [reH_1] | rw [reH_2] | rw [reH_n (by omega)])) <;> first | rfl | assumption) (by rfl) ?_
    refine j_getf C0 d_Ma_data_17 fl_Ma_103 (by (repeat (first | rw [jset_s] | rw [jset_n (by omega)] | rw [reH_0] | rw [reH_1] | rw [reH_2] | rw [reH_n (by omega)])) <;> first | rfl | assumption) (by rfl) ?_
    refine j_if_eq C0 d_Ma_data_20 (tgt := 36) (by decide) (fun c_20 => ?_) (fun c_20 => ?_)
    · refine j_sipush C0 d_Ma_data_36 (v := -503) (by decide) ?_
      exact j_iret C0 d_Ma_data_39 rfl (by omega) (by omega) ⟨rfl, m, fun q _ => rfl, rfl⟩
    · refine j_aload_n C0 d_Ma_data_23 rfl (by rfl) ?_
      refine j_getf C0 d_Ma_data_24 fl_Ma_44 (by (repeat (first | rw [jset_s] | rw [jset_n (by omega)] | rw [reH_0] | rw [reH_1] | rw [reH_2] | rw [reH_n (by omega)])) <;> first | rfl | assumption) (by rfl) ?_
      refine j_getf C0 d_Ma_data_27 fl_Ma_111 (by (repeat (first | rw [jset_s] | rw [jset_n (by omega)] | rw [reH_0] | rw [reH_1] | rw [reH_2] | rw [reH_n (by omega)])) <;> first | rfl | assumption) (by rfl) ?_
      refine j_getf C0 d_Ma_data_30 fl_Ma_129 (by (repeat (first | rw [jset_s] | rw [jset_n (by omega)] | rw [reH_0] | rw [reH_1] | rw [reH_2] | rw [reH_n (by omega)])) <;> first | rfl | assumption) (by rfl) ?_
      refine j_if_ne C0 d_Ma_data_33 (tgt := 40) (by decide) (fun c_33 => ?_) (fun c_33 => ?_)
      · exact absurd (congrArg nI (hop.resolve_left c_20)) c_33
      · refine j_sipush C0 d_Ma_data_36 (v := -503) (by decide) ?_
        exact j_iret C0 d_Ma_data_39 rfl (by omega) (by omega) ⟨rfl, m, fun q _ => rfl, rfl⟩
  · exact absurd c_6 (by decide)
set_option maxHeartbeats 4000000 in
set_option maxRecDepth 100000 in
theorem c_Ma_data_full (l : Launch) (E : jE) {h : jH} {sz b : Nat} {S : maS} (m : isMA E h b S) (z : Int32) (hz : ¬ z < 0 ∧ ¬ 41 ≤ z) (hop : ¬ (mT S).1 = 0) (hn0 : 0 < (mT S).2.2.1) (hfl : 6 ≤ (mQ S).1 ∨ ¬ csQ (mQ S).2 (mQ S).1 + (z + nI (mT S).2.2.1 + 1) ≤ 60) : jC l M_Ma_data 5 E [.ref b, .int z] h sz 0 0 (fun r h' sz' => r = some (.int (-452)) ∧ isMA E h' b S ∧ (∀ q, q < b ∨ b + 90 ≤ q → h' q = h q) ∧ sz' = sz) := by
  have e0 := m.obj
  obtain ⟨t0, t1⟩ := m.tr
  have t2 := t1.1
  have eq := m.qu.obj
  have h6 := m.qu.le
  have hn4 : (mT S).2.2.1 ≤ 4 := t1.2.2.2
  refine jC.of (by decide) (Nat.le_of_ble_eq_true rfl) ?_
  intro x C0 hx
  subst hx

  refine j_iload_n C0 d_Ma_data_0 rfl (by rfl) ?_
  refine j_bipush C0 d_Ma_data_1 (v := 41) (by decide) ?_
  refine j_callS C0 d_Ma_data_3 cl_Ma_74 cl_Ma_74v (c_Ma_isBelow _ E _ _) rfl rfl ⟨by decide, by decide⟩ ⟨by omega, by omega⟩ (Nat.le_of_ble_eq_true rfl) (fun r_ h_ z_ hp_ => ?_)
  obtain ⟨rfl, rfl, rfl⟩ := hp_
  rw [jb_y hz]
  refine j_if_ne C0 d_Ma_data_6 (tgt := 13) (by decide) (fun c_6 => ?_) (fun c_6 => ?_)
  · refine j_aload_n C0 d_Ma_data_13 rfl (by rfl) ?_
    refine j_getf C0 d_Ma_data_14 fl_Ma_44 (by (repeat (first | rw [jset_s] | rw [jset_n (by omega)] | rw [reH_0] | rw [reH_1] | rw [reH_2] | rw [reH_n (by omega)])) <;> first | rfl | assumption) (by rfl) ?_
    refine j_getf C0 d_Ma_data_17 fl_Ma_103 (by (repeat (first | rw [jset_s] | rw [jset_n (by omega)] | rw [reH_0] | rw [reH_1] | rw [reH_2] | rw [reH_n (by omega)])) <;> first | rfl | assumption) (by rfl) ?_
    refine j_if_eq C0 d_Ma_data_20 (tgt := 36) (by decide) (fun c_20 => ?_) (fun c_20 => ?_)
    · exact absurd c_20 hop
    · refine j_aload_n C0 d_Ma_data_23 rfl (by rfl) ?_
      refine j_getf C0 d_Ma_data_24 fl_Ma_44 (by (repeat (first | rw [jset_s] | rw [jset_n (by omega)] | rw [reH_0] | rw [reH_1] | rw [reH_2] | rw [reH_n (by omega)])) <;> first | rfl | assumption) (by rfl) ?_
      refine j_getf C0 d_Ma_data_27 fl_Ma_111 (by (repeat (first | rw [jset_s] | rw [jset_n (by omega)] | rw [reH_0] | rw [reH_1] | rw [reH_2] | rw [reH_n (by omega)])) <;> first | rfl | assumption) (by rfl) ?_
      refine j_getf C0 d_Ma_data_30 fl_Ma_129 (by (repeat (first | rw [jset_s] | rw [jset_n (by omega)] | rw [reH_0] | rw [reH_1] | rw [reH_2] | rw [reH_n (by omega)])) <;> first | rfl | assumption) (by rfl) ?_
      refine j_if_ne C0 d_Ma_data_33 (tgt := 40) (by decide) (fun c_33 => ?_) (fun c_33 => ?_)
      · refine j_iload_n C0 d_Ma_data_40 rfl (by rfl) ?_
        refine j_aload_n C0 d_Ma_data_41 rfl (by rfl) ?_
        refine j_getf C0 d_Ma_data_42 fl_Ma_44 (by (repeat (first | rw [jset_s] | rw [jset_n (by omega)] | rw [reH_0] | rw [reH_1] | rw [reH_2] | rw [reH_n (by omega)])) <;> first | rfl | assumption) (by rfl) ?_
        refine j_getf C0 d_Ma_data_45 fl_Ma_111 (by (repeat (first | rw [jset_s] | rw [jset_n (by omega)] | rw [reH_0] | rw [reH_1] | rw [reH_2] | rw [reH_n (by omega)])) <;> first | rfl | assumption) (by rfl) ?_
        refine j_getf C0 d_Ma_data_48 fl_Ma_129 (by (repeat (first | rw [jset_s] | rw [jset_n (by omega)] | rw [reH_0] | rw [reH_1] | rw [reH_2] | rw [reH_n (by omega)])) <;> first | rfl | assumption) (by rfl) ?_
        refine j_callS C0 d_Ma_data_51 cl_Ma_136 cl_Ma_136v (c_Ma_costOf _ E _ _) rfl rfl ⟨by decide, by decide⟩ ⟨by omega, by omega⟩ (Nat.le_of_ble_eq_true rfl) (fun r_ h_ z_ hp_ => ?_)
        obtain ⟨rfl, rfl, rfl⟩ := hp_
        refine j_istore_n C0 d_Ma_data_54 rfl (Nat.le_of_ble_eq_true rfl) ?_
        refine j_aload_n C0 d_Ma_data_55 rfl (by rfl) ?_
        refine j_getf C0 d_Ma_data_56 fl_Ma_51 (by (repeat (first | rw [jset_s] | rw [jset_n (by omega)] | rw [reH_0] | rw [reH_1] | rw [reH_2] | rw [reH_n (by omega)])) <;> first | rfl | assumption) (by rfl) ?_
        refine j_getf C0 d_Ma_data_59 fl_Ma_139 (by (repeat (first | rw [jset_s] | rw [jset_n (by omega)] | rw [reH_0] | rw [reH_1] | rw [reH_2] | rw [reH_n (by omega)])) <;> first | rfl | assumption) (by rfl) ?_
        refine j_bipush C0 d_Ma_data_62 (v := 6) (by decide) ?_
        refine j_icmp_ge C0 d_Ma_data_64 (tgt := 81) (by decide) (fun c_64 => ?_) (fun c_64 => ?_)
        · refine j_sipush C0 d_Ma_data_81 (v := -452) (by decide) ?_
          exact j_iret C0 d_Ma_data_84 rfl (by omega) (by omega) ⟨rfl, m, fun q _ => rfl, rfl⟩
        · have hl : ¬ 6 ≤ (mQ S).1 := fun hh => c_64 (nI_le (a := 6) hh (by omega))
          refine j_aload_n C0 d_Ma_data_67 rfl (by rfl) ?_
          refine j_getf C0 d_Ma_data_68 fl_Ma_51 (by (repeat (first | rw [jset_s] | rw [jset_n (by omega)] | rw [reH_0] | rw [reH_1] | rw [reH_2] | rw [reH_n (by omega)])) <;> first | rfl | assumption) (by rfl) ?_
          refine j_callV C0 d_Ma_data_71 cl_Ma_140 cl_Ma_140v (c_Qu_costs _ E m.qu) eq rfl rfl rfl ⟨by decide, by decide⟩ ⟨by omega, by omega⟩ (Nat.le_of_ble_eq_true rfl) (fun r_ h_ z_ hp_ => ?_)
          obtain ⟨rfl, rfl, rfl⟩ := hp_
          refine j_iload_n C0 d_Ma_data_74 rfl (by rfl) ?_
          refine j_iadd C0 d_Ma_data_75 ?_
          refine j_bipush C0 d_Ma_data_76 (v := 60) (by decide) ?_
          refine j_icmp_le C0 d_Ma_data_78 (tgt := 85) (by decide) (fun c_78 => ?_) (fun c_78 => ?_)
          · exact absurd c_78 (hfl.resolve_left hl)
          · refine j_sipush C0 d_Ma_data_81 (v := -452) (by decide) ?_
            exact j_iret C0 d_Ma_data_84 rfl (by omega) (by omega) ⟨rfl, m, fun q _ => rfl, rfl⟩
      · exact absurd c_33 (nI_ne0 hn0 (by omega))
  · exact absurd c_6 (by decide)
set_option maxHeartbeats 4000000 in
set_option maxRecDepth 100000 in
theorem c_Ma_data (l : Launch) (E : jE) {h : jH} {sz b : Nat} {S : maS} (m : isMA E h b S) (z : Int32) (hz : ¬ z < 0 ∧ ¬ 41 ≤ z) (hop : ¬ (mT S).1 = 0) (hn0 : 0 < (mT S).2.2.1) (h5 : (mQ S).1 < 6) (hcs : csQ (mQ S).2 (mQ S).1 + (z + nI (mT S).2.2.1 + 1) ≤ 60) (hb : wb7 (mQ S).1 (mQ S).2) : jC l M_Ma_data 5 E [.ref b, .int z] h sz 0 0 (fun r h' sz' => r = some (.int (mv S 11 + 1)) ∧ isMA E h' b (daS S z) ∧ (∀ q, q < b ∨ b + 90 ≤ q → h' q = h q) ∧ sz' = sz) := by
  have e0 := m.obj
  obtain ⟨t0, t1⟩ := m.tr
  have t2 := t1.1
  have eq := m.qu.obj
  have h6 := m.qu.le
  have hn4 : (mT S).2.2.1 ≤ 4 := t1.2.2.2
  obtain ⟨f, e1⟩ := m.qu.arr
  refine jC.of (by decide) (Nat.le_of_ble_eq_true rfl) ?_
  intro x C0 hx
  subst hx

  refine j_iload_n C0 d_Ma_data_0 rfl (by rfl) ?_
  refine j_bipush C0 d_Ma_data_1 (v := 41) (by decide) ?_
  refine j_callS C0 d_Ma_data_3 cl_Ma_74 cl_Ma_74v (c_Ma_isBelow _ E _ _) rfl rfl ⟨by decide, by decide⟩ ⟨by omega, by omega⟩ (Nat.le_of_ble_eq_true rfl) (fun r_ h_ z_ hp_ => ?_)
  obtain ⟨rfl, rfl, rfl⟩ := hp_
  rw [jb_y hz]
  refine j_if_ne C0 d_Ma_data_6 (tgt := 13) (by decide) (fun c_6 => ?_) (fun c_6 => ?_)
  · refine j_aload_n C0 d_Ma_data_13 rfl (by rfl) ?_
    refine j_getf C0 d_Ma_data_14 fl_Ma_44 (by (repeat (first | rw [jset_s] | rw [jset_n (by omega)] | rw [reH_0] | rw [reH_1] | rw [reH_2] | rw [reH_n (by omega)])) <;> first | rfl | assumption) (by rfl) ?_
    refine j_getf C0 d_Ma_data_17 fl_Ma_103 (by (repeat (first | rw [jset_s] | rw [jset_n (by omega)] | rw [reH_0] | rw [reH_1] | rw [reH_2] | rw [reH_n (by omega)])) <;> first | rfl | assumption) (by rfl) ?_
    refine j_if_eq C0 d_Ma_data_20 (tgt := 36) (by decide) (fun c_20 => ?_) (fun c_20 => ?_)
    · exact absurd c_20 hop
    · refine j_aload_n C0 d_Ma_data_23 rfl (by rfl) ?_
      refine j_getf C0 d_Ma_data_24 fl_Ma_44 (by (repeat (first | rw [jset_s] | rw [jset_n (by omega)] | rw [reH_0] | rw [reH_1] | rw [reH_2] | rw [reH_n (by omega)])) <;> first | rfl | assumption) (by rfl) ?_
      refine j_getf C0 d_Ma_data_27 fl_Ma_111 (by (repeat (first | rw [jset_s] | rw [jset_n (by omega)] | rw [reH_0] | rw [reH_1] | rw [reH_2] | rw [reH_n (by omega)])) <;> first | rfl | assumption) (by rfl) ?_
      refine j_getf C0 d_Ma_data_30 fl_Ma_129 (by (repeat (first | rw [jset_s] | rw [jset_n (by omega)] | rw [reH_0] | rw [reH_1] | rw [reH_2] | rw [reH_n (by omega)])) <;> first | rfl | assumption) (by rfl) ?_
      refine j_if_ne C0 d_Ma_data_33 (tgt := 40) (by decide) (fun c_33 => ?_) (fun c_33 => ?_)
      · refine j_iload_n C0 d_Ma_data_40 rfl (by rfl) ?_
        refine j_aload_n C0 d_Ma_data_41 rfl (by rfl) ?_
        refine j_getf C0 d_Ma_data_42 fl_Ma_44 (by (repeat (first | rw [jset_s] | rw [jset_n (by omega)] | rw [reH_0] | rw [reH_1] | rw [reH_2] | rw [reH_n (by omega)])) <;> first | rfl | assumption) (by rfl) ?_
        refine j_getf C0 d_Ma_data_45 fl_Ma_111 (by (repeat (first | rw [jset_s] | rw [jset_n (by omega)] | rw [reH_0] | rw [reH_1] | rw [reH_2] | rw [reH_n (by omega)])) <;> first | rfl | assumption) (by rfl) ?_
        refine j_getf C0 d_Ma_data_48 fl_Ma_129 (by (repeat (first | rw [jset_s] | rw [jset_n (by omega)] | rw [reH_0] | rw [reH_1] | rw [reH_2] | rw [reH_n (by omega)])) <;> first | rfl | assumption) (by rfl) ?_
        refine j_callS C0 d_Ma_data_51 cl_Ma_136 cl_Ma_136v (c_Ma_costOf _ E _ _) rfl rfl ⟨by decide, by decide⟩ ⟨by omega, by omega⟩ (Nat.le_of_ble_eq_true rfl) (fun r_ h_ z_ hp_ => ?_)
        obtain ⟨rfl, rfl, rfl⟩ := hp_
        refine j_istore_n C0 d_Ma_data_54 rfl (Nat.le_of_ble_eq_true rfl) ?_
        refine j_aload_n C0 d_Ma_data_55 rfl (by rfl) ?_
        refine j_getf C0 d_Ma_data_56 fl_Ma_51 (by (repeat (first | rw [jset_s] | rw [jset_n (by omega)] | rw [reH_0] | rw [reH_1] | rw [reH_2] | rw [reH_n (by omega)])) <;> first | rfl | assumption) (by rfl) ?_
        refine j_getf C0 d_Ma_data_59 fl_Ma_139 (by (repeat (first | rw [jset_s] | rw [jset_n (by omega)] | rw [reH_0] | rw [reH_1] | rw [reH_2] | rw [reH_n (by omega)])) <;> first | rfl | assumption) (by rfl) ?_
        refine j_bipush C0 d_Ma_data_62 (v := 6) (by decide) ?_
        refine j_icmp_ge C0 d_Ma_data_64 (tgt := 81) (by decide) (fun c_64 => ?_) (fun c_64 => ?_)
        · exact absurd c_64 (nI_ge (b := 6) h5 (by decide))
        · refine j_aload_n C0 d_Ma_data_67 rfl (by rfl) ?_
          refine j_getf C0 d_Ma_data_68 fl_Ma_51 (by (repeat (first | rw [jset_s] | rw [jset_n (by omega)] | rw [reH_0] | rw [reH_1] | rw [reH_2] | rw [reH_n (by omega)])) <;> first | rfl | assumption) (by rfl) ?_
          refine j_callV C0 d_Ma_data_71 cl_Ma_140 cl_Ma_140v (c_Qu_costs _ E m.qu) eq rfl rfl rfl ⟨by decide, by decide⟩ ⟨by omega, by omega⟩ (Nat.le_of_ble_eq_true rfl) (fun r_ h0 z_ hp_ => ?_)
          obtain ⟨rfl, rfl, rfl⟩ := hp_
          refine j_iload_n C0 d_Ma_data_74 rfl (by rfl) ?_
          refine j_iadd C0 d_Ma_data_75 ?_
          refine j_bipush C0 d_Ma_data_76 (v := 60) (by decide) ?_
          refine j_icmp_le C0 d_Ma_data_78 (tgt := 85) (by decide) (fun c_78 => ?_) (fun c_78 => ?_)
          · refine j_aload_n C0 d_Ma_data_85 rfl (by rfl) ?_
            refine j_dup C0 d_Ma_data_86 rfl ?_
            refine j_getf C0 d_Ma_data_87 fl_Ma_68 (by (repeat (first | rw [jset_s] | rw [jset_n (by omega)] | rw [reH_0] | rw [reH_1] | rw [reH_2] | rw [reH_n (by omega)])) <;> first | rfl | assumption) (by rfl) ?_
            refine j_iconst C0 d_Ma_data_90 (v := 1) (by decide) ?_
            refine j_iadd C0 d_Ma_data_91 ?_
            refine j_putf C0 d_Ma_data_92 fp_Ma_68 (by (repeat (first | rw [jset_s] | rw [jset_n (by omega)] | rw [reH_0] | rw [reH_1] | rw [reH_2] | rw [reH_n (by omega)])) <;> first | rfl | assumption) (Nat.le_of_ble_eq_true rfl) (by rfl) (by rfl) ?_
            have m1 := m.setV (h' := jset _ b _) (v := upd (mv S) 11 (mv S 11 + 1)) jset_s (fun q hq => jset_n (by omega))
            refine j_aload_n C0 d_Ma_data_95 rfl (by rfl) ?_
            refine j_getf C0 d_Ma_data_96 fl_Ma_51 (by (repeat (first | rw [jset_s] | rw [jset_n (by omega)] | rw [reH_0] | rw [reH_1] | rw [reH_2] | rw [reH_n (by omega)])) <;> first | rfl | assumption) (by rfl) ?_
            refine j_callV C0 d_Ma_data_99 cl_Ma_143 cl_Ma_143v (c_Qu_addSpare _ E m1.qu h5) m1.qu.obj rfl rfl rfl ⟨by decide, by decide⟩ ⟨by omega, by omega⟩ (Nat.le_of_ble_eq_true rfl) (fun r_ h2 z_ hp_ => ?_)
            obtain ⟨f1, a, ef, ha, rfl, hh2, rfl⟩ := hp_
            have m2 := m1.setQu (h' := h2) (by rw [hh2]; exact m1.qu.size (show (mQ S).1 + 1 ≤ 6 by omega)) (fun q hq => by rw [hh2]; exact jset_n (by omega))
            have k2 : ∀ q, q < b ∨ b + 90 ≤ q → h2 q = h0 q := fun q hq => by rw [hh2, jset_n (by omega), jset_n (by omega)]
            obtain ⟨a', ha', ha1, ha2, hme, hup⟩ := m2.qu.at (f := f1) (by rw [hh2, jset_n (by omega)]; exact ef) h5
            cases ha.symm.trans ha'
            have e3 := m2.obj
            refine j_astore_n C0 d_Ma_data_102 rfl (Nat.le_of_ble_eq_true rfl) ?_
            refine j_aload_n C0 d_Ma_data_103 rfl (by rfl) ?_
            refine j_aload_n C0 d_Ma_data_104 rfl (by rfl) ?_
            refine j_getf C0 d_Ma_data_105 fl_Ma_68 (by (repeat (first | rw [jset_s] | rw [jset_n (by omega)] | rw [reH_0] | rw [reH_1] | rw [reH_2] | rw [reH_n (by omega)])) <;> first | rfl | assumption) (by rfl) ?_
            refine j_iload_n C0 d_Ma_data_108 rfl (by rfl) ?_
            refine j_aload_n C0 d_Ma_data_109 rfl (by rfl) ?_
            refine j_getf C0 d_Ma_data_110 fl_Ma_44 (by (repeat (first | rw [jset_s] | rw [jset_n (by omega)] | rw [reH_0] | rw [reH_1] | rw [reH_2] | rw [reH_n (by omega)])) <;> first | rfl | assumption) (by rfl) ?_
            refine j_callV C0 d_Ma_data_113 cl_Ma_147 cl_Ma_147v (c_Me_accept _ E _ _ hme m2.tr (by omega)) hme.1 rfl rfl rfl ⟨by decide, by decide⟩ ⟨by omega, by omega⟩ (Nat.le_of_ble_eq_true rfl) (fun r_ h3 z_ hp_ => ?_)
            obtain ⟨rfl, hh3, rfl⟩ := hp_
            have hh3 : h3 = meH E h2 a (newA S z) := hh3
            have hme3 : isMe E h3 a (newA S z) := by rw [hh3]; exact meH_is hn4
            have k3 : ∀ q, q < a ∨ a + 4 ≤ q → h3 q = h2 q := fun q hq => by rw [hh3]; exact meH_n hq
            have m3 := m2.setQu (hup h3 (newA S z) hme3 k3) (fun q hq => k3 q (by omega))
            have e4 := m3.obj
            refine j_aload_n C0 d_Ma_data_116 rfl (by rfl) ?_
            refine j_aload_n C0 d_Ma_data_117 rfl (by rfl) ?_
            refine j_getf C0 d_Ma_data_118 fl_Ma_65 (by (repeat (first | rw [jset_s] | rw [jset_n (by omega)] | rw [reH_0] | rw [reH_1] | rw [reH_2] | rw [reH_n (by omega)])) <;> first | rfl | assumption) (by rfl) ?_
            refine j_aload_n C0 d_Ma_data_121 rfl (by rfl) ?_
            refine j_getf C0 d_Ma_data_122 fl_Ma_13 (by (repeat (first | rw [jset_s] | rw [jset_n (by omega)] | rw [reH_0] | rw [reH_1] | rw [reH_2] | rw [reH_n (by omega)])) <;> first | rfl | assumption) (by rfl) ?_
            refine j_callV C0 d_Ma_data_125 cl_Ma_153 cl_Ma_153v (c_Me_schedule _ E _ _ hme3) hme3.1 rfl rfl rfl ⟨by decide, by decide⟩ ⟨by omega, by omega⟩ (Nat.le_of_ble_eq_true rfl) (fun r_ h4 z_ hp_ => ?_)
            obtain ⟨rfl, hh4, rfl⟩ := hp_
            have k4 : ∀ q, q < a ∨ a + 4 ≤ q → h4 q = h2 q := fun q hq => by rw [hh4, jset_n (by omega)]; exact k3 q hq
            have m4 := m2.setQu (hup h4 (newM S z) ⟨by rw [hh4, jset_s]; rfl, hme3.2.keep (fun q h1 h2 => by rw [hh4, jset_n (by omega)])⟩ k4) (fun q hq => k4 q (by omega))
            have e5 := m4.obj
            obtain ⟨u0, u1⟩ := m4.tr
            refine j_aload_n C0 d_Ma_data_128 rfl (by rfl) ?_
            refine j_getf C0 d_Ma_data_129 fl_Ma_44 (by (repeat (first | rw [jset_s] | rw [jset_n (by omega)] | rw [reH_0] | rw [reH_1] | rw [reH_2] | rw [reH_n (by omega)])) <;> first | rfl | assumption) (by rfl) ?_
            refine j_iconst C0 d_Ma_data_132 (v := 0) (by decide) ?_
            refine j_putf C0 d_Ma_data_133 fp_Ma_103 (by (repeat (first | rw [jset_s] | rw [jset_n (by omega)] | rw [reH_0] | rw [reH_1] | rw [reH_2] | rw [reH_n (by omega)])) <;> first | rfl | assumption) (Nat.le_of_ble_eq_true rfl) (by rfl) (by rfl) ?_
            have m5 := m4.setTr (h' := jset _ (b + 29) _) (op := 0) (snd := (mT S).2.1) (tn := (mT S).2.2.1) (ad := (mT S).2.2.2.1) (st := (mT S).2.2.2.2) ⟨jset_s, u1.keep (fun q h1 h2 => jset_n (by omega))⟩ (fun q hq => jset_n (by omega))
            have e6 := m5.obj
            refine j_aload_n C0 d_Ma_data_136 rfl (by rfl) ?_
            refine j_callV C0 d_Ma_data_137 cl_Ma_157 cl_Ma_157v (c_Ma_makeDurable _ E m5 (wb7_new hb (y := newM S z) (Or.inl rfl))) m5.obj rfl rfl rfl ⟨by decide, by decide⟩ ⟨by omega, by omega⟩ (Nat.le_of_ble_eq_true rfl) (fun r_ h6 z_ hp_ => ?_)
            obtain ⟨rfl, m6, k6, rfl⟩ := hp_
            have e7 := m6.obj
            refine j_aload_n C0 d_Ma_data_140 rfl (by rfl) ?_
            refine j_getf C0 d_Ma_data_141 fl_Ma_68 (by (repeat (first | rw [jset_s] | rw [jset_n (by omega)] | rw [reH_0] | rw [reH_1] | rw [reH_2] | rw [reH_n (by omega)])) <;> first | rfl | assumption) (by rfl) ?_
            exact j_iret C0 d_Ma_data_144 rfl (by omega) (by omega) ⟨rfl, m6, fun q hq => by rw [k6 q hq, jset_n (by omega), k4 q (by omega), k2 q hq], rfl⟩
          · exact absurd hcs c_78
      · exact absurd c_33 (nI_ne0 hn0 (by omega))
  · exact absurd c_6 (by decide)
end
section
def cyR (hosts hs : Nat → Int32) : Nat → Nat → Int32 × Option Nat
  | _, 0 => (1, none)
  | i, k + 1 => if hs (hosts i).toNatClampNeg = 0 then (2, some (hosts i).toNatClampNeg) else if hs (hosts i).toNatClampNeg = 2 then (3, none) else cyR hosts hs (i + 1) k
theorem cyR_s {hosts hs : Nat → Int32} {i n : Nat} (hi : i < n) : cyR hosts hs i (n - i) = if hs (hosts i).toNatClampNeg = 0 then (2, some (hosts i).toNatClampNeg) else if hs (hosts i).toNatClampNeg = 2 then (3, none) else cyR hosts hs (i + 1) (n - (i + 1)) := by
  rw [show n - i = (n - (i + 1)) + 1 by omega]
  rfl
def caF (S : maS) (u : Nat) : Int32 × Option Nat := if u / 8 = 0 then (2, none) else if (mR S (u / 8)).1 = 0 then (3, none) else cyR (mR S (u / 8)).2.1 (mh S) 0 (mR S (u / 8)).1
def caU (ca : Nat → Int32) : Option Nat → Nat → Int32
  | none => ca
  | some w => upd ca w (ca w + 1)
def setL (S : maS) (L : jDe) : maS := (S.1, S.2.1, S.2.2.1, S.2.2.2.1, S.2.2.2.2.1, S.2.2.2.2.2.1, S.2.2.2.2.2.2.1, L)
def caS (S : maS) (u : Nat) : maS := setL S ((mL S).1, (mL S).2.1, (mL S).2.2.1, caU (mL S).2.2.2 (caF S u).2)
abbrev wro (R : Nat → jRt) : Prop := ∀ d, d < 8 → ∀ i, i < (R d).1 → ∃ k, k < 8 ∧ (R d).2.1 i = nI k
theorem caS_none {S : maS} {u : Nat} (h : (caF S u).2 = none) : caS S u = S := by unfold caS; rw [h]; rfl
set_option maxHeartbeats 4000000 in
set_option maxRecDepth 100000 in
theorem c_Ma_carry (l : Launch) (E : jE) {h : jH} {sz b : Nat} {S : maS} (m : isMA E h b S) {u : Nat} (hu : u < 64) (hw : wro (mR S)) : jC l M_Ma_carry 0 E [.ref b, .int (nI u)] h sz 0 0 (fun r h' sz' => r = some (.int (caF S u).1) ∧ isMA E h' b (caS S u) ∧ (∀ q, q < b + 85 ∨ b + 90 ≤ q → h' q = h q) ∧ sz' = sz) := by
  have e0 := m.obj
  have hd : u / 8 < 8 := by omega
  obtain ⟨f, e1, hf⟩ := m.ra
  obtain ⟨r0, r1, r2, rn⟩ := m.ro _ hd
  have e2 := m.hs
  obtain ⟨d0, d1, d2, d3, d4⟩ := m.de
  have ed : nI u / 8 = nI (u / 8) := pk_div (d := 8) (by omega) (by decide) (by decide)
  refine jC.of (by decide) (Nat.le_of_ble_eq_true rfl) ?_
  intro x C0 hx
  subst hx

  refine j_iload_n C0 d_Ma_carry_0 rfl (by rfl) ?_
  refine j_bipush C0 d_Ma_carry_1 (v := 8) (by decide) ?_
  refine j_idiv C0 d_Ma_carry_3 (by decide) ?_
  rw [ed]
  refine j_istore_n C0 d_Ma_carry_4 rfl (Nat.le_of_ble_eq_true rfl) ?_
  refine j_iload_n C0 d_Ma_carry_5 rfl (by rfl) ?_
  refine j_if_ne C0 d_Ma_carry_6 (tgt := 11) (by decide) (fun c_6 => ?_) (fun c_6 => ?_)
  · have h0 : ¬ u / 8 = 0 := fun hh => c_6 (by rw [hh]; rfl)
    refine j_aload_n C0 d_Ma_carry_11 rfl (by rfl) ?_
    refine j_getf C0 d_Ma_carry_12 fl_Ma_32 (by (repeat (first | rw [jset_s] | rw [jset_n (by omega)] | rw [reH_0] | rw [reH_1] | rw [reH_2] | rw [reH_n (by omega)])) <;> first | rfl | assumption) (by rfl) ?_
    refine j_iload_n C0 d_Ma_carry_15 rfl (by rfl) ?_
    refine j_aald C0 d_Ma_carry_16 (by (repeat (first | rw [jset_s] | rw [jset_n (by omega)] | rw [reH_0] | rw [reH_1] | rw [reH_2] | rw [reH_n (by omega)])) <;> first | rfl | assumption) rfl rfl (by omega) (by decide) (hf _ hd) ?_
    refine j_astore_n C0 d_Ma_carry_17 rfl (Nat.le_of_ble_eq_true rfl) ?_
    refine j_aload_n C0 d_Ma_carry_18 rfl (by rfl) ?_
    refine j_getf C0 d_Ma_carry_19 fl_Ma_239 (by (repeat (first | rw [jset_s] | rw [jset_n (by omega)] | rw [reH_0] | rw [reH_1] | rw [reH_2] | rw [reH_n (by omega)])) <;> first | rfl | assumption) (by rfl) ?_
    refine j_if_ne C0 d_Ma_carry_22 (tgt := 27) (by decide) (fun c_22 => ?_) (fun c_22 => ?_)
    · have h1 : ¬ (mR S (u / 8)).1 = 0 := fun hh => c_22 (by rw [hh]; rfl)
      have ef : caF S u = cyR (mR S (u / 8)).2.1 (mh S) 0 (mR S (u / 8)).1 := by unfold caF; rw [if_neg h0, if_neg h1]
      refine j_iconst C0 d_Ma_carry_27 (v := 0) (by decide) ?_
      refine j_istore C0 d_Ma_carry_28 (Nat.le_of_ble_eq_true rfl) ?_
      refine j_lv (lv' := [(0, .ref b), (1, .int (nI u)), (2, .int (nI (u / 8))), (3, .ref (b + 4 + 3 * (u / 8))), (4, .int (nI 0))]) ⟨rfl, rfl, rfl, rfl, rfl, trivial⟩ ?_
      refine j_forI (mR S (u / 8)).1 (fun i => caF S u = cyR (mR S (u / 8)).2.1 (mh S) i ((mR S (u / 8)).1 - i)) (fun _ => h) (fun i => [(0, .ref b), (1, .int (nI u)), (2, .int (nI (u / 8))), (3, .ref (b + 4 + 3 * (u / 8))), (4, .int (nI i))]) ?_ ?_ 0 (Nat.zero_le _) ef
      · intro i hi hI ih
        obtain ⟨w, hw8, ew⟩ := hw _ hd i hi
        have hcw : ((mR S (u / 8)).2.1 i).toNatClampNeg = w := by rw [ew]; exact nI_clamp (by omega)
        rw [cyR_s hi, hcw] at hI
        refine j_iload C0 d_Ma_carry_30 (by rfl) ?_
        refine j_aload_n C0 d_Ma_carry_32 rfl (by rfl) ?_
        refine j_getf C0 d_Ma_carry_33 fl_Ma_239 (by (repeat (first | rw [jset_s] | rw [jset_n (by omega)] | rw [reH_0] | rw [reH_1] | rw [reH_2] | rw [reH_n (by omega)])) <;> first | rfl | assumption) (by rfl) ?_
        refine j_icmp_ge C0 d_Ma_carry_36 (tgt := 93) (by decide) (fun c_36 => ?_) (fun c_36 => ?_)
        · exact absurd c_36 (nI_ge hi (by omega))
        · refine j_aload_n C0 d_Ma_carry_39 rfl (by rfl) ?_
          refine j_getf C0 d_Ma_carry_40 fl_Ma_240 (by (repeat (first | rw [jset_s] | rw [jset_n (by omega)] | rw [reH_0] | rw [reH_1] | rw [reH_2] | rw [reH_n (by omega)])) <;> first | rfl | assumption) (by rfl) ?_
          refine j_iload C0 d_Ma_carry_43 (by rfl) ?_
          refine j_iald C0 d_Ma_carry_45 (by (repeat (first | rw [jset_s] | rw [jset_n (by omega)] | rw [reH_0] | rw [reH_1] | rw [reH_2] | rw [reH_n (by omega)])) <;> first | rfl | assumption) rfl (by omega) (by decide) ?_
          rw [ew]
          refine j_istore C0 d_Ma_carry_46 (Nat.le_of_ble_eq_true rfl) ?_
          refine j_aload_n C0 d_Ma_carry_48 rfl (by rfl) ?_
          refine j_getf C0 d_Ma_carry_49 fl_Ma_37 (by (repeat (first | rw [jset_s] | rw [jset_n (by omega)] | rw [reH_0] | rw [reH_1] | rw [reH_2] | rw [reH_n (by omega)])) <;> first | rfl | assumption) (by rfl) ?_
          refine j_iload C0 d_Ma_carry_52 (by rfl) ?_
          refine j_iald C0 d_Ma_carry_54 (by (repeat (first | rw [jset_s] | rw [jset_n (by omega)] | rw [reH_0] | rw [reH_1] | rw [reH_2] | rw [reH_n (by omega)])) <;> first | rfl | assumption) rfl (by omega) (by decide) ?_
          refine j_if_ne C0 d_Ma_carry_55 (tgt := 74) (by decide) (fun c_55 => ?_) (fun c_55 => ?_)
          · rw [if_neg c_55] at hI
            refine j_aload_n C0 d_Ma_carry_74 rfl (by rfl) ?_
            refine j_getf C0 d_Ma_carry_75 fl_Ma_37 (by (repeat (first | rw [jset_s] | rw [jset_n (by omega)] | rw [reH_0] | rw [reH_1] | rw [reH_2] | rw [reH_n (by omega)])) <;> first | rfl | assumption) (by rfl) ?_
            refine j_iload C0 d_Ma_carry_78 (by rfl) ?_
            refine j_iald C0 d_Ma_carry_80 (by (repeat (first | rw [jset_s] | rw [jset_n (by omega)] | rw [reH_0] | rw [reH_1] | rw [reH_2] | rw [reH_n (by omega)])) <;> first | rfl | assumption) rfl (by omega) (by decide) ?_
            refine j_iconst C0 d_Ma_carry_81 (v := 2) (by decide) ?_
            refine j_icmp_ne C0 d_Ma_carry_82 (tgt := 87) (by decide) (fun c_82 => ?_) (fun c_82 => ?_)
            · rw [if_neg c_82] at hI
              refine j_iinc C0 d_Ma_carry_87 (by rfl) (jinc _) (Nat.le_of_ble_eq_true rfl) ?_
              refine j_goto C0 d_Ma_carry_90 (tgt := 30) (by decide) ?_
              exact j_to (ih hI) rfl ⟨rfl, rfl, rfl, rfl, rfl, trivial⟩
            · rw [if_pos c_82] at hI
              refine j_iconst C0 d_Ma_carry_85 (v := 3) (by decide) ?_
              exact j_iret C0 d_Ma_carry_86 rfl (by omega) (by omega) ⟨by rw [hI], by rw [caS_none (by rw [hI])]; exact m, fun q _ => rfl, rfl⟩
          · rw [if_pos c_55] at hI
            refine j_aload_n C0 d_Ma_carry_58 rfl (by rfl) ?_
            refine j_getf C0 d_Ma_carry_59 fl_Ma_61 (by (repeat (first | rw [jset_s] | rw [jset_n (by omega)] | rw [reH_0] | rw [reH_1] | rw [reH_2] | rw [reH_n (by omega)])) <;> first | rfl | assumption) (by rfl) ?_
            refine j_getf C0 d_Ma_carry_62 fl_Ma_215 (by (repeat (first | rw [jset_s] | rw [jset_n (by omega)] | rw [reH_0] | rw [reH_1] | rw [reH_2] | rw [reH_n (by omega)])) <;> first | rfl | assumption) (by rfl) ?_
            refine j_iload C0 d_Ma_carry_65 (by rfl) ?_
            refine j_dup2_11 C0 d_Ma_carry_67 rfl rfl ?_
            refine j_iald C0 d_Ma_carry_68 (by (repeat (first | rw [jset_s] | rw [jset_n (by omega)] | rw [reH_0] | rw [reH_1] | rw [reH_2] | rw [reH_n (by omega)])) <;> first | rfl | assumption) rfl (by omega) (by decide) ?_
            refine j_iconst C0 d_Ma_carry_69 (v := 1) (by decide) ?_
            refine j_iadd C0 d_Ma_carry_70 ?_
            refine j_iast C0 d_Ma_carry_71 (by (repeat (first | rw [jset_s] | rw [jset_n (by omega)] | rw [reH_0] | rw [reH_1] | rw [reH_2] | rw [reH_n (by omega)])) <;> first | rfl | assumption) rfl (by omega) (by decide) ?_
            refine j_iconst C0 d_Ma_carry_72 (v := 2) (by decide) ?_
            exact j_iret C0 d_Ma_carry_73 rfl (by omega) (by omega) ⟨by rw [hI], by
              have hs : caS S u = setL S ((mL S).1, (mL S).2.1, (mL S).2.2.1, upd (mL S).2.2.2 w ((mL S).2.2.2 w + 1)) := by unfold caS; rw [hI]; rfl
              rw [hs]
              exact m.setDe ⟨by rw [jset_n (by omega)]; exact d0, by rw [jset_n (by omega)]; exact d1, by rw [jset_n (by omega)]; exact d2, by rw [jset_n (by omega)]; exact d3, jset_s⟩ (fun q hq => jset_n (by omega)), fun q hq => jset_n (by omega), rfl⟩
      · intro hI
        rw [Nat.sub_self] at hI
        have hI : caF S u = (1, none) := hI
        refine j_iload C0 d_Ma_carry_30 (by rfl) ?_
        refine j_aload_n C0 d_Ma_carry_32 rfl (by rfl) ?_
        refine j_getf C0 d_Ma_carry_33 fl_Ma_239 (by (repeat (first | rw [jset_s] | rw [jset_n (by omega)] | rw [reH_0] | rw [reH_1] | rw [reH_2] | rw [reH_n (by omega)])) <;> first | rfl | assumption) (by rfl) ?_
        refine j_icmp_ge C0 d_Ma_carry_36 (tgt := 93) (by decide) (fun c_36 => ?_) (fun c_36 => ?_)
        · refine j_iconst C0 d_Ma_carry_93 (v := 1) (by decide) ?_
          exact j_iret C0 d_Ma_carry_94 rfl (by omega) (by omega) ⟨by rw [hI], by rw [caS_none (by rw [hI])]; exact m, fun q _ => rfl, rfl⟩
        · exact absurd (nI_le (Nat.le_refl _) (by omega)) c_36
    · have h1 : (mR S (u / 8)).1 = 0 := (nI_eq (b := 0) (by omega) (by decide)).mp c_22
      have ef : caF S u = (3, none) := by unfold caF; rw [if_neg h0, if_pos h1]
      refine j_iconst C0 d_Ma_carry_25 (v := 3) (by decide) ?_
      exact j_iret C0 d_Ma_carry_26 rfl (by omega) (by omega) ⟨by rw [ef], by rw [caS_none (by rw [ef])]; exact m, fun q _ => rfl, rfl⟩
  · have h0 : u / 8 = 0 := (nI_eq (b := 0) (by omega) (by decide)).mp c_6
    have ef : caF S u = (2, none) := if_pos h0
    refine j_iconst C0 d_Ma_carry_9 (v := 2) (by decide) ?_
    exact j_iret C0 d_Ma_carry_10 rfl (by omega) (by omega) ⟨by rw [ef], by rw [caS_none (by rw [ef])]; exact m, fun q _ => rfl, rfl⟩
end
section
theorem j_heap {x : jX} {M : jM} {E : jE} {Q : State → Prop} {h : jH} {sz ce sl pc : Nat} {lv : List (Nat × Value)} {st : List Value} (kk : ∀ h3, h3 = h → jJ x M E Q h3 sz ce sl lv pc st) : jJ x M E Q h sz ce sl lv pc st := kk h rfl
def noteL (L : jDe) (u : Nat) (m : jMsg) : jDe := (if m.1 7 = 1 then L.1 else upd L.1 u (L.1 u + 1), if m.1 7 = 1 then upd L.2.1 u (L.2.1 u + 1) else L.2.1, upd L.2.2.1 u (m.1 1), L.2.2.2)
def setQi (S : maS) (i : Nat) (y : jMsg) : maS := (S.1, S.2.1, S.2.2.1, S.2.2.2.1, S.2.2.2.2.1, ((mQ S).1, va_up (mQ S).2 i y), S.2.2.2.2.2.2)
def tr2 (S : maS) (i k u : Nat) : maS := setQi (caS S u) i (((mQ S).2 i).1, ((mQ S).2 i).2.1, ((mQ S).2 i).2.2.1, upd ((mQ S).2 i).2.2.2 k (caF S u).1)
def tr3 (S : maS) (i k u : Nat) : maS := if (caF S u).1 = 1 then tr2 S i k u else (upd (mv S) 12 (mv S 12 + 1), (tr2 S i k u).2)
def tr4 (S : maS) (i k u : Nat) : maS × Nat := if (caF S u).1 = 2 then (setL (tr3 S i k u) (noteL (mL (tr3 S i k u)) u ((mQ S).2 i)), 1) else (tr3 S i k u, 0)
def tr1 (S : maS) (i k : Nat) : maS × Nat := if ((mQ S).2 i).2.2.2 k = 1 then tr4 S i k (((mQ S).2 i).2.2.1 k).toNatClampNeg else (S, 0)
def trS (S : maS) (i : Nat) : Nat → maS × Nat
  | 0 => (S, 0)
  | k + 1 => ((tr1 (trS S i k).1 i k).1, (trS S i k).2 + (tr1 (trS S i k).1 i k).2)
/-- a message that is well formed; a state whose queue and routes are -/
def okM (m : jMsg) : Prop := (m.1 7 = 0 ∨ m.1 7 = 1) ∧ wad m.2.1 m.2.2.1 ∧ (m.1 2 = -1 ∨ ∃ u, u < 64 ∧ m.1 2 = nI u)
def WF (S : maS) : Prop := (∀ i, i < (mQ S).1 → okM ((mQ S).2 i)) ∧ wro (mR S)
theorem WF.b7 {S : maS} (h : WF S) : wb7 (mQ S).1 (mQ S).2 := fun i hi => (h.1 i hi).1
theorem WF.qi {S : maS} {i : Nat} {y : jMsg} (h : WF S) (hy : okM y) : WF (setQi S i y) := ⟨fun j hj => by
  show okM (va_up (mQ S).2 i y j)
  by_cases e : j = i
  · subst e; rw [va_up_self]; exact hy
  · rw [va_up_ne _ _ e]; exact h.1 j hj, h.2⟩
/-- what trying a recipient leaves as it was -/
theorem tr1_keep (S : maS) (i k : Nat) : (mQ (tr1 S i k).1).1 = (mQ S).1 ∧ mR (tr1 S i k).1 = mR S ∧ mh (tr1 S i k).1 = mh S ∧ (∀ j, j ≠ i → (mQ (tr1 S i k).1).2 j = (mQ S).2 j) ∧ ((mQ (tr1 S i k).1).2 i).1 = ((mQ S).2 i).1 ∧ ((mQ (tr1 S i k).1).2 i).2.1 = ((mQ S).2 i).2.1 ∧ ((mQ (tr1 S i k).1).2 i).2.2.1 = ((mQ S).2 i).2.2.1 := by
  have h2 : ∀ u, (mQ (tr3 S i k u)) = (mQ (tr2 S i k u)) ∧ mR (tr3 S i k u) = mR S ∧ mh (tr3 S i k u) = mh S := fun u => by unfold tr3; split <;> exact ⟨rfl, rfl, rfl⟩
  have h4 : ∀ u, (mQ (tr4 S i k u).1) = (mQ (tr2 S i k u)) ∧ mR (tr4 S i k u).1 = mR S ∧ mh (tr4 S i k u).1 = mh S := fun u => by unfold tr4; split <;> exact h2 u
  unfold tr1
  split
  · obtain ⟨e1, e2, e3⟩ := h4 (((mQ S).2 i).2.2.1 k).toNatClampNeg
    rw [e1, e2, e3]
    refine ⟨rfl, rfl, rfl, fun j hj => va_up_ne _ _ hj, ?_, ?_, ?_⟩
    · show (va_up _ i _ i : jMsg).1 = _; rw [va_up_self]
    · show (va_up _ i _ i : jMsg).2.1 = _; rw [va_up_self]
    · show (va_up _ i _ i : jMsg).2.2.1 = _; rw [va_up_self]
  · exact ⟨rfl, rfl, rfl, fun j hj => rfl, rfl, rfl, rfl⟩
theorem trS_keep (S : maS) (i : Nat) : ∀ k, (mQ (trS S i k).1).1 = (mQ S).1 ∧ mR (trS S i k).1 = mR S ∧ mh (trS S i k).1 = mh S ∧ (∀ j, j ≠ i → (mQ (trS S i k).1).2 j = (mQ S).2 j) ∧ ((mQ (trS S i k).1).2 i).1 = ((mQ S).2 i).1 ∧ ((mQ (trS S i k).1).2 i).2.1 = ((mQ S).2 i).2.1 ∧ ((mQ (trS S i k).1).2 i).2.2.1 = ((mQ S).2 i).2.2.1
  | 0 => ⟨rfl, rfl, rfl, fun _ _ => rfl, rfl, rfl, rfl⟩
  | k + 1 => by
    obtain ⟨a1, a2, a3, a4, a5, a6, a7⟩ := trS_keep S i k
    obtain ⟨b1, b2, b3, b4, b5, b6, b7⟩ := tr1_keep (trS S i k).1 i k
    exact ⟨b1.trans a1, b2.trans a2, b3.trans a3, fun j hj => (b4 j hj).trans (a4 j hj), b5.trans a5, b6.trans a6, b7.trans a7⟩
theorem trS_WF {S : maS} (h : WF S) (i k : Nat) : WF (trS S i k).1 := by
  obtain ⟨a1, a2, a3, a4, a5, a6, a7⟩ := trS_keep S i k
  refine ⟨fun j hj => ?_, by rw [a2]; exact h.2⟩
  rw [a1] at hj
  by_cases e : j = i
  · subst e
    have := h.1 j hj
    unfold okM at this ⊢
    rw [a5, a6, a7]
    exact this
  · rw [a4 j e]; exact h.1 j hj
theorem trS_n (S : maS) (i : Nat) : ∀ k, (trS S i k).2 ≤ k
  | 0 => Nat.le_refl 0
  | k + 1 => by
    have := trS_n S i k
    have h2 : (tr1 (trS S i k).1 i k).2 ≤ 1 := by
      unfold tr1
      split
      · unfold tr4
        split
        · exact Nat.le_refl 1
        · exact Nat.zero_le 1
      · exact Nat.zero_le 1
    show (trS S i k).2 + _ ≤ k + 1
    omega
set_option maxHeartbeats 4000000 in
set_option maxRecDepth 100000 in
theorem c_Ma_tryRecipients (l : Launch) (E : jE) {h : jH} {sz b : Nat} {S : maS} (m : isMA E h b S) {i a : Nat} {f : Nat → Option Nat} (hi : i < (mQ S).1) (hf : h (b + 33 + 1) = some (jQa E 2 6 f)) (ha : f i = some a) (hw : WF S) : jC l M_Ma_tryRecipients 1 E [.ref b, .ref a] h sz 0 0 (fun r h' sz' => r = some (.int (nI (trS S i ((mQ S).2 i).2.1).2)) ∧ isMA E h' b (trS S i ((mQ S).2 i).2.1).1 ∧ (∀ q, q < b ∨ b + 90 ≤ q → h' q = h q) ∧ h' (b + 33 + 1) = h (b + 33 + 1) ∧ sz' = sz) := by
  have h6 := m.qu.le
  obtain ⟨a', ha', ha1, ha2, hme, hup⟩ := m.qu.at hf (show i < 6 by omega)
  cases ha.symm.trans ha'
  obtain ⟨ea, er⟩ := hme
  have e0 := m.obj
  obtain ⟨r0, r1, r2, rn⟩ := er
  refine jC.of (by decide) (Nat.le_of_ble_eq_true rfl) ?_
  intro x C0 hx
  subst hx

  refine j_aload_n C0 d_Ma_tryRecipients_0 rfl (by rfl) ?_
  refine j_getf C0 d_Ma_tryRecipients_1 fl_Ma_199 (by (repeat (first | rw [jset_s] | rw [jset_n (by omega)] | rw [reH_0] | rw [reH_1] | rw [reH_2] | rw [reH_n (by omega)])) <;> first | rfl | assumption) (by rfl) ?_
  refine j_astore_n C0 d_Ma_tryRecipients_4 rfl (Nat.le_of_ble_eq_true rfl) ?_
  refine j_iconst C0 d_Ma_tryRecipients_5 (v := 0) (by decide) ?_
  refine j_istore_n C0 d_Ma_tryRecipients_6 rfl (Nat.le_of_ble_eq_true rfl) ?_
  refine j_iconst C0 d_Ma_tryRecipients_7 (v := 0) (by decide) ?_
  refine j_istore C0 d_Ma_tryRecipients_8 (Nat.le_of_ble_eq_true rfl) ?_
  refine j_lv (lv' := [(0, .ref b), (1, .ref a), (2, .ref (a + 1)), (3, .int (nI (trS S i 0).2)), (4, .int (nI 0))]) ⟨rfl, rfl, rfl, rfl, rfl, trivial⟩ ?_
  refine j_forR ((mQ S).2 i).2.1 (fun k hh => isMA E hh b (trS S i k).1 ∧ (∀ q, q < b ∨ b + 90 ≤ q → hh q = h q) ∧ hh (b + 33 + 1) = h (b + 33 + 1)) (fun _ => sz) (fun _ => 0) (fun _ => 0) (fun k => [(0, .ref b), (1, .ref a), (2, .ref (a + 1)), (3, .int (nI (trS S i k).2)), (4, .int (nI k))]) ?_ ?_ 0 h (Nat.zero_le _) ⟨m, fun q _ => rfl, rfl⟩
  · intro k hh hk hI ih
    obtain ⟨mk, g2, g3⟩ := hI
    obtain ⟨a1, a2, a3, a4, a5, a6, a7⟩ := trS_keep S i k
    have hik : i < (mQ (trS S i k).1).1 := by rw [a1]; exact hi
    have hfk : hh (b + 33 + 1) = some (jQa E 2 6 f) := by rw [g3]; exact hf
    obtain ⟨a', ha', -, -, hmek, hupk⟩ := mk.qu.at hfk (show i < 6 by omega)
    cases ha.symm.trans ha'
    obtain ⟨ek, erk⟩ := hmek
    rw [a6, a7] at erk
    obtain ⟨s0, s1, s2, sn⟩ := erk
    have hwk := trS_WF hw i k
    obtain ⟨u, hu, eu⟩ := (hw.1 i hi).2.1 k hk
    have hcu : (((mQ (trS S i k).1).2 i).2.2.1 k).toNatClampNeg = u := by rw [a7, eu]; exact nI_clamp (by omega)
    have hcn := trS_n S i k
    refine j_iload C0 d_Ma_tryRecipients_10 (by rfl) ?_
    refine j_aload_n C0 d_Ma_tryRecipients_12 rfl (by rfl) ?_
    refine j_getf C0 d_Ma_tryRecipients_13 fl_Ma_129 (by (repeat (first | rw [jset_s] | rw [jset_n (by omega)] | rw [reH_0] | rw [reH_1] | rw [reH_2] | rw [reH_n (by omega)])) <;> first | rfl | assumption) (by rfl) ?_
    refine j_icmp_ge C0 d_Ma_tryRecipients_16 (tgt := 97) (by decide) (fun c_16 => ?_) (fun c_16 => ?_)
    · exact absurd c_16 (nI_ge hk (by omega))
    · refine j_aload_n C0 d_Ma_tryRecipients_19 rfl (by rfl) ?_
      refine j_getf C0 d_Ma_tryRecipients_20 fl_Ma_226 (by (repeat (first | rw [jset_s] | rw [jset_n (by omega)] | rw [reH_0] | rw [reH_1] | rw [reH_2] | rw [reH_n (by omega)])) <;> first | rfl | assumption) (by rfl) ?_
      refine j_iload C0 d_Ma_tryRecipients_23 (by rfl) ?_
      refine j_iald C0 d_Ma_tryRecipients_25 (by (repeat (first | rw [jset_s] | rw [jset_n (by omega)] | rw [reH_0] | rw [reH_1] | rw [reH_2] | rw [reH_n (by omega)])) <;> first | rfl | assumption) rfl (by omega) (by decide) ?_
      refine j_iconst C0 d_Ma_tryRecipients_26 (v := 1) (by decide) ?_
      refine j_icmp_ne C0 d_Ma_tryRecipients_27 (tgt := 91) (by decide) (fun c_27 => ?_) (fun c_27 => ?_)
      · have eT : tr1 (trS S i k).1 i k = ((trS S i k).1, 0) := if_neg c_27
        have eC : (trS S i (k + 1)).2 = (trS S i k).2 := by show _ + (tr1 _ i k).2 = _; rw [eT]; rfl
        have mN : isMA E hh b (trS S i (k + 1)).1 ∧ (∀ q, q < b ∨ b + 90 ≤ q → hh q = h q) ∧ hh (b + 33 + 1) = h (b + 33 + 1) := ⟨by show isMA E hh b (tr1 _ i k).1; rw [eT]; exact mk, g2, g3⟩
        refine j_iinc C0 d_Ma_tryRecipients_91 (by rfl) (jinc _) (Nat.le_of_ble_eq_true rfl) ?_
        refine j_goto C0 d_Ma_tryRecipients_94 (tgt := 10) (by decide) ?_
        refine j_lv (lv' := [(0, .ref b), (1, .ref a), (2, .ref (a + 1)), (3, .int (nI (trS S i (k + 1)).2)), (4, .int (nI (k + 1)))]) ⟨rfl, rfl, rfl, by rw [eC]; rfl, rfl, trivial⟩ ?_
        exact ih _ mN
      · have eT : tr1 (trS S i k).1 i k = tr4 (trS S i k).1 i k u := by unfold tr1; rw [if_pos c_27, hcu]
        refine j_aload_n C0 d_Ma_tryRecipients_30 rfl (by rfl) ?_
        refine j_getf C0 d_Ma_tryRecipients_31 fl_Ma_229 (by (repeat (first | rw [jset_s] | rw [jset_n (by omega)] | rw [reH_0] | rw [reH_1] | rw [reH_2] | rw [reH_n (by omega)])) <;> first | rfl | assumption) (by rfl) ?_
        refine j_iload C0 d_Ma_tryRecipients_34 (by rfl) ?_
        refine j_iald C0 d_Ma_tryRecipients_36 (by (repeat (first | rw [jset_s] | rw [jset_n (by omega)] | rw [reH_0] | rw [reH_1] | rw [reH_2] | rw [reH_n (by omega)])) <;> first | rfl | assumption) rfl (by omega) (by decide) ?_
        rw [eu]
        refine j_istore C0 d_Ma_tryRecipients_37 (Nat.le_of_ble_eq_true rfl) ?_
        refine j_aload_n C0 d_Ma_tryRecipients_39 rfl (by rfl) ?_
        refine j_iload C0 d_Ma_tryRecipients_40 (by rfl) ?_
        refine j_callV C0 d_Ma_tryRecipients_42 cl_Ma_232 cl_Ma_232v (c_Ma_carry _ E mk hu hwk.2) mk.obj rfl rfl rfl ⟨by decide, by decide⟩ ⟨by omega, by omega⟩ (Nat.le_of_ble_eq_true rfl) (fun r_ h1 z_ hp_ => ?_)
        obtain ⟨rfl, m1, k1, rfl⟩ := hp_
        have e21 := m1.obj
        have f1 : h1 (b + 33 + 1) = some (jQa E 2 6 f) := by rw [k1 _ (by omega)]; exact hfk
        obtain ⟨a', ha', -, -, hme1, hup1⟩ := m1.qu.at f1 (show i < 6 by omega)
        cases ha.symm.trans ha'
        obtain ⟨ek1, erk1⟩ := hme1
        have erk1 : isRe E h1 (a + 1) ((mQ S).2 i).2.1 ((mQ S).2 i).2.2.1 ((mQ (trS S i k).1).2 i).2.2.2 := by
          have := erk1
          rw [← a6, ← a7]
          exact this
        obtain ⟨p0, p1, p2, pn⟩ := erk1
        refine j_istore C0 d_Ma_tryRecipients_45 (Nat.le_of_ble_eq_true rfl) ?_
        refine j_aload_n C0 d_Ma_tryRecipients_47 rfl (by rfl) ?_
        refine j_getf C0 d_Ma_tryRecipients_48 fl_Ma_226 (by (repeat (first | rw [jset_s] | rw [jset_n (by omega)] | rw [reH_0] | rw [reH_1] | rw [reH_2] | rw [reH_n (by omega)])) <;> first | rfl | assumption) (by rfl) ?_
        refine j_iload C0 d_Ma_tryRecipients_51 (by rfl) ?_
        refine j_iload C0 d_Ma_tryRecipients_53 (by rfl) ?_
        refine j_iast C0 d_Ma_tryRecipients_55 (by (repeat (first | rw [jset_s] | rw [jset_n (by omega)] | rw [reH_0] | rw [reH_1] | rw [reH_2] | rw [reH_n (by omega)])) <;> first | rfl | assumption) rfl (by omega) (by decide) ?_
        have m2 : isMA E (jset h1 (a + 1 + 2) _) b (tr2 (trS S i k).1 i k u) := m1.setQu (hup1 _ (((mQ (trS S i k).1).2 i).1, ((mQ (trS S i k).1).2 i).2.1, ((mQ (trS S i k).1).2 i).2.2.1, upd ((mQ (trS S i k).1).2 i).2.2.2 k (caF (trS S i k).1 u).1) ⟨by rw [jset_n (by omega)]; exact ek1, by rw [jset_n (by omega), a6]; exact p0, by rw [jset_n (by omega), a7]; exact p1, jset_s, by rw [a6]; exact pn⟩ (fun q hq => jset_n (by omega))) (fun q hq => jset_n (by omega))
        have e2 := m2.obj
        refine j_iload C0 d_Ma_tryRecipients_56 (by rfl) ?_
        refine j_iconst C0 d_Ma_tryRecipients_58 (v := 1) (by decide) ?_
        refine j_icmp_eq C0 d_Ma_tryRecipients_59 (tgt := 72) (by decide) (fun c_59 => ?_) (fun c_59 => ?_)
        · have e3 : tr3 (trS S i k).1 i k u = tr2 (trS S i k).1 i k u := if_pos c_59
          refine j_heap (fun h3 eh => ?_)
          have m3 : isMA E h3 b (tr3 (trS S i k).1 i k u) := by rw [eh, e3]; exact m2
          have k3 : ∀ q, q < b ∨ b + 90 ≤ q → h3 q = h q := fun q hq => by rw [eh, jset_n (by omega), k1 q (by omega)]; exact g2 q hq
          have q3 : h3 (b + 33 + 1) = h (b + 33 + 1) := by rw [eh, jset_n (by omega), k1 _ (by omega)]; exact g3
          refine j_iload C0 d_Ma_tryRecipients_72 (by rfl) ?_
          refine j_iconst C0 d_Ma_tryRecipients_74 (v := 2) (by decide) ?_
          refine j_icmp_ne C0 d_Ma_tryRecipients_75 (tgt := 91) (by decide) (fun c_75 => ?_) (fun c_75 => ?_)
          · have e4 : tr4 (trS S i k).1 i k u = (tr3 (trS S i k).1 i k u, 0) := if_neg c_75
            have eC : (trS S i (k + 1)).2 = (trS S i k).2 := by show _ + (tr1 _ i k).2 = _; rw [eT, e4]; rfl
            have mN : isMA E h3 b (trS S i (k + 1)).1 ∧ (∀ q, q < b ∨ b + 90 ≤ q → h3 q = h q) ∧ h3 (b + 33 + 1) = h (b + 33 + 1) := ⟨by show isMA E h3 b (tr1 _ i k).1; rw [eT, e4]; exact m3, k3, q3⟩
            refine j_iinc C0 d_Ma_tryRecipients_91 (by rfl) (jinc _) (Nat.le_of_ble_eq_true rfl) ?_
            refine j_goto C0 d_Ma_tryRecipients_94 (tgt := 10) (by decide) ?_
            refine j_lv (lv' := [(0, .ref b), (1, .ref a), (2, .ref (a + 1)), (3, .int (nI (trS S i (k + 1)).2)), (4, .int (nI (k + 1)))]) ⟨rfl, rfl, rfl, by rw [eC]; rfl, rfl, trivial⟩ ?_
            exact ih _ mN
          · have e4 : tr4 (trS S i k).1 i k u = (setL (tr3 (trS S i k).1 i k u) (noteL (mL (tr3 (trS S i k).1 i k u)) u ((mQ (trS S i k).1).2 i)), 1) := if_pos c_75
            have eC : (trS S i (k + 1)).2 = (trS S i k).2 + 1 := by show _ + (tr1 _ i k).2 = _; rw [eT, e4]
            have e5 := m3.obj
            have f3 : h3 (b + 33 + 1) = some (jQa E 2 6 f) := by rw [q3]; exact hf
            obtain ⟨a', ha', -, -, hme3, hup3⟩ := m3.qu.at f3 (show i < 6 by omega)
            cases ha.symm.trans ha'
            have eM : ((mQ (tr3 (trS S i k).1 i k u)).2 i).1 = ((mQ (trS S i k).1).2 i).1 := by
              unfold tr3
              split
              · show (va_up _ i _ i : jMsg).1 = _; rw [va_up_self]
              · show (va_up _ i _ i : jMsg).1 = _; rw [va_up_self]
            refine j_aload_n C0 d_Ma_tryRecipients_78 rfl (by rfl) ?_
            refine j_getf C0 d_Ma_tryRecipients_79 fl_Ma_61 (by (repeat (first | rw [jset_s] | rw [jset_n (by omega)] | rw [reH_0] | rw [reH_1] | rw [reH_2] | rw [reH_n (by omega)])) <;> first | rfl | assumption) (by rfl) ?_
            refine j_iload C0 d_Ma_tryRecipients_82 (by rfl) ?_
            refine j_aload_n C0 d_Ma_tryRecipients_84 rfl (by rfl) ?_
            refine j_callV C0 d_Ma_tryRecipients_85 cl_Ma_235 cl_Ma_235v (c_De_note _ E hu m3.de hme3 (by omega) (by rw [eM, a5]; exact (hw.1 i hi).1)) m3.de.1 rfl rfl rfl ⟨by decide, by decide⟩ ⟨by omega, by omega⟩ (Nat.le_of_ble_eq_true rfl) (fun r_ h4 z_ hp_ => ?_)
            obtain ⟨rfl, m4, k4, rfl⟩ := hp_
            rw [eM] at m4
            have mN : isMA E h4 b (trS S i (k + 1)).1 ∧ (∀ q, q < b ∨ b + 90 ≤ q → h4 q = h q) ∧ h4 (b + 33 + 1) = h (b + 33 + 1) := ⟨by show isMA E h4 b (tr1 _ i k).1; rw [eT, e4]; exact m3.setDe m4 (fun q hq => k4 q (by omega)), fun q hq => by rw [k4 q (by omega)]; exact k3 q hq, by rw [k4 _ (by omega)]; exact q3⟩
            refine j_iinc C0 d_Ma_tryRecipients_88 (by rfl) (jinc _) (Nat.le_of_ble_eq_true rfl) ?_
            refine j_iinc C0 d_Ma_tryRecipients_91 (by rfl) (jinc _) (Nat.le_of_ble_eq_true rfl) ?_
            refine j_goto C0 d_Ma_tryRecipients_94 (tgt := 10) (by decide) ?_
            refine j_lv (lv' := [(0, .ref b), (1, .ref a), (2, .ref (a + 1)), (3, .int (nI (trS S i (k + 1)).2)), (4, .int (nI (k + 1)))]) ⟨rfl, rfl, rfl, by rw [eC]; rfl, rfl, trivial⟩ ?_
            exact ih _ mN
        · have e3 : tr3 (trS S i k).1 i k u = (upd (mv (trS S i k).1) 12 (mv (trS S i k).1 12 + 1), (tr2 (trS S i k).1 i k u).2) := if_neg c_59
          refine j_aload_n C0 d_Ma_tryRecipients_62 rfl (by rfl) ?_
          refine j_dup C0 d_Ma_tryRecipients_63 rfl ?_
          refine j_getf C0 d_Ma_tryRecipients_64 fl_Ma_71 (by (repeat (first | rw [jset_s] | rw [jset_n (by omega)] | rw [reH_0] | rw [reH_1] | rw [reH_2] | rw [reH_n (by omega)])) <;> first | rfl | assumption) (by rfl) ?_
          refine j_iconst C0 d_Ma_tryRecipients_67 (v := 1) (by decide) ?_
          refine j_iadd C0 d_Ma_tryRecipients_68 ?_
          refine j_putf C0 d_Ma_tryRecipients_69 fp_Ma_71 (by (repeat (first | rw [jset_s] | rw [jset_n (by omega)] | rw [reH_0] | rw [reH_1] | rw [reH_2] | rw [reH_n (by omega)])) <;> first | rfl | assumption) (Nat.le_of_ble_eq_true rfl) (by rfl) (by rfl) ?_
          refine j_heap (fun h3 eh => ?_)
          have m3 : isMA E h3 b (tr3 (trS S i k).1 i k u) := by rw [eh, e3]; exact m2.setV (v := upd (mv (trS S i k).1) 12 (mv (trS S i k).1 12 + 1)) jset_s (fun q hq => jset_n (by omega))
          have k3 : ∀ q, q < b ∨ b + 90 ≤ q → h3 q = h q := fun q hq => by rw [eh, jset_n (by omega), jset_n (by omega), k1 q (by omega)]; exact g2 q hq
          have q3 : h3 (b + 33 + 1) = h (b + 33 + 1) := by rw [eh, jset_n (by omega), jset_n (by omega), k1 _ (by omega)]; exact g3
          refine j_iload C0 d_Ma_tryRecipients_72 (by rfl) ?_
          refine j_iconst C0 d_Ma_tryRecipients_74 (v := 2) (by decide) ?_
          refine j_icmp_ne C0 d_Ma_tryRecipients_75 (tgt := 91) (by decide) (fun c_75 => ?_) (fun c_75 => ?_)
          · have e4 : tr4 (trS S i k).1 i k u = (tr3 (trS S i k).1 i k u, 0) := if_neg c_75
            have eC : (trS S i (k + 1)).2 = (trS S i k).2 := by show _ + (tr1 _ i k).2 = _; rw [eT, e4]; rfl
            have mN : isMA E h3 b (trS S i (k + 1)).1 ∧ (∀ q, q < b ∨ b + 90 ≤ q → h3 q = h q) ∧ h3 (b + 33 + 1) = h (b + 33 + 1) := ⟨by show isMA E h3 b (tr1 _ i k).1; rw [eT, e4]; exact m3, k3, q3⟩
            refine j_iinc C0 d_Ma_tryRecipients_91 (by rfl) (jinc _) (Nat.le_of_ble_eq_true rfl) ?_
            refine j_goto C0 d_Ma_tryRecipients_94 (tgt := 10) (by decide) ?_
            refine j_lv (lv' := [(0, .ref b), (1, .ref a), (2, .ref (a + 1)), (3, .int (nI (trS S i (k + 1)).2)), (4, .int (nI (k + 1)))]) ⟨rfl, rfl, rfl, by rw [eC]; rfl, rfl, trivial⟩ ?_
            exact ih _ mN
          · have e4 : tr4 (trS S i k).1 i k u = (setL (tr3 (trS S i k).1 i k u) (noteL (mL (tr3 (trS S i k).1 i k u)) u ((mQ (trS S i k).1).2 i)), 1) := if_pos c_75
            have eC : (trS S i (k + 1)).2 = (trS S i k).2 + 1 := by show _ + (tr1 _ i k).2 = _; rw [eT, e4]
            have e5 := m3.obj
            have f3 : h3 (b + 33 + 1) = some (jQa E 2 6 f) := by rw [q3]; exact hf
            obtain ⟨a', ha', -, -, hme3, hup3⟩ := m3.qu.at f3 (show i < 6 by omega)
            cases ha.symm.trans ha'
            have eM : ((mQ (tr3 (trS S i k).1 i k u)).2 i).1 = ((mQ (trS S i k).1).2 i).1 := by
              unfold tr3
              split
              · show (va_up _ i _ i : jMsg).1 = _; rw [va_up_self]
              · show (va_up _ i _ i : jMsg).1 = _; rw [va_up_self]
            refine j_aload_n C0 d_Ma_tryRecipients_78 rfl (by rfl) ?_
            refine j_getf C0 d_Ma_tryRecipients_79 fl_Ma_61 (by (repeat (first | rw [jset_s] | rw [jset_n (by omega)] | rw [reH_0] | rw [reH_1] | rw [reH_2] | rw [reH_n (by omega)])) <;> first | rfl | assumption) (by rfl) ?_
            refine j_iload C0 d_Ma_tryRecipients_82 (by rfl) ?_
            refine j_aload_n C0 d_Ma_tryRecipients_84 rfl (by rfl) ?_
            refine j_callV C0 d_Ma_tryRecipients_85 cl_Ma_235 cl_Ma_235v (c_De_note _ E hu m3.de hme3 (by omega) (by rw [eM, a5]; exact (hw.1 i hi).1)) m3.de.1 rfl rfl rfl ⟨by decide, by decide⟩ ⟨by omega, by omega⟩ (Nat.le_of_ble_eq_true rfl) (fun r_ h4 z_ hp_ => ?_)
            obtain ⟨rfl, m4, k4, rfl⟩ := hp_
            rw [eM] at m4
            have mN : isMA E h4 b (trS S i (k + 1)).1 ∧ (∀ q, q < b ∨ b + 90 ≤ q → h4 q = h q) ∧ h4 (b + 33 + 1) = h (b + 33 + 1) := ⟨by show isMA E h4 b (tr1 _ i k).1; rw [eT, e4]; exact m3.setDe m4 (fun q hq => k4 q (by omega)), fun q hq => by rw [k4 q (by omega)]; exact k3 q hq, by rw [k4 _ (by omega)]; exact q3⟩
            refine j_iinc C0 d_Ma_tryRecipients_88 (by rfl) (jinc _) (Nat.le_of_ble_eq_true rfl) ?_
            refine j_iinc C0 d_Ma_tryRecipients_91 (by rfl) (jinc _) (Nat.le_of_ble_eq_true rfl) ?_
            refine j_goto C0 d_Ma_tryRecipients_94 (tgt := 10) (by decide) ?_
            refine j_lv (lv' := [(0, .ref b), (1, .ref a), (2, .ref (a + 1)), (3, .int (nI (trS S i (k + 1)).2)), (4, .int (nI (k + 1)))]) ⟨rfl, rfl, rfl, by rw [eC]; rfl, rfl, trivial⟩ ?_
            exact ih _ mN
  · intro hh hI
    obtain ⟨mk, g2, g3⟩ := hI
    obtain ⟨a1, a2, a3, a4, a5, a6, a7⟩ := trS_keep S i ((mQ S).2 i).2.1
    have hik : i < (mQ (trS S i ((mQ S).2 i).2.1).1).1 := by rw [a1]; exact hi
    have hfk : hh (b + 33 + 1) = some (jQa E 2 6 f) := by rw [g3]; exact hf
    obtain ⟨a', ha', -, -, hmek, hupk⟩ := mk.qu.at hfk (show i < 6 by omega)
    cases ha.symm.trans ha'
    obtain ⟨ek, erk⟩ := hmek
    rw [a6, a7] at erk
    obtain ⟨s0, s1, s2, sn⟩ := erk
    refine j_iload C0 d_Ma_tryRecipients_10 (by rfl) ?_
    refine j_aload_n C0 d_Ma_tryRecipients_12 rfl (by rfl) ?_
    refine j_getf C0 d_Ma_tryRecipients_13 fl_Ma_129 (by (repeat (first | rw [jset_s] | rw [jset_n (by omega)] | rw [reH_0] | rw [reH_1] | rw [reH_2] | rw [reH_n (by omega)])) <;> first | rfl | assumption) (by rfl) ?_
    refine j_icmp_ge C0 d_Ma_tryRecipients_16 (tgt := 97) (by decide) (fun c_16 => ?_) (fun c_16 => ?_)
    · refine j_iload_n C0 d_Ma_tryRecipients_97 rfl (by rfl) ?_
      exact j_iret C0 d_Ma_tryRecipients_98 rfl (by omega) (by omega) ⟨rfl, mk, g2, g3, rfl⟩
    · exact absurd (nI_le (Nat.le_refl _) (by omega)) c_16
end
section
abbrev bmp (v : Nat → Int32) : Nat → Int32 := upd v 12 (v 12 + 1)
def foS (S : maS) (i : Nat) : maS := if mv S 10 < ((mQ S).2 i).1 4 + mv S 2 then S else (upd (mv S) 12 (mv S 12 + nI (cnt ((mQ S).2 i).2.2.2 1 ((mQ S).2 i).2.1)), (setQi S i (((mQ S).2 i).1, ((mQ S).2 i).2.1, ((mQ S).2 i).2.2.1, fw ((mQ S).2 i).2.2.2 ((mQ S).2 i).2.1)).2)
def poM (S : maS) (i : Nat) : jMsg := (upd (upd ((mQ S).2 i).1 5 (mv S 10 + ((mQ S).2 i).1 6)) 6 (jmin (((mQ S).2 i).1 6 * 2) (mv S 1)), ((mQ S).2 i).2)
def rpM (S : maS) (i : Nat) : jMsg := (upd (upd (upd (upd (upd (upd ((mQ S).2 i).1 2 (-1)) 3 0) 7 1) 4 (mv S 10)) 5 (mv S 10)) 6 (mv S 0), 1, upd ((mQ S).2 i).2.2.1 0 (((mQ S).2 i).1 2), upd ((mQ S).2 i).2.2.2 0 1)
def brM (S : maS) (i : Nat) : jMsg := (upd (upd (upd ((mQ S).2 i).1 2 (-1)) 3 0) 7 1, 1, upd ((mQ S).2 i).2.2.1 0 (((mQ S).2 i).1 2), upd ((mQ S).2 i).2.2.2 0 1)
def seS (S : maS) (i : Nat) : maS × Bool := if 0 < cnt ((mQ S).2 i).2.2.2 1 ((mQ S).2 i).2.1 then ((bmp (mv S), (setQi S i (poM S i)).2), true) else if 0 < cnt ((mQ S).2 i).2.2.2 3 ((mQ S).2 i).2.1 ∧ ¬ ((mQ S).2 i).1 2 = -1 then ((bmp (mv S), (setQi S i (rpM S i)).2), true) else ((bmp (mv S), S.2), false)
theorem okM_up {m : jMsg} {k : Nat} {x : Int32} (h : okM m) (h2 : k ≠ 2) (h7 : k ≠ 7) : okM (upd m.1 k x, m.2) := by
  unfold okM at h ⊢
  rw [show (upd m.1 k x, m.2).1 7 = m.1 7 from pk_un (by omega), show (upd m.1 k x, m.2).1 2 = m.1 2 from pk_un (by omega)]
  exact h
theorem foS_WF {S : maS} (h : WF S) {i : Nat} (hi : i < (mQ S).1) : WF (foS S i) := by
  unfold foS
  split
  · exact h
  · exact (h.qi (i := i) (y := (((mQ S).2 i).1, ((mQ S).2 i).2.1, ((mQ S).2 i).2.2.1, fw ((mQ S).2 i).2.2.2 ((mQ S).2 i).2.1)) (h.1 i hi) : WF (setQi S i _))
theorem foS_q (S : maS) (i : Nat) : (mQ (foS S i)).1 = (mQ S).1 := by
  unfold foS
  split <;> rfl
theorem seS_q (S : maS) (i : Nat) : (mQ (seS S i).1).1 = (mQ S).1 := by
  unfold seS
  split
  · rfl
  · split <;> rfl
theorem seS_WF {S : maS} (h : WF S) {i : Nat} (hi : i < (mQ S).1) : WF (seS S i).1 := by
  have hm := h.1 i hi
  unfold seS
  split
  · refine (h.qi (i := i) (y := poM S i) ?_ : WF (setQi S i _))
    exact okM_up (m := (upd ((mQ S).2 i).1 5 _, ((mQ S).2 i).2)) (okM_up hm (by decide) (by decide)) (by decide) (by decide)
  · split
    · rename_i hc
      refine (h.qi (i := i) (y := rpM S i) ?_ : WF (setQi S i _))
      obtain ⟨u, hu, eu⟩ := hm.2.2.resolve_left hc.2
      exact ⟨Or.inr rfl, fun j hj => ⟨u, hu, by rw [show j = 0 by have : j < 1 := hj; omega]; show upd ((mQ S).2 i).2.2.1 0 (((mQ S).2 i).1 2) 0 = _; rw [pk_us]; exact eu⟩, Or.inl rfl⟩
    · exact h
set_option maxHeartbeats 4000000 in
set_option maxRecDepth 100000 in
theorem c_Ma_failOverdue (l : Launch) (E : jE) {h : jH} {sz b : Nat} {S : maS} (m : isMA E h b S) {i a : Nat} {f : Nat → Option Nat} (hi : i < (mQ S).1) (hf : h (b + 33 + 1) = some (jQa E 2 6 f)) (ha : f i = some a) : jC l M_Ma_failOverdue 1 E [.ref b, .ref a] h sz 0 0 (fun r h' sz' => r = none ∧ isMA E h' b (foS S i) ∧ (∀ q, q < b ∨ b + 90 ≤ q → h' q = h q) ∧ h' (b + 33 + 1) = h (b + 33 + 1) ∧ sz' = sz) := by
  have h6 := m.qu.le
  obtain ⟨a', ha', ha1, ha2, hme, hup⟩ := m.qu.at hf (show i < 6 by omega)
  cases ha.symm.trans ha'
  have hme0 := hme
  obtain ⟨ea, er⟩ := hme
  have e0 := m.obj
  have er0 := er
  obtain ⟨r0, r1, r2, rn⟩ := er
  refine jC.of (by decide) (Nat.le_of_ble_eq_true rfl) ?_
  intro x C0 hx
  subst hx

  refine j_aload_n C0 d_Ma_failOverdue_0 rfl (by rfl) ?_
  refine j_getf C0 d_Ma_failOverdue_1 fl_Ma_65 (by (repeat (first | rw [jset_s] | rw [jset_n (by omega)] | rw [reH_0] | rw [reH_1] | rw [reH_2] | rw [reH_n (by omega)])) <;> first | rfl | assumption) (by rfl) ?_
  refine j_aload_n C0 d_Ma_failOverdue_4 rfl (by rfl) ?_
  refine j_getf C0 d_Ma_failOverdue_5 fl_Ma_243 (by (repeat (first | rw [jset_s] | rw [jset_n (by omega)] | rw [reH_0] | rw [reH_1] | rw [reH_2] | rw [reH_n (by omega)])) <;> first | rfl | assumption) (by rfl) ?_
  refine j_aload_n C0 d_Ma_failOverdue_8 rfl (by rfl) ?_
  refine j_getf C0 d_Ma_failOverdue_9 fl_Ma_20 (by (repeat (first | rw [jset_s] | rw [jset_n (by omega)] | rw [reH_0] | rw [reH_1] | rw [reH_2] | rw [reH_n (by omega)])) <;> first | rfl | assumption) (by rfl) ?_
  refine j_iadd C0 d_Ma_failOverdue_12 ?_
  refine j_icmp_lt C0 d_Ma_failOverdue_13 (tgt := 32) (by decide) (fun c_13 => ?_) (fun c_13 => ?_)
  · have eF : foS S i = S := if_pos c_13
    exact j_vret C0 d_Ma_failOverdue_32 rfl (by omega) (by omega) ⟨rfl, by
        rw [eF]
        first | exact m | exact m1.setV jset_s (fun q hq => jset_n (by omega)), by
        first | exact fun q _ => rfl | exact fun q hq => by rw [jset_n (by omega), hh1, reH_n (by omega)], by
        first | rfl | rw [jset_n (by omega), hh1, reH_n (by omega)], rfl⟩
  · have eF : foS S i = _ := if_neg c_13
    refine j_aload_n C0 d_Ma_failOverdue_16 rfl (by rfl) ?_
    refine j_dup C0 d_Ma_failOverdue_17 rfl ?_
    refine j_getf C0 d_Ma_failOverdue_18 fl_Ma_71 (by (repeat (first | rw [jset_s] | rw [jset_n (by omega)] | rw [reH_0] | rw [reH_1] | rw [reH_2] | rw [reH_n (by omega)])) <;> first | rfl | assumption) (by rfl) ?_
    refine j_aload_n C0 d_Ma_failOverdue_21 rfl (by rfl) ?_
    refine j_getf C0 d_Ma_failOverdue_22 fl_Ma_199 (by (repeat (first | rw [jset_s] | rw [jset_n (by omega)] | rw [reH_0] | rw [reH_1] | rw [reH_2] | rw [reH_n (by omega)])) <;> first | rfl | assumption) (by rfl) ?_
    refine j_callV C0 d_Ma_failOverdue_25 cl_Ma_245 cl_Ma_245v (c_Re_failWaiting _ E er0) er0.1 rfl rfl rfl ⟨by decide, by decide⟩ ⟨by omega, by omega⟩ (Nat.le_of_ble_eq_true rfl) (fun r_ h1 z_ hp_ => ?_)
    obtain ⟨rfl, hh1, rfl⟩ := hp_
    have m1 := m.setQu (hup h1 (((mQ S).2 i).1, ((mQ S).2 i).2.1, ((mQ S).2 i).2.2.1, fw ((mQ S).2 i).2.2.2 ((mQ S).2 i).2.1) ⟨by rw [hh1, reH_n (by omega)]; exact ea, by rw [hh1]; exact reH_is rn⟩ (fun q hq => by rw [hh1, reH_n (by omega)])) (fun q hq => by rw [hh1, reH_n (by omega)])
    have e1 := m1.obj
    refine j_iadd C0 d_Ma_failOverdue_28 ?_
    refine j_putf C0 d_Ma_failOverdue_29 fp_Ma_71 (by (repeat (first | rw [jset_s] | rw [jset_n (by omega)] | rw [reH_0] | rw [reH_1] | rw [reH_2] | rw [reH_n (by omega)])) <;> first | rfl | assumption) (Nat.le_of_ble_eq_true rfl) (by rfl) (by rfl) ?_
    exact j_vret C0 d_Ma_failOverdue_32 rfl (by omega) (by omega) ⟨rfl, by
        rw [eF]
        first | exact m | exact m1.setV jset_s (fun q hq => jset_n (by omega)), by
        first | exact fun q _ => rfl | exact fun q hq => by rw [jset_n (by omega), hh1, reH_n (by omega)], by
        first | rfl | rw [jset_n (by omega), hh1, reH_n (by omega)], rfl⟩
set_option maxHeartbeats 4000000 in
set_option maxRecDepth 100000 in
theorem c_Ma_settle (l : Launch) (E : jE) {h : jH} {sz b : Nat} {S : maS} (m : isMA E h b S) {i a : Nat} {f : Nat → Option Nat} (hi : i < (mQ S).1) (hf : h (b + 33 + 1) = some (jQa E 2 6 f)) (ha : f i = some a) : jC l M_Ma_settle 2 E [.ref b, .ref a] h sz 0 0 (fun r h' sz' => r = some (.int (if (seS S i).2 then 1 else 0)) ∧ isMA E h' b (seS S i).1 ∧ (∀ q, q < b ∨ b + 90 ≤ q → h' q = h q) ∧ h' (b + 33 + 1) = h (b + 33 + 1) ∧ sz' = sz) := by
  have h6 := m.qu.le
  obtain ⟨a', ha', ha1, ha2, hme, hup⟩ := m.qu.at hf (show i < 6 by omega)
  cases ha.symm.trans ha'
  have hme0 := hme
  obtain ⟨ea, er⟩ := hme
  have e0 := m.obj
  have er0 := er
  obtain ⟨r0, r1, r2, rn⟩ := er
  refine jC.of (by decide) (Nat.le_of_ble_eq_true rfl) ?_
  intro x C0 hx
  subst hx

  have hc1 := cnt_le ((mQ S).2 i).2.2.2 1 ((mQ S).2 i).2.1
  have hc3 := cnt_le ((mQ S).2 i).2.2.2 3 ((mQ S).2 i).2.1
  refine j_aload_n C0 d_Ma_settle_0 rfl (by rfl) ?_
  refine j_dup C0 d_Ma_settle_1 rfl ?_
  refine j_getf C0 d_Ma_settle_2 fl_Ma_71 (by (repeat (first | rw [jset_s] | rw [jset_n (by omega)] | rw [reH_0] | rw [reH_1] | rw [reH_2] | rw [reH_n (by omega)])) <;> first | rfl | assumption) (by rfl) ?_
  refine j_iconst C0 d_Ma_settle_5 (v := 1) (by decide) ?_
  refine j_iadd C0 d_Ma_settle_6 ?_
  refine j_putf C0 d_Ma_settle_7 fp_Ma_71 (by (repeat (first | rw [jset_s] | rw [jset_n (by omega)] | rw [reH_0] | rw [reH_1] | rw [reH_2] | rw [reH_n (by omega)])) <;> first | rfl | assumption) (Nat.le_of_ble_eq_true rfl) (by rfl) (by rfl) ?_
  refine j_heap (fun h1 eh => ?_)
  have m1 : isMA E h1 b (bmp (mv S), S.2) := by rw [eh]; exact m.setV jset_s (fun q hq => jset_n (by omega))
  have k1 : ∀ q, q < b ∨ b + 1 ≤ q → h1 q = h q := fun q hq => by rw [eh]; exact jset_n (by omega)
  have f1 : h1 (b + 33 + 1) = some (jQa E 2 6 f) := by rw [k1 _ (by omega)]; exact hf
  obtain ⟨a', ha', -, -, hme1, hup1⟩ := m1.qu.at f1 (show i < 6 by omega)
  cases ha.symm.trans ha'
  have ea1 := hme1.1
  have er1 := hme1.2
  have e1 := m1.obj
  refine j_aload_n C0 d_Ma_settle_10 rfl (by rfl) ?_
  refine j_getf C0 d_Ma_settle_11 fl_Ma_199 (by (repeat (first | rw [jset_s] | rw [jset_n (by omega)] | rw [reH_0] | rw [reH_1] | rw [reH_2] | rw [reH_n (by omega)])) <;> first | rfl | assumption) (by rfl) ?_
  refine j_iconst C0 d_Ma_settle_14 (v := 1) (by decide) ?_
  refine j_callV C0 d_Ma_settle_15 cl_Ma_248 cl_Ma_248v (c_Re_inState _ E 1 er1) er1.1 rfl rfl rfl ⟨by decide, by decide⟩ ⟨by omega, by omega⟩ (Nat.le_of_ble_eq_true rfl) (fun r_ h_ z_ hp_ => ?_)
  obtain ⟨rfl, rfl, rfl⟩ := hp_
  refine j_if_le C0 d_Ma_settle_18 (tgt := 35) (by decide) (fun c_18 => ?_) (fun c_18 => ?_)
  · have hA : ¬ 0 < cnt ((mQ S).2 i).2.2.2 1 ((mQ S).2 i).2.1 := fun hh => nI_nle hh (by omega) c_18
    refine j_aload_n C0 d_Ma_settle_35 rfl (by rfl) ?_
    refine j_getf C0 d_Ma_settle_36 fl_Ma_199 (by (repeat (first | rw [jset_s] | rw [jset_n (by omega)] | rw [reH_0] | rw [reH_1] | rw [reH_2] | rw [reH_n (by omega)])) <;> first | rfl | assumption) (by rfl) ?_
    refine j_iconst C0 d_Ma_settle_39 (v := 3) (by decide) ?_
    refine j_callV C0 d_Ma_settle_40 cl_Ma_248 cl_Ma_248v (c_Re_inState _ E 3 er1) er1.1 rfl rfl rfl ⟨by decide, by decide⟩ ⟨by omega, by omega⟩ (Nat.le_of_ble_eq_true rfl) (fun r_ h_ z_ hp_ => ?_)
    obtain ⟨rfl, rfl, rfl⟩ := hp_
    refine j_if_le C0 d_Ma_settle_43 (tgt := 72) (by decide) (fun c_43 => ?_) (fun c_43 => ?_)
    · have hB : ¬ (0 < cnt ((mQ S).2 i).2.2.2 3 ((mQ S).2 i).2.1 ∧ ¬ ((mQ S).2 i).1 2 = -1) := fun hh => nI_nle hh.1 (by omega) c_43
      have eS : seS S i = ((bmp (mv S), S.2), false) := by unfold seS; rw [if_neg hA, if_neg hB]
      refine j_iconst C0 d_Ma_settle_72 (v := 0) (by decide) ?_
      exact j_zret C0 d_Ma_settle_73 rfl (by rfl) (by omega) (by omega) ⟨by rw [eS]; rfl, by rw [eS]; exact m1, fun q hq => k1 q (by omega), k1 _ (by omega), rfl⟩
    · have hB : 0 < cnt ((mQ S).2 i).2.2.2 3 ((mQ S).2 i).2.1 := Nat.pos_of_ne_zero (fun hh => c_43 (by show nI (cnt ((mQ S).2 i).2.2.2 3 ((mQ S).2 i).2.1) ≤ 0; rw [hh]; decide))
      refine j_aload_n C0 d_Ma_settle_46 rfl (by rfl) ?_
      refine j_getf C0 d_Ma_settle_47 fl_Ma_203 (by (repeat (first | rw [jset_s] | rw [jset_n (by omega)] | rw [reH_0] | rw [reH_1] | rw [reH_2] | rw [reH_n (by omega)])) <;> first | rfl | assumption) (by rfl) ?_
      refine j_iconst C0 d_Ma_settle_50 (v := -1) (by decide) ?_
      refine j_icmp_eq C0 d_Ma_settle_51 (tgt := 72) (by decide) (fun c_51 => ?_) (fun c_51 => ?_)
      · have hC : ¬ (0 < cnt ((mQ S).2 i).2.2.2 3 ((mQ S).2 i).2.1 ∧ ¬ ((mQ S).2 i).1 2 = -1) := fun hh => hh.2 c_51
        have eS : seS S i = ((bmp (mv S), S.2), false) := by unfold seS; rw [if_neg hA, if_neg hC]
        refine j_iconst C0 d_Ma_settle_72 (v := 0) (by decide) ?_
        exact j_zret C0 d_Ma_settle_73 rfl (by rfl) (by omega) (by omega) ⟨by rw [eS]; rfl, by rw [eS]; exact m1, fun q hq => k1 q (by omega), k1 _ (by omega), rfl⟩
      · have eS : seS S i = ((bmp (mv S), (setQi S i (rpM S i)).2), true) := by unfold seS; rw [if_neg hA, if_pos ⟨hB, c_51⟩]
        refine j_aload_n C0 d_Ma_settle_54 rfl (by rfl) ?_
        refine j_callV C0 d_Ma_settle_55 cl_Ma_254 cl_Ma_254v (c_Me_becomeReport _ E hme1) ea1 rfl rfl rfl ⟨by decide, by decide⟩ ⟨by omega, by omega⟩ (Nat.le_of_ble_eq_true rfl) (fun r_ h2 z_ hp_ => ?_)
        obtain ⟨rfl, hh2, rfl⟩ := hp_
        have hh2 : h2 = meH E _ a (brM S i) := hh2
        have hme2 : isMe E h2 a (brM S i) := by rw [hh2]; exact meH_is (by show 1 ≤ 4; decide)
        have e2 : h2 b = some (maO b (bmp (mv S))) := by rw [hh2, meH_n (by omega)]; exact e1
        have k2 : ∀ q, q < a ∨ a + 4 ≤ q → h2 q = h_ q := fun q hq => by rw [hh2]; exact meH_n hq
        refine j_aload_n C0 d_Ma_settle_58 rfl (by rfl) ?_
        refine j_aload_n C0 d_Ma_settle_59 rfl (by rfl) ?_
        refine j_getf C0 d_Ma_settle_60 fl_Ma_65 (by (repeat (first | rw [jset_s] | rw [jset_n (by omega)] | rw [reH_0] | rw [reH_1] | rw [reH_2] | rw [reH_n (by omega)])) <;> first | rfl | assumption) (by rfl) ?_
        refine j_aload_n C0 d_Ma_settle_63 rfl (by rfl) ?_
        refine j_getf C0 d_Ma_settle_64 fl_Ma_13 (by (repeat (first | rw [jset_s] | rw [jset_n (by omega)] | rw [reH_0] | rw [reH_1] | rw [reH_2] | rw [reH_n (by omega)])) <;> first | rfl | assumption) (by rfl) ?_
        refine j_callV C0 d_Ma_settle_67 cl_Ma_153 cl_Ma_153v (c_Me_schedule _ E _ _ hme2) hme2.1 rfl rfl rfl ⟨by decide, by decide⟩ ⟨by omega, by omega⟩ (Nat.le_of_ble_eq_true rfl) (fun r_ h3 z_ hp_ => ?_)
        obtain ⟨rfl, hh3, rfl⟩ := hp_
        have k3 := fun (q : Nat) (hq : q < a ∨ a + 4 ≤ q) => (by rw [hh3, jset_n (by omega)] : h3 q = h2 q).trans (k2 q hq)
        have m3 := m1.setQu (hup1 h3 (rpM S i) ⟨by rw [hh3, jset_s]; rfl, hme2.2.keep (fun q h1 h2 => by rw [hh3, jset_n (by omega)])⟩ k3) (fun q hq => k3 q (by omega))
        refine j_iconst C0 d_Ma_settle_70 (v := 1) (by decide) ?_
        exact j_zret C0 d_Ma_settle_71 rfl (by rfl) (by omega) (by omega) ⟨by rw [eS]; rfl, by rw [eS]; exact m3, fun q hq => by rw [k3 q (by omega)]; exact k1 q (by omega), by rw [k3 _ (by omega)]; exact k1 _ (by omega), rfl⟩
  · have hA : 0 < cnt ((mQ S).2 i).2.2.2 1 ((mQ S).2 i).2.1 := Nat.pos_of_ne_zero (fun hh => c_18 (by show nI (cnt ((mQ S).2 i).2.2.2 1 ((mQ S).2 i).2.1) ≤ 0; rw [hh]; decide))
    have eS : seS S i = ((bmp (mv S), (setQi S i (poM S i)).2), true) := if_pos hA
    refine j_aload_n C0 d_Ma_settle_21 rfl (by rfl) ?_
    refine j_aload_n C0 d_Ma_settle_22 rfl (by rfl) ?_
    refine j_getf C0 d_Ma_settle_23 fl_Ma_65 (by (repeat (first | rw [jset_s] | rw [jset_n (by omega)] | rw [reH_0] | rw [reH_1] | rw [reH_2] | rw [reH_n (by omega)])) <;> first | rfl | assumption) (by rfl) ?_
    refine j_aload_n C0 d_Ma_settle_26 rfl (by rfl) ?_
    refine j_getf C0 d_Ma_settle_27 fl_Ma_17 (by (repeat (first | rw [jset_s] | rw [jset_n (by omega)] | rw [reH_0] | rw [reH_1] | rw [reH_2] | rw [reH_n (by omega)])) <;> first | rfl | assumption) (by rfl) ?_
    refine j_callV C0 d_Ma_settle_30 cl_Ma_251 cl_Ma_251v (c_Me_putOff _ E _ _ hme1) ea1 rfl rfl rfl ⟨by decide, by decide⟩ ⟨by omega, by omega⟩ (Nat.le_of_ble_eq_true rfl) (fun r_ h2 z_ hp_ => ?_)
    obtain ⟨rfl, hh2, rfl⟩ := hp_
    have m2 := m1.setQu (hup1 h2 (poM S i) ⟨by rw [hh2, jset_s]; rfl, er1.keep (fun q h1 h2 => by rw [hh2, jset_n (by omega)])⟩ (fun q hq => by rw [hh2, jset_n (by omega)])) (fun q hq => by rw [hh2, jset_n (by omega)])
    refine j_iconst C0 d_Ma_settle_33 (v := 1) (by decide) ?_
    exact j_zret C0 d_Ma_settle_34 rfl (by rfl) (by omega) (by omega) ⟨by rw [eS]; rfl, by rw [eS]; exact m2, fun q hq => by rw [hh2, jset_n (by omega)]; exact k1 q (by omega), by rw [hh2, jset_n (by omega)]; exact k1 _ (by omega), rfl⟩
theorem j_cut {x : jX} {M : jM} {E : jE} {Q : State → Prop} {h : jH} {sz ce sl pc : Nat} {lv : List (Nat × Value)} {st : List Value} (A : jH → Prop) (lv' : List (Nat × Value)) (pc' : Nat) (st' : List Value) (tail : ∀ h5, A h5 → jJ x M E Q h5 sz ce sl lv' pc' st') (body : (∀ h5, A h5 → jJ x M E Q h5 sz ce sl lv' pc' st') → jJ x M E Q h sz ce sl lv pc st) : jJ x M E Q h sz ce sl lv pc st := body tail
def remS (S : maS) (i : Nat) : maS := (S.1, S.2.1, S.2.2.1, S.2.2.2.1, S.2.2.2.2.1, ((mQ S).1 - 1, fun j => (mQ S).2 (rho i (mQ S).1 j)), S.2.2.2.2.2.2)
def tkM (S : maS) (i : Nat) : maS × Nat × Bool := if mv S 10 < ((mQ S).2 i).1 5 then (S, 0, true) else ((seS (foS (trS S i ((mQ S).2 i).2.1).1 i) i).1, (trS S i ((mQ S).2 i).2.1).2, (seS (foS (trS S i ((mQ S).2 i).2.1).1 i) i).2)
def tk1 (p : maS × Nat × Nat) : maS × Nat × Nat := if p.2.1 < (mQ p.1).1 then (if (tkM p.1 p.2.1).2.2 then ((tkM p.1 p.2.1).1, p.2.1 + 1, p.2.2 + (tkM p.1 p.2.1).2.1) else (remS (tkM p.1 p.2.1).1 p.2.1, p.2.1, p.2.2 + (tkM p.1 p.2.1).2.1)) else p
def tkS (S : maS) : Nat → maS × Nat × Nat
  | 0 => (S, 0, 0)
  | t + 1 => tk1 (tkS S t)
theorem tkM_q (S : maS) (i : Nat) : (mQ (tkM S i).1).1 = (mQ S).1 := by
  unfold tkM
  split
  · rfl
  · rw [seS_q, foS_q]; exact (trS_keep S i _).1
theorem tkM_WF {S : maS} (h : WF S) {i : Nat} (hi : i < (mQ S).1) : WF (tkM S i).1 := by
  unfold tkM
  split
  · exact h
  · have h1 := trS_WF h i ((mQ S).2 i).2.1
    have h2 : i < (mQ (trS S i ((mQ S).2 i).2.1).1).1 := by rw [(trS_keep S i _).1]; exact hi
    exact seS_WF (foS_WF h1 h2) (by rw [foS_q]; exact h2)
theorem remS_WF {S : maS} (h : WF S) {i : Nat} (hi : i < (mQ S).1) : WF (remS S i) := ⟨fun j hj => by
  show okM ((mQ S).2 (rho i (mQ S).1 j))
  have hj : j < (mQ S).1 - 1 := hj
  exact h.1 _ (by unfold rho; (repeat' split) <;> omega), h.2⟩
theorem tk1_WF {p : maS × Nat × Nat} (h : WF p.1) : WF (tk1 p).1 := by
  unfold tk1
  split
  · rename_i hi
    split
    · exact tkM_WF h hi
    · exact remS_WF (tkM_WF h hi) (by rw [tkM_q]; exact hi)
  · exact h
theorem tkS_WF {S : maS} (h : WF S) : ∀ t, WF (tkS S t).1
  | 0 => h
  | t + 1 => tk1_WF (tkS_WF h t)
theorem tkS_i (S : maS) : ∀ t, (tkS S t).2.1 ≤ t
  | 0 => Nat.le_refl 0
  | t + 1 => by
    have := tkS_i S t
    show (tk1 (tkS S t)).2.1 ≤ t + 1
    unfold tk1
    split
    · split
      · show _ + 1 ≤ _; omega
      · show (tkS S t).2.1 ≤ _; omega
    · omega
theorem tkS_stuck {S : maS} {t : Nat} (h : ¬ (tkS S t).2.1 < (mQ (tkS S t).1).1) : ∀ d, tkS S (t + d) = tkS S t
  | 0 => rfl
  | d + 1 => by
    show tk1 (tkS S (t + d)) = _
    rw [tkS_stuck h d]
    exact if_neg h
theorem tkS_q6 {S : maS} (h : (mQ S).1 ≤ 6) : ∀ t, (mQ (tkS S t).1).1 - (tkS S t).2.1 ≤ 6 - t ∧ (mQ (tkS S t).1).1 ≤ 6
  | 0 => ⟨h, h⟩
  | t + 1 => by
    obtain ⟨h1, h2⟩ := tkS_q6 h t
    have hq := tkM_q (tkS S t).1 (tkS S t).2.1
    show (mQ (tk1 (tkS S t)).1).1 - (tk1 (tkS S t)).2.1 ≤ _ ∧ (mQ (tk1 (tkS S t)).1).1 ≤ 6
    unfold tk1
    split
    · split
      · show (mQ (tkM _ _).1).1 - ((tkS S t).2.1 + 1) ≤ _ ∧ (mQ (tkM _ _).1).1 ≤ 6
        rw [hq]; omega
      · show ((mQ (tkM _ _).1).1 - 1) - (tkS S t).2.1 ≤ _ ∧ (mQ (tkM _ _).1).1 - 1 ≤ 6
        rw [hq]; omega
    · omega
abbrev tkZ (S : maS) (t : Int32) : maS := (upd (mv S) 10 t, S.2)
def tiS (S : maS) (t : Int32) : maS := kcf (tkS (tkZ S t) 6).1
set_option maxHeartbeats 4000000 in
set_option maxRecDepth 100000 in
theorem c_Ma_tick_bad (l : Launch) (E : jE) {h : jH} {sz b : Nat} {S : maS} (m : isMA E h b S) (p : Int32) (hbad : p < mv S 10 ∨ ¬ p ≤ 1000000) : jC l M_Ma_tick 5 E [.ref b, .int p] h sz 0 0 (fun r h' sz' => r = some (.int (-501)) ∧ isMA E h' b S ∧ (∀ q, q < b ∨ b + 90 ≤ q → h' q = h q) ∧ sz' = sz) := by
  have e0 := m.obj
  refine jC.of (by decide) (Nat.le_of_ble_eq_true rfl) ?_
  intro x C0 hx
  subst hx

  refine j_iload_n C0 d_Ma_tick_0 rfl (by rfl) ?_
  refine j_aload_n C0 d_Ma_tick_1 rfl (by rfl) ?_
  refine j_getf C0 d_Ma_tick_2 fl_Ma_65 (by (repeat (first | rw [jset_s] | rw [jset_n (by omega)] | rw [reH_0] | rw [reH_1] | rw [reH_2] | rw [reH_n (by omega)])) <;> first | rfl | assumption) (by rfl) ?_
  refine j_icmp_lt C0 d_Ma_tick_5 (tgt := 14) (by decide) (fun c_5 => ?_) (fun c_5 => ?_)
  · refine j_sipush C0 d_Ma_tick_14 (v := -501) (by decide) ?_
    exact j_iret C0 d_Ma_tick_17 rfl (by omega) (by omega) ⟨rfl, m, fun q _ => rfl, rfl⟩
  · refine j_iload_n C0 d_Ma_tick_8 rfl (by rfl) ?_
    refine j_ldc C0 d_Ma_tick_9 w_2_119 ?_
    refine j_icmp_le C0 d_Ma_tick_11 (tgt := 18) (by decide) (fun c_11 => ?_) (fun c_11 => ?_)
    · exact absurd c_11 (hbad.resolve_left c_5)
    · refine j_sipush C0 d_Ma_tick_14 (v := -501) (by decide) ?_
      exact j_iret C0 d_Ma_tick_17 rfl (by omega) (by omega) ⟨rfl, m, fun q _ => rfl, rfl⟩
set_option maxHeartbeats 4000000 in
set_option maxRecDepth 100000 in
theorem c_Ma_tick (l : Launch) (E : jE) {h : jH} {sz b : Nat} {S : maS} (m : isMA E h b S) (p : Int32) (hok : ¬ p < mv S 10 ∧ p ≤ 1000000) (hw : WF S) : jC l M_Ma_tick 5 E [.ref b, .int p] h sz 0 0 (fun r h' sz' => r = some (.int (nI (tkS (tkZ S p) 6).2.2)) ∧ isMA E h' b (tiS S p) ∧ (∀ q, q < b ∨ b + 90 ≤ q → h' q = h q) ∧ sz' = sz) := by
  have e0 := m.obj
  have h6 := m.qu.le
  refine jC.of (by decide) (Nat.le_of_ble_eq_true rfl) ?_
  intro x C0 hx
  subst hx

  refine j_iload_n C0 d_Ma_tick_0 rfl (by rfl) ?_
  refine j_aload_n C0 d_Ma_tick_1 rfl (by rfl) ?_
  refine j_getf C0 d_Ma_tick_2 fl_Ma_65 (by (repeat (first | rw [jset_s] | rw [jset_n (by omega)] | rw [reH_0] | rw [reH_1] | rw [reH_2] | rw [reH_n (by omega)])) <;> first | rfl | assumption) (by rfl) ?_
  refine j_icmp_lt C0 d_Ma_tick_5 (tgt := 14) (by decide) (fun c_5 => ?_) (fun c_5 => ?_)
  · exact absurd c_5 hok.1
  · refine j_iload_n C0 d_Ma_tick_8 rfl (by rfl) ?_
    refine j_ldc C0 d_Ma_tick_9 w_2_119 ?_
    refine j_icmp_le C0 d_Ma_tick_11 (tgt := 18) (by decide) (fun c_11 => ?_) (fun c_11 => ?_)
    · refine j_aload_n C0 d_Ma_tick_18 rfl (by rfl) ?_
      refine j_iload_n C0 d_Ma_tick_19 rfl (by rfl) ?_
      refine j_putf C0 d_Ma_tick_20 fp_Ma_65 (by (repeat (first | rw [jset_s] | rw [jset_n (by omega)] | rw [reH_0] | rw [reH_1] | rw [reH_2] | rw [reH_n (by omega)])) <;> first | rfl | assumption) (Nat.le_of_ble_eq_true rfl) (by rfl) (by rfl) ?_
      refine j_heap (fun h0 eh0 => ?_)
      have m0 : isMA E h0 b (tkZ S p) := by rw [eh0]; exact m.setV jset_s (fun q hq => jset_n (by omega))
      have k0 : ∀ q, q < b ∨ b + 90 ≤ q → h0 q = h q := fun q hq => by rw [eh0]; exact jset_n (by omega)
      have hw0 : WF (tkZ S p) := hw
      refine j_iconst C0 d_Ma_tick_23 (v := 0) (by decide) ?_
      refine j_istore_n C0 d_Ma_tick_24 rfl (Nat.le_of_ble_eq_true rfl) ?_
      refine j_iconst C0 d_Ma_tick_25 (v := 0) (by decide) ?_
      refine j_istore_n C0 d_Ma_tick_26 rfl (Nat.le_of_ble_eq_true rfl) ?_
      refine j_iconst C0 d_Ma_tick_27 (v := 0) (by decide) ?_
      refine j_istore C0 d_Ma_tick_28 (Nat.le_of_ble_eq_true rfl) ?_
      refine j_lv (lv' := [(0, .ref b), (1, .int p), (2, .int (nI (tkS (tkZ S p) 0).2.2)), (3, .int (nI (tkS (tkZ S p) 0).2.1)), (4, .int (nI 0))]) ⟨rfl, rfl, rfl, rfl, rfl, trivial⟩ ?_
      refine j_forR 6 (fun t hh => isMA E hh b (tkS (tkZ S p) t).1 ∧ ∀ q, q < b ∨ b + 90 ≤ q → hh q = h q) (fun _ => sz) (fun _ => 0) (fun _ => 0) (fun t => [(0, .ref b), (1, .int p), (2, .int (nI (tkS (tkZ S p) t).2.2)), (3, .int (nI (tkS (tkZ S p) t).2.1)), (4, .int (nI t))]) ?_ ?_ 0 h0 (by decide) ⟨m0, k0⟩
      · intro t hh ht hI ih
        obtain ⟨mt, kt⟩ := hI
        have hwt := tkS_WF hw0 t
        have hit := tkS_i (tkZ S p) t
        have hq6 := mt.qu.le
        have eqt := mt.qu.obj
        have et := mt.obj
        obtain ⟨f, ef⟩ := mt.qu.arr
        refine j_cut (fun h5 => isMA E h5 b (tkM (tkS (tkZ S p) t).1 (tkS (tkZ S p) t).2.1).1 ∧ (∀ q, q < b ∨ b + 90 ≤ q → h5 q = h q) ∧ (tkS (tkZ S p) t).2.1 < (mQ (tkS (tkZ S p) t).1).1) [(0, .ref b), (1, .int p), (2, .int (nI ((tkS (tkZ S p) t).2.2 + (tkM (tkS (tkZ S p) t).1 (tkS (tkZ S p) t).2.1).2.1))), (3, .int (nI (tkS (tkZ S p) t).2.1)), (4, .int (nI t)), (6, .int (if (tkM (tkS (tkZ S p) t).1 (tkS (tkZ S p) t).2.1).2.2 then 1 else 0))] 97 [] ?_ ?_
        · intro h5 hA
          obtain ⟨m5, k5, hlt⟩ := hA
          have e5 := m5.obj
          have hq5 := tkM_q (tkS (tkZ S p) t).1 (tkS (tkZ S p) t).2.1
          have hlt5 : (tkS (tkZ S p) t).2.1 < (mQ (tkM (tkS (tkZ S p) t).1 (tkS (tkZ S p) t).2.1).1).1 := by rw [hq5]; exact hlt
          refine j_iload C0 d_Ma_tick_97 (by rfl) ?_
          refine j_if_eq C0 d_Ma_tick_99 (tgt := 108) (by decide) (fun c_99 => ?_) (fun c_99 => ?_)
          · have hb : (tkM (tkS (tkZ S p) t).1 (tkS (tkZ S p) t).2.1).2.2 = false := by
              cases hq : (tkM (tkS (tkZ S p) t).1 (tkS (tkZ S p) t).2.1).2.2 with
              | false => rfl
              | true => rw [hq] at c_99; exact absurd c_99 (by decide)
            have eN : tkS (tkZ S p) (t + 1) = (remS (tkM (tkS (tkZ S p) t).1 (tkS (tkZ S p) t).2.1).1 (tkS (tkZ S p) t).2.1, (tkS (tkZ S p) t).2.1, (tkS (tkZ S p) t).2.2 + (tkM (tkS (tkZ S p) t).1 (tkS (tkZ S p) t).2.1).2.1) := by show tk1 _ = _; unfold tk1; rw [if_pos hlt, hb]; rfl
            refine j_aload_n C0 d_Ma_tick_108 rfl (by rfl) ?_
            refine j_getf C0 d_Ma_tick_109 fl_Ma_51 (by (repeat (first | rw [jset_s] | rw [jset_n (by omega)] | rw [reH_0] | rw [reH_1] | rw [reH_2] | rw [reH_n (by omega)])) <;> first | rfl | assumption) (by rfl) ?_
            refine j_iload_n C0 d_Ma_tick_112 rfl (by rfl) ?_
            refine j_callV C0 d_Ma_tick_113 cl_Ma_180 cl_Ma_180v (c_Qu_removeAt _ E m5.qu hlt5) m5.qu.obj rfl rfl rfl ⟨by decide, by decide⟩ ⟨by omega, by omega⟩ (Nat.le_of_ble_eq_true rfl) (fun r_ h7 z_ hp_ => ?_)
            obtain ⟨rfl, u1, u2, rfl⟩ := hp_
            have m7 : isMA E h7 b (tkS (tkZ S p) (t + 1)).1 := by rw [eN]; exact m5.setQu u1 (fun q hq => u2 q (by omega))
            have mN := m7
            have kN : ∀ q, q < b ∨ b + 90 ≤ q → h7 q = h q := fun q hq => by rw [u2 q (by omega)]; exact k5 q hq
            refine j_iinc C0 d_Ma_tick_116 (by rfl) (jinc _) (Nat.le_of_ble_eq_true rfl) ?_
            refine j_goto C0 d_Ma_tick_119 (tgt := 30) (by decide) ?_
            refine j_lv (lv' := [(0, .ref b), (1, .int p), (2, .int (nI (tkS (tkZ S p) (t + 1)).2.2)), (3, .int (nI (tkS (tkZ S p) (t + 1)).2.1)), (4, .int (nI (t + 1)))]) ⟨rfl, rfl, by rw [eN]; rfl, by rw [eN]; rfl, rfl, trivial⟩ ?_
            exact ih _ ⟨mN, kN⟩
          · have hb : (tkM (tkS (tkZ S p) t).1 (tkS (tkZ S p) t).2.1).2.2 = true := by
              cases hq : (tkM (tkS (tkZ S p) t).1 (tkS (tkZ S p) t).2.1).2.2 with
              | true => rfl
              | false => rw [hq] at c_99; exact absurd rfl c_99
            have eN : tkS (tkZ S p) (t + 1) = ((tkM (tkS (tkZ S p) t).1 (tkS (tkZ S p) t).2.1).1, (tkS (tkZ S p) t).2.1 + 1, (tkS (tkZ S p) t).2.2 + (tkM (tkS (tkZ S p) t).1 (tkS (tkZ S p) t).2.1).2.1) := by show tk1 _ = _; unfold tk1; rw [if_pos hlt, hb]; rfl
            have mN : isMA E h5 b (tkS (tkZ S p) (t + 1)).1 := by rw [eN]; exact m5
            have kN := k5
            refine j_iinc C0 d_Ma_tick_102 (by rfl) (jinc _) (Nat.le_of_ble_eq_true rfl) ?_
            refine j_goto C0 d_Ma_tick_105 (tgt := 116) (by decide) ?_
            refine j_iinc C0 d_Ma_tick_116 (by rfl) (jinc _) (Nat.le_of_ble_eq_true rfl) ?_
            refine j_goto C0 d_Ma_tick_119 (tgt := 30) (by decide) ?_
            refine j_lv (lv' := [(0, .ref b), (1, .int p), (2, .int (nI (tkS (tkZ S p) (t + 1)).2.2)), (3, .int (nI (tkS (tkZ S p) (t + 1)).2.1)), (4, .int (nI (t + 1)))]) ⟨rfl, rfl, by rw [eN]; rfl, by rw [eN]; rfl, rfl, trivial⟩ ?_
            exact ih _ ⟨mN, kN⟩
        · intro tail
          refine j_iload C0 d_Ma_tick_30 (by rfl) ?_
          refine j_bipush C0 d_Ma_tick_32 (v := 6) (by decide) ?_
          refine j_icmp_ge C0 d_Ma_tick_34 (tgt := 122) (by decide) (fun c_34 => ?_) (fun c_34 => ?_)
          · exact absurd c_34 (nI_ge (b := 6) ht (by decide))
          · refine j_iload_n C0 d_Ma_tick_37 rfl (by rfl) ?_
            refine j_aload_n C0 d_Ma_tick_38 rfl (by rfl) ?_
            refine j_getf C0 d_Ma_tick_39 fl_Ma_51 (by (repeat (first | rw [jset_s] | rw [jset_n (by omega)] | rw [reH_0] | rw [reH_1] | rw [reH_2] | rw [reH_n (by omega)])) <;> first | rfl | assumption) (by rfl) ?_
            refine j_getf C0 d_Ma_tick_42 fl_Ma_139 (by (repeat (first | rw [jset_s] | rw [jset_n (by omega)] | rw [reH_0] | rw [reH_1] | rw [reH_2] | rw [reH_n (by omega)])) <;> first | rfl | assumption) (by rfl) ?_
            refine j_icmp_ge C0 d_Ma_tick_45 (tgt := 122) (by decide) (fun c_45 => ?_) (fun c_45 => ?_)
            · have hge : ¬ (tkS (tkZ S p) t).2.1 < (mQ (tkS (tkZ S p) t).1).1 := fun hh => nI_ge hh (by omega) c_45
              have e6 : tkS (tkZ S p) 6 = (tkS (tkZ S p) t) := by have := tkS_stuck hge (6 - t); rw [show t + (6 - t) = 6 by omega] at this; exact this
              have mE : isMA E hh b (tkS (tkZ S p) 6).1 := by rw [e6]; exact mt
              rw [← e6]
              refine j_aload_n C0 d_Ma_tick_122 rfl (by rfl) ?_
              refine j_callV C0 d_Ma_tick_123 cl_Ma_183 cl_Ma_183v (c_Ma_keepChangesFew _ E mE (tkS_WF hw0 6).b7) mE.obj rfl rfl rfl ⟨by decide, by decide⟩ ⟨by omega, by omega⟩ (Nat.le_of_ble_eq_true rfl) (fun r_ h9 z_ hp_ => ?_)
              obtain ⟨rfl, m9, k9, rfl⟩ := hp_
              refine j_iload_n C0 d_Ma_tick_126 rfl (by rfl) ?_
              exact j_iret C0 d_Ma_tick_127 rfl (by omega) (by omega) ⟨rfl, m9, fun q hq => by rw [k9 q hq]; exact kt q hq, rfl⟩
            · have hlt : (tkS (tkZ S p) t).2.1 < (mQ (tkS (tkZ S p) t).1).1 := Nat.lt_of_not_le (fun hh => c_45 (nI_le hh (by omega)))
              obtain ⟨a, ha, ha1, ha2, hme, hup⟩ := mt.qu.at ef (show (tkS (tkZ S p) t).2.1 < 6 by omega)
              have ea := hme.1
              refine j_aload_n C0 d_Ma_tick_48 rfl (by rfl) ?_
              refine j_getf C0 d_Ma_tick_49 fl_Ma_51 (by (repeat (first | rw [jset_s] | rw [jset_n (by omega)] | rw [reH_0] | rw [reH_1] | rw [reH_2] | rw [reH_n (by omega)])) <;> first | rfl | assumption) (by rfl) ?_
              refine j_getf C0 d_Ma_tick_52 fl_Ma_161 (by (repeat (first | rw [jset_s] | rw [jset_n (by omega)] | rw [reH_0] | rw [reH_1] | rw [reH_2] | rw [reH_n (by omega)])) <;> first | rfl | assumption) (by rfl) ?_
              refine j_iload_n C0 d_Ma_tick_55 rfl (by rfl) ?_
              refine j_aald C0 d_Ma_tick_56 (by (repeat (first | rw [jset_s] | rw [jset_n (by omega)] | rw [reH_0] | rw [reH_1] | rw [reH_2] | rw [reH_n (by omega)])) <;> first | rfl | assumption) rfl rfl (by omega) (by decide) ha ?_
              refine j_astore C0 d_Ma_tick_57 (Nat.le_of_ble_eq_true rfl) ?_
              refine j_iconst C0 d_Ma_tick_59 (v := 1) (by decide) ?_
              refine j_istore C0 d_Ma_tick_60 (Nat.le_of_ble_eq_true rfl) ?_
              refine j_aload C0 d_Ma_tick_62 (by rfl) ?_
              refine j_getf C0 d_Ma_tick_64 fl_Ma_165 (by (repeat (first | rw [jset_s] | rw [jset_n (by omega)] | rw [reH_0] | rw [reH_1] | rw [reH_2] | rw [reH_n (by omega)])) <;> first | rfl | assumption) (by rfl) ?_
              refine j_aload_n C0 d_Ma_tick_67 rfl (by rfl) ?_
              refine j_getf C0 d_Ma_tick_68 fl_Ma_65 (by (repeat (first | rw [jset_s] | rw [jset_n (by omega)] | rw [reH_0] | rw [reH_1] | rw [reH_2] | rw [reH_n (by omega)])) <;> first | rfl | assumption) (by rfl) ?_
              refine j_icmp_gt C0 d_Ma_tick_71 (tgt := 97) (by decide) (fun c_71 => ?_) (fun c_71 => ?_)
              · have eK : tkM (tkS (tkZ S p) t).1 (tkS (tkZ S p) t).2.1 = ((tkS (tkZ S p) t).1, 0, true) := if_pos c_71
                have m8 : isMA E hh b (tkM (tkS (tkZ S p) t).1 (tkS (tkZ S p) t).2.1).1 := by rw [eK]; exact mt
                have k8 := kt
                exact j_to (tail _ ⟨m8, k8, hlt⟩) rfl ⟨rfl, rfl, by rw [eK]; rfl, rfl, rfl, by rw [eK]; rfl, trivial⟩
              · have eK : tkM (tkS (tkZ S p) t).1 (tkS (tkZ S p) t).2.1 = _ := if_neg c_71
                refine j_iload_n C0 d_Ma_tick_74 rfl (by rfl) ?_
                refine j_aload_n C0 d_Ma_tick_75 rfl (by rfl) ?_
                refine j_aload C0 d_Ma_tick_76 (by rfl) ?_
                refine j_callV C0 d_Ma_tick_78 cl_Ma_168 cl_Ma_168v (c_Ma_tryRecipients _ E mt hlt ef ha hwt) mt.obj rfl rfl rfl ⟨by decide, by decide⟩ ⟨by omega, by omega⟩ (Nat.le_of_ble_eq_true rfl) (fun r_ h1 z_ hp_ => ?_)
                obtain ⟨rfl, m1, k1, q1, rfl⟩ := hp_
                rw [show ∀ y, (some (Value.int y)).toList ++ ([Value.int (nI (tkS (tkZ S p) t).2.2)] : List Value) = [Value.int y, Value.int (nI (tkS (tkZ S p) t).2.2)] from fun _ => rfl]
                have hk := trS_keep (tkS (tkZ S p) t).1 (tkS (tkZ S p) t).2.1 ((mQ (tkS (tkZ S p) t).1).2 (tkS (tkZ S p) t).2.1).2.1
                have hl1 : (tkS (tkZ S p) t).2.1 < (mQ (trS (tkS (tkZ S p) t).1 (tkS (tkZ S p) t).2.1 ((mQ (tkS (tkZ S p) t).1).2 (tkS (tkZ S p) t).2.1).2.1).1).1 := by rw [hk.1]; exact hlt
                have ef1 : h1 (b + 33 + 1) = some (jQa E 2 6 f) := by rw [q1]; exact ef
                refine j_iadd C0 d_Ma_tick_81 ?_
                rw [nI_add]
                refine j_istore_n C0 d_Ma_tick_82 rfl (Nat.le_of_ble_eq_true rfl) ?_
                refine j_aload_n C0 d_Ma_tick_83 rfl (by rfl) ?_
                refine j_aload C0 d_Ma_tick_84 (by rfl) ?_
                refine j_callV C0 d_Ma_tick_86 cl_Ma_172 cl_Ma_172v (c_Ma_failOverdue _ E m1 hl1 ef1 ha) m1.obj rfl rfl rfl ⟨by decide, by decide⟩ ⟨by omega, by omega⟩ (Nat.le_of_ble_eq_true rfl) (fun r_ h2 z_ hp_ => ?_)
                obtain ⟨rfl, m2, k2, q2, rfl⟩ := hp_
                have ef2 : h2 (b + 33 + 1) = some (jQa E 2 6 f) := by rw [q2]; exact ef1
                refine j_aload_n C0 d_Ma_tick_89 rfl (by rfl) ?_
                refine j_aload C0 d_Ma_tick_90 (by rfl) ?_
                refine j_callV C0 d_Ma_tick_92 cl_Ma_176 cl_Ma_176v (c_Ma_settle _ E m2 (by rw [foS_q]; exact hl1) ef2 ha) m2.obj rfl rfl rfl ⟨by decide, by decide⟩ ⟨by omega, by omega⟩ (Nat.le_of_ble_eq_true rfl) (fun r_ h3 z_ hp_ => ?_)
                obtain ⟨rfl, m3, k3, q3, rfl⟩ := hp_
                have m8 : isMA E h3 b (tkM (tkS (tkZ S p) t).1 (tkS (tkZ S p) t).2.1).1 := by rw [eK]; exact m3
                have k8 : ∀ q, q < b ∨ b + 90 ≤ q → h3 q = h q := fun q hq => by rw [k3 q hq, k2 q hq, k1 q hq]; exact kt q hq
                refine j_istore C0 d_Ma_tick_95 (Nat.le_of_ble_eq_true rfl) ?_
                exact j_to (tail _ ⟨m8, k8, hlt⟩) rfl ⟨rfl, rfl, by rw [eK]; rfl, rfl, rfl, by rw [eK]; rfl, trivial⟩
      · intro hh hI
        obtain ⟨mE, kt⟩ := hI
        have et := mE.obj
        have eqt := mE.qu.obj
        refine j_iload C0 d_Ma_tick_30 (by rfl) ?_
        refine j_bipush C0 d_Ma_tick_32 (v := 6) (by decide) ?_
        refine j_icmp_ge C0 d_Ma_tick_34 (tgt := 122) (by decide) (fun c_34 => ?_) (fun c_34 => ?_)
        · refine j_aload_n C0 d_Ma_tick_122 rfl (by rfl) ?_
          refine j_callV C0 d_Ma_tick_123 cl_Ma_183 cl_Ma_183v (c_Ma_keepChangesFew _ E mE (tkS_WF hw0 6).b7) mE.obj rfl rfl rfl ⟨by decide, by decide⟩ ⟨by omega, by omega⟩ (Nat.le_of_ble_eq_true rfl) (fun r_ h9 z_ hp_ => ?_)
          obtain ⟨rfl, m9, k9, rfl⟩ := hp_
          refine j_iload_n C0 d_Ma_tick_126 rfl (by rfl) ?_
          exact j_iret C0 d_Ma_tick_127 rfl (by omega) (by omega) ⟨rfl, m9, fun q hq => by rw [k9 q hq]; exact kt q hq, rfl⟩
        · exact absurd (nI_le (Nat.le_refl 6) (by decide)) c_34
    · exact absurd hok.2 c_11
end
section
theorem j_sz {x : jX} {M : jM} {E : jE} {Q : State → Prop} {h : jH} {sz ce sl pc : Nat} {lv : List (Nat × Value)} {st : List Value} (z c l : Nat) (e : sz = z) (e2 : ce = c) (e3 : sl = l) (kk : jJ x M E Q h z c l lv pc st) : jJ x M E Q h sz ce sl lv pc st := by subst e; subst e2; subst e3; exact kk
def iv (p q s : Int32) : Nat → Int32 := fun k => if k = 0 then jmax 1 (jmin p 60) else if k = 1 then jmax (jmax 1 (jmin p 60)) (jmin q 600) else if k = 2 then jmax (jmax (jmax 1 (jmin p 60)) (jmin q 600)) (jmin s 6000) else 0
theorem iv_0 (p q s : Int32) : iv p q s 0 = jmax 1 (jmin p 60) := if_pos rfl
theorem iv_1 (p q s : Int32) : iv p q s 1 = jmax (jmax 1 (jmin p 60)) (jmin q 600) := by unfold iv; rw [if_neg (by decide), if_pos rfl]
theorem iv_2 (p q s : Int32) : iv p q s 2 = jmax (jmax (jmax 1 (jmin p 60)) (jmin q 600)) (jmin s 6000) := by unfold iv; rw [if_neg (by decide), if_neg (by decide), if_pos rfl]
theorem iv_k (p q s : Int32) {k : Nat} (hk : 3 ≤ k) : iv p q s k = 0 := by unfold iv; rw [if_neg (by omega), if_neg (by omega), if_neg (by omega)]
def inS (p q s : Int32) : maS := (iv p q s, fun _ => 0, fun _ => (0, fun _ => 0, fun _ => 0), fun _ => 0, (0, -1, 0, fun _ => 0, fun _ => 0), (0, fun _ => mz), (0, fun _ => mz), (fun _ => 0, fun _ => 0, fun _ => 0, fun _ => 0))
def inP (E : jE) (b : Nat) (p q s : Int32) (hc : jH) : Option Value → jH → Nat → Prop := fun r h' sz' => r = none ∧ isMA E h' b (inS p q s) ∧ (∀ q, q < b → h' q = hc q) ∧ sz' = b + 90
set_option maxHeartbeats 4000000 in
set_option maxRecDepth 100000 in
theorem ma_init_3 {x : jX} (E : jE) {b : Nat} (p q s : Int32) {h12 hc : jH} (C0 : jOk x M_Ma_init E 4 89 559) (f12 : h12 b = some (jO 7 [.int (jmax 1 (jmin p 60)), .int (jmax (jmax 1 (jmin p 60)) (jmin q 600)), .int (jmax (jmax (jmax 1 (jmin p 60)) (jmin q 600)) (jmin s 6000)), .ref (b + 1), .ref (b + 3), .ref (b + 28), .ref (b + 29), .ref (b + 33), .ref (b + 59), .null, .int 0, .int 0, .int 0])) (al12 : isAl E h12 (b + 1) (fun _ => 0)) (ra12 : h12 (b + 3) = some (jQa E 3 8 (fun k => if k < 8 then some (b + 4 + 3 * k) else none))) (ro12 : ∀ k, k < 8 → isRo E h12 (b + 4 + 3 * k) 0 (fun _ => 0) (fun _ => 0)) (hs12 : h12 (b + 28) = some (jI E 8 (fun _ => 0))) (tr12 : isTr E h12 (b + 29) 0 (-1) 0 (fun _ => 0) (fun _ => 0)) (qu12 : isQu E h12 (b + 33) 0 (fun _ => mz)) (du12 : isQu E h12 (b + 59) 0 (fun _ => mz)) (k12 : ∀ q, q < b → h12 q = hc q) : jJ x M_Ma_init E (jQ x E 89 559 (inP E b p q s hc)) h12 (b + 85) 84 355 [(0, .ref b)] 136 [] := by
  refine j_aload_n C0 d_Ma_init_136 rfl (by rfl) ?_
  refine j_new C0 d_Ma_init_137 nw_Ma_58 (by omega) (by omega) ?_
  refine j_dup C0 d_Ma_init_140 rfl ?_
  refine j_callIN C0 d_Ma_init_141 cn_Ma_60 cn_Ma_60v rfl rfl (c_De_init _ E jset_s rfl) rfl rfl ⟨by decide, by decide⟩ ⟨by omega, by omega⟩ (Nat.le_of_ble_eq_true rfl) (fun r_ h13 z_ hp_ => ?_)
  obtain ⟨rfl, de13, u13, rfl⟩ := hp_
  have b13 : h13 b = h12 b := by rw [u13 _ (by omega), jset_n (by omega)]
  rw [f12] at b13
  refine j_putF C0 d_Ma_init_144 fp_Ma_61 (by (repeat (first | rw [jset_s] | rw [jset_n (by omega)] | rw [reH_0] | rw [reH_1] | rw [reH_2] | rw [reH_n (by omega)])) <;> first | rfl | assumption) (Nat.le_of_ble_eq_true rfl) (by rfl) (by rfl) rfl ?_
  refine j_aload_n C0 d_Ma_init_147 rfl (by rfl) ?_
  refine j_iconst C0 d_Ma_init_148 (v := 0) (by decide) ?_
  refine j_putf C0 d_Ma_init_149 fp_Ma_65 (by (repeat (first | rw [jset_s] | rw [jset_n (by omega)] | rw [reH_0] | rw [reH_1] | rw [reH_2] | rw [reH_n (by omega)])) <;> first | rfl | assumption) (Nat.le_of_ble_eq_true rfl) (by rfl) (by rfl) ?_
  refine j_aload_n C0 d_Ma_init_152 rfl (by rfl) ?_
  refine j_iconst C0 d_Ma_init_153 (v := 0) (by decide) ?_
  refine j_putf C0 d_Ma_init_154 fp_Ma_68 (by (repeat (first | rw [jset_s] | rw [jset_n (by omega)] | rw [reH_0] | rw [reH_1] | rw [reH_2] | rw [reH_n (by omega)])) <;> first | rfl | assumption) (Nat.le_of_ble_eq_true rfl) (by rfl) (by rfl) ?_
  refine j_aload_n C0 d_Ma_init_157 rfl (by rfl) ?_
  refine j_iconst C0 d_Ma_init_158 (v := 0) (by decide) ?_
  refine j_putf C0 d_Ma_init_159 fp_Ma_71 (by (repeat (first | rw [jset_s] | rw [jset_n (by omega)] | rw [reH_0] | rw [reH_1] | rw [reH_2] | rw [reH_n (by omega)])) <;> first | rfl | assumption) (Nat.le_of_ble_eq_true rfl) (by rfl) (by rfl) ?_
  refine j_heap (fun h14 eh => ?_)
  have f14 : h14 b = some (jO 7 [.int (jmax 1 (jmin p 60)), .int (jmax (jmax 1 (jmin p 60)) (jmin q 600)), .int (jmax (jmax (jmax 1 (jmin p 60)) (jmin q 600)) (jmin s 6000)), .ref (b + 1), .ref (b + 3), .ref (b + 28), .ref (b + 29), .ref (b + 33), .ref (b + 59), .ref (b + 85), .int 0, .int 0, .int 0]) := by rw [eh, jset_s]; rfl
  have g14 : ∀ q, q ≠ b → q < b + 85 → h14 q = h12 q := fun q h1 h2 => by rw [eh, jset_n h1, jset_n h1, jset_n h1, jset_n h1, u13 _ (by omega), jset_n (by omega)]
  have al14 := al12.keep (h' := h14) (fun q u1 u2 => g14 q (by omega) (by omega))
  have ra14 : h14 (b + 3) = _ := (g14 _ (by omega) (by omega)).trans ra12
  have ro14 : ∀ k, k < 8 → isRo E h14 (b + 4 + 3 * k) 0 (fun _ => 0) (fun _ => 0) := fun k hk => (ro12 k hk).keep (fun q u1 u2 => g14 q (by omega) (by omega))
  have hs14 : h14 (b + 28) = some (jI E 8 (fun _ => 0)) := (g14 _ (by omega) (by omega)).trans hs12
  have tr14 := tr12.keep (h' := h14) (fun q u1 u2 => g14 q (by omega) (by omega))
  have qu14 := qu12.keep (h' := h14) (fun q u1 u2 => g14 q (by omega) (by omega))
  have du14 := du12.keep (h' := h14) (fun q u1 u2 => g14 q (by omega) (by omega))
  have k14 : ∀ q, q < b → h14 q = hc q := fun q hq => (g14 q (by omega) (by omega)).trans (k12 q hq)
  have de14 := de13.keep (h' := h14) (fun q u1 u2 => by rw [eh, jset_n (by omega), jset_n (by omega), jset_n (by omega), jset_n (by omega)])
  clear eh
  exact j_vret C0 d_Ma_init_162 rfl (by omega) (by omega) ⟨rfl, ⟨by show h14 b = some (jO 7 [.int (iv p q s 0), .int (iv p q s 1), .int (iv p q s 2), .ref (b + 1), .ref (b + 3), .ref (b + 28), .ref (b + 29), .ref (b + 33), .ref (b + 59), .ref (b + 85), .int (iv p q s 10), .int (iv p q s 11), .int (iv p q s 12)]); rw [iv_0, iv_1, iv_2, iv_k _ _ _ (show 3 ≤ 10 by decide), iv_k _ _ _ (show 3 ≤ 11 by decide), iv_k _ _ _ (show 3 ≤ 12 by decide)]; exact f14, al14, ⟨_, ra14, fun d hd => if_pos hd⟩, ro14, hs14, tr14, qu14, du14, de14⟩, k14, rfl⟩
set_option maxHeartbeats 4000000 in
set_option maxRecDepth 100000 in
theorem ma_init_2 {x : jX} (E : jE) {b : Nat} (p q s : Int32) {h8 hc : jH} (C0 : jOk x M_Ma_init E 4 89 559) (f8 : h8 b = some (jO 7 [.int (jmax 1 (jmin p 60)), .int (jmax (jmax 1 (jmin p 60)) (jmin q 600)), .int (jmax (jmax (jmax 1 (jmin p 60)) (jmin q 600)) (jmin s 6000)), .ref (b + 1), .ref (b + 3), .ref (b + 28), .ref (b + 29), .null, .null, .null, .int 0, .int 0, .int 0])) (al8 : isAl E h8 (b + 1) (fun _ => 0)) (ra8 : h8 (b + 3) = some (jQa E 3 8 (fun k => if k < 8 then some (b + 4 + 3 * k) else none))) (ro8 : ∀ k, k < 8 → isRo E h8 (b + 4 + 3 * k) 0 (fun _ => 0) (fun _ => 0)) (hs8 : h8 (b + 28) = some (jI E 8 (fun _ => 0))) (tr8 : isTr E h8 (b + 29) 0 (-1) 0 (fun _ => 0) (fun _ => 0)) (k8 : ∀ q, q < b → h8 q = hc q) : jJ x M_Ma_init E (jQ x E 89 559 (inP E b p q s hc)) h8 (b + 33) 32 111 [(0, .ref b)] 114 [] := by
  refine j_aload_n C0 d_Ma_init_114 rfl (by rfl) ?_
  refine j_new C0 d_Ma_init_115 nw_Ma_48 (by omega) (by omega) ?_
  refine j_dup C0 d_Ma_init_118 rfl ?_
  refine j_callI C0 d_Ma_init_119 cl_Ma_50 cl_Ma_50v rfl rfl (c_Qu_init _ E jset_s rfl) rfl rfl ⟨by decide, by decide⟩ ⟨by omega, by omega⟩ (Nat.le_of_ble_eq_true rfl) (fun r_ h9 z_ hp_ => ?_)
  obtain ⟨rfl, qu9, u9, rfl⟩ := hp_
  have b9 : h9 b = h8 b := by rw [u9 _ (by omega), jset_n (by omega)]
  rw [f8] at b9
  refine j_putF C0 d_Ma_init_122 fp_Ma_51 (by (repeat (first | rw [jset_s] | rw [jset_n (by omega)] | rw [reH_0] | rw [reH_1] | rw [reH_2] | rw [reH_n (by omega)])) <;> first | rfl | assumption) (Nat.le_of_ble_eq_true rfl) (by rfl) (by rfl) rfl ?_
  refine j_heap (fun h10 eh => ?_)
  have f10 : h10 b = some (jO 7 [.int (jmax 1 (jmin p 60)), .int (jmax (jmax 1 (jmin p 60)) (jmin q 600)), .int (jmax (jmax (jmax 1 (jmin p 60)) (jmin q 600)) (jmin s 6000)), .ref (b + 1), .ref (b + 3), .ref (b + 28), .ref (b + 29), .ref (b + 33), .null, .null, .int 0, .int 0, .int 0]) := by rw [eh, jset_s]; rfl
  have g10 : ∀ q, q ≠ b → q < b + 33 → h10 q = h8 q := fun q h1 h2 => by rw [eh, jset_n h1, u9 _ (by omega), jset_n (by omega)]
  have al10 := al8.keep (h' := h10) (fun q u1 u2 => g10 q (by omega) (by omega))
  have ra10 : h10 (b + 3) = _ := (g10 _ (by omega) (by omega)).trans ra8
  have ro10 : ∀ k, k < 8 → isRo E h10 (b + 4 + 3 * k) 0 (fun _ => 0) (fun _ => 0) := fun k hk => (ro8 k hk).keep (fun q u1 u2 => g10 q (by omega) (by omega))
  have hs10 : h10 (b + 28) = some (jI E 8 (fun _ => 0)) := (g10 _ (by omega) (by omega)).trans hs8
  have tr10 := tr8.keep (h' := h10) (fun q u1 u2 => g10 q (by omega) (by omega))
  have k10 : ∀ q, q < b → h10 q = hc q := fun q hq => (g10 q (by omega) (by omega)).trans (k8 q hq)
  have qu10 := qu9.keep (h' := h10) (fun q u1 u2 => by rw [eh, jset_n (by omega)])
  clear eh
  refine j_sz (b + 59) 58 233 (by omega) (by omega) (by omega) ?_
  refine j_aload_n C0 d_Ma_init_125 rfl (by rfl) ?_
  refine j_new C0 d_Ma_init_126 nw_Ma_48 (by omega) (by omega) ?_
  refine j_dup C0 d_Ma_init_129 rfl ?_
  refine j_callI C0 d_Ma_init_130 cl_Ma_50 cl_Ma_50v rfl rfl (c_Qu_init _ E jset_s rfl) rfl rfl ⟨by decide, by decide⟩ ⟨by omega, by omega⟩ (Nat.le_of_ble_eq_true rfl) (fun r_ h11 z_ hp_ => ?_)
  obtain ⟨rfl, du11, u11, rfl⟩ := hp_
  have b11 : h11 b = h10 b := by rw [u11 _ (by omega), jset_n (by omega)]
  rw [f10] at b11
  refine j_putF C0 d_Ma_init_133 fp_Ma_55 (by (repeat (first | rw [jset_s] | rw [jset_n (by omega)] | rw [reH_0] | rw [reH_1] | rw [reH_2] | rw [reH_n (by omega)])) <;> first | rfl | assumption) (Nat.le_of_ble_eq_true rfl) (by rfl) (by rfl) rfl ?_
  refine j_heap (fun h12 eh => ?_)
  have f12 : h12 b = some (jO 7 [.int (jmax 1 (jmin p 60)), .int (jmax (jmax 1 (jmin p 60)) (jmin q 600)), .int (jmax (jmax (jmax 1 (jmin p 60)) (jmin q 600)) (jmin s 6000)), .ref (b + 1), .ref (b + 3), .ref (b + 28), .ref (b + 29), .ref (b + 33), .ref (b + 59), .null, .int 0, .int 0, .int 0]) := by rw [eh, jset_s]; rfl
  have g12 : ∀ q, q ≠ b → q < b + 59 → h12 q = h10 q := fun q h1 h2 => by rw [eh, jset_n h1, u11 _ (by omega), jset_n (by omega)]
  have al12 := al10.keep (h' := h12) (fun q u1 u2 => g12 q (by omega) (by omega))
  have ra12 : h12 (b + 3) = _ := (g12 _ (by omega) (by omega)).trans ra10
  have ro12 : ∀ k, k < 8 → isRo E h12 (b + 4 + 3 * k) 0 (fun _ => 0) (fun _ => 0) := fun k hk => (ro10 k hk).keep (fun q u1 u2 => g12 q (by omega) (by omega))
  have hs12 : h12 (b + 28) = some (jI E 8 (fun _ => 0)) := (g12 _ (by omega) (by omega)).trans hs10
  have tr12 := tr10.keep (h' := h12) (fun q u1 u2 => g12 q (by omega) (by omega))
  have qu12 := qu10.keep (h' := h12) (fun q u1 u2 => g12 q (by omega) (by omega))
  have k12 : ∀ q, q < b → h12 q = hc q := fun q hq => (g12 q (by omega) (by omega)).trans (k10 q hq)
  have du12 := du11.keep (h' := h12) (fun q u1 u2 => by rw [eh, jset_n (by omega)])
  clear eh
  refine j_sz (b + 85) 84 355 (by omega) (by omega) (by omega) ?_
  exact j_to (ma_init_3 E p q s C0 f12 al12 ra12 ro12 hs12 tr12 qu12 du12 k12) rfl ⟨rfl, trivial⟩
set_option maxHeartbeats 4000000 in
set_option maxRecDepth 100000 in
theorem ma_init_1 {x : jX} (E : jE) {b : Nat} (p q s : Int32) {hh hc : jH} (C0 : jOk x M_Ma_init E 4 89 559) (f4 : hh b = some (jO 7 [.int (jmax 1 (jmin p 60)), .int (jmax (jmax 1 (jmin p 60)) (jmin q 600)), .int (jmax (jmax (jmax 1 (jmin p 60)) (jmin q 600)) (jmin s 6000)), .ref (b + 1), .ref (b + 3), .null, .null, .null, .null, .null, .int 0, .int 0, .int 0])) (al4 : isAl E hh (b + 1) (fun _ => 0)) (ra4 : hh (b + 3) = some (jQa E 3 8 (fun k => if k < 8 then some (b + 4 + 3 * k) else none))) (ro4 : ∀ k, k < 8 → isRo E hh (b + 4 + 3 * k) 0 (fun _ => 0) (fun _ => 0)) (k4 : ∀ q, q < b → hh q = hc q) : jJ x M_Ma_init E (jQ x E 89 559 (inP E b p q s hc)) hh (b + 28) 27 89 [(0, .ref b)] 95 [] := by
  refine j_aload_n C0 d_Ma_init_95 rfl (by rfl) ?_
  refine j_bipush C0 d_Ma_init_96 (v := 8) (by decide) ?_
  refine j_newi C0 (N := 8) d_Ma_init_98 w_1_59 rfl (by decide) (by omega) (by omega) ?_
  refine j_putF C0 d_Ma_init_100 fp_Ma_37 (by (repeat (first | rw [jset_s] | rw [jset_n (by omega)] | rw [reH_0] | rw [reH_1] | rw [reH_2] | rw [reH_n (by omega)])) <;> first | rfl | assumption) (Nat.le_of_ble_eq_true rfl) (by rfl) (by rfl) rfl ?_
  refine j_heap (fun h6 eh => ?_)
  have f6 : h6 b = some (jO 7 [.int (jmax 1 (jmin p 60)), .int (jmax (jmax 1 (jmin p 60)) (jmin q 600)), .int (jmax (jmax (jmax 1 (jmin p 60)) (jmin q 600)) (jmin s 6000)), .ref (b + 1), .ref (b + 3), .ref (b + 28), .null, .null, .null, .null, .int 0, .int 0, .int 0]) := by rw [eh, jset_s]; rfl
  have g6 : ∀ q, q ≠ b → q < b + 28 → h6 q = hh q := fun q h1 h2 => by rw [eh, jset_n h1, jset_n (by omega)]
  have al6 := al4.keep (h' := h6) (fun q u1 u2 => g6 q (by omega) (by omega))
  have ra6 : h6 (b + 3) = _ := (g6 _ (by omega) (by omega)).trans ra4
  have ro6 : ∀ k, k < 8 → isRo E h6 (b + 4 + 3 * k) 0 (fun _ => 0) (fun _ => 0) := fun k hk => (ro4 k hk).keep (fun q u1 u2 => g6 q (by omega) (by omega))
  have k6 : ∀ q, q < b → h6 q = hc q := fun q hq => (g6 q (by omega) (by omega)).trans (k4 q hq)
  have hs6 : h6 (b + 28) = some (jI E 8 (fun _ => 0)) := by rw [eh, jset_n (by omega), jset_s]
  clear eh
  refine j_sz (b + 29) 28 97 (by omega) (by omega) (by omega) ?_
  refine j_aload_n C0 d_Ma_init_103 rfl (by rfl) ?_
  refine j_new C0 d_Ma_init_104 nw_Ma_41 (by omega) (by omega) ?_
  refine j_dup C0 d_Ma_init_107 rfl ?_
  refine j_callIN C0 d_Ma_init_108 cn_Ma_43 cn_Ma_43v rfl rfl (c_Tr_init _ E jset_s rfl) rfl rfl ⟨by decide, by decide⟩ ⟨by omega, by omega⟩ (Nat.le_of_ble_eq_true rfl) (fun r_ h7 z_ hp_ => ?_)
  obtain ⟨rfl, hh7, rfl⟩ := hp_
  have b7 : h7 b = h6 b := by rw [hh7, reH_n (by omega), jset_n (by omega), jset_n (by omega)]
  rw [f6] at b7
  refine j_putF C0 d_Ma_init_111 fp_Ma_44 (by (repeat (first | rw [jset_s] | rw [jset_n (by omega)] | rw [reH_0] | rw [reH_1] | rw [reH_2] | rw [reH_n (by omega)])) <;> first | rfl | assumption) (Nat.le_of_ble_eq_true rfl) (by rfl) (by rfl) rfl ?_
  refine j_heap (fun h8 eh => ?_)
  have f8 : h8 b = some (jO 7 [.int (jmax 1 (jmin p 60)), .int (jmax (jmax 1 (jmin p 60)) (jmin q 600)), .int (jmax (jmax (jmax 1 (jmin p 60)) (jmin q 600)) (jmin s 6000)), .ref (b + 1), .ref (b + 3), .ref (b + 28), .ref (b + 29), .null, .null, .null, .int 0, .int 0, .int 0]) := by rw [eh, jset_s]; rfl
  have g8 : ∀ q, q ≠ b → q < b + 29 → h8 q = h6 q := fun q h1 h2 => by rw [eh, jset_n h1, hh7, reH_n (by omega), jset_n (by omega), jset_n (by omega)]
  have al8 := al6.keep (h' := h8) (fun q u1 u2 => g8 q (by omega) (by omega))
  have ra8 : h8 (b + 3) = _ := (g8 _ (by omega) (by omega)).trans ra6
  have ro8 : ∀ k, k < 8 → isRo E h8 (b + 4 + 3 * k) 0 (fun _ => 0) (fun _ => 0) := fun k hk => (ro6 k hk).keep (fun q u1 u2 => g8 q (by omega) (by omega))
  have hs8 : h8 (b + 28) = some (jI E 8 (fun _ => 0)) := (g8 _ (by omega) (by omega)).trans hs6
  have k8 : ∀ q, q < b → h8 q = hc q := fun q hq => (g8 q (by omega) (by omega)).trans (k6 q hq)
  have tr8 : isTr E h8 (b + 29) 0 (-1) 0 (fun _ => 0) (fun _ => 0) := ⟨by rw [eh, jset_n (by omega), hh7, reH_n (by omega), jset_s], (reH_is (E := E) (h := jset (jset h6 (b + 29) (jO 6 [.null, .int 0, .int 0])) (b + 29) (trO (b + 29) 0 (-1))) (a := b + 29 + 1) (n := 0) (ad := (fun _ => 0)) (st := (fun _ => 0)) (by decide)).keep (fun q u1 u2 => by rw [eh, jset_n (by omega), hh7])⟩
  clear eh hh7
  refine j_sz (b + 33) 32 111 (by omega) (by omega) (by omega) ?_
  exact j_to (ma_init_2 E p q s C0 f8 al8 ra8 ro8 hs8 tr8 k8) rfl ⟨rfl, trivial⟩
set_option maxHeartbeats 4000000 in
set_option maxRecDepth 100000 in
theorem c_Ma_init (l : Launch) (E : jE) {h : jH} {sz b : Nat} (p q s : Int32) (e0 : h b = some (jO 7 [.int 0, .int 0, .int 0, .null, .null, .null, .null, .null, .null, .null, .int 0, .int 0, .int 0])) (hz : sz = b + 1) : jC l M_Ma_init 4 E [.ref b, .int p, .int q, .int s] h sz 89 559 (fun r h' sz' => r = none ∧ isMA E h' b (inS p q s) ∧ (∀ q, q < b → h' q = h q) ∧ sz' = b + 90) := by
  subst hz
  refine jC.of (by decide) (Nat.le_of_ble_eq_true rfl) ?_
  intro x C0 hx
  subst hx

  refine j_aload_n C0 d_Ma_init_0 rfl (by rfl) ?_
  refine j_obj C0 d_Ma_init_1 w_1_17 w_1_18 w_1_19 (by omega) (Nat.le_of_ble_eq_true rfl) ?_
  refine j_aload_n C0 d_Ma_init_4 rfl (by rfl) ?_
  refine j_iload_n C0 d_Ma_init_5 rfl (by rfl) ?_
  refine j_iconst C0 d_Ma_init_6 (v := 1) (by decide) ?_
  refine j_bipush C0 d_Ma_init_7 (v := 60) (by decide) ?_
  refine j_callS C0 d_Ma_init_9 cl_Ma_7 cl_Ma_7v (c_Ma_clamp _ E _ _ _) rfl rfl ⟨by decide, by decide⟩ ⟨by omega, by omega⟩ (Nat.le_of_ble_eq_true rfl) (fun r_ hc z_ hp_ => ?_)
  obtain ⟨rfl, rfl, rfl⟩ := hp_
  refine j_putF C0 d_Ma_init_12 fp_Ma_13 (by (repeat (first | rw [jset_s] | rw [jset_n (by omega)] | rw [reH_0] | rw [reH_1] | rw [reH_2] | rw [reH_n (by omega)])) <;> first | rfl | assumption) (Nat.le_of_ble_eq_true rfl) (by rfl) (by rfl) rfl ?_
  refine j_aload_n C0 d_Ma_init_15 rfl (by rfl) ?_
  refine j_iload_n C0 d_Ma_init_16 rfl (by rfl) ?_
  refine j_aload_n C0 d_Ma_init_17 rfl (by rfl) ?_
  refine j_getf C0 d_Ma_init_18 fl_Ma_13 (by (repeat (first | rw [jset_s] | rw [jset_n (by omega)] | rw [reH_0] | rw [reH_1] | rw [reH_2] | rw [reH_n (by omega)])) <;> first | rfl | assumption) (by rfl) ?_
  refine j_sipush C0 d_Ma_init_21 (v := 600) (by decide) ?_
  refine j_callS C0 d_Ma_init_24 cl_Ma_7 cl_Ma_7v (c_Ma_clamp _ E _ _ _) rfl rfl ⟨by decide, by decide⟩ ⟨by omega, by omega⟩ (Nat.le_of_ble_eq_true rfl) (fun r_ h_ z_ hp_ => ?_)
  obtain ⟨rfl, rfl, rfl⟩ := hp_
  refine j_putF C0 d_Ma_init_27 fp_Ma_17 (by (repeat (first | rw [jset_s] | rw [jset_n (by omega)] | rw [reH_0] | rw [reH_1] | rw [reH_2] | rw [reH_n (by omega)])) <;> first | rfl | assumption) (Nat.le_of_ble_eq_true rfl) (by rfl) (by rfl) rfl ?_
  refine j_aload_n C0 d_Ma_init_30 rfl (by rfl) ?_
  refine j_iload_n C0 d_Ma_init_31 rfl (by rfl) ?_
  refine j_aload_n C0 d_Ma_init_32 rfl (by rfl) ?_
  refine j_getf C0 d_Ma_init_33 fl_Ma_17 (by (repeat (first | rw [jset_s] | rw [jset_n (by omega)] | rw [reH_0] | rw [reH_1] | rw [reH_2] | rw [reH_n (by omega)])) <;> first | rfl | assumption) (by rfl) ?_
  refine j_sipush C0 d_Ma_init_36 (v := 6000) (by decide) ?_
  refine j_callS C0 d_Ma_init_39 cl_Ma_7 cl_Ma_7v (c_Ma_clamp _ E _ _ _) rfl rfl ⟨by decide, by decide⟩ ⟨by omega, by omega⟩ (Nat.le_of_ble_eq_true rfl) (fun r_ h_ z_ hp_ => ?_)
  obtain ⟨rfl, rfl, rfl⟩ := hp_
  refine j_putF C0 d_Ma_init_42 fp_Ma_20 (by (repeat (first | rw [jset_s] | rw [jset_n (by omega)] | rw [reH_0] | rw [reH_1] | rw [reH_2] | rw [reH_n (by omega)])) <;> first | rfl | assumption) (Nat.le_of_ble_eq_true rfl) (by rfl) (by rfl) rfl ?_
  refine j_heap (fun h0 eh => ?_)
  have f0 : h0 b = some (jO 7 [.int (jmax 1 (jmin p 60)), .int (jmax (jmax 1 (jmin p 60)) (jmin q 600)), .int (jmax (jmax (jmax 1 (jmin p 60)) (jmin q 600)) (jmin s 6000)), .null, .null, .null, .null, .null, .null, .null, .int 0, .int 0, .int 0]) := by rw [eh, jset_s]; rfl
  have k0 : ∀ q, q < b → h0 q = hc q := fun q hq => by rw [eh, jset_n (by omega), jset_n (by omega), jset_n (by omega)]
  clear eh
  refine j_aload_n C0 d_Ma_init_45 rfl (by rfl) ?_
  refine j_new C0 d_Ma_init_46 nw_Ma_23 (by omega) (by omega) ?_
  refine j_dup C0 d_Ma_init_49 rfl ?_
  refine j_callIN C0 d_Ma_init_50 cn_Ma_25 cn_Ma_25v rfl rfl (c_Al_init _ E jset_s rfl) rfl rfl ⟨by decide, by decide⟩ ⟨by omega, by omega⟩ (Nat.le_of_ble_eq_true rfl) (fun r_ h1 z_ hp_ => ?_)
  obtain ⟨rfl, al1, k1, rfl⟩ := hp_
  have f1 : h1 b = h0 b := by rw [k1 b (by omega), jset_n (by omega)]
  rw [f0] at f1
  refine j_putF C0 d_Ma_init_53 fp_Ma_26 (by (repeat (first | rw [jset_s] | rw [jset_n (by omega)] | rw [reH_0] | rw [reH_1] | rw [reH_2] | rw [reH_n (by omega)])) <;> first | rfl | assumption) (Nat.le_of_ble_eq_true rfl) (by rfl) (by rfl) rfl ?_
  refine j_heap (fun h2 eh => ?_)
  have f2 : h2 b = some (jO 7 [.int (jmax 1 (jmin p 60)), .int (jmax (jmax 1 (jmin p 60)) (jmin q 600)), .int (jmax (jmax (jmax 1 (jmin p 60)) (jmin q 600)) (jmin s 6000)), .ref (b + 1), .null, .null, .null, .null, .null, .null, .int 0, .int 0, .int 0]) := by rw [eh, jset_s]; rfl
  have al2 : isAl E h2 (b + 1) (fun _ => 0) := al1.keep (fun q g1 g2 => by rw [eh, jset_n (by omega)])
  have k2 : ∀ q, q < b → h2 q = hc q := fun q hq => by rw [eh, jset_n (by omega), k1 q (by omega), jset_n (by omega)]; exact k0 q hq
  clear eh
  refine j_sz (b + 3) 2 9 (by omega) (by omega) (by omega) ?_
  refine j_aload_n C0 d_Ma_init_56 rfl (by rfl) ?_
  refine j_bipush C0 d_Ma_init_57 (v := 8) (by decide) ?_
  refine j_newq C0 (N := 8) (t := 3) d_Ma_init_59 w_1_40 (by decide) rfl rfl (by decide) (by omega) (by omega) ?_
  refine j_putF C0 d_Ma_init_62 fp_Ma_32 (by (repeat (first | rw [jset_s] | rw [jset_n (by omega)] | rw [reH_0] | rw [reH_1] | rw [reH_2] | rw [reH_n (by omega)])) <;> first | rfl | assumption) (Nat.le_of_ble_eq_true rfl) (by rfl) (by rfl) rfl ?_
  refine j_heap (fun h3 eh => ?_)
  have f3 : h3 b = some (jO 7 [.int (jmax 1 (jmin p 60)), .int (jmax (jmax 1 (jmin p 60)) (jmin q 600)), .int (jmax (jmax (jmax 1 (jmin p 60)) (jmin q 600)) (jmin s 6000)), .ref (b + 1), .ref (b + 3), .null, .null, .null, .null, .null, .int 0, .int 0, .int 0]) := by rw [eh, jset_s]; rfl
  have al3 : isAl E h3 (b + 1) (fun _ => 0) := al2.keep (fun q g1 g2 => by rw [eh, jset_n (by omega), jset_n (by omega)])
  have ra3 : h3 (b + 3) = some (jQa E 3 8 (fun k => if k < 0 then some (b + 4 + 3 * k) else none)) := by rw [eh, jset_n (by omega), jset_s]; rfl
  have k3 : ∀ q, q < b → h3 q = hc q := fun q hq => by rw [eh, jset_n (by omega), jset_n (by omega)]; exact k2 q hq
  clear eh
  refine j_sz (b + 4) 3 17 (by omega) (by omega) (by omega) ?_
  refine j_iconst C0 d_Ma_init_65 (v := 0) (by decide) ?_
  refine j_istore C0 d_Ma_init_66 (Nat.le_of_ble_eq_true rfl) ?_
  refine j_lv (lv' := [(0, .ref b), (1, .int p), (2, .int q), (3, .int s), (4, .int (nI 0))]) ⟨rfl, rfl, rfl, rfl, rfl, trivial⟩ ?_
  refine j_forR 8 (fun i hh => hh b = some (jO 7 [.int (jmax 1 (jmin p 60)), .int (jmax (jmax 1 (jmin p 60)) (jmin q 600)), .int (jmax (jmax (jmax 1 (jmin p 60)) (jmin q 600)) (jmin s 6000)), .ref (b + 1), .ref (b + 3), .null, .null, .null, .null, .null, .int 0, .int 0, .int 0]) ∧ isAl E hh (b + 1) (fun _ => 0) ∧ hh (b + 3) = some (jQa E 3 8 (fun k => if k < i then some (b + 4 + 3 * k) else none)) ∧ (∀ k, k < i → isRo E hh (b + 4 + 3 * k) 0 (fun _ => 0) (fun _ => 0)) ∧ ∀ q, q < b → hh q = hc q) (fun i => b + 4 + 3 * i) (fun i => 3 + 3 * i) (fun i => 17 + 9 * i) (fun i => [(0, .ref b), (1, .int p), (2, .int q), (3, .int s), (4, .int (nI i))]) ?_ ?_ 0 h3 (by decide) ⟨f3, al3, ra3, fun k hk => absurd hk (by omega), k3⟩
  · intro i hh hi hI ih
    obtain ⟨f4, al4, ra4, ro4, k4⟩ := hI
    refine j_iload C0 d_Ma_init_68 (by rfl) ?_
    refine j_bipush C0 d_Ma_init_70 (v := 8) (by decide) ?_
    refine j_icmp_ge C0 d_Ma_init_72 (tgt := 95) (by decide) (fun c_72 => ?_) (fun c_72 => ?_)
    · exact absurd c_72 (nI_ge (b := 8) hi (by decide))
    · refine j_aload_n C0 d_Ma_init_75 rfl (by rfl) ?_
      refine j_getf C0 d_Ma_init_76 fl_Ma_32 (by (repeat (first | rw [jset_s] | rw [jset_n (by omega)] | rw [reH_0] | rw [reH_1] | rw [reH_2] | rw [reH_n (by omega)])) <;> first | rfl | assumption) (by rfl) ?_
      refine j_iload C0 d_Ma_init_79 (by rfl) ?_
      refine j_new C0 d_Ma_init_81 nw_Ma_30 (by omega) (by omega) ?_
      refine j_dup C0 d_Ma_init_84 rfl ?_
      refine j_callIN C0 d_Ma_init_85 cn_Ma_36 cn_Ma_36v rfl rfl (c_Ro_init _ E jset_s rfl) rfl rfl ⟨by decide, by decide⟩ ⟨by omega, by omega⟩ (Nat.le_of_ble_eq_true rfl) (fun r_ h5 z_ hp_ => ?_)
      obtain ⟨rfl, ro5, k5, rfl⟩ := hp_
      have g5 : ∀ q, q < b + 4 + 3 * i → h5 q = hh q := fun q hq => by rw [k5 q hq, jset_n (by omega)]
      refine j_aast C0 d_Ma_init_88 (by rw [g5 _ (by omega)]; exact ra4) ro5.1 rfl rfl rfl (by omega) (by decide) ?_
      refine j_iinc C0 d_Ma_init_89 (by rfl) (jinc _) (Nat.le_of_ble_eq_true rfl) ?_
      refine j_goto C0 d_Ma_init_92 (tgt := 68) (by decide) ?_
      refine j_lv (lv' := [(0, .ref b), (1, .int p), (2, .int q), (3, .int s), (4, .int (nI (i + 1)))]) ⟨rfl, rfl, rfl, rfl, rfl, trivial⟩ ?_
      refine j_eq (ih _ ?_) rfl (by omega) (by omega) (by omega) rfl rfl rfl
      refine ⟨by rw [jset_n (by omega), g5 _ (by omega)]; exact f4, al4.keep (fun q u1 u2 => by rw [jset_n (by omega), g5 _ (by omega)]), ?_, fun k hk => ?_, fun q hq => by rw [jset_n (by omega), g5 _ (by omega)]; exact k4 q hq⟩
      · rw [jset_s]
        congr 6
        funext k
        unfold va_up
        by_cases hk : k = i
        · subst hk; simp
        · by_cases hl : k < i
          · simp [hk, hl, show k < i + 1 by omega]
          · simp [hk, hl, show ¬ k < i + 1 by omega]
      · by_cases hki : k = i
        · subst hki
          exact ro5.keep (fun q u1 u2 => jset_n (by omega))
        · exact (ro4 k (by omega)).keep (fun q u1 u2 => by rw [jset_n (by omega), g5 _ (by omega)])
  · intro hh hI
    obtain ⟨f4, al4, ra4, ro4, k4⟩ := hI
    refine j_iload C0 d_Ma_init_68 (by rfl) ?_
    refine j_bipush C0 d_Ma_init_70 (v := 8) (by decide) ?_
    refine j_icmp_ge C0 d_Ma_init_72 (tgt := 95) (by decide) (fun c_72 => ?_) (fun c_72 => ?_)
    · refine j_sz (b + 28) 27 89 (by omega) (by omega) (by omega) ?_
      exact j_to (ma_init_1 E p q s C0 f4 al4 ra4 ro4 k4) rfl ⟨rfl, trivial⟩
    · exact absurd (nI_le (Nat.le_refl 8) (by decide)) c_72
end
section
abbrev moA : Type := Nat → Nat → Int32
def moL : Nat → Nat
  | 0 => 32
  | 1 => 8
  | 2 => 24
  | 3 => 24
  | 4 => 8
  | 5 => 8
  | 6 => 96
  | 7 => 96
  | 8 => 4
  | 9 => 64
  | 10 => 64
  | 11 => 64
  | 12 => 8
  | _ => 0
abbrev moF (c : Nat) (w : Nat → Int32) : List Value := [.int (w 0), .int (w 1), .int (w 2), .ref (c + 1 + 0), .ref (c + 1 + 1), .ref (c + 1 + 2), .ref (c + 1 + 3), .ref (c + 1 + 4), .ref (c + 1 + 5), .int (w 9), .int (w 10), .ref (c + 1 + 6), .int (w 12), .ref (c + 1 + 7), .int (w 14), .int (w 15), .int (w 16), .int (w 17), .ref (c + 1 + 8), .int (w 19), .ref (c + 1 + 9), .ref (c + 1 + 10), .ref (c + 1 + 11), .ref (c + 1 + 12)]
def moH (E : jE) (h0 : jH) (c : Nat) (A : moA) (w : Nat → Int32) : jH := fun q => if q = c then some (jO 8 (moF c w)) else if c < q ∧ q ≤ c + 13 then some (jI E (moL (q - c - 1)) (A (q - c - 1))) else h0 q
theorem mo_this {E : jE} {h0 : jH} {c : Nat} {A : moA} {w : Nat → Int32} : moH E h0 c A w c = some (jO 8 (moF c w)) := if_pos rfl
theorem mo_arr {E : jE} {h0 : jH} {c i : Nat} {A : moA} {w : Nat → Int32} (hi : i < 13) : moH E h0 c A w (c + 1 + i) = some (jI E (moL i) (A i)) := by
  unfold moH
  rw [if_neg (by omega), if_pos (by omega), show c + 1 + i - c - 1 = i by omega]
theorem mo_out {E : jE} {h0 : jH} {c q : Nat} {A : moA} {w : Nat → Int32} (hq : q < c ∨ c + 14 ≤ q) : moH E h0 c A w q = h0 q := by
  unfold moH
  rw [if_neg (by omega), if_neg (by omega)]
theorem mo_s0 {E : jE} {h0 : jH} {c : Nat} {A : moA} {w w' : Nat → Int32} : jset (moH E h0 c A w) c (jO 8 (moF c w')) = moH E h0 c A w' := by
  funext q
  unfold jset moH
  by_cases h : q = c
  · rw [if_pos h, if_pos h]
  · rw [if_neg h, if_neg h, if_neg h]
theorem mo_s1 {E : jE} {h0 : jH} {c i : Nat} {A : moA} {w : Nat → Int32} {f : Nat → Int32} (hi : i < 13) : jset (moH E h0 c A w) (c + 1 + i) (jI E (moL i) f) = moH E h0 c (va_up A i f) w := by
  funext q
  unfold jset moH
  by_cases h : q = c + 1 + i
  · rw [if_pos h, if_neg (by omega), if_pos (by omega), show q - c - 1 = i by omega, va_up_self]
  · rw [if_neg h]
    by_cases h1 : q = c
    · rw [if_pos h1, if_pos h1]
    · rw [if_neg h1, if_neg h1]
      by_cases h2 : c < q ∧ q ≤ c + 13
      · rw [if_pos h2, if_pos h2, va_up_ne _ _ (by omega)]
      · rw [if_neg h2, if_neg h2]
theorem moL_lt (i : Nat) : moL i < 2 ^ 31 := by
  unfold moL
  split <;> decide
theorem jn0 : (0 : Int32) = nI 0 := rfl
theorem jn1 : (1 : Int32) = nI 1 := rfl
theorem jn2 : (2 : Int32) = nI 2 := rfl
theorem jn3 : (3 : Int32) = nI 3 := rfl
theorem jn4 : (4 : Int32) = nI 4 := rfl
theorem jn8 : (8 : Int32) = nI 8 := rfl
theorem jn12 : (12 : Int32) = nI 12 := rfl
theorem jn13 : (13 : Int32) = nI 13 := rfl
theorem jn14 : (14 : Int32) = nI 14 := rfl
theorem jn15 : (15 : Int32) = nI 15 := rfl
theorem jn16 : (16 : Int32) = nI 16 := rfl
section MoRules
variable {x : jX} {M : jM} {E : jE} {Q : State → Prop} {h0 : jH} {c sz ce sl d mc ms pc : Nat} {lv : List (Nat × Value)} {st : List Value} {A : moA} {w : Nat → Int32}
theorem mo_get (C0 : jOk x M E d mc ms) {idx k : Nat} {v : Value} (hd : decode M.2.1 pc = .ok (.getfield idx, 3)) (hf : jFL M.1.cls idx 8 k) (hv : (moF c w)[k]? = some v) (kk : jJ x M E Q (moH E h0 c A w) sz ce sl lv (pc + 3) (v :: st)) : jJ x M E Q (moH E h0 c A w) sz ce sl lv pc (.ref c :: st) := j_getf C0 hd hf mo_this hv kk
theorem mo_put (C0 : jOk x M E d mc ms) {idx k : Nat} {ty : FieldType} {v : Int32} (hd : decode M.2.1 pc = .ok (.putfield idx, 3)) (hf : jFP M.1.cls idx 8 k ty false) (hk : k < 24) (hu : (moF c w).set k (.int v) = moF c (upd w k v)) (hn : narrow ty (.int v) = .int v) (hfit : fits ty (.int v) = true) (kk : jJ x M E Q (moH E h0 c A (upd w k v)) sz ce sl lv (pc + 3) st) : jJ x M E Q (moH E h0 c A w) sz ce sl lv pc (.int v :: .ref c :: st) := by
  refine j_putf C0 hd hf mo_this hk hn hfit ?_
  rw [hu]
  rw [show (Sum.inr (8, moF c (upd w k v)) : va_E) = jO 8 (moF c (upd w k v)) from rfl, mo_s0]
  exact kk
theorem mo_ld (C0 : jOk x M E d mc ms) {i k : Nat} {n : Int32} (hd : decode M.2.1 pc = .ok (.iaload, 1)) (ix : n = nI k) (hk : k < moL i) (hi : i < 13) (kk : jJ x M E Q (moH E h0 c A w) sz ce sl lv (pc + 1) (.int (A i k) :: st)) : jJ x M E Q (moH E h0 c A w) sz ce sl lv pc (.int n :: .ref (c + 1 + i) :: st) := j_iald C0 hd (mo_arr hi) ix hk (moL_lt i) kk
theorem mo_st (C0 : jOk x M E d mc ms) {i k : Nat} {n v : Int32} (hd : decode M.2.1 pc = .ok (.iastore, 1)) (ix : n = nI k) (hk : k < moL i) (hi : i < 13) (kk : jJ x M E Q (moH E h0 c (va_up A i (upd (A i) k v)) w) sz ce sl lv (pc + 1) st) : jJ x M E Q (moH E h0 c A w) sz ce sl lv pc (.int v :: .int n :: .ref (c + 1 + i) :: st) := by
  refine j_iast C0 hd (mo_arr hi) ix hk (moL_lt i) ?_
  rw [mo_s1 hi]
  exact kk
theorem j_top1 {v v' : Int32} (e : v = v') (kk : jJ x M E Q h0 sz ce sl lv pc (.int v' :: st)) : jJ x M E Q h0 sz ce sl lv pc (.int v :: st) := e ▸ kk
theorem mo_A {A' : moA} (e : A = A') (kk : jJ x M E Q (moH E h0 c A' w) sz ce sl lv pc st) : jJ x M E Q (moH E h0 c A w) sz ce sl lv pc st := e ▸ kk
theorem mo_w {w' : Nat → Int32} (e : w = w') (kk : jJ x M E Q (moH E h0 c A w') sz ce sl lv pc st) : jJ x M E Q (moH E h0 c A w) sz ce sl lv pc st := e ▸ kk
end MoRules
theorem outI {v hi N : Int32} (hN : N.toInt = hi.toInt + 1) : (v < 0 ∨ hi < v) ↔ ¬ (¬ v < 0 ∧ ¬ N ≤ v) := by
  rw [Int32.lt_iff_toInt_lt, Int32.lt_iff_toInt_lt, Int32.le_iff_toInt_le, hN]
  omega
theorem okR' {k n : Nat} {N : Int32} (hk : k < n) (hn : n < 2 ^ 31) (hN : N = nI n) : ¬ ¬ (¬ nI k < 0 ∧ ¬ N ≤ nI k) := not_not_intro (okR hk hn hN)
set_option maxHeartbeats 4000000 in
set_option maxRecDepth 100000 in
theorem c_Mo_within (l : Launch) (E : jE) {h : jH} {sz : Nat} (v lo hi : Int32) : jC l M_Mo_within 0 E [.int v, .int lo, .int hi] h sz 0 0 (fun r h' sz' => r = some (.int (if v < lo then lo else if hi < v then hi else v)) ∧ h' = h ∧ sz' = sz) := by
  refine jC.of (by decide) (Nat.le_of_ble_eq_true rfl) ?_
  intro x C0 hx
  subst hx

  refine j_iload_n C0 d_Mo_within_0 rfl (by rfl) ?_
  refine j_iload_n C0 d_Mo_within_1 rfl (by rfl) ?_
  refine j_icmp_ge C0 d_Mo_within_2 (tgt := 9) (by decide) (fun c_2 => ?_) (fun c_2 => ?_)
  · have g1 : ¬ v < lo := Int32.not_lt.mpr c_2
    refine j_iload_n C0 d_Mo_within_9 rfl (by rfl) ?_
    refine j_iload_n C0 d_Mo_within_10 rfl (by rfl) ?_
    refine j_icmp_le C0 d_Mo_within_11 (tgt := 18) (by decide) (fun c_11 => ?_) (fun c_11 => ?_)
    · have g2 : ¬ hi < v := Int32.not_lt.mpr c_11
      refine j_iload_n C0 d_Mo_within_18 rfl (by rfl) ?_
      exact j_iret C0 d_Mo_within_19 rfl (by omega) (by omega) (⟨by first | (rw [if_pos g1]; done) | (rw [if_neg g1, if_neg g2]; done) | (rw [if_neg g1, if_pos g2]; done), rfl, rfl⟩)
    · have g2 : hi < v := Int32.not_le.mp c_11
      refine j_iload_n C0 d_Mo_within_14 rfl (by rfl) ?_
      refine j_goto C0 d_Mo_within_15 (tgt := 19) (by decide) ?_
      exact j_iret C0 d_Mo_within_19 rfl (by omega) (by omega) (⟨by first | (rw [if_pos g1]; done) | (rw [if_neg g1, if_neg g2]; done) | (rw [if_neg g1, if_pos g2]; done), rfl, rfl⟩)
  · have g1 : v < lo := Int32.not_le.mp c_2
    refine j_iload_n C0 d_Mo_within_5 rfl (by rfl) ?_
    refine j_goto C0 d_Mo_within_6 (tgt := 19) (by decide) ?_
    exact j_iret C0 d_Mo_within_19 rfl (by omega) (by omega) (⟨by first | (rw [if_pos g1]; done) | (rw [if_neg g1, if_neg g2]; done) | (rw [if_neg g1, if_pos g2]; done), rfl, rfl⟩)
set_option maxHeartbeats 4000000 in
set_option maxRecDepth 100000 in
theorem c_Mo_out (l : Launch) (E : jE) {h : jH} {sz : Nat} (v hi : Int32) {N : Int32} (hN : N.toInt = hi.toInt + 1) : jC l M_Mo_out 0 E [.int v, .int hi] h sz 0 0 (fun r h' sz' => r = some (.int (jb (¬ (¬ v < 0 ∧ ¬ N ≤ v)))) ∧ h' = h ∧ sz' = sz) := by
  refine jC.of (by decide) (Nat.le_of_ble_eq_true rfl) ?_
  intro x C0 hx
  subst hx

  refine j_iload_n C0 d_Mo_out_0 rfl (by rfl) ?_
  refine j_if_lt C0 d_Mo_out_1 (tgt := 9) (by decide) (fun c_1 => ?_) (fun c_1 => ?_)
  · have g : ¬ (¬ v < 0 ∧ ¬ N ≤ v) := (outI hN).mp (Or.inl c_1)
    refine j_iconst C0 d_Mo_out_9 (v := 1) (by decide) ?_
    refine j_goto C0 d_Mo_out_10 (tgt := 14) (by decide) ?_
    exact j_zret C0 d_Mo_out_14 rfl (by rfl) (by omega) (by omega) (⟨by first | (rw [jb_y g]; done) | (rw [jb_n g]; done), rfl, rfl⟩)
  · refine j_iload_n C0 d_Mo_out_4 rfl (by rfl) ?_
    refine j_iload_n C0 d_Mo_out_5 rfl (by rfl) ?_
    refine j_icmp_le C0 d_Mo_out_6 (tgt := 13) (by decide) (fun c_6 => ?_) (fun c_6 => ?_)
    · have g : ¬ ¬ (¬ v < 0 ∧ ¬ N ≤ v) := fun q => ((outI hN).mpr q).elim c_1 (Int32.not_lt.mpr c_6)
      refine j_iconst C0 d_Mo_out_13 (v := 0) (by decide) ?_
      exact j_zret C0 d_Mo_out_14 rfl (by rfl) (by omega) (by omega) (⟨by first | (rw [jb_y g]; done) | (rw [jb_n g]; done), rfl, rfl⟩)
    · have g : ¬ (¬ v < 0 ∧ ¬ N ≤ v) := (outI hN).mp (Or.inr (Int32.not_le.mp c_6))
      refine j_iconst C0 d_Mo_out_9 (v := 1) (by decide) ?_
      refine j_goto C0 d_Mo_out_10 (tgt := 14) (by decide) ?_
      exact j_zret C0 d_Mo_out_14 rfl (by rfl) (by omega) (by omega) (⟨by first | (rw [jb_y g]; done) | (rw [jb_n g]; done), rfl, rfl⟩)
set_option maxHeartbeats 4000000 in
set_option maxRecDepth 100000 in
theorem c_Mo_alias_bad (l : Launch) (E : jE) {h0 : jH} {sz c : Nat} {A : moA} {w : Nat → Int32} (p q : Int32) (hbad : ¬ (¬ p < 0 ∧ ¬ 8 ≤ p) ∨ ¬ (¬ q < 0 ∧ ¬ 64 ≤ q)) : jC l M_Mo_alias 1 E [.ref c, .int p, .int q] (moH E h0 c A w) sz 0 0 (fun r h' sz' => r = some (.int (-501)) ∧ h' = moH E h0 c A w ∧ sz' = sz) := by
  refine jC.of (by decide) (Nat.le_of_ble_eq_true rfl) ?_
  intro x C0 hx
  subst hx

  refine j_iload_n C0 d_Mo_alias_0 rfl (by rfl) ?_
  refine j_bipush C0 d_Mo_alias_1 (v := 7) (by decide) ?_
  refine j_callS C0 d_Mo_alias_3 cl_Mo_63 cl_Mo_63v (c_Mo_out _ E p 7 (N := 8) (by decide)) rfl rfl ⟨by decide, by decide⟩ ⟨by omega, by omega⟩ (Nat.le_of_ble_eq_true rfl) (fun r_ h_ z_ hp_ => ?_)
  obtain ⟨rfl, rfl, rfl⟩ := hp_
  refine j_if_ne C0 d_Mo_alias_6 (tgt := 18) (by decide) (fun c_6 => ?_) (fun c_6 => ?_)
  · refine j_sipush C0 d_Mo_alias_18 (v := -501) (by decide) ?_
    exact j_iret C0 d_Mo_alias_21 rfl (by omega) (by omega) (⟨rfl, rfl, rfl⟩)
  · have g1 : ¬ ¬ (¬ p < 0 ∧ ¬ 8 ≤ p) := fun g => by rw [jb_y g] at c_6; exact absurd c_6 (by decide)
    refine j_iload_n C0 d_Mo_alias_9 rfl (by rfl) ?_
    refine j_bipush C0 d_Mo_alias_10 (v := 63) (by decide) ?_
    refine j_callS C0 d_Mo_alias_12 cl_Mo_63 cl_Mo_63v (c_Mo_out _ E q 63 (N := 64) (by decide)) rfl rfl ⟨by decide, by decide⟩ ⟨by omega, by omega⟩ (Nat.le_of_ble_eq_true rfl) (fun r_ h_ z_ hp_ => ?_)
    obtain ⟨rfl, rfl, rfl⟩ := hp_
    refine j_if_eq C0 d_Mo_alias_15 (tgt := 22) (by decide) (fun c_15 => ?_) (fun c_15 => ?_)
    · exact absurd c_15 (by rw [jb_y (hbad.resolve_left g1)]; decide)
    · refine j_sipush C0 d_Mo_alias_18 (v := -501) (by decide) ?_
      exact j_iret C0 d_Mo_alias_21 rfl (by omega) (by omega) (⟨rfl, rfl, rfl⟩)
set_option maxHeartbeats 4000000 in
set_option maxRecDepth 100000 in
theorem c_Mo_alias (l : Launch) (E : jE) {h0 : jH} {sz c : Nat} {A : moA} {w : Nat → Int32} {k u n : Nat} (hk : k < 8) (hu : u < 64) (hn : A 1 k = nI n) (n4 : n ≤ 4) : jC l M_Mo_alias 1 E [.ref c, .int (nI k), .int (nI u)] (moH E h0 c A w) sz 0 0 (fun r h' sz' => (((∃ j, j < n ∧ A 0 (4 * k + j) = nI u) ∨ n = 4) ∧ r = some (.int (-452)) ∧ h' = moH E h0 c A w ∧ sz' = sz) ∨ (¬ (∃ j, j < n ∧ A 0 (4 * k + j) = nI u) ∧ n < 4 ∧ r = some (.int (nI (n + 1))) ∧ h' = moH E h0 c (va_up (va_up A 0 (upd (A 0) (4 * k + n) (nI u))) 1 (upd (A 1) k (nI (n + 1)))) w ∧ sz' = sz)) := by
  refine jC.of (by decide) (Nat.le_of_ble_eq_true rfl) ?_
  intro x C0 hx
  subst hx

  refine j_iload_n C0 d_Mo_alias_0 rfl (by rfl) ?_
  refine j_bipush C0 d_Mo_alias_1 (v := 7) (by decide) ?_
  refine j_callS C0 d_Mo_alias_3 cl_Mo_63 cl_Mo_63v (c_Mo_out _ E (nI k) 7 (N := 8) (by decide)) rfl rfl ⟨by decide, by decide⟩ ⟨by omega, by omega⟩ (Nat.le_of_ble_eq_true rfl) (fun r_ h_ z_ hp_ => ?_)
  obtain ⟨rfl, rfl, rfl⟩ := hp_
  rw [jb_n (okR' (N := 8) hk (by decide) rfl)]
  refine j_if_ne C0 d_Mo_alias_6 (tgt := 18) (by decide) (fun c_6 => ?_) (fun c_6 => ?_)
  · exact absurd rfl c_6
  · refine j_iload_n C0 d_Mo_alias_9 rfl (by rfl) ?_
    refine j_bipush C0 d_Mo_alias_10 (v := 63) (by decide) ?_
    refine j_callS C0 d_Mo_alias_12 cl_Mo_63 cl_Mo_63v (c_Mo_out _ E (nI u) 63 (N := 64) (by decide)) rfl rfl ⟨by decide, by decide⟩ ⟨by omega, by omega⟩ (Nat.le_of_ble_eq_true rfl) (fun r_ h_ z_ hp_ => ?_)
    obtain ⟨rfl, rfl, rfl⟩ := hp_
    rw [jb_n (okR' (N := 64) hu (by decide) rfl)]
    refine j_if_eq C0 d_Mo_alias_15 (tgt := 22) (by decide) (fun c_15 => ?_) (fun c_15 => ?_)
    · refine j_iconst C0 d_Mo_alias_22 (v := 0) (by decide) ?_
      refine j_istore_n C0 d_Mo_alias_23 rfl (Nat.le_of_ble_eq_true rfl) ?_
      refine j_lv (lv' := [(0, .ref c), (1, .int (nI k)), (2, .int (nI u)), (3, .int (nI 0))]) ⟨rfl, rfl, rfl, rfl, trivial⟩ ?_
      refine j_forI n (fun i => ∀ j, j < i → ¬ A 0 (4 * k + j) = nI u) (fun _ => moH E h0 c A w) (fun i => [(0, .ref c), (1, .int (nI k)), (2, .int (nI u)), (3, .int (nI i))]) ?_ ?_ 0 (Nat.zero_le n) (fun j hj => absurd hj (Nat.not_lt_zero j))
      · intro i hi hI ih
        refine j_iload_n C0 d_Mo_alias_24 rfl (by rfl) ?_
        refine j_aload_n C0 d_Mo_alias_25 rfl (by rfl) ?_
        refine mo_get C0 d_Mo_alias_26 fl_Mo_13 (by rfl) ?_
        refine j_iload_n C0 d_Mo_alias_29 rfl (by rfl) ?_
        refine mo_ld C0 (i := 1) (k := k) d_Mo_alias_30 rfl (by show _ < 8; omega) (by decide) ?_
        rw [hn]
        refine j_icmp_ge C0 d_Mo_alias_31 (tgt := 58) (by decide) (fun c_31 => ?_) (fun c_31 => ?_)
        · exact absurd c_31 (nI_ge hi (by omega))
        · refine j_aload_n C0 d_Mo_alias_34 rfl (by rfl) ?_
          refine mo_get C0 d_Mo_alias_35 fl_Mo_7 (by rfl) ?_
          refine j_iconst C0 d_Mo_alias_38 (v := 4) (by decide) ?_
          refine j_iload_n C0 d_Mo_alias_39 rfl (by rfl) ?_
          refine j_imul C0 d_Mo_alias_40 ?_
          refine j_iload_n C0 d_Mo_alias_41 rfl (by rfl) ?_
          refine j_iadd C0 d_Mo_alias_42 ?_
          refine mo_ld C0 (i := 0) (k := 4 * k + i) d_Mo_alias_43 (by simp only [jn0, jn1, jn2, jn3, jn4, jn8, jn12, jn13, jn14, jn15, jn16, pk_mul, nI_add]) (by show _ < 32; omega) (by decide) ?_
          refine j_iload_n C0 d_Mo_alias_44 rfl (by rfl) ?_
          refine j_icmp_ne C0 d_Mo_alias_45 (tgt := 52) (by decide) (fun c_45 => ?_) (fun c_45 => ?_)
          · refine j_iinc C0 d_Mo_alias_52 (by rfl) (jinc _) (Nat.le_of_ble_eq_true rfl) ?_
            refine j_goto C0 d_Mo_alias_55 (tgt := 24) (by decide) ?_
            exact j_to (ih (fun j hj => by
                by_cases e : j = i
                · rw [e]; exact c_45
                · exact hI j (by omega))) rfl ⟨rfl, rfl, rfl, rfl, trivial⟩
          · refine j_sipush C0 d_Mo_alias_48 (v := -452) (by decide) ?_
            exact j_iret C0 d_Mo_alias_51 rfl (by omega) (by omega) (Or.inl ⟨Or.inl ⟨i, hi, c_45⟩, rfl, rfl, rfl⟩)
      · intro hI
        refine j_iload_n C0 d_Mo_alias_24 rfl (by rfl) ?_
        refine j_aload_n C0 d_Mo_alias_25 rfl (by rfl) ?_
        refine mo_get C0 d_Mo_alias_26 fl_Mo_13 (by rfl) ?_
        refine j_iload_n C0 d_Mo_alias_29 rfl (by rfl) ?_
        refine mo_ld C0 (i := 1) (k := k) d_Mo_alias_30 rfl (by show _ < 8; omega) (by decide) ?_
        rw [hn]
        refine j_icmp_ge C0 d_Mo_alias_31 (tgt := 58) (by decide) (fun c_31 => ?_) (fun c_31 => ?_)
        · refine j_aload_n C0 d_Mo_alias_58 rfl (by rfl) ?_
          refine mo_get C0 d_Mo_alias_59 fl_Mo_13 (by rfl) ?_
          refine j_iload_n C0 d_Mo_alias_62 rfl (by rfl) ?_
          refine mo_ld C0 (i := 1) (k := k) d_Mo_alias_63 rfl (by show _ < 8; omega) (by decide) ?_
          rw [hn]
          refine j_iconst C0 d_Mo_alias_64 (v := 4) (by decide) ?_
          refine j_icmp_ne C0 d_Mo_alias_65 (tgt := 72) (by decide) (fun c_65 => ?_) (fun c_65 => ?_)
          · have h4 : n < 4 := by
              by_cases e : n = 4
              · exact absurd (by rw [e]; rfl) c_65
              · omega
            refine j_aload_n C0 d_Mo_alias_72 rfl (by rfl) ?_
            refine mo_get C0 d_Mo_alias_73 fl_Mo_7 (by rfl) ?_
            refine j_iconst C0 d_Mo_alias_76 (v := 4) (by decide) ?_
            refine j_iload_n C0 d_Mo_alias_77 rfl (by rfl) ?_
            refine j_imul C0 d_Mo_alias_78 ?_
            refine j_aload_n C0 d_Mo_alias_79 rfl (by rfl) ?_
            refine mo_get C0 d_Mo_alias_80 fl_Mo_13 (by rfl) ?_
            refine j_iload_n C0 d_Mo_alias_83 rfl (by rfl) ?_
            refine mo_ld C0 (i := 1) (k := k) d_Mo_alias_84 rfl (by show _ < 8; omega) (by decide) ?_
            rw [hn]
            refine j_iadd C0 d_Mo_alias_85 ?_
            refine j_iload_n C0 d_Mo_alias_86 rfl (by rfl) ?_
            refine mo_st C0 (i := 0) (k := 4 * k + n) d_Mo_alias_87 (by simp only [jn0, jn1, jn2, jn3, jn4, jn8, jn12, jn13, jn14, jn15, jn16, pk_mul, nI_add]) (by show _ < 32; omega) (by decide) ?_
            refine j_aload_n C0 d_Mo_alias_88 rfl (by rfl) ?_
            refine mo_get C0 d_Mo_alias_89 fl_Mo_13 (by rfl) ?_
            refine j_iload_n C0 d_Mo_alias_92 rfl (by rfl) ?_
            refine j_dup2_11 C0 d_Mo_alias_93 rfl rfl ?_
            refine mo_ld C0 (i := 1) (k := k) d_Mo_alias_94 rfl (by show _ < 8; omega) (by decide) ?_
            rw [show va_up A 0 (upd (A 0) (4 * k + n) (nI u)) 1 k = nI n from hn]
            refine j_iconst C0 d_Mo_alias_95 (v := 1) (by decide) ?_
            refine j_iadd C0 d_Mo_alias_96 ?_
            rw [nI_1]
            refine mo_st C0 (i := 1) (k := k) d_Mo_alias_97 rfl (by show _ < 8; omega) (by decide) ?_
            refine j_aload_n C0 d_Mo_alias_98 rfl (by rfl) ?_
            refine mo_get C0 d_Mo_alias_99 fl_Mo_13 (by rfl) ?_
            refine j_iload_n C0 d_Mo_alias_102 rfl (by rfl) ?_
            refine mo_ld C0 (i := 1) (k := k) d_Mo_alias_103 rfl (by show _ < 8; omega) (by decide) ?_
            exact j_iret C0 d_Mo_alias_104 rfl (by omega) (by omega) (Or.inr ⟨fun ⟨j, hj, e⟩ => hI j hj e, h4, by rw [va_up_self]; exact congrArg (fun z => some (Value.int z)) pk_us, rfl, rfl⟩)
          · refine j_sipush C0 d_Mo_alias_68 (v := -452) (by decide) ?_
            exact j_iret C0 d_Mo_alias_71 rfl (by omega) (by omega) (Or.inl ⟨Or.inr ((nI_eq (b := 4) (by omega) (by decide)).mp c_65), rfl, rfl, rfl⟩)
        · exact absurd (nI_le (Nat.le_refl _) (by omega)) c_31
    · exact absurd rfl c_15
set_option maxHeartbeats 4000000 in
set_option maxRecDepth 100000 in
theorem c_Mo_unalias_bad (l : Launch) (E : jE) {h0 : jH} {sz c : Nat} {A : moA} {w : Nat → Int32} (p : Int32) (hbad : ¬ (¬ p < 0 ∧ ¬ 8 ≤ p)) : jC l M_Mo_unalias 1 E [.ref c, .int p] (moH E h0 c A w) sz 0 0 (fun r h' sz' => r = some (.int (-501)) ∧ h' = moH E h0 c A w ∧ sz' = sz) := by
  refine jC.of (by decide) (Nat.le_of_ble_eq_true rfl) ?_
  intro x C0 hx
  subst hx

  refine j_iload_n C0 d_Mo_unalias_0 rfl (by rfl) ?_
  refine j_bipush C0 d_Mo_unalias_1 (v := 7) (by decide) ?_
  refine j_callS C0 d_Mo_unalias_3 cl_Mo_63 cl_Mo_63v (c_Mo_out _ E p 7 (N := 8) (by decide)) rfl rfl ⟨by decide, by decide⟩ ⟨by omega, by omega⟩ (Nat.le_of_ble_eq_true rfl) (fun r_ h_ z_ hp_ => ?_)
  obtain ⟨rfl, rfl, rfl⟩ := hp_
  refine j_if_eq C0 d_Mo_unalias_6 (tgt := 13) (by decide) (fun c_6 => ?_) (fun c_6 => ?_)
  · exact absurd c_6 (by rw [jb_y hbad]; decide)
  · refine j_sipush C0 d_Mo_unalias_9 (v := -501) (by decide) ?_
    exact j_iret C0 d_Mo_unalias_12 rfl (by omega) (by omega) (⟨rfl, rfl, rfl⟩)
set_option maxHeartbeats 4000000 in
set_option maxRecDepth 100000 in
theorem c_Mo_unalias (l : Launch) (E : jE) {h0 : jH} {sz c : Nat} {A : moA} {w : Nat → Int32} {k : Nat} (hk : k < 8) : jC l M_Mo_unalias 1 E [.ref c, .int (nI k)] (moH E h0 c A w) sz 0 0 (fun r h' sz' => r = some (.int (A 1 k)) ∧ h' = moH E h0 c (va_up A 1 (upd (A 1) k 0)) w ∧ sz' = sz) := by
  refine jC.of (by decide) (Nat.le_of_ble_eq_true rfl) ?_
  intro x C0 hx
  subst hx

  refine j_iload_n C0 d_Mo_unalias_0 rfl (by rfl) ?_
  refine j_bipush C0 d_Mo_unalias_1 (v := 7) (by decide) ?_
  refine j_callS C0 d_Mo_unalias_3 cl_Mo_63 cl_Mo_63v (c_Mo_out _ E (nI k) 7 (N := 8) (by decide)) rfl rfl ⟨by decide, by decide⟩ ⟨by omega, by omega⟩ (Nat.le_of_ble_eq_true rfl) (fun r_ h_ z_ hp_ => ?_)
  obtain ⟨rfl, rfl, rfl⟩ := hp_
  rw [jb_n (okR' (N := 8) hk (by decide) rfl)]
  refine j_if_eq C0 d_Mo_unalias_6 (tgt := 13) (by decide) (fun c_6 => ?_) (fun c_6 => ?_)
  · refine j_aload_n C0 d_Mo_unalias_13 rfl (by rfl) ?_
    refine mo_get C0 d_Mo_unalias_14 fl_Mo_13 (by rfl) ?_
    refine j_iload_n C0 d_Mo_unalias_17 rfl (by rfl) ?_
    refine mo_ld C0 (i := 1) (k := k) d_Mo_unalias_18 rfl (by show _ < 8; omega) (by decide) ?_
    refine j_istore_n C0 d_Mo_unalias_19 rfl (Nat.le_of_ble_eq_true rfl) ?_
    refine j_aload_n C0 d_Mo_unalias_20 rfl (by rfl) ?_
    refine mo_get C0 d_Mo_unalias_21 fl_Mo_13 (by rfl) ?_
    refine j_iload_n C0 d_Mo_unalias_24 rfl (by rfl) ?_
    refine j_iconst C0 d_Mo_unalias_25 (v := 0) (by decide) ?_
    refine mo_st C0 (i := 1) (k := k) d_Mo_unalias_26 rfl (by show _ < 8; omega) (by decide) ?_
    refine j_iload_n C0 d_Mo_unalias_27 rfl (by rfl) ?_
    exact j_iret C0 d_Mo_unalias_28 rfl (by omega) (by omega) (⟨rfl, rfl, rfl⟩)
  · exact absurd rfl c_6
set_option maxHeartbeats 4000000 in
set_option maxRecDepth 100000 in
theorem c_Mo_host_bad (l : Launch) (E : jE) {h0 : jH} {sz c : Nat} {A : moA} {w : Nat → Int32} (p q : Int32) (hbad : ¬ (¬ p < 0 ∧ ¬ 8 ≤ p) ∨ ¬ (¬ q < 0 ∧ ¬ 3 ≤ q)) : jC l M_Mo_host 1 E [.ref c, .int p, .int q] (moH E h0 c A w) sz 0 0 (fun r h' sz' => r = some (.int (-501)) ∧ h' = moH E h0 c A w ∧ sz' = sz) := by
  refine jC.of (by decide) (Nat.le_of_ble_eq_true rfl) ?_
  intro x C0 hx
  subst hx

  refine j_iload_n C0 d_Mo_host_0 rfl (by rfl) ?_
  refine j_bipush C0 d_Mo_host_1 (v := 7) (by decide) ?_
  refine j_callS C0 d_Mo_host_3 cl_Mo_63 cl_Mo_63v (c_Mo_out _ E p 7 (N := 8) (by decide)) rfl rfl ⟨by decide, by decide⟩ ⟨by omega, by omega⟩ (Nat.le_of_ble_eq_true rfl) (fun r_ h_ z_ hp_ => ?_)
  obtain ⟨rfl, rfl, rfl⟩ := hp_
  refine j_if_ne C0 d_Mo_host_6 (tgt := 17) (by decide) (fun c_6 => ?_) (fun c_6 => ?_)
  · refine j_sipush C0 d_Mo_host_17 (v := -501) (by decide) ?_
    exact j_iret C0 d_Mo_host_20 rfl (by omega) (by omega) (⟨rfl, rfl, rfl⟩)
  · have g1 : ¬ ¬ (¬ p < 0 ∧ ¬ 8 ≤ p) := fun g => by rw [jb_y g] at c_6; exact absurd c_6 (by decide)
    refine j_iload_n C0 d_Mo_host_9 rfl (by rfl) ?_
    refine j_iconst C0 d_Mo_host_10 (v := 2) (by decide) ?_
    refine j_callS C0 d_Mo_host_11 cl_Mo_63 cl_Mo_63v (c_Mo_out _ E q 2 (N := 3) (by decide)) rfl rfl ⟨by decide, by decide⟩ ⟨by omega, by omega⟩ (Nat.le_of_ble_eq_true rfl) (fun r_ h_ z_ hp_ => ?_)
    obtain ⟨rfl, rfl, rfl⟩ := hp_
    refine j_if_eq C0 d_Mo_host_14 (tgt := 21) (by decide) (fun c_14 => ?_) (fun c_14 => ?_)
    · exact absurd c_14 (by rw [jb_y (hbad.resolve_left g1)]; decide)
    · refine j_sipush C0 d_Mo_host_17 (v := -501) (by decide) ?_
      exact j_iret C0 d_Mo_host_20 rfl (by omega) (by omega) (⟨rfl, rfl, rfl⟩)
set_option maxHeartbeats 4000000 in
set_option maxRecDepth 100000 in
theorem c_Mo_host (l : Launch) (E : jE) {h0 : jH} {sz c : Nat} {A : moA} {w : Nat → Int32} {k : Nat} (q : Int32) (hk : k < 8) (hq : ¬ q < 0 ∧ ¬ 3 ≤ q) : jC l M_Mo_host 1 E [.ref c, .int (nI k), .int q] (moH E h0 c A w) sz 0 0 (fun r h' sz' => r = some (.int (A 5 k)) ∧ h' = moH E h0 c (va_up A 5 (upd (A 5) k q)) w ∧ sz' = sz) := by
  refine jC.of (by decide) (Nat.le_of_ble_eq_true rfl) ?_
  intro x C0 hx
  subst hx

  refine j_iload_n C0 d_Mo_host_0 rfl (by rfl) ?_
  refine j_bipush C0 d_Mo_host_1 (v := 7) (by decide) ?_
  refine j_callS C0 d_Mo_host_3 cl_Mo_63 cl_Mo_63v (c_Mo_out _ E (nI k) 7 (N := 8) (by decide)) rfl rfl ⟨by decide, by decide⟩ ⟨by omega, by omega⟩ (Nat.le_of_ble_eq_true rfl) (fun r_ h_ z_ hp_ => ?_)
  obtain ⟨rfl, rfl, rfl⟩ := hp_
  rw [jb_n (okR' (N := 8) hk (by decide) rfl)]
  refine j_if_ne C0 d_Mo_host_6 (tgt := 17) (by decide) (fun c_6 => ?_) (fun c_6 => ?_)
  · exact absurd rfl c_6
  · refine j_iload_n C0 d_Mo_host_9 rfl (by rfl) ?_
    refine j_iconst C0 d_Mo_host_10 (v := 2) (by decide) ?_
    refine j_callS C0 d_Mo_host_11 cl_Mo_63 cl_Mo_63v (c_Mo_out _ E q 2 (N := 3) (by decide)) rfl rfl ⟨by decide, by decide⟩ ⟨by omega, by omega⟩ (Nat.le_of_ble_eq_true rfl) (fun r_ h_ z_ hp_ => ?_)
    obtain ⟨rfl, rfl, rfl⟩ := hp_
    rw [jb_n (not_not_intro hq)]
    refine j_if_eq C0 d_Mo_host_14 (tgt := 21) (by decide) (fun c_14 => ?_) (fun c_14 => ?_)
    · refine j_aload_n C0 d_Mo_host_21 rfl (by rfl) ?_
      refine mo_get C0 d_Mo_host_22 fl_Mo_25 (by rfl) ?_
      refine j_iload_n C0 d_Mo_host_25 rfl (by rfl) ?_
      refine mo_ld C0 (i := 5) (k := k) d_Mo_host_26 rfl (by show _ < 8; omega) (by decide) ?_
      refine j_istore_n C0 d_Mo_host_27 rfl (Nat.le_of_ble_eq_true rfl) ?_
      refine j_aload_n C0 d_Mo_host_28 rfl (by rfl) ?_
      refine mo_get C0 d_Mo_host_29 fl_Mo_25 (by rfl) ?_
      refine j_iload_n C0 d_Mo_host_32 rfl (by rfl) ?_
      refine j_iload_n C0 d_Mo_host_33 rfl (by rfl) ?_
      refine mo_st C0 (i := 5) (k := k) d_Mo_host_34 rfl (by show _ < 8; omega) (by decide) ?_
      refine j_iload_n C0 d_Mo_host_35 rfl (by rfl) ?_
      exact j_iret C0 d_Mo_host_36 rfl (by omega) (by omega) (⟨rfl, rfl, rfl⟩)
    · exact absurd rfl c_14
theorem frI {p : Int32} : (p < -1 ∨ 63 < p) ↔ (¬ p = -1 ∧ ¬ (¬ p < 0 ∧ ¬ 64 ≤ p)) := by
  rw [← Int32.toInt_inj, Int32.lt_iff_toInt_lt, Int32.lt_iff_toInt_lt, Int32.lt_iff_toInt_lt, Int32.le_iff_toInt_le, show (-1 : Int32).toInt = -1 from by decide, show (63 : Int32).toInt = 63 from by decide, show (64 : Int32).toInt = 64 from by decide, show (0 : Int32).toInt = 0 from by decide]
  omega
set_option maxHeartbeats 4000000 in
set_option maxRecDepth 100000 in
theorem c_Mo_from_bad (l : Launch) (E : jE) {h0 : jH} {sz c : Nat} {A : moA} {w : Nat → Int32} (p : Int32) (hbad : ¬ p = -1 ∧ ¬ (¬ p < 0 ∧ ¬ 64 ≤ p)) : jC l M_Mo_from 0 E [.ref c, .int p] (moH E h0 c A w) sz 0 0 (fun r h' sz' => r = some (.int (-501)) ∧ h' = moH E h0 c A w ∧ sz' = sz) := by
  refine jC.of (by decide) (Nat.le_of_ble_eq_true rfl) ?_
  intro x C0 hx
  subst hx

  refine j_iload_n C0 d_Mo_from_0 rfl (by rfl) ?_
  refine j_iconst C0 d_Mo_from_1 (v := -1) (by decide) ?_
  refine j_icmp_lt C0 d_Mo_from_2 (tgt := 11) (by decide) (fun c_2 => ?_) (fun c_2 => ?_)
  · refine j_sipush C0 d_Mo_from_11 (v := -501) (by decide) ?_
    exact j_iret C0 d_Mo_from_14 rfl (by omega) (by omega) (⟨rfl, rfl, rfl⟩)
  · refine j_iload_n C0 d_Mo_from_5 rfl (by rfl) ?_
    refine j_bipush C0 d_Mo_from_6 (v := 63) (by decide) ?_
    refine j_icmp_le C0 d_Mo_from_8 (tgt := 15) (by decide) (fun c_8 => ?_) (fun c_8 => ?_)
    · exact absurd (frI.mpr hbad) (fun g => g.elim c_2 (Int32.not_lt.mpr c_8))
    · refine j_sipush C0 d_Mo_from_11 (v := -501) (by decide) ?_
      exact j_iret C0 d_Mo_from_14 rfl (by omega) (by omega) (⟨rfl, rfl, rfl⟩)
set_option maxHeartbeats 4000000 in
set_option maxRecDepth 100000 in
theorem c_Mo_from (l : Launch) (E : jE) {h0 : jH} {sz c : Nat} {A : moA} {w : Nat → Int32} (p : Int32) (hok : p = -1 ∨ (¬ p < 0 ∧ ¬ 64 ≤ p)) : jC l M_Mo_from 0 E [.ref c, .int p] (moH E h0 c A w) sz 0 0 (fun r h' sz' => r = some (.int 0) ∧ h' = moH E h0 c A (upd (upd (upd w 16 1) 17 p) 19 0) ∧ sz' = sz) := by
  have hok2 : ¬ (p < -1 ∨ 63 < p) := fun g => (frI.mp g).2 (hok.resolve_left (frI.mp g).1)
  refine jC.of (by decide) (Nat.le_of_ble_eq_true rfl) ?_
  intro x C0 hx
  subst hx

  refine j_iload_n C0 d_Mo_from_0 rfl (by rfl) ?_
  refine j_iconst C0 d_Mo_from_1 (v := -1) (by decide) ?_
  refine j_icmp_lt C0 d_Mo_from_2 (tgt := 11) (by decide) (fun c_2 => ?_) (fun c_2 => ?_)
  · exact absurd (Or.inl c_2) hok2
  · refine j_iload_n C0 d_Mo_from_5 rfl (by rfl) ?_
    refine j_bipush C0 d_Mo_from_6 (v := 63) (by decide) ?_
    refine j_icmp_le C0 d_Mo_from_8 (tgt := 15) (by decide) (fun c_8 => ?_) (fun c_8 => ?_)
    · refine j_aload_n C0 d_Mo_from_15 rfl (by rfl) ?_
      refine j_iconst C0 d_Mo_from_16 (v := 1) (by decide) ?_
      refine mo_put C0 d_Mo_from_17 fp_Mo_67 (by decide) rfl (by rfl) (by rfl) ?_
      refine j_aload_n C0 d_Mo_from_20 rfl (by rfl) ?_
      refine j_iload_n C0 d_Mo_from_21 rfl (by rfl) ?_
      refine mo_put C0 d_Mo_from_22 fp_Mo_71 (by decide) rfl (by rfl) (by rfl) ?_
      refine j_aload_n C0 d_Mo_from_25 rfl (by rfl) ?_
      refine j_iconst C0 d_Mo_from_26 (v := 0) (by decide) ?_
      refine mo_put C0 d_Mo_from_27 fp_Mo_74 (by decide) rfl (by rfl) (by rfl) ?_
      refine j_iconst C0 d_Mo_from_30 (v := 0) (by decide) ?_
      exact j_iret C0 d_Mo_from_31 rfl (by omega) (by omega) (⟨rfl, rfl, rfl⟩)
    · exact absurd (Or.inr (Int32.not_le.mp c_8)) hok2
theorem foI {p : Int32} : (p < 1 ∨ 7 < p) ↔ ¬ (¬ p = 0 ∧ ¬ p < 0 ∧ ¬ 8 ≤ p) := by
  rw [← Int32.toInt_inj, Int32.lt_iff_toInt_lt, Int32.lt_iff_toInt_lt, Int32.lt_iff_toInt_lt, Int32.le_iff_toInt_le, show (1 : Int32).toInt = 1 from by decide, show (7 : Int32).toInt = 7 from by decide, show (8 : Int32).toInt = 8 from by decide, show (0 : Int32).toInt = 0 from by decide]
  omega
set_option maxHeartbeats 4000000 in
set_option maxRecDepth 100000 in
theorem c_Mo_unroute_bad (l : Launch) (E : jE) {h0 : jH} {sz c : Nat} {A : moA} {w : Nat → Int32} (p : Int32) (hbad : ¬ (¬ p = 0 ∧ ¬ p < 0 ∧ ¬ 8 ≤ p)) : jC l M_Mo_unroute 0 E [.ref c, .int p] (moH E h0 c A w) sz 0 0 (fun r h' sz' => r = some (.int (-501)) ∧ h' = moH E h0 c A w ∧ sz' = sz) := by
  refine jC.of (by decide) (Nat.le_of_ble_eq_true rfl) ?_
  intro x C0 hx
  subst hx

  refine j_iload_n C0 d_Mo_unroute_0 rfl (by rfl) ?_
  refine j_iconst C0 d_Mo_unroute_1 (v := 1) (by decide) ?_
  refine j_icmp_lt C0 d_Mo_unroute_2 (tgt := 11) (by decide) (fun c_2 => ?_) (fun c_2 => ?_)
  · refine j_sipush C0 d_Mo_unroute_11 (v := -501) (by decide) ?_
    exact j_iret C0 d_Mo_unroute_14 rfl (by omega) (by omega) (⟨rfl, rfl, rfl⟩)
  · refine j_iload_n C0 d_Mo_unroute_5 rfl (by rfl) ?_
    refine j_bipush C0 d_Mo_unroute_6 (v := 7) (by decide) ?_
    refine j_icmp_le C0 d_Mo_unroute_8 (tgt := 15) (by decide) (fun c_8 => ?_) (fun c_8 => ?_)
    · exact absurd (foI.mpr hbad) (fun g => g.elim c_2 (Int32.not_lt.mpr c_8))
    · refine j_sipush C0 d_Mo_unroute_11 (v := -501) (by decide) ?_
      exact j_iret C0 d_Mo_unroute_14 rfl (by omega) (by omega) (⟨rfl, rfl, rfl⟩)
set_option maxHeartbeats 4000000 in
set_option maxRecDepth 100000 in
theorem c_Mo_unroute (l : Launch) (E : jE) {h0 : jH} {sz c : Nat} {A : moA} {w : Nat → Int32} {k : Nat} (hk : k < 8) (h0k : 0 < k) : jC l M_Mo_unroute 0 E [.ref c, .int (nI k)] (moH E h0 c A w) sz 0 0 (fun r h' sz' => r = some (.int (A 4 k)) ∧ h' = moH E h0 c (va_up A 4 (upd (A 4) k 0)) w ∧ sz' = sz) := by
  have hok2 : ¬ (nI k < 1 ∨ 7 < nI k) := fun g => foI.mp g (okF hk h0k)
  refine jC.of (by decide) (Nat.le_of_ble_eq_true rfl) ?_
  intro x C0 hx
  subst hx

  refine j_iload_n C0 d_Mo_unroute_0 rfl (by rfl) ?_
  refine j_iconst C0 d_Mo_unroute_1 (v := 1) (by decide) ?_
  refine j_icmp_lt C0 d_Mo_unroute_2 (tgt := 11) (by decide) (fun c_2 => ?_) (fun c_2 => ?_)
  · exact absurd (Or.inl c_2) hok2
  · refine j_iload_n C0 d_Mo_unroute_5 rfl (by rfl) ?_
    refine j_bipush C0 d_Mo_unroute_6 (v := 7) (by decide) ?_
    refine j_icmp_le C0 d_Mo_unroute_8 (tgt := 15) (by decide) (fun c_8 => ?_) (fun c_8 => ?_)
    · refine j_aload_n C0 d_Mo_unroute_15 rfl (by rfl) ?_
      refine mo_get C0 d_Mo_unroute_16 fl_Mo_22 (by rfl) ?_
      refine j_iload_n C0 d_Mo_unroute_19 rfl (by rfl) ?_
      refine mo_ld C0 (i := 4) (k := k) d_Mo_unroute_20 rfl (by show _ < 8; omega) (by decide) ?_
      refine j_istore_n C0 d_Mo_unroute_21 rfl (Nat.le_of_ble_eq_true rfl) ?_
      refine j_aload_n C0 d_Mo_unroute_22 rfl (by rfl) ?_
      refine mo_get C0 d_Mo_unroute_23 fl_Mo_22 (by rfl) ?_
      refine j_iload_n C0 d_Mo_unroute_26 rfl (by rfl) ?_
      refine j_iconst C0 d_Mo_unroute_27 (v := 0) (by decide) ?_
      refine mo_st C0 (i := 4) (k := k) d_Mo_unroute_28 rfl (by show _ < 8; omega) (by decide) ?_
      refine j_iload_n C0 d_Mo_unroute_29 rfl (by rfl) ?_
      exact j_iret C0 d_Mo_unroute_30 rfl (by omega) (by omega) (⟨rfl, rfl, rfl⟩)
    · exact absurd (Or.inr (Int32.not_le.mp c_8)) hok2
set_option maxHeartbeats 4000000 in
set_option maxRecDepth 100000 in
theorem c_Mo_route_bad (l : Launch) (E : jE) {h0 : jH} {sz c : Nat} {A : moA} {w : Nat → Int32} (p q s : Int32) (hbad : ¬ (¬ p = 0 ∧ ¬ p < 0 ∧ ¬ 8 ≤ p) ∨ ¬ (¬ q < 0 ∧ ¬ 8 ≤ q) ∨ ¬ (¬ s < 0 ∧ ¬ 100 ≤ s)) : jC l M_Mo_route 1 E [.ref c, .int p, .int q, .int s] (moH E h0 c A w) sz 0 0 (fun r h' sz' => r = some (.int (-501)) ∧ h' = moH E h0 c A w ∧ sz' = sz) := by
  refine jC.of (by decide) (Nat.le_of_ble_eq_true rfl) ?_
  intro x C0 hx
  subst hx

  refine j_iload_n C0 d_Mo_route_0 rfl (by rfl) ?_
  refine j_iconst C0 d_Mo_route_1 (v := 1) (by decide) ?_
  refine j_icmp_lt C0 d_Mo_route_2 (tgt := 29) (by decide) (fun c_2 => ?_) (fun c_2 => ?_)
  · refine j_sipush C0 d_Mo_route_29 (v := -501) (by decide) ?_
    exact j_iret C0 d_Mo_route_32 rfl (by omega) (by omega) (⟨rfl, rfl, rfl⟩)
  · refine j_iload_n C0 d_Mo_route_5 rfl (by rfl) ?_
    refine j_bipush C0 d_Mo_route_6 (v := 7) (by decide) ?_
    refine j_icmp_gt C0 d_Mo_route_8 (tgt := 29) (by decide) (fun c_8 => ?_) (fun c_8 => ?_)
    · refine j_sipush C0 d_Mo_route_29 (v := -501) (by decide) ?_
      exact j_iret C0 d_Mo_route_32 rfl (by omega) (by omega) (⟨rfl, rfl, rfl⟩)
    · have hb2 := hbad.resolve_left (fun g => (foI.mpr g).elim c_2 c_8)
      refine j_iload_n C0 d_Mo_route_11 rfl (by rfl) ?_
      refine j_bipush C0 d_Mo_route_12 (v := 7) (by decide) ?_
      refine j_callS C0 d_Mo_route_14 cl_Mo_63 cl_Mo_63v (c_Mo_out _ E q 7 (N := 8) (by decide)) rfl rfl ⟨by decide, by decide⟩ ⟨by omega, by omega⟩ (Nat.le_of_ble_eq_true rfl) (fun r_ h_ z_ hp_ => ?_)
      obtain ⟨rfl, rfl, rfl⟩ := hp_
      refine j_if_ne C0 d_Mo_route_17 (tgt := 29) (by decide) (fun c_17 => ?_) (fun c_17 => ?_)
      · refine j_sipush C0 d_Mo_route_29 (v := -501) (by decide) ?_
        exact j_iret C0 d_Mo_route_32 rfl (by omega) (by omega) (⟨rfl, rfl, rfl⟩)
      · have g1 : ¬ ¬ (¬ q < 0 ∧ ¬ 8 ≤ q) := fun g => by rw [jb_y g] at c_17; exact absurd c_17 (by decide)
        refine j_iload_n C0 d_Mo_route_20 rfl (by rfl) ?_
        refine j_bipush C0 d_Mo_route_21 (v := 99) (by decide) ?_
        refine j_callS C0 d_Mo_route_23 cl_Mo_63 cl_Mo_63v (c_Mo_out _ E s 99 (N := 100) (by decide)) rfl rfl ⟨by decide, by decide⟩ ⟨by omega, by omega⟩ (Nat.le_of_ble_eq_true rfl) (fun r_ h_ z_ hp_ => ?_)
        obtain ⟨rfl, rfl, rfl⟩ := hp_
        refine j_if_eq C0 d_Mo_route_26 (tgt := 33) (by decide) (fun c_26 => ?_) (fun c_26 => ?_)
        · exact absurd c_26 (by rw [jb_y (hb2.resolve_left g1)]; decide)
        · refine j_sipush C0 d_Mo_route_29 (v := -501) (by decide) ?_
          exact j_iret C0 d_Mo_route_32 rfl (by omega) (by omega) (⟨rfl, rfl, rfl⟩)
set_option maxHeartbeats 4000000 in
set_option maxRecDepth 100000 in
theorem c_Mo_route (l : Launch) (E : jE) {h0 : jH} {sz c : Nat} {A : moA} {w : Nat → Int32} {k u s n : Nat} (hk : k < 8) (h0k : 0 < k) (hu : u < 8) (hs : s < 100) (hn : A 4 k = nI n) (n3 : n ≤ 3) : jC l M_Mo_route 1 E [.ref c, .int (nI k), .int (nI u), .int (nI s)] (moH E h0 c A w) sz 0 0 (fun r h' sz' => (((∃ j, j < n ∧ A 2 (3 * k + j) = nI u) ∨ n = 3) ∧ r = some (.int (-452)) ∧ h' = moH E h0 c A w ∧ sz' = sz) ∨ (¬ (∃ j, j < n ∧ A 2 (3 * k + j) = nI u) ∧ n < 3 ∧ r = some (.int (nI (n + 1))) ∧ h' = moH E h0 c (va_up (va_up (va_up A 2 (upd (A 2) (3 * k + n) (nI u))) 3 (upd (A 3) (3 * k + n) (nI (3 * s + n)))) 4 (upd (A 4) k (nI (n + 1)))) w ∧ sz' = sz)) := by
  have hok2 : ¬ (nI k < 1 ∨ 7 < nI k) := fun g => foI.mp g (okF hk h0k)
  refine jC.of (by decide) (Nat.le_of_ble_eq_true rfl) ?_
  intro x C0 hx
  subst hx

  refine j_iload_n C0 d_Mo_route_0 rfl (by rfl) ?_
  refine j_iconst C0 d_Mo_route_1 (v := 1) (by decide) ?_
  refine j_icmp_lt C0 d_Mo_route_2 (tgt := 29) (by decide) (fun c_2 => ?_) (fun c_2 => ?_)
  · exact absurd (Or.inl c_2) hok2
  · refine j_iload_n C0 d_Mo_route_5 rfl (by rfl) ?_
    refine j_bipush C0 d_Mo_route_6 (v := 7) (by decide) ?_
    refine j_icmp_gt C0 d_Mo_route_8 (tgt := 29) (by decide) (fun c_8 => ?_) (fun c_8 => ?_)
    · exact absurd (Or.inr c_8) hok2
    · refine j_iload_n C0 d_Mo_route_11 rfl (by rfl) ?_
      refine j_bipush C0 d_Mo_route_12 (v := 7) (by decide) ?_
      refine j_callS C0 d_Mo_route_14 cl_Mo_63 cl_Mo_63v (c_Mo_out _ E (nI u) 7 (N := 8) (by decide)) rfl rfl ⟨by decide, by decide⟩ ⟨by omega, by omega⟩ (Nat.le_of_ble_eq_true rfl) (fun r_ h_ z_ hp_ => ?_)
      obtain ⟨rfl, rfl, rfl⟩ := hp_
      rw [jb_n (okR' (N := 8) hu (by decide) rfl)]
      refine j_if_ne C0 d_Mo_route_17 (tgt := 29) (by decide) (fun c_17 => ?_) (fun c_17 => ?_)
      · exact absurd rfl c_17
      · refine j_iload_n C0 d_Mo_route_20 rfl (by rfl) ?_
        refine j_bipush C0 d_Mo_route_21 (v := 99) (by decide) ?_
        refine j_callS C0 d_Mo_route_23 cl_Mo_63 cl_Mo_63v (c_Mo_out _ E (nI s) 99 (N := 100) (by decide)) rfl rfl ⟨by decide, by decide⟩ ⟨by omega, by omega⟩ (Nat.le_of_ble_eq_true rfl) (fun r_ h_ z_ hp_ => ?_)
        obtain ⟨rfl, rfl, rfl⟩ := hp_
        rw [jb_n (okR' (N := 100) hs (by decide) rfl)]
        refine j_if_eq C0 d_Mo_route_26 (tgt := 33) (by decide) (fun c_26 => ?_) (fun c_26 => ?_)
        · refine j_aload_n C0 d_Mo_route_33 rfl (by rfl) ?_
          refine mo_get C0 d_Mo_route_34 fl_Mo_22 (by rfl) ?_
          refine j_iload_n C0 d_Mo_route_37 rfl (by rfl) ?_
          refine mo_ld C0 (i := 4) (k := k) d_Mo_route_38 rfl (by show _ < 8; omega) (by decide) ?_
          rw [hn]
          refine j_istore C0 d_Mo_route_39 (Nat.le_of_ble_eq_true rfl) ?_
          refine j_iconst C0 d_Mo_route_41 (v := 0) (by decide) ?_
          refine j_istore C0 d_Mo_route_42 (Nat.le_of_ble_eq_true rfl) ?_
          refine j_lv (lv' := [(0, .ref c), (1, .int (nI k)), (2, .int (nI u)), (3, .int (nI s)), (4, .int (nI n)), (5, .int (nI 0))]) ⟨rfl, rfl, rfl, rfl, rfl, rfl, trivial⟩ ?_
          refine j_forI n (fun i => ∀ j, j < i → ¬ A 2 (3 * k + j) = nI u) (fun _ => moH E h0 c A w) (fun i => [(0, .ref c), (1, .int (nI k)), (2, .int (nI u)), (3, .int (nI s)), (4, .int (nI n)), (5, .int (nI i))]) ?_ ?_ 0 (Nat.zero_le n) (fun j hj => absurd hj (Nat.not_lt_zero j))
          · intro i hi hI ih
            refine j_iload C0 d_Mo_route_44 (by rfl) ?_
            refine j_iload C0 d_Mo_route_46 (by rfl) ?_
            refine j_icmp_ge C0 d_Mo_route_48 (tgt := 76) (by decide) (fun c_48 => ?_) (fun c_48 => ?_)
            · exact absurd c_48 (nI_ge hi (by omega))
            · refine j_aload_n C0 d_Mo_route_51 rfl (by rfl) ?_
              refine mo_get C0 d_Mo_route_52 fl_Mo_16 (by rfl) ?_
              refine j_iconst C0 d_Mo_route_55 (v := 3) (by decide) ?_
              refine j_iload_n C0 d_Mo_route_56 rfl (by rfl) ?_
              refine j_imul C0 d_Mo_route_57 ?_
              refine j_iload C0 d_Mo_route_58 (by rfl) ?_
              refine j_iadd C0 d_Mo_route_60 ?_
              refine mo_ld C0 (i := 2) (k := 3 * k + i) d_Mo_route_61 (by simp only [jn0, jn1, jn2, jn3, jn4, jn8, jn12, jn13, jn14, jn15, jn16, pk_mul, nI_add]) (by show _ < 24; omega) (by decide) ?_
              refine j_iload_n C0 d_Mo_route_62 rfl (by rfl) ?_
              refine j_icmp_ne C0 d_Mo_route_63 (tgt := 70) (by decide) (fun c_63 => ?_) (fun c_63 => ?_)
              · refine j_iinc C0 d_Mo_route_70 (by rfl) (jinc _) (Nat.le_of_ble_eq_true rfl) ?_
                refine j_goto C0 d_Mo_route_73 (tgt := 44) (by decide) ?_
                exact j_to (ih (fun j hj => by
                    by_cases e : j = i
                    · rw [e]; exact c_63
                    · exact hI j (by omega))) rfl ⟨rfl, rfl, rfl, rfl, rfl, rfl, trivial⟩
              · refine j_sipush C0 d_Mo_route_66 (v := -452) (by decide) ?_
                exact j_iret C0 d_Mo_route_69 rfl (by omega) (by omega) (Or.inl ⟨Or.inl ⟨i, hi, c_63⟩, rfl, rfl, rfl⟩)
          · intro hI
            refine j_iload C0 d_Mo_route_44 (by rfl) ?_
            refine j_iload C0 d_Mo_route_46 (by rfl) ?_
            refine j_icmp_ge C0 d_Mo_route_48 (tgt := 76) (by decide) (fun c_48 => ?_) (fun c_48 => ?_)
            · refine j_iload C0 d_Mo_route_76 (by rfl) ?_
              refine j_iconst C0 d_Mo_route_78 (v := 3) (by decide) ?_
              refine j_icmp_ne C0 d_Mo_route_79 (tgt := 86) (by decide) (fun c_79 => ?_) (fun c_79 => ?_)
              · have h3 : n < 3 := by
                  by_cases e : n = 3
                  · exact absurd (by rw [e]; rfl) c_79
                  · omega
                refine j_aload_n C0 d_Mo_route_86 rfl (by rfl) ?_
                refine mo_get C0 d_Mo_route_87 fl_Mo_16 (by rfl) ?_
                refine j_iconst C0 d_Mo_route_90 (v := 3) (by decide) ?_
                refine j_iload_n C0 d_Mo_route_91 rfl (by rfl) ?_
                refine j_imul C0 d_Mo_route_92 ?_
                refine j_iload C0 d_Mo_route_93 (by rfl) ?_
                refine j_iadd C0 d_Mo_route_95 ?_
                refine j_iload_n C0 d_Mo_route_96 rfl (by rfl) ?_
                refine mo_st C0 (i := 2) (k := 3 * k + n) d_Mo_route_97 (by simp only [jn0, jn1, jn2, jn3, jn4, jn8, jn12, jn13, jn14, jn15, jn16, pk_mul, nI_add]) (by show _ < 24; omega) (by decide) ?_
                refine j_aload_n C0 d_Mo_route_98 rfl (by rfl) ?_
                refine mo_get C0 d_Mo_route_99 fl_Mo_19 (by rfl) ?_
                refine j_iconst C0 d_Mo_route_102 (v := 3) (by decide) ?_
                refine j_iload_n C0 d_Mo_route_103 rfl (by rfl) ?_
                refine j_imul C0 d_Mo_route_104 ?_
                refine j_iload C0 d_Mo_route_105 (by rfl) ?_
                refine j_iadd C0 d_Mo_route_107 ?_
                refine j_iconst C0 d_Mo_route_108 (v := 3) (by decide) ?_
                refine j_iload_n C0 d_Mo_route_109 rfl (by rfl) ?_
                refine j_imul C0 d_Mo_route_110 ?_
                refine j_iload C0 d_Mo_route_111 (by rfl) ?_
                refine j_iadd C0 d_Mo_route_113 ?_
                rw [show (3 : Int32) * nI s + nI n = nI (3 * s + n) from by simp only [jn3, pk_mul, nI_add]]
                refine mo_st C0 (i := 3) (k := 3 * k + n) d_Mo_route_114 (by simp only [jn0, jn1, jn2, jn3, jn4, jn8, jn12, jn13, jn14, jn15, jn16, pk_mul, nI_add]) (by show _ < 24; omega) (by decide) ?_
                refine j_aload_n C0 d_Mo_route_115 rfl (by rfl) ?_
                refine mo_get C0 d_Mo_route_116 fl_Mo_22 (by rfl) ?_
                refine j_iload_n C0 d_Mo_route_119 rfl (by rfl) ?_
                refine j_iload C0 d_Mo_route_120 (by rfl) ?_
                refine j_iconst C0 d_Mo_route_122 (v := 1) (by decide) ?_
                refine j_iadd C0 d_Mo_route_123 ?_
                rw [nI_1]
                refine mo_st C0 (i := 4) (k := k) d_Mo_route_124 rfl (by show _ < 8; omega) (by decide) ?_
                refine j_iload C0 d_Mo_route_125 (by rfl) ?_
                refine j_iconst C0 d_Mo_route_127 (v := 1) (by decide) ?_
                refine j_iadd C0 d_Mo_route_128 ?_
                rw [nI_1]
                exact j_iret C0 d_Mo_route_129 rfl (by omega) (by omega) (Or.inr ⟨fun ⟨j, hj, e⟩ => hI j hj e, h3, rfl, rfl, rfl⟩)
              · refine j_sipush C0 d_Mo_route_82 (v := -452) (by decide) ?_
                exact j_iret C0 d_Mo_route_85 rfl (by omega) (by omega) (Or.inl ⟨Or.inr ((nI_eq (b := 3) (by omega) (by decide)).mp c_79), rfl, rfl, rfl⟩)
            · exact absurd (nI_le (Nat.le_refl _) (by omega)) c_48
        · exact absurd rfl c_26
end
