-- ===== PART A: goes FIRST, ahead of the names: the tables' words, and 'selects' of the private methods out of them =====
/-- a private method of a class that the tables say can be made, by its rows of tables_1 -/
def lw_okq (q : MethodName × Nat) : Prop := (q.1.cls ≠ "java/lang/invoke/MethodHandle" ∧ q.1.cls ≠ "java/lang/invoke/VarHandle") ∧ Cond.instantiable q.1.cls q.2 ∈ tables_1 ∧ Cond.privateMethod q.1 ∈ tables_1 ∧ Cond.instanceMethod q.1 ∈ tables_1
theorem lw_p0 : lw_okq (⟨"MailAgent$Aliases", "reachedFrom", "(I)J"⟩, 1) := ⟨⟨by decide +kernel, by decide +kernel⟩, List.mem_of_getElem? (i := 30) (by decide +kernel), List.mem_of_getElem? (i := 297) (by decide +kernel), List.mem_of_getElem? (i := 298) (by decide +kernel)⟩
theorem lw_p1 : lw_okq (⟨"MailAgent", "makeDurable", "()V"⟩, 13) := ⟨⟨by decide +kernel, by decide +kernel⟩, List.mem_of_getElem? (i := 13) (by decide +kernel), List.mem_of_getElem? (i := 344) (by decide +kernel), List.mem_of_getElem? (i := 345) (by decide +kernel)⟩
theorem lw_p2 : lw_okq (⟨"MailAgent", "tryRecipients", "(LMailAgent$Message;)I"⟩, 13) := ⟨⟨by decide +kernel, by decide +kernel⟩, List.mem_of_getElem? (i := 13) (by decide +kernel), List.mem_of_getElem? (i := 361) (by decide +kernel), List.mem_of_getElem? (i := 362) (by decide +kernel)⟩
theorem lw_p3 : lw_okq (⟨"MailAgent", "carry", "(I)I"⟩, 13) := ⟨⟨by decide +kernel, by decide +kernel⟩, List.mem_of_getElem? (i := 13) (by decide +kernel), List.mem_of_getElem? (i := 365) (by decide +kernel), List.mem_of_getElem? (i := 366) (by decide +kernel)⟩
theorem lw_p4 : lw_okq (⟨"MailAgent", "failOverdue", "(LMailAgent$Message;)V"⟩, 13) := ⟨⟨by decide +kernel, by decide +kernel⟩, List.mem_of_getElem? (i := 13) (by decide +kernel), List.mem_of_getElem? (i := 373) (by decide +kernel), List.mem_of_getElem? (i := 374) (by decide +kernel)⟩
theorem lw_p5 : lw_okq (⟨"MailAgent", "settle", "(LMailAgent$Message;)Z"⟩, 13) := ⟨⟨by decide +kernel, by decide +kernel⟩, List.mem_of_getElem? (i := 13) (by decide +kernel), List.mem_of_getElem? (i := 381) (by decide +kernel), List.mem_of_getElem? (i := 382) (by decide +kernel)⟩
theorem lw_p6 : lw_okq (⟨"MailAgent", "keepChangesFew", "()V"⟩, 13) := ⟨⟨by decide +kernel, by decide +kernel⟩, List.mem_of_getElem? (i := 13) (by decide +kernel), List.mem_of_getElem? (i := 403) (by decide +kernel), List.mem_of_getElem? (i := 404) (by decide +kernel)⟩
theorem lw_p7 : lw_okq (⟨"MailAgentModel", "reached", "(I)J"⟩, 24) := ⟨⟨by decide +kernel, by decide +kernel⟩, List.mem_of_getElem? (i := 463) (by decide +kernel), List.mem_of_getElem? (i := 576) (by decide +kernel), List.mem_of_getElem? (i := 577) (by decide +kernel)⟩
theorem lw_p8 : lw_okq (⟨"MailAgentModel", "named", "(I)Z"⟩, 24) := ⟨⟨by decide +kernel, by decide +kernel⟩, List.mem_of_getElem? (i := 463) (by decide +kernel), List.mem_of_getElem? (i := 580) (by decide +kernel), List.mem_of_getElem? (i := 581) (by decide +kernel)⟩
theorem lw_p9 : lw_okq (⟨"MailAgentModel", "costs", "()I"⟩, 24) := ⟨⟨by decide +kernel, by decide +kernel⟩, List.mem_of_getElem? (i := 463) (by decide +kernel), List.mem_of_getElem? (i := 588) (by decide +kernel), List.mem_of_getElem? (i := 589) (by decide +kernel)⟩
theorem lw_p10 : lw_okq (⟨"MailAgentModel", "settle", "()I"⟩, 24) := ⟨⟨by decide +kernel, by decide +kernel⟩, List.mem_of_getElem? (i := 463) (by decide +kernel), List.mem_of_getElem? (i := 592) (by decide +kernel), List.mem_of_getElem? (i := 593) (by decide +kernel)⟩
theorem lw_p11 : lw_okq (⟨"MailAgentModel", "find", "(I)I"⟩, 24) := ⟨⟨by decide +kernel, by decide +kernel⟩, List.mem_of_getElem? (i := 463) (by decide +kernel), List.mem_of_getElem? (i := 601) (by decide +kernel), List.mem_of_getElem? (i := 602) (by decide +kernel)⟩
theorem lw_p12 : lw_okq (⟨"MailAgentModel", "attempt", "(I)I"⟩, 24) := ⟨⟨by decide +kernel, by decide +kernel⟩, List.mem_of_getElem? (i := 463) (by decide +kernel), List.mem_of_getElem? (i := 605) (by decide +kernel), List.mem_of_getElem? (i := 606) (by decide +kernel)⟩
theorem lw_p13 : lw_okq (⟨"MailAgentModel", "carrier", "(I)I"⟩, 24) := ⟨⟨by decide +kernel, by decide +kernel⟩, List.mem_of_getElem? (i := 463) (by decide +kernel), List.mem_of_getElem? (i := 609) (by decide +kernel), List.mem_of_getElem? (i := 610) (by decide +kernel)⟩
theorem lw_p14 : lw_okq (⟨"MailAgentModel", "mark", "(II)V"⟩, 24) := ⟨⟨by decide +kernel, by decide +kernel⟩, List.mem_of_getElem? (i := 463) (by decide +kernel), List.mem_of_getElem? (i := 613) (by decide +kernel), List.mem_of_getElem? (i := 614) (by decide +kernel)⟩
theorem lw_p15 : lw_okq (⟨"MailAgentModel", "deliver", "(II)V"⟩, 24) := ⟨⟨by decide +kernel, by decide +kernel⟩, List.mem_of_getElem? (i := 463) (by decide +kernel), List.mem_of_getElem? (i := 617) (by decide +kernel), List.mem_of_getElem? (i := 618) (by decide +kernel)⟩
def lw_privs_1 : List (MethodName × Nat) := [(⟨"MailAgent$Aliases", "reachedFrom", "(I)J"⟩, 1), (⟨"MailAgent", "makeDurable", "()V"⟩, 13), (⟨"MailAgent", "tryRecipients", "(LMailAgent$Message;)I"⟩, 13), (⟨"MailAgent", "carry", "(I)I"⟩, 13), (⟨"MailAgent", "failOverdue", "(LMailAgent$Message;)V"⟩, 13), (⟨"MailAgent", "settle", "(LMailAgent$Message;)Z"⟩, 13), (⟨"MailAgent", "keepChangesFew", "()V"⟩, 13), (⟨"MailAgentModel", "reached", "(I)J"⟩, 24), (⟨"MailAgentModel", "named", "(I)Z"⟩, 24), (⟨"MailAgentModel", "costs", "()I"⟩, 24), (⟨"MailAgentModel", "settle", "()I"⟩, 24), (⟨"MailAgentModel", "find", "(I)I"⟩, 24), (⟨"MailAgentModel", "attempt", "(I)I"⟩, 24), (⟨"MailAgentModel", "carrier", "(I)I"⟩, 24), (⟨"MailAgentModel", "mark", "(II)V"⟩, 24), (⟨"MailAgentModel", "deliver", "(II)V"⟩, 24)]
theorem lw_r1 : ∀ q ∈ lw_privs_1, lw_okq q := List.forall_mem_cons.mpr ⟨lw_p0, List.forall_mem_cons.mpr ⟨lw_p1, List.forall_mem_cons.mpr ⟨lw_p2, List.forall_mem_cons.mpr ⟨lw_p3, List.forall_mem_cons.mpr ⟨lw_p4, List.forall_mem_cons.mpr ⟨lw_p5, List.forall_mem_cons.mpr ⟨lw_p6, List.forall_mem_cons.mpr ⟨lw_p7, List.forall_mem_cons.mpr ⟨lw_p8, List.forall_mem_cons.mpr ⟨lw_p9, List.forall_mem_cons.mpr ⟨lw_p10, List.forall_mem_cons.mpr ⟨lw_p11, List.forall_mem_cons.mpr ⟨lw_p12, List.forall_mem_cons.mpr ⟨lw_p13, List.forall_mem_cons.mpr ⟨lw_p14, List.forall_mem_cons.mpr ⟨lw_p15, fun _ h => absurd h List.not_mem_nil⟩⟩⟩⟩⟩⟩⟩⟩⟩⟩⟩⟩⟩⟩⟩⟩
theorem lw_p16 : lw_okq (⟨"MailAgentModel", "states", "(II)I"⟩, 24) := ⟨⟨by decide +kernel, by decide +kernel⟩, List.mem_of_getElem? (i := 463) (by decide +kernel), List.mem_of_getElem? (i := 621) (by decide +kernel), List.mem_of_getElem? (i := 622) (by decide +kernel)⟩
theorem lw_p17 : lw_okq (⟨"MailAgentModel", "remove", "(I)V"⟩, 24) := ⟨⟨by decide +kernel, by decide +kernel⟩, List.mem_of_getElem? (i := 463) (by decide +kernel), List.mem_of_getElem? (i := 625) (by decide +kernel), List.mem_of_getElem? (i := 626) (by decide +kernel)⟩
theorem lw_p18 : lw_okq (⟨"MailAgentModel", "close", "()V"⟩, 24) := ⟨⟨by decide +kernel, by decide +kernel⟩, List.mem_of_getElem? (i := 463) (by decide +kernel), List.mem_of_getElem? (i := 629) (by decide +kernel), List.mem_of_getElem? (i := 630) (by decide +kernel)⟩
def lw_privs_2 : List (MethodName × Nat) := [(⟨"MailAgentModel", "states", "(II)I"⟩, 24), (⟨"MailAgentModel", "remove", "(I)V"⟩, 24), (⟨"MailAgentModel", "close", "()V"⟩, 24)]
theorem lw_r2 : ∀ q ∈ lw_privs_2, lw_okq q := List.forall_mem_cons.mpr ⟨lw_p16, List.forall_mem_cons.mpr ⟨lw_p17, List.forall_mem_cons.mpr ⟨lw_p18, fun _ h => absurd h List.not_mem_nil⟩⟩⟩
def lw_privs : List (MethodName × Nat) := lw_privs_1 ++ (lw_privs_2)
def lw_tbl : List Cond := k2_sels lw_privs ++ tables_1
theorem lw_privs_ok : ∀ q ∈ lw_privs, lw_okq q := by
  show ∀ q ∈ lw_privs_1 ++ (lw_privs_2), lw_okq q
  exact List.forall_mem_append.mpr ⟨lw_r1, lw_r2⟩
/-! names: classes with their fields, the tables' good words, methods -/
def T_Al : u_T := fun k => match k with
  | _ => ("MailAgent$Aliases", "goals", "[J", true)
def ty_Al : Nat → FieldType := fun k => match k with
  | _ => .array .long
theorem nm_Al : ∀ a, a < 1 → ∀ b, b < 1 → a ≠ b → (T_Al a).2.1 ≠ (T_Al b).2.1 := by decide +kernel
theorem tyok_Al : ∀ k, k < 1 → parseFieldDescriptor (T_Al k).2.2.1 = some (ty_Al k) := by decide +kernel
def T_De : u_T := fun k => match k with
  | 0 => ("MailAgent$Deliveries", "letters", "[I", true)
  | 1 => ("MailAgent$Deliveries", "reports", "[I", true)
  | 2 => ("MailAgent$Deliveries", "lastNumbers", "[I", true)
  | _ => ("MailAgent$Deliveries", "carried", "[I", true)
def ty_De : Nat → FieldType := fun k => match k with
  | 0 => .array .int
  | 1 => .array .int
  | 2 => .array .int
  | _ => .array .int
theorem nm_De : ∀ a, a < 4 → ∀ b, b < 4 → a ≠ b → (T_De a).2.1 ≠ (T_De b).2.1 := by decide +kernel
theorem tyok_De : ∀ k, k < 4 → parseFieldDescriptor (T_De k).2.2.1 = some (ty_De k) := by decide +kernel
def T_Me : u_T := fun k => match k with
  | 0 => ("MailAgent$Message", "recipients", "LMailAgent$Recipients;", true)
  | 1 => ("MailAgent$Message", "number", "I", false)
  | 2 => ("MailAgent$Message", "sender", "I", false)
  | 3 => ("MailAgent$Message", "size", "I", false)
  | 4 => ("MailAgent$Message", "start", "I", false)
  | 5 => ("MailAgent$Message", "due", "I", false)
  | 6 => ("MailAgent$Message", "gap", "I", false)
  | _ => ("MailAgent$Message", "isReport", "Z", false)
def ty_Me : Nat → FieldType := fun k => match k with
  | 0 => .object "MailAgent$Recipients"
  | 1 => .int
  | 2 => .int
  | 3 => .int
  | 4 => .int
  | 5 => .int
  | 6 => .int
  | _ => .boolean
theorem nm_Me : ∀ a, a < 8 → ∀ b, b < 8 → a ≠ b → (T_Me a).2.1 ≠ (T_Me b).2.1 := by decide +kernel
theorem tyok_Me : ∀ k, k < 8 → parseFieldDescriptor (T_Me k).2.2.1 = some (ty_Me k) := by decide +kernel
def T_Qu : u_T := fun k => match k with
  | 0 => ("MailAgent$Queue", "messages", "[LMailAgent$Message;", true)
  | _ => ("MailAgent$Queue", "size", "I", false)
def ty_Qu : Nat → FieldType := fun k => match k with
  | 0 => .array (.object "MailAgent$Message")
  | _ => .int
theorem nm_Qu : ∀ a, a < 2 → ∀ b, b < 2 → a ≠ b → (T_Qu a).2.1 ≠ (T_Qu b).2.1 := by decide +kernel
theorem tyok_Qu : ∀ k, k < 2 → parseFieldDescriptor (T_Qu k).2.2.1 = some (ty_Qu k) := by decide +kernel
def T_Re : u_T := fun k => match k with
  | 0 => ("MailAgent$Recipients", "addresses", "[I", true)
  | 1 => ("MailAgent$Recipients", "states", "[I", true)
  | _ => ("MailAgent$Recipients", "size", "I", false)
def ty_Re : Nat → FieldType := fun k => match k with
  | 0 => .array .int
  | 1 => .array .int
  | _ => .int
theorem nm_Re : ∀ a, a < 3 → ∀ b, b < 3 → a ≠ b → (T_Re a).2.1 ≠ (T_Re b).2.1 := by decide +kernel
theorem tyok_Re : ∀ k, k < 3 → parseFieldDescriptor (T_Re k).2.2.1 = some (ty_Re k) := by decide +kernel
def T_Ro : u_T := fun k => match k with
  | 0 => ("MailAgent$Routes", "hosts", "[I", true)
  | 1 => ("MailAgent$Routes", "preferences", "[I", true)
  | _ => ("MailAgent$Routes", "size", "I", false)
def ty_Ro : Nat → FieldType := fun k => match k with
  | 0 => .array .int
  | 1 => .array .int
  | _ => .int
theorem nm_Ro : ∀ a, a < 3 → ∀ b, b < 3 → a ≠ b → (T_Ro a).2.1 ≠ (T_Ro b).2.1 := by decide +kernel
theorem tyok_Ro : ∀ k, k < 3 → parseFieldDescriptor (T_Ro k).2.2.1 = some (ty_Ro k) := by decide +kernel
def T_Tr : u_T := fun k => match k with
  | 0 => ("MailAgent$Transaction", "recipients", "LMailAgent$Recipients;", true)
  | 1 => ("MailAgent$Transaction", "open", "Z", false)
  | _ => ("MailAgent$Transaction", "sender", "I", false)
def ty_Tr : Nat → FieldType := fun k => match k with
  | 0 => .object "MailAgent$Recipients"
  | 1 => .boolean
  | _ => .int
theorem nm_Tr : ∀ a, a < 3 → ∀ b, b < 3 → a ≠ b → (T_Tr a).2.1 ≠ (T_Tr b).2.1 := by decide +kernel
theorem tyok_Tr : ∀ k, k < 3 → parseFieldDescriptor (T_Tr k).2.2.1 = some (ty_Tr k) := by decide +kernel
def T_Ma : u_T := fun k => match k with
  | 0 => ("MailAgent", "minGap", "I", true)
  | 1 => ("MailAgent", "maxGap", "I", true)
  | 2 => ("MailAgent", "giveUp", "I", true)
  | 3 => ("MailAgent", "aliases", "LMailAgent$Aliases;", true)
  | 4 => ("MailAgent", "routes", "[LMailAgent$Routes;", true)
  | 5 => ("MailAgent", "hostStates", "[I", true)
  | 6 => ("MailAgent", "transaction", "LMailAgent$Transaction;", true)
  | 7 => ("MailAgent", "queue", "LMailAgent$Queue;", true)
  | 8 => ("MailAgent", "durable", "LMailAgent$Queue;", true)
  | 9 => ("MailAgent", "deliveries", "LMailAgent$Deliveries;", true)
  | 10 => ("MailAgent", "clock", "I", false)
  | 11 => ("MailAgent", "lastNumber", "I", false)
  | _ => ("MailAgent", "changes", "I", false)
def ty_Ma : Nat → FieldType := fun k => match k with
  | 0 => .int
  | 1 => .int
  | 2 => .int
  | 3 => .object "MailAgent$Aliases"
  | 4 => .array (.object "MailAgent$Routes")
  | 5 => .array .int
  | 6 => .object "MailAgent$Transaction"
  | 7 => .object "MailAgent$Queue"
  | 8 => .object "MailAgent$Queue"
  | 9 => .object "MailAgent$Deliveries"
  | 10 => .int
  | 11 => .int
  | _ => .int
theorem nm_Ma : ∀ a, a < 13 → ∀ b, b < 13 → a ≠ b → (T_Ma a).2.1 ≠ (T_Ma b).2.1 := by decide +kernel
theorem tyok_Ma : ∀ k, k < 13 → parseFieldDescriptor (T_Ma k).2.2.1 = some (ty_Ma k) := by decide +kernel
def T_Mo : u_T := fun k => match k with
  | 0 => ("MailAgentModel", "minGap", "I", true)
  | 1 => ("MailAgentModel", "maxGap", "I", true)
  | 2 => ("MailAgentModel", "giveUp", "I", true)
  | 3 => ("MailAgentModel", "goals", "[I", true)
  | 4 => ("MailAgentModel", "goalCount", "[I", true)
  | 5 => ("MailAgentModel", "routeHost", "[I", true)
  | 6 => ("MailAgentModel", "routeKey", "[I", true)
  | 7 => ("MailAgentModel", "routeCount", "[I", true)
  | 8 => ("MailAgentModel", "hosts", "[I", true)
  | 9 => ("MailAgentModel", "clock", "I", false)
  | 10 => ("MailAgentModel", "last", "I", false)
  | 11 => ("MailAgentModel", "queue", "[I", true)
  | 12 => ("MailAgentModel", "queued", "I", false)
  | 13 => ("MailAgentModel", "safe", "[I", true)
  | 14 => ("MailAgentModel", "safeQueued", "I", false)
  | 15 => ("MailAgentModel", "changes", "I", false)
  | 16 => ("MailAgentModel", "open", "Z", false)
  | 17 => ("MailAgentModel", "from", "I", false)
  | 18 => ("MailAgentModel", "to", "[I", true)
  | 19 => ("MailAgentModel", "toCount", "I", false)
  | 20 => ("MailAgentModel", "letters", "[I", true)
  | 21 => ("MailAgentModel", "reports", "[I", true)
  | 22 => ("MailAgentModel", "latest", "[I", true)
  | _ => ("MailAgentModel", "carried", "[I", true)
def ty_Mo : Nat → FieldType := fun k => match k with
  | 0 => .int
  | 1 => .int
  | 2 => .int
  | 3 => .array .int
  | 4 => .array .int
  | 5 => .array .int
  | 6 => .array .int
  | 7 => .array .int
  | 8 => .array .int
  | 9 => .int
  | 10 => .int
  | 11 => .array .int
  | 12 => .int
  | 13 => .array .int
  | 14 => .int
  | 15 => .int
  | 16 => .boolean
  | 17 => .int
  | 18 => .array .int
  | 19 => .int
  | 20 => .array .int
  | 21 => .array .int
  | 22 => .array .int
  | _ => .array .int
theorem nm_Mo : ∀ a, a < 24 → ∀ b, b < 24 → a ≠ b → (T_Mo a).2.1 ≠ (T_Mo b).2.1 := by decide +kernel
theorem tyok_Mo : ∀ k, k < 24 → parseFieldDescriptor (T_Mo k).2.2.1 = some (ty_Mo k) := by decide +kernel
abbrev jCl : List vw_C := [("MailAgent$Aliases", T_Al, 1), ("MailAgent$Deliveries", T_De, 4), ("MailAgent$Message", T_Me, 8), ("MailAgent$Queue", T_Qu, 2), ("MailAgent$Recipients", T_Re, 3), ("MailAgent$Routes", T_Ro, 3), ("MailAgent$Transaction", T_Tr, 3), ("MailAgent", T_Ma, 13), ("MailAgentModel", T_Mo, 24)]
def jTG : List Cond := lw_tbl.filter goodWord
theorem jTG_good : ∀ w ∈ jTG, goodWord w = true := fun w hw => (List.mem_filter.mp hw).2
def jTys (ta : Nat → ClassId) : List (ClassId × FieldType) := [(ta 0, .int), (ta 1, .long), (ta 2, .object "MailAgent$Message"), (ta 3, .object "MailAgent$Routes")]
def jNM : List (String × Nat × MethodName × String) := [("MailAgent", 25, ⟨"MailAgent$Aliases", "<init>", "()V"⟩, "MailAgent"), ("MailAgent", 36, ⟨"MailAgent$Routes", "<init>", "()V"⟩, "MailAgent"), ("MailAgent", 43, ⟨"MailAgent$Transaction", "<init>", "()V"⟩, "MailAgent"), ("MailAgent$Transaction", 11, ⟨"MailAgent$Recipients", "<init>", "()V"⟩, "MailAgent"), ("MailAgent$Queue", 21, ⟨"MailAgent$Message", "<init>", "()V"⟩, "MailAgent"), ("MailAgent$Message", 11, ⟨"MailAgent$Recipients", "<init>", "()V"⟩, "MailAgent"), ("MailAgent", 60, ⟨"MailAgent$Deliveries", "<init>", "()V"⟩, "MailAgent"), ("MailAgent$Queue", 33, ⟨"MailAgent", "costOf", "(II)I"⟩, "MailAgent")]
def jAO : List String := ["MailAgent$Routes", "MailAgent$Message"]
abbrev jM0 : Type := MethodName × ByteArray × Nat × Option FieldType
abbrev M_Ma_init : jM0 := (⟨"MailAgent", "<init>", "(III)V"⟩, prog_1_method_1_code, 5, none)
abbrev M_Ma_clamp : jM0 := (⟨"MailAgent", "clamp", "(III)I"⟩, prog_1_method_21_code, 3, (some .int))
abbrev M_Mt_min : jM0 := (⟨"java/lang/Math", "min", "(II)I"⟩, prog_12_method_69_code, 2, (some .int))
abbrev M_Mt_max : jM0 := (⟨"java/lang/Math", "max", "(II)I"⟩, prog_12_method_65_code, 2, (some .int))
abbrev M_Al_init : jM0 := (⟨"MailAgent$Aliases", "<init>", "()V"⟩, prog_2_method_1_code, 1, none)
abbrev M_Ro_init : jM0 := (⟨"MailAgent$Routes", "<init>", "()V"⟩, prog_7_method_1_code, 1, none)
abbrev M_Tr_init : jM0 := (⟨"MailAgent$Transaction", "<init>", "()V"⟩, prog_8_method_1_code, 1, none)
abbrev M_Re_init : jM0 := (⟨"MailAgent$Recipients", "<init>", "()V"⟩, prog_6_method_1_code, 1, none)
abbrev M_Qu_init : jM0 := (⟨"MailAgent$Queue", "<init>", "()V"⟩, prog_5_method_1_code, 2, none)
abbrev M_Me_init : jM0 := (⟨"MailAgent$Message", "<init>", "()V"⟩, prog_4_method_1_code, 1, none)
abbrev M_De_init : jM0 := (⟨"MailAgent$Deliveries", "<init>", "()V"⟩, prog_3_method_1_code, 1, none)
abbrev M_Ma_alias : jM0 := (⟨"MailAgent", "alias", "(II)I"⟩, prog_1_method_2_code, 3, (some .int))
abbrev M_Ma_isBelow : jM0 := (⟨"MailAgent", "isBelow", "(II)Z"⟩, prog_1_method_22_code, 2, (some .boolean))
abbrev M_Al_hasRoomFor : jM0 := (⟨"MailAgent$Aliases", "hasRoomFor", "(II)Z"⟩, prog_2_method_2_code, 3, (some .boolean))
abbrev M_Lo_bitCount : jM0 := (⟨"java/lang/Long", "bitCount", "(J)I"⟩, prog_11_method_50_code, 2, (some .int))
abbrev M_Al_add : jM0 := (⟨"MailAgent$Aliases", "add", "(II)I"⟩, prog_2_method_3_code, 3, (some .int))
abbrev M_Ma_unalias : jM0 := (⟨"MailAgent", "unalias", "(I)I"⟩, prog_1_method_3_code, 2, (some .int))
abbrev M_Al_clear : jM0 := (⟨"MailAgent$Aliases", "clear", "(I)I"⟩, prog_2_method_4_code, 3, (some .int))
abbrev M_Ma_route : jM0 := (⟨"MailAgent", "route", "(III)I"⟩, prog_1_method_4_code, 4, (some .int))
abbrev M_Ma_isForeign : jM0 := (⟨"MailAgent", "isForeign", "(I)Z"⟩, prog_1_method_23_code, 1, (some .boolean))
abbrev M_Ro_hasRoomFor : jM0 := (⟨"MailAgent$Routes", "hasRoomFor", "(I)Z"⟩, prog_7_method_2_code, 3, (some .boolean))
abbrev M_Ro_add : jM0 := (⟨"MailAgent$Routes", "add", "(II)I"⟩, prog_7_method_3_code, 4, (some .int))
abbrev M_Ma_unroute : jM0 := (⟨"MailAgent", "unroute", "(I)I"⟩, prog_1_method_5_code, 2, (some .int))
abbrev M_Ro_clear : jM0 := (⟨"MailAgent$Routes", "clear", "()I"⟩, prog_7_method_4_code, 2, (some .int))
abbrev M_Ma_host : jM0 := (⟨"MailAgent", "host", "(II)I"⟩, prog_1_method_6_code, 4, (some .int))
abbrev M_Ma_from : jM0 := (⟨"MailAgent", "from", "(I)I"⟩, prog_1_method_7_code, 2, (some .int))
abbrev M_Tr_start : jM0 := (⟨"MailAgent$Transaction", "start", "(I)V"⟩, prog_8_method_2_code, 2, none)
abbrev M_Ma_to : jM0 := (⟨"MailAgent", "to", "(I)I"⟩, prog_1_method_8_code, 7, (some .int))
abbrev M_Al_finalsOf : jM0 := (⟨"MailAgent$Aliases", "finalsOf", "(I)J"⟩, prog_2_method_5_code, 5, (some .long))
abbrev M_Al_reachedFrom : jM0 := (⟨"MailAgent$Aliases", "reachedFrom", "(I)J"⟩, prog_2_method_6_code, 6, (some .long))
abbrev M_Re_asBits : jM0 := (⟨"MailAgent$Recipients", "asBits", "()J"⟩, prog_6_method_4_code, 4, (some .long))
abbrev M_Re_addRising : jM0 := (⟨"MailAgent$Recipients", "addRising", "(J)V"⟩, prog_6_method_3_code, 4, none)
abbrev M_Re_add : jM0 := (⟨"MailAgent$Recipients", "add", "(I)V"⟩, prog_6_method_2_code, 2, none)
abbrev M_Ma_data : jM0 := (⟨"MailAgent", "data", "(I)I"⟩, prog_1_method_9_code, 4, (some .int))
abbrev M_Ma_costOf : jM0 := (⟨"MailAgent", "costOf", "(II)I"⟩, prog_1_method_24_code, 2, (some .int))
abbrev M_Qu_costs : jM0 := (⟨"MailAgent$Queue", "costs", "()I"⟩, prog_5_method_5_code, 3, (some .int))
abbrev M_Qu_addSpare : jM0 := (⟨"MailAgent$Queue", "addSpare", "()LMailAgent$Message;"⟩, prog_5_method_2_code, 2, (some (.object "MailAgent$Message")))
abbrev M_Me_accept : jM0 := (⟨"MailAgent$Message", "accept", "(IILMailAgent$Transaction;)V"⟩, prog_4_method_2_code, 4, none)
abbrev M_Re_copyFrom : jM0 := (⟨"MailAgent$Recipients", "copyFrom", "(LMailAgent$Recipients;)V"⟩, prog_6_method_8_code, 3, none)
abbrev M_Me_schedule : jM0 := (⟨"MailAgent$Message", "schedule", "(II)V"⟩, prog_4_method_3_code, 3, none)
abbrev M_Ma_makeDurable : jM0 := (⟨"MailAgent", "makeDurable", "()V"⟩, prog_1_method_30_code, 1, none)
abbrev M_Qu_copyFrom : jM0 := (⟨"MailAgent$Queue", "copyFrom", "(LMailAgent$Queue;)V"⟩, prog_5_method_7_code, 3, none)
abbrev M_Me_copyFrom : jM0 := (⟨"MailAgent$Message", "copyFrom", "(LMailAgent$Message;)V"⟩, prog_4_method_6_code, 2, none)
abbrev M_Ma_tick : jM0 := (⟨"MailAgent", "tick", "(I)I"⟩, prog_1_method_10_code, 7, (some .int))
abbrev M_Ma_tryRecipients : jM0 := (⟨"MailAgent", "tryRecipients", "(LMailAgent$Message;)I"⟩, prog_1_method_25_code, 7, (some .int))
abbrev M_Ma_carry : jM0 := (⟨"MailAgent", "carry", "(I)I"⟩, prog_1_method_26_code, 6, (some .int))
abbrev M_De_note : jM0 := (⟨"MailAgent$Deliveries", "note", "(ILMailAgent$Message;)V"⟩, prog_3_method_2_code, 3, none)
abbrev M_Ma_failOverdue : jM0 := (⟨"MailAgent", "failOverdue", "(LMailAgent$Message;)V"⟩, prog_1_method_27_code, 2, none)
abbrev M_Re_failWaiting : jM0 := (⟨"MailAgent$Recipients", "failWaiting", "()I"⟩, prog_6_method_7_code, 3, (some .int))
abbrev M_Ma_settle : jM0 := (⟨"MailAgent", "settle", "(LMailAgent$Message;)Z"⟩, prog_1_method_28_code, 2, (some .boolean))
abbrev M_Re_inState : jM0 := (⟨"MailAgent$Recipients", "inState", "(I)I"⟩, prog_6_method_6_code, 4, (some .int))
abbrev M_Me_putOff : jM0 := (⟨"MailAgent$Message", "putOff", "(II)V"⟩, prog_4_method_4_code, 3, none)
abbrev M_Me_becomeReport : jM0 := (⟨"MailAgent$Message", "becomeReport", "()V"⟩, prog_4_method_5_code, 1, none)
abbrev M_Qu_removeAt : jM0 := (⟨"MailAgent$Queue", "removeAt", "(I)V"⟩, prog_5_method_3_code, 4, none)
abbrev M_Ma_keepChangesFew : jM0 := (⟨"MailAgent", "keepChangesFew", "()V"⟩, prog_1_method_29_code, 1, none)
abbrev M_Ma_sync : jM0 := (⟨"MailAgent", "sync", "()I"⟩, prog_1_method_11_code, 2, (some .int))
abbrev M_Ma_crash : jM0 := (⟨"MailAgent", "crash", "()I"⟩, prog_1_method_12_code, 2, (some .int))
abbrev M_Ma_drop : jM0 := (⟨"MailAgent", "drop", "(I)I"⟩, prog_1_method_13_code, 3, (some .int))
abbrev M_Qu_indexOf : jM0 := (⟨"MailAgent$Queue", "indexOf", "(I)I"⟩, prog_5_method_4_code, 3, (some .int))
abbrev M_Ma_hurry : jM0 := (⟨"MailAgent", "hurry", "(I)I"⟩, prog_1_method_14_code, 3, (some .int))
abbrev M_Ma_count : jM0 := (⟨"MailAgent", "count", "(I)I"⟩, prog_1_method_15_code, 2, (some .int))
abbrev M_Qu_waitingRecipients : jM0 := (⟨"MailAgent$Queue", "waitingRecipients", "()I"⟩, prog_5_method_6_code, 3, (some .int))
abbrev M_Ma_message : jM0 := (⟨"MailAgent", "message", "(I)I"⟩, prog_1_method_16_code, 2, (some .int))
abbrev M_Ma_status : jM0 := (⟨"MailAgent", "status", "(II)I"⟩, prog_1_method_17_code, 4, (some .int))
abbrev M_Re_stateOf : jM0 := (⟨"MailAgent$Recipients", "stateOf", "(I)I"⟩, prog_6_method_5_code, 3, (some .int))
abbrev M_Ma_sender : jM0 := (⟨"MailAgent", "sender", "(I)I"⟩, prog_1_method_18_code, 3, (some .int))
abbrev M_Ma_due : jM0 := (⟨"MailAgent", "due", "(I)I"⟩, prog_1_method_19_code, 3, (some .int))
abbrev M_Ma_received : jM0 := (⟨"MailAgent", "received", "(II)I"⟩, prog_1_method_20_code, 3, (some .int))
abbrev M_La_cell : jM0 := (⟨"MailAgentLaw", "cell", "([II)I"⟩, method_2_code, 2, (some .int))
abbrev M_Mo_init : jM0 := (⟨"MailAgentModel", "<init>", "(III)V"⟩, prog_10_method_1_code, 4, none)
abbrev M_Mo_within : jM0 := (⟨"MailAgentModel", "within", "(III)I"⟩, prog_10_method_2_code, 3, (some .int))
abbrev M_Mo_alias : jM0 := (⟨"MailAgentModel", "alias", "(II)I"⟩, prog_10_method_4_code, 4, (some .int))
abbrev M_Mo_out : jM0 := (⟨"MailAgentModel", "out", "(II)Z"⟩, prog_10_method_3_code, 2, (some .boolean))
abbrev M_Mo_unalias : jM0 := (⟨"MailAgentModel", "unalias", "(I)I"⟩, prog_10_method_5_code, 3, (some .int))
abbrev M_Mo_route : jM0 := (⟨"MailAgentModel", "route", "(III)I"⟩, prog_10_method_6_code, 6, (some .int))
abbrev M_Mo_unroute : jM0 := (⟨"MailAgentModel", "unroute", "(I)I"⟩, prog_10_method_7_code, 3, (some .int))
abbrev M_Mo_host : jM0 := (⟨"MailAgentModel", "host", "(II)I"⟩, prog_10_method_8_code, 4, (some .int))
abbrev M_Mo_from : jM0 := (⟨"MailAgentModel", "from", "(I)I"⟩, prog_10_method_9_code, 2, (some .int))
abbrev M_Mo_to : jM0 := (⟨"MailAgentModel", "to", "(I)I"⟩, prog_10_method_12_code, 8, (some .int))
abbrev M_Mo_reached : jM0 := (⟨"MailAgentModel", "reached", "(I)J"⟩, prog_10_method_10_code, 6, (some .long))
abbrev M_Mo_named : jM0 := (⟨"MailAgentModel", "named", "(I)Z"⟩, prog_10_method_11_code, 3, (some .boolean))
abbrev M_Mo_data : jM0 := (⟨"MailAgentModel", "data", "(I)I"⟩, prog_10_method_15_code, 4, (some .int))
abbrev M_Mo_costs : jM0 := (⟨"MailAgentModel", "costs", "()I"⟩, prog_10_method_13_code, 3, (some .int))
abbrev M_Mo_settle : jM0 := (⟨"MailAgentModel", "settle", "()I"⟩, prog_10_method_14_code, 3, (some .int))
abbrev M_Mo_tick : jM0 := (⟨"MailAgentModel", "tick", "(I)I"⟩, prog_10_method_23_code, 5, (some .int))
abbrev M_Mo_find : jM0 := (⟨"MailAgentModel", "find", "(I)I"⟩, prog_10_method_26_code, 3, (some .int))
abbrev M_Mo_attempt : jM0 := (⟨"MailAgentModel", "attempt", "(I)I"⟩, prog_10_method_20_code, 6, (some .int))
abbrev M_Mo_carrier : jM0 := (⟨"MailAgentModel", "carrier", "(I)I"⟩, prog_10_method_16_code, 6, (some .int))
abbrev M_Mo_mark : jM0 := (⟨"MailAgentModel", "mark", "(II)V"⟩, prog_10_method_18_code, 3, none)
abbrev M_Mo_deliver : jM0 := (⟨"MailAgentModel", "deliver", "(II)V"⟩, prog_10_method_19_code, 3, none)
abbrev M_Mo_states : jM0 := (⟨"MailAgentModel", "states", "(II)I"⟩, prog_10_method_17_code, 5, (some .int))
abbrev M_Mo_remove : jM0 := (⟨"MailAgentModel", "remove", "(I)V"⟩, prog_10_method_21_code, 3, none)
abbrev M_Mo_close : jM0 := (⟨"MailAgentModel", "close", "()V"⟩, prog_10_method_22_code, 1, none)
abbrev M_Mo_sync : jM0 := (⟨"MailAgentModel", "sync", "()I"⟩, prog_10_method_24_code, 1, (some .int))
abbrev M_Mo_crash : jM0 := (⟨"MailAgentModel", "crash", "()I"⟩, prog_10_method_25_code, 2, (some .int))
abbrev M_Mo_drop : jM0 := (⟨"MailAgentModel", "drop", "(I)I"⟩, prog_10_method_27_code, 3, (some .int))
abbrev M_Mo_hurry : jM0 := (⟨"MailAgentModel", "hurry", "(I)I"⟩, prog_10_method_28_code, 3, (some .int))
abbrev M_Mo_count : jM0 := (⟨"MailAgentModel", "count", "(I)I"⟩, prog_10_method_29_code, 4, (some .int))
abbrev M_Mo_message : jM0 := (⟨"MailAgentModel", "message", "(I)I"⟩, prog_10_method_30_code, 2, (some .int))
abbrev M_Mo_status : jM0 := (⟨"MailAgentModel", "status", "(II)I"⟩, prog_10_method_31_code, 5, (some .int))
abbrev M_Mo_sender : jM0 := (⟨"MailAgentModel", "sender", "(I)I"⟩, prog_10_method_32_code, 3, (some .int))
abbrev M_Mo_due : jM0 := (⟨"MailAgentModel", "due", "(I)I"⟩, prog_10_method_33_code, 3, (some .int))
abbrev M_Mo_received : jM0 := (⟨"MailAgentModel", "received", "(II)I"⟩, prog_10_method_34_code, 3, (some .int))
