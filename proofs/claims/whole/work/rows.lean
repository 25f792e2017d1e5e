section
-- ===== PART A: goes FIRST, ahead of the names: the tables' words, and 'selects' of the private methods out of them =====
/-- a private method of a class that the tables say can be made, by its rows of tables_1 -/
def lw_okq (q : MethodName × Nat) : Prop := (q.1.cls ≠ "java/lang/invoke/MethodHandle" ∧ q.1.cls ≠ "java/lang/invoke/VarHandle") ∧ Cond.instantiable q.1.cls q.2 ∈ tables_1 ∧ Cond.privateMethod q.1 ∈ tables_1 ∧ Cond.instanceMethod q.1 ∈ tables_1
theorem lw_p0 : lw_okq (⟨"MailAgent$Aliases", "reachedFrom", "(I)J"⟩, 1) := ⟨⟨by decide +kernel, by decide +kernel⟩, List.mem_of_getElem? (i := 30) (by decide +kernel), List.mem_of_getElem? (i := 297) (by decide +kernel), List.mem_of_getElem? (i := 298) (by decide +kernel)⟩
theorem lw_p1 : lw_okq (⟨"MailAgent", "makeDurable", "()V"⟩, 13) := ⟨⟨by decide +kernel, by decide +kernel⟩, List.mem_of_getElem? (i := 13) (by decide +kernel), List.mem_of_getElem? (i := 344) (by decide +kernel), List.mem_of_getElem? (i := 345) (by decide +kernel)⟩
theorem lw_p2 : lw_okq (⟨"MailAgent", "tryRecipients", "(LMailAgent$Message;)I"⟩, 13) := ⟨⟨by decide +kernel, by decide +kernel⟩, List.mem_of_getElem? (i := 13) (by decide +kernel), List.mem_of_getElem? (i := 361) (by decide +kernel), List.mem_of_getElem? (i := 362) (by decide +kernel)⟩
theorem lw_p3 : lw_okq (⟨"MailAgent", "carry", "(I)I"⟩, 13) := ⟨⟨by decide +kernel, by decide +kernel⟩, List.mem_of_getElem? (i := 13) (by decide +kernel), List.mem_of_getElem? (i := 365) (by decide +kernel), List.mem_of_getElem? (i := 366) (by decide +kernel)⟩
theorem lw_p4 : lw_okq (⟨"MailAgent", "failOverdue", "(LMailAgent$Message;)V"⟩, 13) := ⟨⟨by decide +kernel, by decide +kernel⟩, List.mem_of_getElem? (i := 13) (by decide +kernel), List.mem_of_getElem? (i := 373) (by decide +kernel), List.mem_of_getElem? (i := 374) (by decide +kernel)⟩
theorem lw_p5 : lw_okq (⟨"MailAgent", "settle", "(LMailAgent$Message;)Z"⟩, 13) := ⟨⟨by decide +kernel, by decide +kernel⟩, List.mem_of_getElem? (i := 13) (by decide +kernel), List.mem_of_getElem? (i := 381) (by decide +kernel), List.mem_of_getElem? (i := 382) (by decide +kernel)⟩
theorem lw_p6 : lw_okq (⟨"MailAgent", "keepChangesFew", "()V"⟩, 13) := ⟨⟨by decide +kernel, by decide +kernel⟩, List.mem_of_getElem? (i := 13) (by decide +kernel), List.mem_of_getElem? (i := 403) (by decide +kernel), List.mem_of_getElem? (i := 404) (by decide +kernel)⟩
theorem lw_p7 : lw_okq (⟨"MailAgentModel", "reached", "(I)J"⟩, 24) := ⟨⟨by decide +kernel, by decide +kernel⟩, List.mem_of_getElem? (i := 463) (by decide +kernel), List.mem_of_getElem? (i := 576) (by decide +kernel), List.mem_of_getElem? (i := 577) (by decide +kernel)⟩
theorem lw_p8 : lw_okq (⟨"MailAgentModel", "named", "(I)Z"⟩, 24) := ⟨⟨by decide +kernel, by decide +kernel⟩, List.mem_of_getElem? (i := 463) (by decide +kernel), List.mem_of_getElem? (i := 580) (by decide +kernel), List.mem_of_getElem? (i := 581) (by decide +kernel)⟩
theorem lw_p9 : lw_okq (⟨"MailAgentModel", "costs", "()I"⟩, 24) := ⟨⟨by decide +kernel, by decide +kernel⟩, List.mem_of_getElem? (i := 463) (by decide +kernel), List.mem_of_getElem? (i := 588) (by decide +kernel), List.mem_of_getElem? (i := 589) (by decide +kernel)⟩
theorem lw_p10 : lw_okq (⟨"MailAgentModel", "settle", "()I"⟩, 24) := ⟨⟨by decide +kernel, by decide +kernel⟩, List.mem_of_getElem? (i := 463) (by decide +kernel), List.mem_of_getElem? (i := 592) (by decide +kernel), List.mem_of_getElem? (i := 593) (by decide +kernel)⟩
theorem lw_p11 : lw_okq (⟨"MailAgentModel", "find", "(I)I"⟩, 24) := ⟨⟨by decide +kernel, by decide +kernel⟩, List.mem_of_getElem? (i := 463) (by decide +kernel), List.mem_of_getElem? (i := 601) (by decide +kernel), List.mem_of_getElem? (i := 602) (by decide +kernel)⟩
theorem lw_p12 : lw_okq (⟨"MailAgentModel", "attempt", "(I)I"⟩, 24) := ⟨⟨by decide +kernel, by decide +kernel⟩, List.mem_of_getElem? (i := 463) (by decide +kernel), List.mem_of_getElem? (i := 605) (by decide +kernel), List.mem_of_getElem? (i := 606) (by decide +kernel)⟩
theorem lw_p13 : lw_okq (⟨"MailAgentModel", "carrier", "(I)I"⟩, 24) := ⟨⟨by decide +kernel, by decide +kernel⟩, List.mem_of_getElem? (i := 463) (by decide +kernel), List.mem_of_getElem? (i := 609) (by decide +kernel), List.mem_of_getElem? (i := 610) (by decide +kernel)⟩
theorem lw_p14 : lw_okq (⟨"MailAgentModel", "mark", "(II)V"⟩, 24) := ⟨⟨by decide +kernel, by decide +kernel⟩, List.mem_of_getElem? (i := 463) (by decide +kernel), List.mem_of_getElem? (i := 613) (by decide +kernel), List.mem_of_getElem? (i := 614) (by decide +kernel)⟩
theorem lw_p15 : lw_okq (⟨"MailAgentModel", "deliver", "(II)V"⟩, 24) := ⟨⟨by decide +kernel, by decide +kernel⟩, List.mem_of_getElem? (i := 463) (by decide +kernel), List.mem_of_getElem? (i := 617) (by decide +kernel), List.mem_of_getElem? (i := 618) (by decide +kernel)⟩
def lw_privs_1 : List (MethodName × Nat) := [(⟨"MailAgent$Aliases", "reachedFrom", "(I)J"⟩, 1), (⟨"MailAgent", "makeDurable", "()V"⟩, 13), (⟨"MailAgent", "tryRecipients", "(LMailAgent$Message;)I"⟩, 13), (⟨"MailAgent", "carry", "(I)I"⟩, 13), (⟨"MailAgent", "failOverdue", "(LMailAgent$Message;)V"⟩, 13), (⟨"MailAgent", "settle", "(LMailAgent$Message;)Z"⟩, 13), (⟨"MailAgent", "keepChangesFew", "()V"⟩, 13), (⟨"MailAgentModel", "reached", "(I)J"⟩, 24), (⟨"MailAgentModel", "named", "(I)Z"⟩, 24), (⟨"MailAgentModel", "costs", "()I"⟩, 24), (⟨"MailAgentModel", "settle", "()I"⟩, 24), (⟨"MailAgentModel", "find", "(I)I"⟩, 24), (⟨"MailAgentModel", "attempt", "(I)I"⟩, 24), (⟨"MailAgentModel", "carrier", "(I)I"⟩, 24), (⟨"MailAgentModel", "mark", "(II)V"⟩, 24), (⟨"MailAgentModel", "deliver", "(II)V"⟩, 24)]
theorem lw_r1 : ∀ q ∈ lw_privs_1, lw_okq q := List.forall_mem_cons.mpr ⟨lw_p0, List.forall_mem_cons.mpr ⟨lw_p1, List.forall_mem_cons.mpr ⟨lw_p2, List.forall_mem_cons.mpr ⟨lw_p3, List.forall_mem_cons.mpr ⟨lw_p4, List.forall_mem_cons.mpr ⟨lw_p5, List.forall_mem_cons.mpr ⟨lw_p6, List.forall_mem_cons.mpr ⟨lw_p7, List.forall_mem_cons.mpr ⟨lw_p8, List.forall_mem_cons.mpr ⟨lw_p9, List.forall_mem_cons.mpr ⟨lw_p10, List.forall_mem_cons.mpr ⟨lw_p11, List.forall_mem_cons.mpr ⟨lw_p12, List.forall_mem_cons.mpr ⟨lw_p13, List.forall_mem_cons.mpr ⟨lw_p14, List.forall_mem_cons.mpr ⟨lw_p15, fun _ h => absurd h List.not_mem_nil⟩⟩⟩⟩⟩⟩⟩⟩⟩⟩⟩⟩⟩⟩⟩⟩
theorem lw_p16 : lw_okq (⟨"MailAgentModel", "states", "(II)I"⟩, 24) := ⟨⟨by decide +kernel, by decide +kernel⟩, List.mem_of_getElem? (i := 463) (by decide +kernel), List.mem_of_getElem? (i := 621) (by decide +kernel), List.mem_of_getElem? (i := 622) (by decide +kernel)⟩
theorem lw_p17 : lw_okq (⟨"MailAgentModel", "remove", "(I)V"⟩, 24) := ⟨⟨by decide +kernel, by decide +kernel⟩, List.mem_of_getElem? (i := 463) (by decide +kernel), List.mem_of_getElem? (i := 625) (by decide +kernel), List.mem_of_getElem? (i := 626) (by decide +kernel)⟩
theorem lw_p18 : lw_okq (⟨"MailAgentModel", "close", "()V"⟩, 24) := ⟨⟨by decide +kernel, by decide +kernel⟩, List.mem_of_getElem? (i := 463) (by decide +kernel), List.mem_of_getElem? (i := 629) (by decide +kernel), List.mem_of_getElem? (i := 630) (by decide +kernel)⟩
def lw_privs_2 : List (MethodName × Nat) := [(⟨"MailAgentModel", "states", "(II)I"⟩, 24), (⟨"MailAgentModel", "remove", "(I)V"⟩, 24), (⟨"MailAgentModel", "close", "()V"⟩, 24)]
theorem lw_r2 : ∀ q ∈ lw_privs_2, lw_okq q := List.forall_mem_cons.mpr ⟨lw_p16, List.forall_mem_cons.mpr ⟨lw_p17, List.forall_mem_cons.mpr ⟨lw_p18, fun _ h => absurd h List.not_mem_nil⟩⟩⟩
def lw_privs : List (MethodName × Nat) := lw_privs_1 ++ (lw_privs_2)
def lw_tbl : List Cond := k2_sels lw_privs ++ tables_1
theorem lw_privs_ok : ∀ q ∈ lw_privs, lw_okq q := by
  show ∀ q ∈ lw_privs_1 ++ (lw_privs_2), lw_okq q
  exact List.forall_mem_append.mpr ⟨lw_r1, lw_r2⟩
/-! names: classes with their fields, the tables' good words, methods -/
def T_Al : u_T := fun k => match k with
  | _ => ("MailAgent$Aliases", "goals", "[J", true)
def ty_Al : Nat → FieldType := fun k => match k with
  | _ => .array .long
theorem nm_Al : ∀ a, a < 1 → ∀ b, b < 1 → a ≠ b → (T_Al a).2.1 ≠ (T_Al b).2.1 := by decide +kernel
theorem tyok_Al : ∀ k, k < 1 → parseFieldDescriptor (T_Al k).2.2.1 = some (ty_Al k) := by decide +kernel
def T_De : u_T := fun k => match k with
  | 0 => ("MailAgent$Deliveries", "letters", "[I", true)
  | 1 => ("MailAgent$Deliveries", "reports", "[I", true)
  | 2 => ("MailAgent$Deliveries", "lastNumbers", "[I", true)
  | _ => ("MailAgent$Deliveries", "carried", "[I", true)
def ty_De : Nat → FieldType := fun k => match k with
  | 0 => .array .int
  | 1 => .array .int
  | 2 => .array .int
  | _ => .array .int
theorem nm_De : ∀ a, a < 4 → ∀ b, b < 4 → a ≠ b → (T_De a).2.1 ≠ (T_De b).2.1 := by decide +kernel
theorem tyok_De : ∀ k, k < 4 → parseFieldDescriptor (T_De k).2.2.1 = some (ty_De k) := by decide +kernel
def T_Me : u_T := fun k => match k with
  | 0 => ("MailAgent$Message", "recipients", "LMailAgent$Recipients;", true)
  | 1 => ("MailAgent$Message", "number", "I", false)
  | 2 => ("MailAgent$Message", "sender", "I", false)
  | 3 => ("MailAgent$Message", "size", "I", false)
  | 4 => ("MailAgent$Message", "start", "I", false)
  | 5 => ("MailAgent$Message", "due", "I", false)
  | 6 => ("MailAgent$Message", "gap", "I", false)
  | _ => ("MailAgent$Message", "isReport", "Z", false)
def ty_Me : Nat → FieldType := fun k => match k with
  | 0 => .object "MailAgent$Recipients"
  | 1 => .int
  | 2 => .int
  | 3 => .int
  | 4 => .int
  | 5 => .int
  | 6 => .int
  | _ => .boolean
theorem nm_Me : ∀ a, a < 8 → ∀ b, b < 8 → a ≠ b → (T_Me a).2.1 ≠ (T_Me b).2.1 := by decide +kernel
theorem tyok_Me : ∀ k, k < 8 → parseFieldDescriptor (T_Me k).2.2.1 = some (ty_Me k) := by decide +kernel
def T_Qu : u_T := fun k => match k with
  | 0 => ("MailAgent$Queue", "messages", "[LMailAgent$Message;", true)
  | _ => ("MailAgent$Queue", "size", "I", false)
def ty_Qu : Nat → FieldType := fun k => match k with
  | 0 => .array (.object "MailAgent$Message")
  | _ => .int
theorem nm_Qu : ∀ a, a < 2 → ∀ b, b < 2 → a ≠ b → (T_Qu a).2.1 ≠ (T_Qu b).2.1 := by decide +kernel
theorem tyok_Qu : ∀ k, k < 2 → parseFieldDescriptor (T_Qu k).2.2.1 = some (ty_Qu k) := by decide +kernel
def T_Re : u_T := fun k => match k with
  | 0 => ("MailAgent$Recipients", "addresses", "[I", true)
  | 1 => ("MailAgent$Recipients", "states", "[I", true)
  | _ => ("MailAgent$Recipients", "size", "I", false)
def ty_Re : Nat → FieldType := fun k => match k with
  | 0 => .array .int
  | 1 => .array .int
  | _ => .int
theorem nm_Re : ∀ a, a < 3 → ∀ b, b < 3 → a ≠ b → (T_Re a).2.1 ≠ (T_Re b).2.1 := by decide +kernel
theorem tyok_Re : ∀ k, k < 3 → parseFieldDescriptor (T_Re k).2.2.1 = some (ty_Re k) := by decide +kernel
def T_Ro : u_T := fun k => match k with
  | 0 => ("MailAgent$Routes", "hosts", "[I", true)
  | 1 => ("MailAgent$Routes", "preferences", "[I", true)
  | _ => ("MailAgent$Routes", "size", "I", false)
def ty_Ro : Nat → FieldType := fun k => match k with
  | 0 => .array .int
  | 1 => .array .int
  | _ => .int
theorem nm_Ro : ∀ a, a < 3 → ∀ b, b < 3 → a ≠ b → (T_Ro a).2.1 ≠ (T_Ro b).2.1 := by decide +kernel
theorem tyok_Ro : ∀ k, k < 3 → parseFieldDescriptor (T_Ro k).2.2.1 = some (ty_Ro k) := by decide +kernel
def T_Tr : u_T := fun k => match k with
  | 0 => ("MailAgent$Transaction", "recipients", "LMailAgent$Recipients;", true)
  | 1 => ("MailAgent$Transaction", "open", "Z", false)
  | _ => ("MailAgent$Transaction", "sender", "I", false)
def ty_Tr : Nat → FieldType := fun k => match k with
  | 0 => .object "MailAgent$Recipients"
  | 1 => .boolean
  | _ => .int
theorem nm_Tr : ∀ a, a < 3 → ∀ b, b < 3 → a ≠ b → (T_Tr a).2.1 ≠ (T_Tr b).2.1 := by decide +kernel
theorem tyok_Tr : ∀ k, k < 3 → parseFieldDescriptor (T_Tr k).2.2.1 = some (ty_Tr k) := by decide +kernel
def T_Ma : u_T := fun k => match k with
  | 0 => ("MailAgent", "minGap", "I", true)
  | 1 => ("MailAgent", "maxGap", "I", true)
  | 2 => ("MailAgent", "giveUp", "I", true)
  | 3 => ("MailAgent", "aliases", "LMailAgent$Aliases;", true)
  | 4 => ("MailAgent", "routes", "[LMailAgent$Routes;", true)
  | 5 => ("MailAgent", "hostStates", "[I", true)
  | 6 => ("MailAgent", "transaction", "LMailAgent$Transaction;", true)
  | 7 => ("MailAgent", "queue", "LMailAgent$Queue;", true)
  | 8 => ("MailAgent", "durable", "LMailAgent$Queue;", true)
  | 9 => ("MailAgent", "deliveries", "LMailAgent$Deliveries;", true)
  | 10 => ("MailAgent", "clock", "I", false)
  | 11 => ("MailAgent", "lastNumber", "I", false)
  | _ => ("MailAgent", "changes", "I", false)
def ty_Ma : Nat → FieldType := fun k => match k with
  | 0 => .int
  | 1 => .int
  | 2 => .int
  | 3 => .object "MailAgent$Aliases"
  | 4 => .array (.object "MailAgent$Routes")
  | 5 => .array .int
  | 6 => .object "MailAgent$Transaction"
  | 7 => .object "MailAgent$Queue"
  | 8 => .object "MailAgent$Queue"
  | 9 => .object "MailAgent$Deliveries"
  | 10 => .int
  | 11 => .int
  | _ => .int
theorem nm_Ma : ∀ a, a < 13 → ∀ b, b < 13 → a ≠ b → (T_Ma a).2.1 ≠ (T_Ma b).2.1 := by decide +kernel
theorem tyok_Ma : ∀ k, k < 13 → parseFieldDescriptor (T_Ma k).2.2.1 = some (ty_Ma k) := by decide +kernel
def T_Mo : u_T := fun k => match k with
  | 0 => ("MailAgentModel", "minGap", "I", true)
  | 1 => ("MailAgentModel", "maxGap", "I", true)
  | 2 => ("MailAgentModel", "giveUp", "I", true)
  | 3 => ("MailAgentModel", "goals", "[I", true)
  | 4 => ("MailAgentModel", "goalCount", "[I", true)
  | 5 => ("MailAgentModel", "routeHost", "[I", true)
  | 6 => ("MailAgentModel", "routeKey", "[I", true)
  | 7 => ("MailAgentModel", "routeCount", "[I", true)
  | 8 => ("MailAgentModel", "hosts", "[I", true)
  | 9 => ("MailAgentModel", "clock", "I", false)
  | 10 => ("MailAgentModel", "last", "I", false)
  | 11 => ("MailAgentModel", "queue", "[I", true)
  | 12 => ("MailAgentModel", "queued", "I", false)
  | 13 => ("MailAgentModel", "safe", "[I", true)
  | 14 => ("MailAgentModel", "safeQueued", "I", false)
  | 15 => ("MailAgentModel", "changes", "I", false)
  | 16 => ("MailAgentModel", "open", "Z", false)
  | 17 => ("MailAgentModel", "from", "I", false)
  | 18 => ("MailAgentModel", "to", "[I", true)
  | 19 => ("MailAgentModel", "toCount", "I", false)
  | 20 => ("MailAgentModel", "letters", "[I", true)
  | 21 => ("MailAgentModel", "reports", "[I", true)
  | 22 => ("MailAgentModel", "latest", "[I", true)
  | _ => ("MailAgentModel", "carried", "[I", true)
def ty_Mo : Nat → FieldType := fun k => match k with
  | 0 => .int
  | 1 => .int
  | 2 => .int
  | 3 => .array .int
  | 4 => .array .int
  | 5 => .array .int
  | 6 => .array .int
  | 7 => .array .int
  | 8 => .array .int
  | 9 => .int
  | 10 => .int
  | 11 => .array .int
  | 12 => .int
  | 13 => .array .int
  | 14 => .int
  | 15 => .int
  | 16 => .boolean
  | 17 => .int
  | 18 => .array .int
  | 19 => .int
  | 20 => .array .int
  | 21 => .array .int
  | 22 => .array .int
  | _ => .array .int
theorem nm_Mo : ∀ a, a < 24 → ∀ b, b < 24 → a ≠ b → (T_Mo a).2.1 ≠ (T_Mo b).2.1 := by decide +kernel
theorem tyok_Mo : ∀ k, k < 24 → parseFieldDescriptor (T_Mo k).2.2.1 = some (ty_Mo k) := by decide +kernel
abbrev jCl : List vw_C := [("MailAgent$Aliases", T_Al, 1), ("MailAgent$Deliveries", T_De, 4), ("MailAgent$Message", T_Me, 8), ("MailAgent$Queue", T_Qu, 2), ("MailAgent$Recipients", T_Re, 3), ("MailAgent$Routes", T_Ro, 3), ("MailAgent$Transaction", T_Tr, 3), ("MailAgent", T_Ma, 13), ("MailAgentModel", T_Mo, 24)]
def jTG : List Cond := lw_tbl.filter goodWord
theorem jTG_good : ∀ w ∈ jTG, goodWord w = true := fun w hw => (List.mem_filter.mp hw).2
def jTys (ta : Nat → ClassId) : List (ClassId × FieldType) := [(ta 0, .int), (ta 1, .long), (ta 2, .object "MailAgent$Message"), (ta 3, .object "MailAgent$Routes")]
def jNM : List (String × Nat × MethodName × String) := [("MailAgent", 25, ⟨"MailAgent$Aliases", "<init>", "()V"⟩, "MailAgent"), ("MailAgent", 36, ⟨"MailAgent$Routes", "<init>", "()V"⟩, "MailAgent"), ("MailAgent", 43, ⟨"MailAgent$Transaction", "<init>", "()V"⟩, "MailAgent"), ("MailAgent$Transaction", 11, ⟨"MailAgent$Recipients", "<init>", "()V"⟩, "MailAgent"), ("MailAgent$Queue", 21, ⟨"MailAgent$Message", "<init>", "()V"⟩, "MailAgent"), ("MailAgent$Message", 11, ⟨"MailAgent$Recipients", "<init>", "()V"⟩, "MailAgent"), ("MailAgent", 60, ⟨"MailAgent$Deliveries", "<init>", "()V"⟩, "MailAgent"), ("MailAgent$Queue", 33, ⟨"MailAgent", "costOf", "(II)I"⟩, "MailAgent")]
def jAO : List String := ["MailAgent$Routes", "MailAgent$Message"]
abbrev jM0 : Type := MethodName × ByteArray × Nat × Option FieldType
abbrev M_Ma_init : jM0 := (⟨"MailAgent", "<init>", "(III)V"⟩, prog_1_method_1_code, 5, none)
abbrev M_Ma_clamp : jM0 := (⟨"MailAgent", "clamp", "(III)I"⟩, prog_1_method_21_code, 3, (some .int))
abbrev M_Mt_min : jM0 := (⟨"java/lang/Math", "min", "(II)I"⟩, prog_12_method_69_code, 2, (some .int))
abbrev M_Mt_max : jM0 := (⟨"java/lang/Math", "max", "(II)I"⟩, prog_12_method_65_code, 2, (some .int))
abbrev M_Al_init : jM0 := (⟨"MailAgent$Aliases", "<init>", "()V"⟩, prog_2_method_1_code, 1, none)
abbrev M_Ro_init : jM0 := (⟨"MailAgent$Routes", "<init>", "()V"⟩, prog_7_method_1_code, 1, none)
abbrev M_Tr_init : jM0 := (⟨"MailAgent$Transaction", "<init>", "()V"⟩, prog_8_method_1_code, 1, none)
abbrev M_Re_init : jM0 := (⟨"MailAgent$Recipients", "<init>", "()V"⟩, prog_6_method_1_code, 1, none)
abbrev M_Qu_init : jM0 := (⟨"MailAgent$Queue", "<init>", "()V"⟩, prog_5_method_1_code, 2, none)
abbrev M_Me_init : jM0 := (⟨"MailAgent$Message", "<init>", "()V"⟩, prog_4_method_1_code, 1, none)
abbrev M_De_init : jM0 := (⟨"MailAgent$Deliveries", "<init>", "()V"⟩, prog_3_method_1_code, 1, none)
abbrev M_Ma_alias : jM0 := (⟨"MailAgent", "alias", "(II)I"⟩, prog_1_method_2_code, 3, (some .int))
abbrev M_Ma_isBelow : jM0 := (⟨"MailAgent", "isBelow", "(II)Z"⟩, prog_1_method_22_code, 2, (some .boolean))
abbrev M_Al_hasRoomFor : jM0 := (⟨"MailAgent$Aliases", "hasRoomFor", "(II)Z"⟩, prog_2_method_2_code, 3, (some .boolean))
abbrev M_Lo_bitCount : jM0 := (⟨"java/lang/Long", "bitCount", "(J)I"⟩, prog_11_method_50_code, 2, (some .int))
abbrev M_Al_add : jM0 := (⟨"MailAgent$Aliases", "add", "(II)I"⟩, prog_2_method_3_code, 3, (some .int))
abbrev M_Ma_unalias : jM0 := (⟨"MailAgent", "unalias", "(I)I"⟩, prog_1_method_3_code, 2, (some .int))
abbrev M_Al_clear : jM0 := (⟨"MailAgent$Aliases", "clear", "(I)I"⟩, prog_2_method_4_code, 3, (some .int))
abbrev M_Ma_route : jM0 := (⟨"MailAgent", "route", "(III)I"⟩, prog_1_method_4_code, 4, (some .int))
abbrev M_Ma_isForeign : jM0 := (⟨"MailAgent", "isForeign", "(I)Z"⟩, prog_1_method_23_code, 1, (some .boolean))
abbrev M_Ro_hasRoomFor : jM0 := (⟨"MailAgent$Routes", "hasRoomFor", "(I)Z"⟩, prog_7_method_2_code, 3, (some .boolean))
abbrev M_Ro_add : jM0 := (⟨"MailAgent$Routes", "add", "(II)I"⟩, prog_7_method_3_code, 4, (some .int))
abbrev M_Ma_unroute : jM0 := (⟨"MailAgent", "unroute", "(I)I"⟩, prog_1_method_5_code, 2, (some .int))
abbrev M_Ro_clear : jM0 := (⟨"MailAgent$Routes", "clear", "()I"⟩, prog_7_method_4_code, 2, (some .int))
abbrev M_Ma_host : jM0 := (⟨"MailAgent", "host", "(II)I"⟩, prog_1_method_6_code, 4, (some .int))
abbrev M_Ma_from : jM0 := (⟨"MailAgent", "from", "(I)I"⟩, prog_1_method_7_code, 2, (some .int))
abbrev M_Tr_start : jM0 := (⟨"MailAgent$Transaction", "start", "(I)V"⟩, prog_8_method_2_code, 2, none)
abbrev M_Ma_to : jM0 := (⟨"MailAgent", "to", "(I)I"⟩, prog_1_method_8_code, 7, (some .int))
abbrev M_Al_finalsOf : jM0 := (⟨"MailAgent$Aliases", "finalsOf", "(I)J"⟩, prog_2_method_5_code, 5, (some .long))
abbrev M_Al_reachedFrom : jM0 := (⟨"MailAgent$Aliases", "reachedFrom", "(I)J"⟩, prog_2_method_6_code, 6, (some .long))
abbrev M_Re_asBits : jM0 := (⟨"MailAgent$Recipients", "asBits", "()J"⟩, prog_6_method_4_code, 4, (some .long))
abbrev M_Re_addRising : jM0 := (⟨"MailAgent$Recipients", "addRising", "(J)V"⟩, prog_6_method_3_code, 4, none)
abbrev M_Re_add : jM0 := (⟨"MailAgent$Recipients", "add", "(I)V"⟩, prog_6_method_2_code, 2, none)
abbrev M_Ma_data : jM0 := (⟨"MailAgent", "data", "(I)I"⟩, prog_1_method_9_code, 4, (some .int))
abbrev M_Ma_costOf : jM0 := (⟨"MailAgent", "costOf", "(II)I"⟩, prog_1_method_24_code, 2, (some .int))
abbrev M_Qu_costs : jM0 := (⟨"MailAgent$Queue", "costs", "()I"⟩, prog_5_method_5_code, 3, (some .int))
abbrev M_Qu_addSpare : jM0 := (⟨"MailAgent$Queue", "addSpare", "()LMailAgent$Message;"⟩, prog_5_method_2_code, 2, (some (.object "MailAgent$Message")))
abbrev M_Me_accept : jM0 := (⟨"MailAgent$Message", "accept", "(IILMailAgent$Transaction;)V"⟩, prog_4_method_2_code, 4, none)
abbrev M_Re_copyFrom : jM0 := (⟨"MailAgent$Recipients", "copyFrom", "(LMailAgent$Recipients;)V"⟩, prog_6_method_8_code, 3, none)
abbrev M_Me_schedule : jM0 := (⟨"MailAgent$Message", "schedule", "(II)V"⟩, prog_4_method_3_code, 3, none)
abbrev M_Ma_makeDurable : jM0 := (⟨"MailAgent", "makeDurable", "()V"⟩, prog_1_method_30_code, 1, none)
abbrev M_Qu_copyFrom : jM0 := (⟨"MailAgent$Queue", "copyFrom", "(LMailAgent$Queue;)V"⟩, prog_5_method_7_code, 3, none)
abbrev M_Me_copyFrom : jM0 := (⟨"MailAgent$Message", "copyFrom", "(LMailAgent$Message;)V"⟩, prog_4_method_6_code, 2, none)
abbrev M_Ma_tick : jM0 := (⟨"MailAgent", "tick", "(I)I"⟩, prog_1_method_10_code, 7, (some .int))
abbrev M_Ma_tryRecipients : jM0 := (⟨"MailAgent", "tryRecipients", "(LMailAgent$Message;)I"⟩, prog_1_method_25_code, 7, (some .int))
abbrev M_Ma_carry : jM0 := (⟨"MailAgent", "carry", "(I)I"⟩, prog_1_method_26_code, 6, (some .int))
abbrev M_De_note : jM0 := (⟨"MailAgent$Deliveries", "note", "(ILMailAgent$Message;)V"⟩, prog_3_method_2_code, 3, none)
abbrev M_Ma_failOverdue : jM0 := (⟨"MailAgent", "failOverdue", "(LMailAgent$Message;)V"⟩, prog_1_method_27_code, 2, none)
abbrev M_Re_failWaiting : jM0 := (⟨"MailAgent$Recipients", "failWaiting", "()I"⟩, prog_6_method_7_code, 3, (some .int))
abbrev M_Ma_settle : jM0 := (⟨"MailAgent", "settle", "(LMailAgent$Message;)Z"⟩, prog_1_method_28_code, 2, (some .boolean))
abbrev M_Re_inState : jM0 := (⟨"MailAgent$Recipients", "inState", "(I)I"⟩, prog_6_method_6_code, 4, (some .int))
abbrev M_Me_putOff : jM0 := (⟨"MailAgent$Message", "putOff", "(II)V"⟩, prog_4_method_4_code, 3, none)
abbrev M_Me_becomeReport : jM0 := (⟨"MailAgent$Message", "becomeReport", "()V"⟩, prog_4_method_5_code, 1, none)
abbrev M_Qu_removeAt : jM0 := (⟨"MailAgent$Queue", "removeAt", "(I)V"⟩, prog_5_method_3_code, 4, none)
abbrev M_Ma_keepChangesFew : jM0 := (⟨"MailAgent", "keepChangesFew", "()V"⟩, prog_1_method_29_code, 1, none)
abbrev M_Ma_sync : jM0 := (⟨"MailAgent", "sync", "()I"⟩, prog_1_method_11_code, 2, (some .int))
abbrev M_Ma_crash : jM0 := (⟨"MailAgent", "crash", "()I"⟩, prog_1_method_12_code, 2, (some .int))
abbrev M_Ma_drop : jM0 := (⟨"MailAgent", "drop", "(I)I"⟩, prog_1_method_13_code, 3, (some .int))
abbrev M_Qu_indexOf : jM0 := (⟨"MailAgent$Queue", "indexOf", "(I)I"⟩, prog_5_method_4_code, 3, (some .int))
abbrev M_Ma_hurry : jM0 := (⟨"MailAgent", "hurry", "(I)I"⟩, prog_1_method_14_code, 3, (some .int))
abbrev M_Ma_count : jM0 := (⟨"MailAgent", "count", "(I)I"⟩, prog_1_method_15_code, 2, (some .int))
abbrev M_Qu_waitingRecipients : jM0 := (⟨"MailAgent$Queue", "waitingRecipients", "()I"⟩, prog_5_method_6_code, 3, (some .int))
abbrev M_Ma_message : jM0 := (⟨"MailAgent", "message", "(I)I"⟩, prog_1_method_16_code, 2, (some .int))
abbrev M_Ma_status : jM0 := (⟨"MailAgent", "status", "(II)I"⟩, prog_1_method_17_code, 4, (some .int))
abbrev M_Re_stateOf : jM0 := (⟨"MailAgent$Recipients", "stateOf", "(I)I"⟩, prog_6_method_5_code, 3, (some .int))
abbrev M_Ma_sender : jM0 := (⟨"MailAgent", "sender", "(I)I"⟩, prog_1_method_18_code, 3, (some .int))
abbrev M_Ma_due : jM0 := (⟨"MailAgent", "due", "(I)I"⟩, prog_1_method_19_code, 3, (some .int))
abbrev M_Ma_received : jM0 := (⟨"MailAgent", "received", "(II)I"⟩, prog_1_method_20_code, 3, (some .int))
abbrev M_La_cell : jM0 := (⟨"MailAgentLaw", "cell", "([II)I"⟩, method_2_code, 2, (some .int))
abbrev M_Mo_init : jM0 := (⟨"MailAgentModel", "<init>", "(III)V"⟩, prog_10_method_1_code, 4, none)
abbrev M_Mo_within : jM0 := (⟨"MailAgentModel", "within", "(III)I"⟩, prog_10_method_2_code, 3, (some .int))
abbrev M_Mo_alias : jM0 := (⟨"MailAgentModel", "alias", "(II)I"⟩, prog_10_method_4_code, 4, (some .int))
abbrev M_Mo_out : jM0 := (⟨"MailAgentModel", "out", "(II)Z"⟩, prog_10_method_3_code, 2, (some .boolean))
abbrev M_Mo_unalias : jM0 := (⟨"MailAgentModel", "unalias", "(I)I"⟩, prog_10_method_5_code, 3, (some .int))
abbrev M_Mo_route : jM0 := (⟨"MailAgentModel", "route", "(III)I"⟩, prog_10_method_6_code, 6, (some .int))
abbrev M_Mo_unroute : jM0 := (⟨"MailAgentModel", "unroute", "(I)I"⟩, prog_10_method_7_code, 3, (some .int))
abbrev M_Mo_host : jM0 := (⟨"MailAgentModel", "host", "(II)I"⟩, prog_10_method_8_code, 4, (some .int))
abbrev M_Mo_from : jM0 := (⟨"MailAgentModel", "from", "(I)I"⟩, prog_10_method_9_code, 2, (some .int))
abbrev M_Mo_to : jM0 := (⟨"MailAgentModel", "to", "(I)I"⟩, prog_10_method_12_code, 8, (some .int))
abbrev M_Mo_reached : jM0 := (⟨"MailAgentModel", "reached", "(I)J"⟩, prog_10_method_10_code, 6, (some .long))
abbrev M_Mo_named : jM0 := (⟨"MailAgentModel", "named", "(I)Z"⟩, prog_10_method_11_code, 3, (some .boolean))
abbrev M_Mo_data : jM0 := (⟨"MailAgentModel", "data", "(I)I"⟩, prog_10_method_15_code, 4, (some .int))
abbrev M_Mo_costs : jM0 := (⟨"MailAgentModel", "costs", "()I"⟩, prog_10_method_13_code, 3, (some .int))
abbrev M_Mo_settle : jM0 := (⟨"MailAgentModel", "settle", "()I"⟩, prog_10_method_14_code, 3, (some .int))
abbrev M_Mo_tick : jM0 := (⟨"MailAgentModel", "tick", "(I)I"⟩, prog_10_method_23_code, 5, (some .int))
abbrev M_Mo_find : jM0 := (⟨"MailAgentModel", "find", "(I)I"⟩, prog_10_method_26_code, 3, (some .int))
abbrev M_Mo_attempt : jM0 := (⟨"MailAgentModel", "attempt", "(I)I"⟩, prog_10_method_20_code, 6, (some .int))
abbrev M_Mo_carrier : jM0 := (⟨"MailAgentModel", "carrier", "(I)I"⟩, prog_10_method_16_code, 6, (some .int))
abbrev M_Mo_mark : jM0 := (⟨"MailAgentModel", "mark", "(II)V"⟩, prog_10_method_18_code, 3, none)
abbrev M_Mo_deliver : jM0 := (⟨"MailAgentModel", "deliver", "(II)V"⟩, prog_10_method_19_code, 3, none)
abbrev M_Mo_states : jM0 := (⟨"MailAgentModel", "states", "(II)I"⟩, prog_10_method_17_code, 5, (some .int))
abbrev M_Mo_remove : jM0 := (⟨"MailAgentModel", "remove", "(I)V"⟩, prog_10_method_21_code, 3, none)
abbrev M_Mo_close : jM0 := (⟨"MailAgentModel", "close", "()V"⟩, prog_10_method_22_code, 1, none)
abbrev M_Mo_sync : jM0 := (⟨"MailAgentModel", "sync", "()I"⟩, prog_10_method_24_code, 1, (some .int))
abbrev M_Mo_crash : jM0 := (⟨"MailAgentModel", "crash", "()I"⟩, prog_10_method_25_code, 2, (some .int))
abbrev M_Mo_drop : jM0 := (⟨"MailAgentModel", "drop", "(I)I"⟩, prog_10_method_27_code, 3, (some .int))
abbrev M_Mo_hurry : jM0 := (⟨"MailAgentModel", "hurry", "(I)I"⟩, prog_10_method_28_code, 3, (some .int))
abbrev M_Mo_count : jM0 := (⟨"MailAgentModel", "count", "(I)I"⟩, prog_10_method_29_code, 4, (some .int))
abbrev M_Mo_message : jM0 := (⟨"MailAgentModel", "message", "(I)I"⟩, prog_10_method_30_code, 2, (some .int))
abbrev M_Mo_status : jM0 := (⟨"MailAgentModel", "status", "(II)I"⟩, prog_10_method_31_code, 5, (some .int))
abbrev M_Mo_sender : jM0 := (⟨"MailAgentModel", "sender", "(I)I"⟩, prog_10_method_32_code, 3, (some .int))
abbrev M_Mo_due : jM0 := (⟨"MailAgentModel", "due", "(I)I"⟩, prog_10_method_33_code, 3, (some .int))
abbrev M_Mo_received : jM0 := (⟨"MailAgentModel", "received", "(II)I"⟩, prog_10_method_34_code, 3, (some .int))
end
section
/-! the tables' words, each by its place -/
theorem jin_1 {i : Nat} {w : Cond} (hi : tables_1_1[i]? = some w) (hg : goodWord w = true) : w ∈ jTG := by
  have h := List.mem_of_getElem? hi
  exact List.mem_filter.mpr ⟨List.mem_append_right _ (List.mem_append_left _ h), hg⟩
theorem jin_2 {i : Nat} {w : Cond} (hi : tables_1_2[i]? = some w) (hg : goodWord w = true) : w ∈ jTG := by
  have h := List.mem_of_getElem? hi
  exact List.mem_filter.mpr ⟨List.mem_append_right _ (List.mem_append_right _ (List.mem_append_left _ h)), hg⟩
theorem jin_3 {i : Nat} {w : Cond} (hi : tables_1_3[i]? = some w) (hg : goodWord w = true) : w ∈ jTG := by
  have h := List.mem_of_getElem? hi
  exact List.mem_filter.mpr ⟨List.mem_append_right _ (List.mem_append_right _ (List.mem_append_right _ (h))), hg⟩
theorem w_1_0 : (Cond.initialized "MailAgentLaw") ∈ jTG := jin_1 (i := 0) rfl rfl
theorem w_1_1 : (Cond.initialized "MailAgent") ∈ jTG := jin_1 (i := 1) rfl rfl
theorem w_1_2 : (Cond.initialized "java/lang/Math") ∈ jTG := jin_1 (i := 2) rfl rfl
theorem w_1_3 : (Cond.initialized "MailAgent$Aliases") ∈ jTG := jin_1 (i := 3) rfl rfl
theorem w_1_4 : (Cond.initialized "MailAgent$Routes") ∈ jTG := jin_1 (i := 4) rfl rfl
theorem w_1_5 : (Cond.initialized "MailAgent$Transaction") ∈ jTG := jin_1 (i := 5) rfl rfl
theorem w_1_6 : (Cond.initialized "MailAgent$Recipients") ∈ jTG := jin_1 (i := 6) rfl rfl
theorem w_1_7 : (Cond.initialized "MailAgent$Queue") ∈ jTG := jin_1 (i := 7) rfl rfl
theorem w_1_8 : (Cond.initialized "MailAgent$Message") ∈ jTG := jin_1 (i := 8) rfl rfl
theorem w_1_9 : (Cond.initialized "MailAgent$Deliveries") ∈ jTG := jin_1 (i := 9) rfl rfl
theorem w_1_10 : (Cond.initialized "MailAgentModel") ∈ jTG := jin_1 (i := 10) rfl rfl
theorem w_1_11 : (Cond.initialized "java/lang/Long") ∈ jTG := jin_1 (i := 11) rfl rfl
theorem w_1_12 : (Cond.classLink "MailAgentLaw" (7 : Nat) "MailAgent") ∈ jTG := jin_1 (i := 12) rfl rfl
theorem w_1_13 : (Cond.instantiable "MailAgent" (13 : Nat)) ∈ jTG := jin_1 (i := 13) rfl rfl
theorem w_1_14 : (Cond.methodLink "MailAgentLaw" (15 : Nat) ({ cls := "MailAgent", name := "<init>", desc := "(III)V" } : MethodName)) ∈ jTG := jin_1 (i := 14) rfl rfl
theorem w_1_15 : (Cond.instanceMethod ({ cls := "MailAgent", name := "<init>", desc := "(III)V" } : MethodName)) ∈ jTG := jin_1 (i := 15) rfl rfl
theorem w_1_16 : (Cond.code ({ cls := "MailAgent", name := "<init>", desc := "(III)V" } : MethodName) prog_1_method_1_code (5 : Nat) (Option.none : Option FieldType)) ∈ jTG := jin_1 (i := 16) rfl rfl
theorem w_1_17 : (Cond.methodLink "MailAgent" (1 : Nat) ({ cls := "java/lang/Object", name := "<init>", desc := "()V" } : MethodName)) ∈ jTG := jin_1 (i := 17) rfl rfl
theorem w_1_18 : (Cond.instanceMethod ({ cls := "java/lang/Object", name := "<init>", desc := "()V" } : MethodName)) ∈ jTG := jin_1 (i := 18) rfl rfl
theorem w_1_19 : (Cond.code ({ cls := "java/lang/Object", name := "<init>", desc := "()V" } : MethodName) object_method_1_code (1 : Nat) (Option.none : Option FieldType)) ∈ jTG := jin_1 (i := 19) rfl rfl
theorem w_1_20 : (Cond.methodLink "MailAgent" (7 : Nat) ({ cls := "MailAgent", name := "clamp", desc := "(III)I" } : MethodName)) ∈ jTG := jin_1 (i := 20) rfl rfl
theorem w_1_21 : (Cond.static ({ cls := "MailAgent", name := "clamp", desc := "(III)I" } : MethodName)) ∈ jTG := jin_1 (i := 21) rfl rfl
theorem w_1_22 : (Cond.code ({ cls := "MailAgent", name := "clamp", desc := "(III)I" } : MethodName) prog_1_method_21_code (3 : Nat) (Option.some FieldType.int)) ∈ jTG := jin_1 (i := 22) rfl rfl
theorem w_1_23 : (Cond.methodLink "MailAgent" (218 : Nat) ({ cls := "java/lang/Math", name := "min", desc := "(II)I" } : MethodName)) ∈ jTG := jin_1 (i := 23) rfl rfl
theorem w_1_24 : (Cond.static ({ cls := "java/lang/Math", name := "min", desc := "(II)I" } : MethodName)) ∈ jTG := jin_1 (i := 24) rfl rfl
theorem w_1_25 : (Cond.code ({ cls := "java/lang/Math", name := "min", desc := "(II)I" } : MethodName) prog_12_method_69_code (2 : Nat) (Option.some FieldType.int)) ∈ jTG := jin_1 (i := 25) rfl rfl
theorem w_1_26 : (Cond.methodLink "MailAgent" (223 : Nat) ({ cls := "java/lang/Math", name := "max", desc := "(II)I" } : MethodName)) ∈ jTG := jin_1 (i := 26) rfl rfl
theorem w_1_27 : (Cond.static ({ cls := "java/lang/Math", name := "max", desc := "(II)I" } : MethodName)) ∈ jTG := jin_1 (i := 27) rfl rfl
theorem w_1_28 : (Cond.code ({ cls := "java/lang/Math", name := "max", desc := "(II)I" } : MethodName) prog_12_method_65_code (2 : Nat) (Option.some FieldType.int)) ∈ jTG := jin_1 (i := 28) rfl rfl
theorem w_1_29 : (Cond.classLink "MailAgent" (23 : Nat) "MailAgent$Aliases") ∈ jTG := jin_1 (i := 29) rfl rfl
theorem w_1_30 : (Cond.instantiable "MailAgent$Aliases" (1 : Nat)) ∈ jTG := jin_1 (i := 30) rfl rfl
theorem w_1_32 : (Cond.instanceMethod ({ cls := "MailAgent$Aliases", name := "<init>", desc := "()V" } : MethodName)) ∈ jTG := jin_1 (i := 32) rfl rfl
theorem w_1_33 : (Cond.code ({ cls := "MailAgent$Aliases", name := "<init>", desc := "()V" } : MethodName) prog_2_method_1_code (1 : Nat) (Option.none : Option FieldType)) ∈ jTG := jin_1 (i := 33) rfl rfl
theorem w_1_34 : (Cond.methodLink "MailAgent$Aliases" (3 : Nat) ({ cls := "java/lang/Object", name := "<init>", desc := "()V" } : MethodName)) ∈ jTG := jin_1 (i := 34) rfl rfl
theorem w_1_35 : (Cond.fieldLink "MailAgent$Aliases" (9 : Nat) "MailAgent$Aliases" "goals" "[J") ∈ jTG := jin_1 (i := 35) rfl rfl
theorem w_1_36 : (Cond.laysFinal "MailAgent$Aliases" "MailAgent$Aliases" "goals" "[J") ∈ jTG := jin_1 (i := 36) rfl rfl
theorem w_1_39 : (Cond.arrayClass FieldType.long) ∈ jTG := jin_1 (i := 39) rfl rfl
theorem w_1_40 : (Cond.classLink "MailAgent" (30 : Nat) "MailAgent$Routes") ∈ jTG := jin_1 (i := 40) rfl rfl
theorem w_1_42 : (Cond.instantiable "MailAgent$Routes" (3 : Nat)) ∈ jTG := jin_1 (i := 42) rfl rfl
theorem w_1_44 : (Cond.instanceMethod ({ cls := "MailAgent$Routes", name := "<init>", desc := "()V" } : MethodName)) ∈ jTG := jin_1 (i := 44) rfl rfl
theorem w_1_45 : (Cond.code ({ cls := "MailAgent$Routes", name := "<init>", desc := "()V" } : MethodName) prog_7_method_1_code (1 : Nat) (Option.none : Option FieldType)) ∈ jTG := jin_1 (i := 45) rfl rfl
theorem w_1_46 : (Cond.methodLink "MailAgent$Routes" (3 : Nat) ({ cls := "java/lang/Object", name := "<init>", desc := "()V" } : MethodName)) ∈ jTG := jin_1 (i := 46) rfl rfl
theorem w_1_47 : (Cond.fieldLink "MailAgent$Routes" (9 : Nat) "MailAgent$Routes" "hosts" "[I") ∈ jTG := jin_1 (i := 47) rfl rfl
theorem w_1_48 : (Cond.fieldLink "MailAgent" (240 : Nat) "MailAgent$Routes" "hosts" "[I") ∈ jTG := jin_1 (i := 48) rfl rfl
theorem w_1_49 : (Cond.fieldLink "MailAgent$Routes" (15 : Nat) "MailAgent$Routes" "preferences" "[I") ∈ jTG := jin_1 (i := 49) rfl rfl
theorem w_1_50 : (Cond.fieldLink "MailAgent$Routes" (18 : Nat) "MailAgent$Routes" "size" "I") ∈ jTG := jin_1 (i := 50) rfl rfl
theorem w_1_51 : (Cond.fieldLink "MailAgent" (239 : Nat) "MailAgent$Routes" "size" "I") ∈ jTG := jin_1 (i := 51) rfl rfl
theorem w_1_52 : (Cond.laysFinal "MailAgent$Routes" "MailAgent$Routes" "hosts" "[I") ∈ jTG := jin_1 (i := 52) rfl rfl
theorem w_1_54 : (Cond.laysFinal "MailAgent$Routes" "MailAgent$Routes" "preferences" "[I") ∈ jTG := jin_1 (i := 54) rfl rfl
theorem w_1_56 : (Cond.lays "MailAgent$Routes" "MailAgent$Routes" "size" "I") ∈ jTG := jin_1 (i := 56) rfl rfl
theorem w_1_59 : (Cond.arrayClass FieldType.int) ∈ jTG := jin_1 (i := 59) rfl rfl
theorem w_1_60 : (Cond.classLink "MailAgent" (41 : Nat) "MailAgent$Transaction") ∈ jTG := jin_1 (i := 60) rfl rfl
theorem w_1_61 : (Cond.instantiable "MailAgent$Transaction" (3 : Nat)) ∈ jTG := jin_1 (i := 61) rfl rfl
theorem w_1_63 : (Cond.instanceMethod ({ cls := "MailAgent$Transaction", name := "<init>", desc := "()V" } : MethodName)) ∈ jTG := jin_1 (i := 63) rfl rfl
theorem w_1_64 : (Cond.code ({ cls := "MailAgent$Transaction", name := "<init>", desc := "()V" } : MethodName) prog_8_method_1_code (1 : Nat) (Option.none : Option FieldType)) ∈ jTG := jin_1 (i := 64) rfl rfl
theorem w_1_65 : (Cond.methodLink "MailAgent$Transaction" (3 : Nat) ({ cls := "java/lang/Object", name := "<init>", desc := "()V" } : MethodName)) ∈ jTG := jin_1 (i := 65) rfl rfl
theorem w_1_66 : (Cond.classLink "MailAgent$Transaction" (9 : Nat) "MailAgent$Recipients") ∈ jTG := jin_1 (i := 66) rfl rfl
theorem w_1_67 : (Cond.instantiable "MailAgent$Recipients" (3 : Nat)) ∈ jTG := jin_1 (i := 67) rfl rfl
theorem w_1_69 : (Cond.instanceMethod ({ cls := "MailAgent$Recipients", name := "<init>", desc := "()V" } : MethodName)) ∈ jTG := jin_1 (i := 69) rfl rfl
theorem w_1_70 : (Cond.code ({ cls := "MailAgent$Recipients", name := "<init>", desc := "()V" } : MethodName) prog_6_method_1_code (1 : Nat) (Option.none : Option FieldType)) ∈ jTG := jin_1 (i := 70) rfl rfl
theorem w_1_71 : (Cond.methodLink "MailAgent$Recipients" (3 : Nat) ({ cls := "java/lang/Object", name := "<init>", desc := "()V" } : MethodName)) ∈ jTG := jin_1 (i := 71) rfl rfl
theorem w_1_72 : (Cond.fieldLink "MailAgent$Recipients" (9 : Nat) "MailAgent$Recipients" "addresses" "[I") ∈ jTG := jin_1 (i := 72) rfl rfl
theorem w_1_73 : (Cond.fieldLink "MailAgent" (229 : Nat) "MailAgent$Recipients" "addresses" "[I") ∈ jTG := jin_1 (i := 73) rfl rfl
theorem w_1_74 : (Cond.fieldLink "MailAgent$Recipients" (15 : Nat) "MailAgent$Recipients" "states" "[I") ∈ jTG := jin_1 (i := 74) rfl rfl
theorem w_1_75 : (Cond.fieldLink "MailAgent" (226 : Nat) "MailAgent$Recipients" "states" "[I") ∈ jTG := jin_1 (i := 75) rfl rfl
theorem w_1_76 : (Cond.fieldLink "MailAgent$Recipients" (18 : Nat) "MailAgent$Recipients" "size" "I") ∈ jTG := jin_1 (i := 76) rfl rfl
theorem w_1_77 : (Cond.fieldLink "MailAgent$Transaction" (26 : Nat) "MailAgent$Recipients" "size" "I") ∈ jTG := jin_1 (i := 77) rfl rfl
theorem w_1_78 : (Cond.fieldLink "MailAgent$Message" (55 : Nat) "MailAgent$Recipients" "size" "I") ∈ jTG := jin_1 (i := 78) rfl rfl
theorem w_1_79 : (Cond.fieldLink "MailAgent$Queue" (30 : Nat) "MailAgent$Recipients" "size" "I") ∈ jTG := jin_1 (i := 79) rfl rfl
theorem w_1_80 : (Cond.fieldLink "MailAgent" (129 : Nat) "MailAgent$Recipients" "size" "I") ∈ jTG := jin_1 (i := 80) rfl rfl
theorem w_1_81 : (Cond.laysFinal "MailAgent$Recipients" "MailAgent$Recipients" "addresses" "[I") ∈ jTG := jin_1 (i := 81) rfl rfl
theorem w_1_83 : (Cond.laysFinal "MailAgent$Recipients" "MailAgent$Recipients" "states" "[I") ∈ jTG := jin_1 (i := 83) rfl rfl
theorem w_1_85 : (Cond.lays "MailAgent$Recipients" "MailAgent$Recipients" "size" "I") ∈ jTG := jin_1 (i := 85) rfl rfl
theorem w_1_88 : (Cond.fieldLink "MailAgent$Transaction" (12 : Nat) "MailAgent$Transaction" "recipients" "LMailAgent$Recipients;") ∈ jTG := jin_1 (i := 88) rfl rfl
theorem w_1_89 : (Cond.fieldLink "MailAgent$Message" (35 : Nat) "MailAgent$Transaction" "recipients" "LMailAgent$Recipients;") ∈ jTG := jin_1 (i := 89) rfl rfl
theorem w_1_90 : (Cond.fieldLink "MailAgent" (111 : Nat) "MailAgent$Transaction" "recipients" "LMailAgent$Recipients;") ∈ jTG := jin_1 (i := 90) rfl rfl
theorem w_1_91 : (Cond.fieldLink "MailAgent$Transaction" (18 : Nat) "MailAgent$Transaction" "open" "Z") ∈ jTG := jin_1 (i := 91) rfl rfl
theorem w_1_92 : (Cond.fieldLink "MailAgent" (103 : Nat) "MailAgent$Transaction" "open" "Z") ∈ jTG := jin_1 (i := 92) rfl rfl
theorem w_1_93 : (Cond.fieldLink "MailAgent$Transaction" (22 : Nat) "MailAgent$Transaction" "sender" "I") ∈ jTG := jin_1 (i := 93) rfl rfl
theorem w_1_94 : (Cond.fieldLink "MailAgent$Message" (22 : Nat) "MailAgent$Transaction" "sender" "I") ∈ jTG := jin_1 (i := 94) rfl rfl
theorem w_1_95 : (Cond.laysFinal "MailAgent$Transaction" "MailAgent$Transaction" "recipients" "LMailAgent$Recipients;") ∈ jTG := jin_1 (i := 95) rfl rfl
theorem w_1_97 : (Cond.lays "MailAgent$Transaction" "MailAgent$Transaction" "open" "Z") ∈ jTG := jin_1 (i := 97) rfl rfl
theorem w_1_99 : (Cond.lays "MailAgent$Transaction" "MailAgent$Transaction" "sender" "I") ∈ jTG := jin_1 (i := 99) rfl rfl
theorem w_1_102 : (Cond.classLink "MailAgent" (48 : Nat) "MailAgent$Queue") ∈ jTG := jin_1 (i := 102) rfl rfl
theorem w_1_103 : (Cond.instantiable "MailAgent$Queue" (2 : Nat)) ∈ jTG := jin_1 (i := 103) rfl rfl
theorem w_1_104 : (Cond.methodLink "MailAgent" (50 : Nat) ({ cls := "MailAgent$Queue", name := "<init>", desc := "()V" } : MethodName)) ∈ jTG := jin_1 (i := 104) rfl rfl
theorem w_1_105 : (Cond.instanceMethod ({ cls := "MailAgent$Queue", name := "<init>", desc := "()V" } : MethodName)) ∈ jTG := jin_1 (i := 105) rfl rfl
theorem w_1_106 : (Cond.code ({ cls := "MailAgent$Queue", name := "<init>", desc := "()V" } : MethodName) prog_5_method_1_code (2 : Nat) (Option.none : Option FieldType)) ∈ jTG := jin_1 (i := 106) rfl rfl
theorem w_1_107 : (Cond.methodLink "MailAgent$Queue" (3 : Nat) ({ cls := "java/lang/Object", name := "<init>", desc := "()V" } : MethodName)) ∈ jTG := jin_1 (i := 107) rfl rfl
theorem w_1_108 : (Cond.classLink "MailAgent$Queue" (9 : Nat) "MailAgent$Message") ∈ jTG := jin_1 (i := 108) rfl rfl
theorem w_1_110 : (Cond.instantiable "MailAgent$Message" (8 : Nat)) ∈ jTG := jin_1 (i := 110) rfl rfl
theorem w_1_112 : (Cond.instanceMethod ({ cls := "MailAgent$Message", name := "<init>", desc := "()V" } : MethodName)) ∈ jTG := jin_1 (i := 112) rfl rfl
theorem w_1_113 : (Cond.code ({ cls := "MailAgent$Message", name := "<init>", desc := "()V" } : MethodName) prog_4_method_1_code (1 : Nat) (Option.none : Option FieldType)) ∈ jTG := jin_1 (i := 113) rfl rfl
theorem w_1_114 : (Cond.methodLink "MailAgent$Message" (3 : Nat) ({ cls := "java/lang/Object", name := "<init>", desc := "()V" } : MethodName)) ∈ jTG := jin_1 (i := 114) rfl rfl
theorem w_1_115 : (Cond.classLink "MailAgent$Message" (9 : Nat) "MailAgent$Recipients") ∈ jTG := jin_1 (i := 115) rfl rfl
theorem w_1_117 : (Cond.fieldLink "MailAgent$Message" (12 : Nat) "MailAgent$Message" "recipients" "LMailAgent$Recipients;") ∈ jTG := jin_1 (i := 117) rfl rfl
theorem w_1_118 : (Cond.fieldLink "MailAgent$Queue" (26 : Nat) "MailAgent$Message" "recipients" "LMailAgent$Recipients;") ∈ jTG := jin_1 (i := 118) rfl rfl
theorem w_1_119 : (Cond.fieldLink "MailAgent" (199 : Nat) "MailAgent$Message" "recipients" "LMailAgent$Recipients;") ∈ jTG := jin_1 (i := 119) rfl rfl
theorem w_1_120 : (Cond.fieldLink "MailAgent$Message" (18 : Nat) "MailAgent$Message" "number" "I") ∈ jTG := jin_1 (i := 120) rfl rfl
theorem w_1_121 : (Cond.fieldLink "MailAgent$Deliveries" (30 : Nat) "MailAgent$Message" "number" "I") ∈ jTG := jin_1 (i := 121) rfl rfl
theorem w_1_122 : (Cond.fieldLink "MailAgent$Queue" (22 : Nat) "MailAgent$Message" "number" "I") ∈ jTG := jin_1 (i := 122) rfl rfl
theorem w_1_123 : (Cond.fieldLink "MailAgent" (196 : Nat) "MailAgent$Message" "number" "I") ∈ jTG := jin_1 (i := 123) rfl rfl
theorem w_1_124 : (Cond.fieldLink "MailAgent$Message" (27 : Nat) "MailAgent$Message" "sender" "I") ∈ jTG := jin_1 (i := 124) rfl rfl
theorem w_1_125 : (Cond.fieldLink "MailAgent" (203 : Nat) "MailAgent$Message" "sender" "I") ∈ jTG := jin_1 (i := 125) rfl rfl
theorem w_1_126 : (Cond.fieldLink "MailAgent$Message" (28 : Nat) "MailAgent$Message" "size" "I") ∈ jTG := jin_1 (i := 126) rfl rfl
theorem w_1_127 : (Cond.fieldLink "MailAgent$Queue" (25 : Nat) "MailAgent$Message" "size" "I") ∈ jTG := jin_1 (i := 127) rfl rfl
theorem w_1_128 : (Cond.fieldLink "MailAgent$Message" (40 : Nat) "MailAgent$Message" "start" "I") ∈ jTG := jin_1 (i := 128) rfl rfl
theorem w_1_129 : (Cond.fieldLink "MailAgent" (243 : Nat) "MailAgent$Message" "start" "I") ∈ jTG := jin_1 (i := 129) rfl rfl
theorem w_1_130 : (Cond.fieldLink "MailAgent$Message" (43 : Nat) "MailAgent$Message" "due" "I") ∈ jTG := jin_1 (i := 130) rfl rfl
theorem w_1_131 : (Cond.fieldLink "MailAgent" (165 : Nat) "MailAgent$Message" "due" "I") ∈ jTG := jin_1 (i := 131) rfl rfl
theorem w_1_132 : (Cond.fieldLink "MailAgent$Message" (46 : Nat) "MailAgent$Message" "gap" "I") ∈ jTG := jin_1 (i := 132) rfl rfl
theorem w_1_133 : (Cond.fieldLink "MailAgent$Deliveries" (24 : Nat) "MailAgent$Message" "isReport" "Z") ∈ jTG := jin_1 (i := 133) rfl rfl
theorem w_1_134 : (Cond.fieldLink "MailAgent$Message" (31 : Nat) "MailAgent$Message" "isReport" "Z") ∈ jTG := jin_1 (i := 134) rfl rfl
theorem w_1_135 : (Cond.laysFinal "MailAgent$Message" "MailAgent$Message" "recipients" "LMailAgent$Recipients;") ∈ jTG := jin_1 (i := 135) rfl rfl
theorem w_1_137 : (Cond.lays "MailAgent$Message" "MailAgent$Message" "number" "I") ∈ jTG := jin_1 (i := 137) rfl rfl
theorem w_1_139 : (Cond.lays "MailAgent$Message" "MailAgent$Message" "sender" "I") ∈ jTG := jin_1 (i := 139) rfl rfl
theorem w_1_141 : (Cond.lays "MailAgent$Message" "MailAgent$Message" "size" "I") ∈ jTG := jin_1 (i := 141) rfl rfl
theorem w_1_143 : (Cond.lays "MailAgent$Message" "MailAgent$Message" "start" "I") ∈ jTG := jin_1 (i := 143) rfl rfl
theorem w_1_145 : (Cond.lays "MailAgent$Message" "MailAgent$Message" "due" "I") ∈ jTG := jin_1 (i := 145) rfl rfl
theorem w_1_147 : (Cond.lays "MailAgent$Message" "MailAgent$Message" "gap" "I") ∈ jTG := jin_1 (i := 147) rfl rfl
theorem w_1_149 : (Cond.lays "MailAgent$Message" "MailAgent$Message" "isReport" "Z") ∈ jTG := jin_1 (i := 149) rfl rfl
theorem w_1_152 : (Cond.fieldLink "MailAgent$Queue" (11 : Nat) "MailAgent$Queue" "messages" "[LMailAgent$Message;") ∈ jTG := jin_1 (i := 152) rfl rfl
theorem w_1_153 : (Cond.fieldLink "MailAgent" (161 : Nat) "MailAgent$Queue" "messages" "[LMailAgent$Message;") ∈ jTG := jin_1 (i := 153) rfl rfl
theorem w_1_154 : (Cond.fieldLink "MailAgent$Queue" (17 : Nat) "MailAgent$Queue" "size" "I") ∈ jTG := jin_1 (i := 154) rfl rfl
theorem w_1_155 : (Cond.fieldLink "MailAgent" (139 : Nat) "MailAgent$Queue" "size" "I") ∈ jTG := jin_1 (i := 155) rfl rfl
theorem w_1_156 : (Cond.laysFinal "MailAgent$Queue" "MailAgent$Queue" "messages" "[LMailAgent$Message;") ∈ jTG := jin_1 (i := 156) rfl rfl
theorem w_1_158 : (Cond.lays "MailAgent$Queue" "MailAgent$Queue" "size" "I") ∈ jTG := jin_1 (i := 158) rfl rfl
theorem w_1_161 : (Cond.classLink "MailAgent" (58 : Nat) "MailAgent$Deliveries") ∈ jTG := jin_1 (i := 161) rfl rfl
theorem w_1_162 : (Cond.instantiable "MailAgent$Deliveries" (4 : Nat)) ∈ jTG := jin_1 (i := 162) rfl rfl
theorem w_1_164 : (Cond.instanceMethod ({ cls := "MailAgent$Deliveries", name := "<init>", desc := "()V" } : MethodName)) ∈ jTG := jin_1 (i := 164) rfl rfl
theorem w_1_165 : (Cond.code ({ cls := "MailAgent$Deliveries", name := "<init>", desc := "()V" } : MethodName) prog_3_method_1_code (1 : Nat) (Option.none : Option FieldType)) ∈ jTG := jin_1 (i := 165) rfl rfl
theorem w_1_166 : (Cond.methodLink "MailAgent$Deliveries" (3 : Nat) ({ cls := "java/lang/Object", name := "<init>", desc := "()V" } : MethodName)) ∈ jTG := jin_1 (i := 166) rfl rfl
theorem w_1_167 : (Cond.fieldLink "MailAgent$Deliveries" (9 : Nat) "MailAgent$Deliveries" "letters" "[I") ∈ jTG := jin_1 (i := 167) rfl rfl
theorem w_1_168 : (Cond.fieldLink "MailAgent" (206 : Nat) "MailAgent$Deliveries" "letters" "[I") ∈ jTG := jin_1 (i := 168) rfl rfl
theorem w_1_169 : (Cond.fieldLink "MailAgent$Deliveries" (15 : Nat) "MailAgent$Deliveries" "reports" "[I") ∈ jTG := jin_1 (i := 169) rfl rfl
theorem w_1_170 : (Cond.fieldLink "MailAgent" (209 : Nat) "MailAgent$Deliveries" "reports" "[I") ∈ jTG := jin_1 (i := 170) rfl rfl
theorem w_1_171 : (Cond.fieldLink "MailAgent$Deliveries" (18 : Nat) "MailAgent$Deliveries" "lastNumbers" "[I") ∈ jTG := jin_1 (i := 171) rfl rfl
theorem w_1_172 : (Cond.fieldLink "MailAgent" (212 : Nat) "MailAgent$Deliveries" "lastNumbers" "[I") ∈ jTG := jin_1 (i := 172) rfl rfl
theorem w_1_173 : (Cond.fieldLink "MailAgent$Deliveries" (21 : Nat) "MailAgent$Deliveries" "carried" "[I") ∈ jTG := jin_1 (i := 173) rfl rfl
theorem w_1_174 : (Cond.fieldLink "MailAgent" (215 : Nat) "MailAgent$Deliveries" "carried" "[I") ∈ jTG := jin_1 (i := 174) rfl rfl
theorem w_1_175 : (Cond.laysFinal "MailAgent$Deliveries" "MailAgent$Deliveries" "letters" "[I") ∈ jTG := jin_1 (i := 175) rfl rfl
theorem w_1_177 : (Cond.laysFinal "MailAgent$Deliveries" "MailAgent$Deliveries" "reports" "[I") ∈ jTG := jin_1 (i := 177) rfl rfl
theorem w_1_179 : (Cond.laysFinal "MailAgent$Deliveries" "MailAgent$Deliveries" "lastNumbers" "[I") ∈ jTG := jin_1 (i := 179) rfl rfl
theorem w_1_181 : (Cond.laysFinal "MailAgent$Deliveries" "MailAgent$Deliveries" "carried" "[I") ∈ jTG := jin_1 (i := 181) rfl rfl
theorem w_1_184 : (Cond.fieldLink "MailAgent" (13 : Nat) "MailAgent" "minGap" "I") ∈ jTG := jin_1 (i := 184) rfl rfl
theorem w_1_185 : (Cond.fieldLink "MailAgent" (17 : Nat) "MailAgent" "maxGap" "I") ∈ jTG := jin_1 (i := 185) rfl rfl
theorem w_1_186 : (Cond.fieldLink "MailAgent" (20 : Nat) "MailAgent" "giveUp" "I") ∈ jTG := jin_1 (i := 186) rfl rfl
theorem w_1_187 : (Cond.fieldLink "MailAgent" (26 : Nat) "MailAgent" "aliases" "LMailAgent$Aliases;") ∈ jTG := jin_1 (i := 187) rfl rfl
theorem w_1_188 : (Cond.fieldLink "MailAgent" (32 : Nat) "MailAgent" "routes" "[LMailAgent$Routes;") ∈ jTG := jin_1 (i := 188) rfl rfl
theorem w_1_189 : (Cond.fieldLink "MailAgent" (37 : Nat) "MailAgent" "hostStates" "[I") ∈ jTG := jin_1 (i := 189) rfl rfl
theorem w_1_190 : (Cond.fieldLink "MailAgent" (44 : Nat) "MailAgent" "transaction" "LMailAgent$Transaction;") ∈ jTG := jin_1 (i := 190) rfl rfl
theorem w_1_191 : (Cond.fieldLink "MailAgent" (51 : Nat) "MailAgent" "queue" "LMailAgent$Queue;") ∈ jTG := jin_1 (i := 191) rfl rfl
theorem w_1_192 : (Cond.fieldLink "MailAgent" (55 : Nat) "MailAgent" "durable" "LMailAgent$Queue;") ∈ jTG := jin_1 (i := 192) rfl rfl
theorem w_1_193 : (Cond.fieldLink "MailAgent" (61 : Nat) "MailAgent" "deliveries" "LMailAgent$Deliveries;") ∈ jTG := jin_1 (i := 193) rfl rfl
theorem w_1_194 : (Cond.fieldLink "MailAgent" (65 : Nat) "MailAgent" "clock" "I") ∈ jTG := jin_1 (i := 194) rfl rfl
theorem w_1_195 : (Cond.fieldLink "MailAgent" (68 : Nat) "MailAgent" "lastNumber" "I") ∈ jTG := jin_1 (i := 195) rfl rfl
theorem w_1_196 : (Cond.fieldLink "MailAgent" (71 : Nat) "MailAgent" "changes" "I") ∈ jTG := jin_1 (i := 196) rfl rfl
theorem w_1_197 : (Cond.laysFinal "MailAgent" "MailAgent" "minGap" "I") ∈ jTG := jin_1 (i := 197) rfl rfl
theorem w_1_199 : (Cond.laysFinal "MailAgent" "MailAgent" "maxGap" "I") ∈ jTG := jin_1 (i := 199) rfl rfl
theorem w_1_201 : (Cond.laysFinal "MailAgent" "MailAgent" "giveUp" "I") ∈ jTG := jin_1 (i := 201) rfl rfl
theorem w_1_203 : (Cond.laysFinal "MailAgent" "MailAgent" "aliases" "LMailAgent$Aliases;") ∈ jTG := jin_1 (i := 203) rfl rfl
theorem w_1_205 : (Cond.laysFinal "MailAgent" "MailAgent" "routes" "[LMailAgent$Routes;") ∈ jTG := jin_1 (i := 205) rfl rfl
theorem w_1_207 : (Cond.laysFinal "MailAgent" "MailAgent" "hostStates" "[I") ∈ jTG := jin_1 (i := 207) rfl rfl
theorem w_1_209 : (Cond.laysFinal "MailAgent" "MailAgent" "transaction" "LMailAgent$Transaction;") ∈ jTG := jin_1 (i := 209) rfl rfl
theorem w_1_211 : (Cond.laysFinal "MailAgent" "MailAgent" "queue" "LMailAgent$Queue;") ∈ jTG := jin_1 (i := 211) rfl rfl
theorem w_1_213 : (Cond.laysFinal "MailAgent" "MailAgent" "durable" "LMailAgent$Queue;") ∈ jTG := jin_1 (i := 213) rfl rfl
theorem w_1_215 : (Cond.laysFinal "MailAgent" "MailAgent" "deliveries" "LMailAgent$Deliveries;") ∈ jTG := jin_1 (i := 215) rfl rfl
theorem w_1_217 : (Cond.lays "MailAgent" "MailAgent" "clock" "I") ∈ jTG := jin_1 (i := 217) rfl rfl
theorem w_1_219 : (Cond.lays "MailAgent" "MailAgent" "lastNumber" "I") ∈ jTG := jin_1 (i := 219) rfl rfl
theorem w_1_221 : (Cond.lays "MailAgent" "MailAgent" "changes" "I") ∈ jTG := jin_1 (i := 221) rfl rfl
theorem w_1_224 : (Cond.methodLink "MailAgentLaw" (21 : Nat) ({ cls := "MailAgent", name := "alias", desc := "(II)I" } : MethodName)) ∈ jTG := jin_1 (i := 224) rfl rfl
theorem w_1_225 : (Cond.instanceMethod ({ cls := "MailAgent", name := "alias", desc := "(II)I" } : MethodName)) ∈ jTG := jin_1 (i := 225) rfl rfl
theorem w_1_226 : (Cond.selects "MailAgent" ({ cls := "MailAgent", name := "alias", desc := "(II)I" } : MethodName) ({ cls := "MailAgent", name := "alias", desc := "(II)I" } : MethodName)) ∈ jTG := jin_1 (i := 226) rfl rfl
theorem w_1_227 : (Cond.code ({ cls := "MailAgent", name := "alias", desc := "(II)I" } : MethodName) prog_1_method_2_code (3 : Nat) (Option.some FieldType.int)) ∈ jTG := jin_1 (i := 227) rfl rfl
theorem w_1_228 : (Cond.methodLink "MailAgent" (74 : Nat) ({ cls := "MailAgent", name := "isBelow", desc := "(II)Z" } : MethodName)) ∈ jTG := jin_1 (i := 228) rfl rfl
theorem w_1_229 : (Cond.static ({ cls := "MailAgent", name := "isBelow", desc := "(II)Z" } : MethodName)) ∈ jTG := jin_1 (i := 229) rfl rfl
theorem w_1_230 : (Cond.code ({ cls := "MailAgent", name := "isBelow", desc := "(II)Z" } : MethodName) prog_1_method_22_code (2 : Nat) (Option.some FieldType.boolean)) ∈ jTG := jin_1 (i := 230) rfl rfl
theorem w_1_231 : (Cond.methodLink "MailAgent" (78 : Nat) ({ cls := "MailAgent$Aliases", name := "hasRoomFor", desc := "(II)Z" } : MethodName)) ∈ jTG := jin_1 (i := 231) rfl rfl
theorem w_1_232 : (Cond.instanceMethod ({ cls := "MailAgent$Aliases", name := "hasRoomFor", desc := "(II)Z" } : MethodName)) ∈ jTG := jin_1 (i := 232) rfl rfl
theorem w_1_233 : (Cond.selects "MailAgent$Aliases" ({ cls := "MailAgent$Aliases", name := "hasRoomFor", desc := "(II)Z" } : MethodName) ({ cls := "MailAgent$Aliases", name := "hasRoomFor", desc := "(II)Z" } : MethodName)) ∈ jTG := jin_1 (i := 233) rfl rfl
theorem w_1_234 : (Cond.code ({ cls := "MailAgent$Aliases", name := "hasRoomFor", desc := "(II)Z" } : MethodName) prog_2_method_2_code (3 : Nat) (Option.some FieldType.boolean)) ∈ jTG := jin_1 (i := 234) rfl rfl
theorem w_1_235 : (Cond.methodLink "MailAgent$Aliases" (15 : Nat) ({ cls := "java/lang/Long", name := "bitCount", desc := "(J)I" } : MethodName)) ∈ jTG := jin_1 (i := 235) rfl rfl
theorem w_1_236 : (Cond.static ({ cls := "java/lang/Long", name := "bitCount", desc := "(J)I" } : MethodName)) ∈ jTG := jin_1 (i := 236) rfl rfl
theorem w_1_237 : (Cond.code ({ cls := "java/lang/Long", name := "bitCount", desc := "(J)I" } : MethodName) prog_11_method_50_code (2 : Nat) (Option.some FieldType.int)) ∈ jTG := jin_1 (i := 237) rfl rfl
theorem w_1_238 : (Cond.constantLong "java/lang/Long" (314 : Nat) (6148914691236517205 : Int64)) ∈ jTG := jin_1 (i := 238) rfl rfl
theorem w_1_239 : (Cond.constantLong "java/lang/Long" (316 : Nat) (3689348814741910323 : Int64)) ∈ jTG := jin_1 (i := 239) rfl rfl
theorem w_2_0 : (Cond.constantLong "java/lang/Long" (318 : Nat) (1085102592571150095 : Int64)) ∈ jTG := jin_2 (i := 0) rfl rfl
theorem w_2_1 : (Cond.methodLink "MailAgent" (81 : Nat) ({ cls := "MailAgent$Aliases", name := "add", desc := "(II)I" } : MethodName)) ∈ jTG := jin_2 (i := 1) rfl rfl
theorem w_2_2 : (Cond.instanceMethod ({ cls := "MailAgent$Aliases", name := "add", desc := "(II)I" } : MethodName)) ∈ jTG := jin_2 (i := 2) rfl rfl
theorem w_2_3 : (Cond.selects "MailAgent$Aliases" ({ cls := "MailAgent$Aliases", name := "add", desc := "(II)I" } : MethodName) ({ cls := "MailAgent$Aliases", name := "add", desc := "(II)I" } : MethodName)) ∈ jTG := jin_2 (i := 3) rfl rfl
theorem w_2_4 : (Cond.code ({ cls := "MailAgent$Aliases", name := "add", desc := "(II)I" } : MethodName) prog_2_method_3_code (3 : Nat) (Option.some FieldType.int)) ∈ jTG := jin_2 (i := 4) rfl rfl
theorem w_2_5 : (Cond.methodLink "MailAgentLaw" (26 : Nat) ({ cls := "MailAgent", name := "unalias", desc := "(I)I" } : MethodName)) ∈ jTG := jin_2 (i := 5) rfl rfl
theorem w_2_6 : (Cond.instanceMethod ({ cls := "MailAgent", name := "unalias", desc := "(I)I" } : MethodName)) ∈ jTG := jin_2 (i := 6) rfl rfl
theorem w_2_7 : (Cond.selects "MailAgent" ({ cls := "MailAgent", name := "unalias", desc := "(I)I" } : MethodName) ({ cls := "MailAgent", name := "unalias", desc := "(I)I" } : MethodName)) ∈ jTG := jin_2 (i := 7) rfl rfl
theorem w_2_8 : (Cond.code ({ cls := "MailAgent", name := "unalias", desc := "(I)I" } : MethodName) prog_1_method_3_code (2 : Nat) (Option.some FieldType.int)) ∈ jTG := jin_2 (i := 8) rfl rfl
theorem w_2_9 : (Cond.methodLink "MailAgent" (85 : Nat) ({ cls := "MailAgent$Aliases", name := "clear", desc := "(I)I" } : MethodName)) ∈ jTG := jin_2 (i := 9) rfl rfl
theorem w_2_10 : (Cond.instanceMethod ({ cls := "MailAgent$Aliases", name := "clear", desc := "(I)I" } : MethodName)) ∈ jTG := jin_2 (i := 10) rfl rfl
theorem w_2_11 : (Cond.selects "MailAgent$Aliases" ({ cls := "MailAgent$Aliases", name := "clear", desc := "(I)I" } : MethodName) ({ cls := "MailAgent$Aliases", name := "clear", desc := "(I)I" } : MethodName)) ∈ jTG := jin_2 (i := 11) rfl rfl
theorem w_2_12 : (Cond.code ({ cls := "MailAgent$Aliases", name := "clear", desc := "(I)I" } : MethodName) prog_2_method_4_code (3 : Nat) (Option.some FieldType.int)) ∈ jTG := jin_2 (i := 12) rfl rfl
theorem w_2_13 : (Cond.methodLink "MailAgentLaw" (31 : Nat) ({ cls := "MailAgent", name := "route", desc := "(III)I" } : MethodName)) ∈ jTG := jin_2 (i := 13) rfl rfl
theorem w_2_14 : (Cond.instanceMethod ({ cls := "MailAgent", name := "route", desc := "(III)I" } : MethodName)) ∈ jTG := jin_2 (i := 14) rfl rfl
theorem w_2_15 : (Cond.selects "MailAgent" ({ cls := "MailAgent", name := "route", desc := "(III)I" } : MethodName) ({ cls := "MailAgent", name := "route", desc := "(III)I" } : MethodName)) ∈ jTG := jin_2 (i := 15) rfl rfl
theorem w_2_16 : (Cond.code ({ cls := "MailAgent", name := "route", desc := "(III)I" } : MethodName) prog_1_method_4_code (4 : Nat) (Option.some FieldType.int)) ∈ jTG := jin_2 (i := 16) rfl rfl
theorem w_2_17 : (Cond.methodLink "MailAgent" (89 : Nat) ({ cls := "MailAgent", name := "isForeign", desc := "(I)Z" } : MethodName)) ∈ jTG := jin_2 (i := 17) rfl rfl
theorem w_2_18 : (Cond.static ({ cls := "MailAgent", name := "isForeign", desc := "(I)Z" } : MethodName)) ∈ jTG := jin_2 (i := 18) rfl rfl
theorem w_2_19 : (Cond.code ({ cls := "MailAgent", name := "isForeign", desc := "(I)Z" } : MethodName) prog_1_method_23_code (1 : Nat) (Option.some FieldType.boolean)) ∈ jTG := jin_2 (i := 19) rfl rfl
theorem w_2_20 : (Cond.methodLink "MailAgent" (93 : Nat) ({ cls := "MailAgent$Routes", name := "hasRoomFor", desc := "(I)Z" } : MethodName)) ∈ jTG := jin_2 (i := 20) rfl rfl
theorem w_2_21 : (Cond.instanceMethod ({ cls := "MailAgent$Routes", name := "hasRoomFor", desc := "(I)Z" } : MethodName)) ∈ jTG := jin_2 (i := 21) rfl rfl
theorem w_2_22 : (Cond.selects "MailAgent$Routes" ({ cls := "MailAgent$Routes", name := "hasRoomFor", desc := "(I)Z" } : MethodName) ({ cls := "MailAgent$Routes", name := "hasRoomFor", desc := "(I)Z" } : MethodName)) ∈ jTG := jin_2 (i := 22) rfl rfl
theorem w_2_23 : (Cond.code ({ cls := "MailAgent$Routes", name := "hasRoomFor", desc := "(I)Z" } : MethodName) prog_7_method_2_code (3 : Nat) (Option.some FieldType.boolean)) ∈ jTG := jin_2 (i := 23) rfl rfl
theorem w_2_24 : (Cond.methodLink "MailAgent" (95 : Nat) ({ cls := "MailAgent$Routes", name := "add", desc := "(II)I" } : MethodName)) ∈ jTG := jin_2 (i := 24) rfl rfl
theorem w_2_25 : (Cond.instanceMethod ({ cls := "MailAgent$Routes", name := "add", desc := "(II)I" } : MethodName)) ∈ jTG := jin_2 (i := 25) rfl rfl
theorem w_2_26 : (Cond.selects "MailAgent$Routes" ({ cls := "MailAgent$Routes", name := "add", desc := "(II)I" } : MethodName) ({ cls := "MailAgent$Routes", name := "add", desc := "(II)I" } : MethodName)) ∈ jTG := jin_2 (i := 26) rfl rfl
theorem w_2_27 : (Cond.code ({ cls := "MailAgent$Routes", name := "add", desc := "(II)I" } : MethodName) prog_7_method_3_code (4 : Nat) (Option.some FieldType.int)) ∈ jTG := jin_2 (i := 27) rfl rfl
theorem w_2_28 : (Cond.methodLink "MailAgentLaw" (36 : Nat) ({ cls := "MailAgent", name := "unroute", desc := "(I)I" } : MethodName)) ∈ jTG := jin_2 (i := 28) rfl rfl
theorem w_2_29 : (Cond.instanceMethod ({ cls := "MailAgent", name := "unroute", desc := "(I)I" } : MethodName)) ∈ jTG := jin_2 (i := 29) rfl rfl
theorem w_2_30 : (Cond.selects "MailAgent" ({ cls := "MailAgent", name := "unroute", desc := "(I)I" } : MethodName) ({ cls := "MailAgent", name := "unroute", desc := "(I)I" } : MethodName)) ∈ jTG := jin_2 (i := 30) rfl rfl
theorem w_2_31 : (Cond.code ({ cls := "MailAgent", name := "unroute", desc := "(I)I" } : MethodName) prog_1_method_5_code (2 : Nat) (Option.some FieldType.int)) ∈ jTG := jin_2 (i := 31) rfl rfl
theorem w_2_32 : (Cond.methodLink "MailAgent" (96 : Nat) ({ cls := "MailAgent$Routes", name := "clear", desc := "()I" } : MethodName)) ∈ jTG := jin_2 (i := 32) rfl rfl
theorem w_2_33 : (Cond.instanceMethod ({ cls := "MailAgent$Routes", name := "clear", desc := "()I" } : MethodName)) ∈ jTG := jin_2 (i := 33) rfl rfl
theorem w_2_34 : (Cond.selects "MailAgent$Routes" ({ cls := "MailAgent$Routes", name := "clear", desc := "()I" } : MethodName) ({ cls := "MailAgent$Routes", name := "clear", desc := "()I" } : MethodName)) ∈ jTG := jin_2 (i := 34) rfl rfl
theorem w_2_35 : (Cond.code ({ cls := "MailAgent$Routes", name := "clear", desc := "()I" } : MethodName) prog_7_method_4_code (2 : Nat) (Option.some FieldType.int)) ∈ jTG := jin_2 (i := 35) rfl rfl
theorem w_2_36 : (Cond.methodLink "MailAgentLaw" (40 : Nat) ({ cls := "MailAgent", name := "host", desc := "(II)I" } : MethodName)) ∈ jTG := jin_2 (i := 36) rfl rfl
theorem w_2_37 : (Cond.instanceMethod ({ cls := "MailAgent", name := "host", desc := "(II)I" } : MethodName)) ∈ jTG := jin_2 (i := 37) rfl rfl
theorem w_2_38 : (Cond.selects "MailAgent" ({ cls := "MailAgent", name := "host", desc := "(II)I" } : MethodName) ({ cls := "MailAgent", name := "host", desc := "(II)I" } : MethodName)) ∈ jTG := jin_2 (i := 38) rfl rfl
theorem w_2_39 : (Cond.code ({ cls := "MailAgent", name := "host", desc := "(II)I" } : MethodName) prog_1_method_6_code (4 : Nat) (Option.some FieldType.int)) ∈ jTG := jin_2 (i := 39) rfl rfl
theorem w_2_40 : (Cond.methodLink "MailAgentLaw" (44 : Nat) ({ cls := "MailAgent", name := "from", desc := "(I)I" } : MethodName)) ∈ jTG := jin_2 (i := 40) rfl rfl
theorem w_2_41 : (Cond.instanceMethod ({ cls := "MailAgent", name := "from", desc := "(I)I" } : MethodName)) ∈ jTG := jin_2 (i := 41) rfl rfl
theorem w_2_42 : (Cond.selects "MailAgent" ({ cls := "MailAgent", name := "from", desc := "(I)I" } : MethodName) ({ cls := "MailAgent", name := "from", desc := "(I)I" } : MethodName)) ∈ jTG := jin_2 (i := 42) rfl rfl
theorem w_2_43 : (Cond.code ({ cls := "MailAgent", name := "from", desc := "(I)I" } : MethodName) prog_1_method_7_code (2 : Nat) (Option.some FieldType.int)) ∈ jTG := jin_2 (i := 43) rfl rfl
theorem w_2_44 : (Cond.methodLink "MailAgent" (99 : Nat) ({ cls := "MailAgent$Transaction", name := "start", desc := "(I)V" } : MethodName)) ∈ jTG := jin_2 (i := 44) rfl rfl
theorem w_2_45 : (Cond.instanceMethod ({ cls := "MailAgent$Transaction", name := "start", desc := "(I)V" } : MethodName)) ∈ jTG := jin_2 (i := 45) rfl rfl
theorem w_2_46 : (Cond.selects "MailAgent$Transaction" ({ cls := "MailAgent$Transaction", name := "start", desc := "(I)V" } : MethodName) ({ cls := "MailAgent$Transaction", name := "start", desc := "(I)V" } : MethodName)) ∈ jTG := jin_2 (i := 46) rfl rfl
theorem w_2_47 : (Cond.code ({ cls := "MailAgent$Transaction", name := "start", desc := "(I)V" } : MethodName) prog_8_method_2_code (2 : Nat) (Option.none : Option FieldType)) ∈ jTG := jin_2 (i := 47) rfl rfl
theorem w_2_48 : (Cond.methodLink "MailAgentLaw" (48 : Nat) ({ cls := "MailAgent", name := "to", desc := "(I)I" } : MethodName)) ∈ jTG := jin_2 (i := 48) rfl rfl
theorem w_2_49 : (Cond.instanceMethod ({ cls := "MailAgent", name := "to", desc := "(I)I" } : MethodName)) ∈ jTG := jin_2 (i := 49) rfl rfl
theorem w_2_50 : (Cond.selects "MailAgent" ({ cls := "MailAgent", name := "to", desc := "(I)I" } : MethodName) ({ cls := "MailAgent", name := "to", desc := "(I)I" } : MethodName)) ∈ jTG := jin_2 (i := 50) rfl rfl
theorem w_2_51 : (Cond.code ({ cls := "MailAgent", name := "to", desc := "(I)I" } : MethodName) prog_1_method_8_code (7 : Nat) (Option.some FieldType.int)) ∈ jTG := jin_2 (i := 51) rfl rfl
theorem w_2_52 : (Cond.methodLink "MailAgent" (107 : Nat) ({ cls := "MailAgent$Aliases", name := "finalsOf", desc := "(I)J" } : MethodName)) ∈ jTG := jin_2 (i := 52) rfl rfl
theorem w_2_53 : (Cond.instanceMethod ({ cls := "MailAgent$Aliases", name := "finalsOf", desc := "(I)J" } : MethodName)) ∈ jTG := jin_2 (i := 53) rfl rfl
theorem w_2_54 : (Cond.selects "MailAgent$Aliases" ({ cls := "MailAgent$Aliases", name := "finalsOf", desc := "(I)J" } : MethodName) ({ cls := "MailAgent$Aliases", name := "finalsOf", desc := "(I)J" } : MethodName)) ∈ jTG := jin_2 (i := 54) rfl rfl
theorem w_2_55 : (Cond.code ({ cls := "MailAgent$Aliases", name := "finalsOf", desc := "(I)J" } : MethodName) prog_2_method_5_code (5 : Nat) (Option.some FieldType.long)) ∈ jTG := jin_2 (i := 55) rfl rfl
theorem w_2_56 : (Cond.methodLink "MailAgent$Aliases" (21 : Nat) ({ cls := "MailAgent$Aliases", name := "reachedFrom", desc := "(I)J" } : MethodName)) ∈ jTG := jin_2 (i := 56) rfl rfl
theorem w_2_58 : (Cond.instanceMethod ({ cls := "MailAgent$Aliases", name := "reachedFrom", desc := "(I)J" } : MethodName)) ∈ jTG := jin_2 (i := 58) rfl rfl
theorem w_2_59 : (Cond.code ({ cls := "MailAgent$Aliases", name := "reachedFrom", desc := "(I)J" } : MethodName) prog_2_method_6_code (6 : Nat) (Option.some FieldType.long)) ∈ jTG := jin_2 (i := 59) rfl rfl
theorem w_2_60 : (Cond.constantLong "MailAgent$Aliases" (25 : Nat) (-1 : Int64)) ∈ jTG := jin_2 (i := 60) rfl rfl
theorem w_2_61 : (Cond.methodLink "MailAgent" (115 : Nat) ({ cls := "MailAgent$Recipients", name := "asBits", desc := "()J" } : MethodName)) ∈ jTG := jin_2 (i := 61) rfl rfl
theorem w_2_62 : (Cond.instanceMethod ({ cls := "MailAgent$Recipients", name := "asBits", desc := "()J" } : MethodName)) ∈ jTG := jin_2 (i := 62) rfl rfl
theorem w_2_63 : (Cond.selects "MailAgent$Recipients" ({ cls := "MailAgent$Recipients", name := "asBits", desc := "()J" } : MethodName) ({ cls := "MailAgent$Recipients", name := "asBits", desc := "()J" } : MethodName)) ∈ jTG := jin_2 (i := 63) rfl rfl
theorem w_2_64 : (Cond.code ({ cls := "MailAgent$Recipients", name := "asBits", desc := "()J" } : MethodName) prog_6_method_4_code (4 : Nat) (Option.some FieldType.long)) ∈ jTG := jin_2 (i := 64) rfl rfl
theorem w_2_65 : (Cond.constantLong "MailAgent" (121 : Nat) (-1 : Int64)) ∈ jTG := jin_2 (i := 65) rfl rfl
theorem w_2_66 : (Cond.methodLink "MailAgent" (123 : Nat) ({ cls := "java/lang/Long", name := "bitCount", desc := "(J)I" } : MethodName)) ∈ jTG := jin_2 (i := 66) rfl rfl
theorem w_2_67 : (Cond.methodLink "MailAgent" (132 : Nat) ({ cls := "MailAgent$Recipients", name := "addRising", desc := "(J)V" } : MethodName)) ∈ jTG := jin_2 (i := 67) rfl rfl
theorem w_2_68 : (Cond.instanceMethod ({ cls := "MailAgent$Recipients", name := "addRising", desc := "(J)V" } : MethodName)) ∈ jTG := jin_2 (i := 68) rfl rfl
theorem w_2_69 : (Cond.selects "MailAgent$Recipients" ({ cls := "MailAgent$Recipients", name := "addRising", desc := "(J)V" } : MethodName) ({ cls := "MailAgent$Recipients", name := "addRising", desc := "(J)V" } : MethodName)) ∈ jTG := jin_2 (i := 69) rfl rfl
theorem w_2_70 : (Cond.code ({ cls := "MailAgent$Recipients", name := "addRising", desc := "(J)V" } : MethodName) prog_6_method_3_code (4 : Nat) (Option.none : Option FieldType)) ∈ jTG := jin_2 (i := 70) rfl rfl
theorem w_2_71 : (Cond.methodLink "MailAgent$Recipients" (22 : Nat) ({ cls := "MailAgent$Recipients", name := "add", desc := "(I)V" } : MethodName)) ∈ jTG := jin_2 (i := 71) rfl rfl
theorem w_2_72 : (Cond.instanceMethod ({ cls := "MailAgent$Recipients", name := "add", desc := "(I)V" } : MethodName)) ∈ jTG := jin_2 (i := 72) rfl rfl
theorem w_2_73 : (Cond.selects "MailAgent$Recipients" ({ cls := "MailAgent$Recipients", name := "add", desc := "(I)V" } : MethodName) ({ cls := "MailAgent$Recipients", name := "add", desc := "(I)V" } : MethodName)) ∈ jTG := jin_2 (i := 73) rfl rfl
theorem w_2_74 : (Cond.code ({ cls := "MailAgent$Recipients", name := "add", desc := "(I)V" } : MethodName) prog_6_method_2_code (2 : Nat) (Option.none : Option FieldType)) ∈ jTG := jin_2 (i := 74) rfl rfl
theorem w_2_75 : (Cond.methodLink "MailAgentLaw" (52 : Nat) ({ cls := "MailAgent", name := "data", desc := "(I)I" } : MethodName)) ∈ jTG := jin_2 (i := 75) rfl rfl
theorem w_2_76 : (Cond.instanceMethod ({ cls := "MailAgent", name := "data", desc := "(I)I" } : MethodName)) ∈ jTG := jin_2 (i := 76) rfl rfl
theorem w_2_77 : (Cond.selects "MailAgent" ({ cls := "MailAgent", name := "data", desc := "(I)I" } : MethodName) ({ cls := "MailAgent", name := "data", desc := "(I)I" } : MethodName)) ∈ jTG := jin_2 (i := 77) rfl rfl
theorem w_2_78 : (Cond.code ({ cls := "MailAgent", name := "data", desc := "(I)I" } : MethodName) prog_1_method_9_code (4 : Nat) (Option.some FieldType.int)) ∈ jTG := jin_2 (i := 78) rfl rfl
theorem w_2_79 : (Cond.methodLink "MailAgent" (136 : Nat) ({ cls := "MailAgent", name := "costOf", desc := "(II)I" } : MethodName)) ∈ jTG := jin_2 (i := 79) rfl rfl
theorem w_2_80 : (Cond.static ({ cls := "MailAgent", name := "costOf", desc := "(II)I" } : MethodName)) ∈ jTG := jin_2 (i := 80) rfl rfl
theorem w_2_81 : (Cond.code ({ cls := "MailAgent", name := "costOf", desc := "(II)I" } : MethodName) prog_1_method_24_code (2 : Nat) (Option.some FieldType.int)) ∈ jTG := jin_2 (i := 81) rfl rfl
theorem w_2_82 : (Cond.methodLink "MailAgent" (140 : Nat) ({ cls := "MailAgent$Queue", name := "costs", desc := "()I" } : MethodName)) ∈ jTG := jin_2 (i := 82) rfl rfl
theorem w_2_83 : (Cond.instanceMethod ({ cls := "MailAgent$Queue", name := "costs", desc := "()I" } : MethodName)) ∈ jTG := jin_2 (i := 83) rfl rfl
theorem w_2_84 : (Cond.selects "MailAgent$Queue" ({ cls := "MailAgent$Queue", name := "costs", desc := "()I" } : MethodName) ({ cls := "MailAgent$Queue", name := "costs", desc := "()I" } : MethodName)) ∈ jTG := jin_2 (i := 84) rfl rfl
theorem w_2_85 : (Cond.code ({ cls := "MailAgent$Queue", name := "costs", desc := "()I" } : MethodName) prog_5_method_5_code (3 : Nat) (Option.some FieldType.int)) ∈ jTG := jin_2 (i := 85) rfl rfl
theorem w_2_87 : (Cond.methodLink "MailAgent" (143 : Nat) ({ cls := "MailAgent$Queue", name := "addSpare", desc := "()LMailAgent$Message;" } : MethodName)) ∈ jTG := jin_2 (i := 87) rfl rfl
theorem w_2_88 : (Cond.instanceMethod ({ cls := "MailAgent$Queue", name := "addSpare", desc := "()LMailAgent$Message;" } : MethodName)) ∈ jTG := jin_2 (i := 88) rfl rfl
theorem w_2_89 : (Cond.selects "MailAgent$Queue" ({ cls := "MailAgent$Queue", name := "addSpare", desc := "()LMailAgent$Message;" } : MethodName) ({ cls := "MailAgent$Queue", name := "addSpare", desc := "()LMailAgent$Message;" } : MethodName)) ∈ jTG := jin_2 (i := 89) rfl rfl
theorem w_2_90 : (Cond.code ({ cls := "MailAgent$Queue", name := "addSpare", desc := "()LMailAgent$Message;" } : MethodName) prog_5_method_2_code (2 : Nat) (Option.some (FieldType.object "MailAgent$Message"))) ∈ jTG := jin_2 (i := 90) rfl rfl
theorem w_2_91 : (Cond.methodLink "MailAgent" (147 : Nat) ({ cls := "MailAgent$Message", name := "accept", desc := "(IILMailAgent$Transaction;)V" } : MethodName)) ∈ jTG := jin_2 (i := 91) rfl rfl
theorem w_2_92 : (Cond.instanceMethod ({ cls := "MailAgent$Message", name := "accept", desc := "(IILMailAgent$Transaction;)V" } : MethodName)) ∈ jTG := jin_2 (i := 92) rfl rfl
theorem w_2_93 : (Cond.selects "MailAgent$Message" ({ cls := "MailAgent$Message", name := "accept", desc := "(IILMailAgent$Transaction;)V" } : MethodName) ({ cls := "MailAgent$Message", name := "accept", desc := "(IILMailAgent$Transaction;)V" } : MethodName)) ∈ jTG := jin_2 (i := 93) rfl rfl
theorem w_2_94 : (Cond.code ({ cls := "MailAgent$Message", name := "accept", desc := "(IILMailAgent$Transaction;)V" } : MethodName) prog_4_method_2_code (4 : Nat) (Option.none : Option FieldType)) ∈ jTG := jin_2 (i := 94) rfl rfl
theorem w_2_95 : (Cond.methodLink "MailAgent$Message" (36 : Nat) ({ cls := "MailAgent$Recipients", name := "copyFrom", desc := "(LMailAgent$Recipients;)V" } : MethodName)) ∈ jTG := jin_2 (i := 95) rfl rfl
theorem w_2_96 : (Cond.instanceMethod ({ cls := "MailAgent$Recipients", name := "copyFrom", desc := "(LMailAgent$Recipients;)V" } : MethodName)) ∈ jTG := jin_2 (i := 96) rfl rfl
theorem w_2_97 : (Cond.selects "MailAgent$Recipients" ({ cls := "MailAgent$Recipients", name := "copyFrom", desc := "(LMailAgent$Recipients;)V" } : MethodName) ({ cls := "MailAgent$Recipients", name := "copyFrom", desc := "(LMailAgent$Recipients;)V" } : MethodName)) ∈ jTG := jin_2 (i := 97) rfl rfl
theorem w_2_98 : (Cond.code ({ cls := "MailAgent$Recipients", name := "copyFrom", desc := "(LMailAgent$Recipients;)V" } : MethodName) prog_6_method_8_code (3 : Nat) (Option.none : Option FieldType)) ∈ jTG := jin_2 (i := 98) rfl rfl
theorem w_2_99 : (Cond.methodLink "MailAgent" (153 : Nat) ({ cls := "MailAgent$Message", name := "schedule", desc := "(II)V" } : MethodName)) ∈ jTG := jin_2 (i := 99) rfl rfl
theorem w_2_100 : (Cond.instanceMethod ({ cls := "MailAgent$Message", name := "schedule", desc := "(II)V" } : MethodName)) ∈ jTG := jin_2 (i := 100) rfl rfl
theorem w_2_101 : (Cond.selects "MailAgent$Message" ({ cls := "MailAgent$Message", name := "schedule", desc := "(II)V" } : MethodName) ({ cls := "MailAgent$Message", name := "schedule", desc := "(II)V" } : MethodName)) ∈ jTG := jin_2 (i := 101) rfl rfl
theorem w_2_102 : (Cond.code ({ cls := "MailAgent$Message", name := "schedule", desc := "(II)V" } : MethodName) prog_4_method_3_code (3 : Nat) (Option.none : Option FieldType)) ∈ jTG := jin_2 (i := 102) rfl rfl
theorem w_2_103 : (Cond.methodLink "MailAgent" (157 : Nat) ({ cls := "MailAgent", name := "makeDurable", desc := "()V" } : MethodName)) ∈ jTG := jin_2 (i := 103) rfl rfl
theorem w_2_105 : (Cond.instanceMethod ({ cls := "MailAgent", name := "makeDurable", desc := "()V" } : MethodName)) ∈ jTG := jin_2 (i := 105) rfl rfl
theorem w_2_106 : (Cond.code ({ cls := "MailAgent", name := "makeDurable", desc := "()V" } : MethodName) prog_1_method_30_code (1 : Nat) (Option.none : Option FieldType)) ∈ jTG := jin_2 (i := 106) rfl rfl
theorem w_2_107 : (Cond.methodLink "MailAgent" (186 : Nat) ({ cls := "MailAgent$Queue", name := "copyFrom", desc := "(LMailAgent$Queue;)V" } : MethodName)) ∈ jTG := jin_2 (i := 107) rfl rfl
theorem w_2_108 : (Cond.instanceMethod ({ cls := "MailAgent$Queue", name := "copyFrom", desc := "(LMailAgent$Queue;)V" } : MethodName)) ∈ jTG := jin_2 (i := 108) rfl rfl
theorem w_2_109 : (Cond.selects "MailAgent$Queue" ({ cls := "MailAgent$Queue", name := "copyFrom", desc := "(LMailAgent$Queue;)V" } : MethodName) ({ cls := "MailAgent$Queue", name := "copyFrom", desc := "(LMailAgent$Queue;)V" } : MethodName)) ∈ jTG := jin_2 (i := 109) rfl rfl
theorem w_2_110 : (Cond.code ({ cls := "MailAgent$Queue", name := "copyFrom", desc := "(LMailAgent$Queue;)V" } : MethodName) prog_5_method_7_code (3 : Nat) (Option.none : Option FieldType)) ∈ jTG := jin_2 (i := 110) rfl rfl
theorem w_2_111 : (Cond.methodLink "MailAgent$Queue" (41 : Nat) ({ cls := "MailAgent$Message", name := "copyFrom", desc := "(LMailAgent$Message;)V" } : MethodName)) ∈ jTG := jin_2 (i := 111) rfl rfl
theorem w_2_112 : (Cond.instanceMethod ({ cls := "MailAgent$Message", name := "copyFrom", desc := "(LMailAgent$Message;)V" } : MethodName)) ∈ jTG := jin_2 (i := 112) rfl rfl
theorem w_2_113 : (Cond.selects "MailAgent$Message" ({ cls := "MailAgent$Message", name := "copyFrom", desc := "(LMailAgent$Message;)V" } : MethodName) ({ cls := "MailAgent$Message", name := "copyFrom", desc := "(LMailAgent$Message;)V" } : MethodName)) ∈ jTG := jin_2 (i := 113) rfl rfl
theorem w_2_114 : (Cond.code ({ cls := "MailAgent$Message", name := "copyFrom", desc := "(LMailAgent$Message;)V" } : MethodName) prog_4_method_6_code (2 : Nat) (Option.none : Option FieldType)) ∈ jTG := jin_2 (i := 114) rfl rfl
theorem w_2_115 : (Cond.methodLink "MailAgentLaw" (56 : Nat) ({ cls := "MailAgent", name := "tick", desc := "(I)I" } : MethodName)) ∈ jTG := jin_2 (i := 115) rfl rfl
theorem w_2_116 : (Cond.instanceMethod ({ cls := "MailAgent", name := "tick", desc := "(I)I" } : MethodName)) ∈ jTG := jin_2 (i := 116) rfl rfl
theorem w_2_117 : (Cond.selects "MailAgent" ({ cls := "MailAgent", name := "tick", desc := "(I)I" } : MethodName) ({ cls := "MailAgent", name := "tick", desc := "(I)I" } : MethodName)) ∈ jTG := jin_2 (i := 117) rfl rfl
theorem w_2_118 : (Cond.code ({ cls := "MailAgent", name := "tick", desc := "(I)I" } : MethodName) prog_1_method_10_code (7 : Nat) (Option.some FieldType.int)) ∈ jTG := jin_2 (i := 118) rfl rfl
theorem w_2_119 : (Cond.constant "MailAgent" (160 : Nat) (1000000 : Int32)) ∈ jTG := jin_2 (i := 119) rfl rfl
theorem w_2_120 : (Cond.methodLink "MailAgent" (168 : Nat) ({ cls := "MailAgent", name := "tryRecipients", desc := "(LMailAgent$Message;)I" } : MethodName)) ∈ jTG := jin_2 (i := 120) rfl rfl
theorem w_2_122 : (Cond.instanceMethod ({ cls := "MailAgent", name := "tryRecipients", desc := "(LMailAgent$Message;)I" } : MethodName)) ∈ jTG := jin_2 (i := 122) rfl rfl
theorem w_2_123 : (Cond.code ({ cls := "MailAgent", name := "tryRecipients", desc := "(LMailAgent$Message;)I" } : MethodName) prog_1_method_25_code (7 : Nat) (Option.some FieldType.int)) ∈ jTG := jin_2 (i := 123) rfl rfl
theorem w_2_124 : (Cond.methodLink "MailAgent" (232 : Nat) ({ cls := "MailAgent", name := "carry", desc := "(I)I" } : MethodName)) ∈ jTG := jin_2 (i := 124) rfl rfl
theorem w_2_126 : (Cond.instanceMethod ({ cls := "MailAgent", name := "carry", desc := "(I)I" } : MethodName)) ∈ jTG := jin_2 (i := 126) rfl rfl
theorem w_2_127 : (Cond.code ({ cls := "MailAgent", name := "carry", desc := "(I)I" } : MethodName) prog_1_method_26_code (6 : Nat) (Option.some FieldType.int)) ∈ jTG := jin_2 (i := 127) rfl rfl
theorem w_2_128 : (Cond.methodLink "MailAgent" (235 : Nat) ({ cls := "MailAgent$Deliveries", name := "note", desc := "(ILMailAgent$Message;)V" } : MethodName)) ∈ jTG := jin_2 (i := 128) rfl rfl
theorem w_2_129 : (Cond.instanceMethod ({ cls := "MailAgent$Deliveries", name := "note", desc := "(ILMailAgent$Message;)V" } : MethodName)) ∈ jTG := jin_2 (i := 129) rfl rfl
theorem w_2_130 : (Cond.selects "MailAgent$Deliveries" ({ cls := "MailAgent$Deliveries", name := "note", desc := "(ILMailAgent$Message;)V" } : MethodName) ({ cls := "MailAgent$Deliveries", name := "note", desc := "(ILMailAgent$Message;)V" } : MethodName)) ∈ jTG := jin_2 (i := 130) rfl rfl
theorem w_2_131 : (Cond.code ({ cls := "MailAgent$Deliveries", name := "note", desc := "(ILMailAgent$Message;)V" } : MethodName) prog_3_method_2_code (3 : Nat) (Option.none : Option FieldType)) ∈ jTG := jin_2 (i := 131) rfl rfl
theorem w_2_132 : (Cond.methodLink "MailAgent" (172 : Nat) ({ cls := "MailAgent", name := "failOverdue", desc := "(LMailAgent$Message;)V" } : MethodName)) ∈ jTG := jin_2 (i := 132) rfl rfl
theorem w_2_134 : (Cond.instanceMethod ({ cls := "MailAgent", name := "failOverdue", desc := "(LMailAgent$Message;)V" } : MethodName)) ∈ jTG := jin_2 (i := 134) rfl rfl
theorem w_2_135 : (Cond.code ({ cls := "MailAgent", name := "failOverdue", desc := "(LMailAgent$Message;)V" } : MethodName) prog_1_method_27_code (2 : Nat) (Option.none : Option FieldType)) ∈ jTG := jin_2 (i := 135) rfl rfl
theorem w_2_136 : (Cond.methodLink "MailAgent" (245 : Nat) ({ cls := "MailAgent$Recipients", name := "failWaiting", desc := "()I" } : MethodName)) ∈ jTG := jin_2 (i := 136) rfl rfl
theorem w_2_137 : (Cond.instanceMethod ({ cls := "MailAgent$Recipients", name := "failWaiting", desc := "()I" } : MethodName)) ∈ jTG := jin_2 (i := 137) rfl rfl
theorem w_2_138 : (Cond.selects "MailAgent$Recipients" ({ cls := "MailAgent$Recipients", name := "failWaiting", desc := "()I" } : MethodName) ({ cls := "MailAgent$Recipients", name := "failWaiting", desc := "()I" } : MethodName)) ∈ jTG := jin_2 (i := 138) rfl rfl
theorem w_2_139 : (Cond.code ({ cls := "MailAgent$Recipients", name := "failWaiting", desc := "()I" } : MethodName) prog_6_method_7_code (3 : Nat) (Option.some FieldType.int)) ∈ jTG := jin_2 (i := 139) rfl rfl
theorem w_2_140 : (Cond.methodLink "MailAgent" (176 : Nat) ({ cls := "MailAgent", name := "settle", desc := "(LMailAgent$Message;)Z" } : MethodName)) ∈ jTG := jin_2 (i := 140) rfl rfl
theorem w_2_142 : (Cond.instanceMethod ({ cls := "MailAgent", name := "settle", desc := "(LMailAgent$Message;)Z" } : MethodName)) ∈ jTG := jin_2 (i := 142) rfl rfl
theorem w_2_143 : (Cond.code ({ cls := "MailAgent", name := "settle", desc := "(LMailAgent$Message;)Z" } : MethodName) prog_1_method_28_code (2 : Nat) (Option.some FieldType.boolean)) ∈ jTG := jin_2 (i := 143) rfl rfl
theorem w_2_144 : (Cond.methodLink "MailAgent" (248 : Nat) ({ cls := "MailAgent$Recipients", name := "inState", desc := "(I)I" } : MethodName)) ∈ jTG := jin_2 (i := 144) rfl rfl
theorem w_2_145 : (Cond.instanceMethod ({ cls := "MailAgent$Recipients", name := "inState", desc := "(I)I" } : MethodName)) ∈ jTG := jin_2 (i := 145) rfl rfl
theorem w_2_146 : (Cond.selects "MailAgent$Recipients" ({ cls := "MailAgent$Recipients", name := "inState", desc := "(I)I" } : MethodName) ({ cls := "MailAgent$Recipients", name := "inState", desc := "(I)I" } : MethodName)) ∈ jTG := jin_2 (i := 146) rfl rfl
theorem w_2_147 : (Cond.code ({ cls := "MailAgent$Recipients", name := "inState", desc := "(I)I" } : MethodName) prog_6_method_6_code (4 : Nat) (Option.some FieldType.int)) ∈ jTG := jin_2 (i := 147) rfl rfl
theorem w_2_148 : (Cond.methodLink "MailAgent" (251 : Nat) ({ cls := "MailAgent$Message", name := "putOff", desc := "(II)V" } : MethodName)) ∈ jTG := jin_2 (i := 148) rfl rfl
theorem w_2_149 : (Cond.instanceMethod ({ cls := "MailAgent$Message", name := "putOff", desc := "(II)V" } : MethodName)) ∈ jTG := jin_2 (i := 149) rfl rfl
theorem w_2_150 : (Cond.selects "MailAgent$Message" ({ cls := "MailAgent$Message", name := "putOff", desc := "(II)V" } : MethodName) ({ cls := "MailAgent$Message", name := "putOff", desc := "(II)V" } : MethodName)) ∈ jTG := jin_2 (i := 150) rfl rfl
theorem w_2_151 : (Cond.code ({ cls := "MailAgent$Message", name := "putOff", desc := "(II)V" } : MethodName) prog_4_method_4_code (3 : Nat) (Option.none : Option FieldType)) ∈ jTG := jin_2 (i := 151) rfl rfl
theorem w_2_152 : (Cond.methodLink "MailAgent$Message" (49 : Nat) ({ cls := "java/lang/Math", name := "min", desc := "(II)I" } : MethodName)) ∈ jTG := jin_2 (i := 152) rfl rfl
theorem w_2_153 : (Cond.methodLink "MailAgent" (254 : Nat) ({ cls := "MailAgent$Message", name := "becomeReport", desc := "()V" } : MethodName)) ∈ jTG := jin_2 (i := 153) rfl rfl
theorem w_2_154 : (Cond.instanceMethod ({ cls := "MailAgent$Message", name := "becomeReport", desc := "()V" } : MethodName)) ∈ jTG := jin_2 (i := 154) rfl rfl
theorem w_2_155 : (Cond.selects "MailAgent$Message" ({ cls := "MailAgent$Message", name := "becomeReport", desc := "()V" } : MethodName) ({ cls := "MailAgent$Message", name := "becomeReport", desc := "()V" } : MethodName)) ∈ jTG := jin_2 (i := 155) rfl rfl
theorem w_2_156 : (Cond.code ({ cls := "MailAgent$Message", name := "becomeReport", desc := "()V" } : MethodName) prog_4_method_5_code (1 : Nat) (Option.none : Option FieldType)) ∈ jTG := jin_2 (i := 156) rfl rfl
theorem w_2_157 : (Cond.methodLink "MailAgent$Message" (56 : Nat) ({ cls := "MailAgent$Recipients", name := "add", desc := "(I)V" } : MethodName)) ∈ jTG := jin_2 (i := 157) rfl rfl
theorem w_2_158 : (Cond.methodLink "MailAgent" (180 : Nat) ({ cls := "MailAgent$Queue", name := "removeAt", desc := "(I)V" } : MethodName)) ∈ jTG := jin_2 (i := 158) rfl rfl
theorem w_2_159 : (Cond.instanceMethod ({ cls := "MailAgent$Queue", name := "removeAt", desc := "(I)V" } : MethodName)) ∈ jTG := jin_2 (i := 159) rfl rfl
theorem w_2_160 : (Cond.selects "MailAgent$Queue" ({ cls := "MailAgent$Queue", name := "removeAt", desc := "(I)V" } : MethodName) ({ cls := "MailAgent$Queue", name := "removeAt", desc := "(I)V" } : MethodName)) ∈ jTG := jin_2 (i := 160) rfl rfl
theorem w_2_161 : (Cond.code ({ cls := "MailAgent$Queue", name := "removeAt", desc := "(I)V" } : MethodName) prog_5_method_3_code (4 : Nat) (Option.none : Option FieldType)) ∈ jTG := jin_2 (i := 161) rfl rfl
theorem w_2_162 : (Cond.methodLink "MailAgent" (183 : Nat) ({ cls := "MailAgent", name := "keepChangesFew", desc := "()V" } : MethodName)) ∈ jTG := jin_2 (i := 162) rfl rfl
theorem w_2_164 : (Cond.instanceMethod ({ cls := "MailAgent", name := "keepChangesFew", desc := "()V" } : MethodName)) ∈ jTG := jin_2 (i := 164) rfl rfl
theorem w_2_165 : (Cond.code ({ cls := "MailAgent", name := "keepChangesFew", desc := "()V" } : MethodName) prog_1_method_29_code (1 : Nat) (Option.none : Option FieldType)) ∈ jTG := jin_2 (i := 165) rfl rfl
theorem w_2_166 : (Cond.methodLink "MailAgentLaw" (60 : Nat) ({ cls := "MailAgent", name := "sync", desc := "()I" } : MethodName)) ∈ jTG := jin_2 (i := 166) rfl rfl
theorem w_2_167 : (Cond.instanceMethod ({ cls := "MailAgent", name := "sync", desc := "()I" } : MethodName)) ∈ jTG := jin_2 (i := 167) rfl rfl
theorem w_2_168 : (Cond.selects "MailAgent" ({ cls := "MailAgent", name := "sync", desc := "()I" } : MethodName) ({ cls := "MailAgent", name := "sync", desc := "()I" } : MethodName)) ∈ jTG := jin_2 (i := 168) rfl rfl
theorem w_2_169 : (Cond.code ({ cls := "MailAgent", name := "sync", desc := "()I" } : MethodName) prog_1_method_11_code (2 : Nat) (Option.some FieldType.int)) ∈ jTG := jin_2 (i := 169) rfl rfl
theorem w_2_170 : (Cond.methodLink "MailAgentLaw" (65 : Nat) ({ cls := "MailAgent", name := "crash", desc := "()I" } : MethodName)) ∈ jTG := jin_2 (i := 170) rfl rfl
theorem w_2_171 : (Cond.instanceMethod ({ cls := "MailAgent", name := "crash", desc := "()I" } : MethodName)) ∈ jTG := jin_2 (i := 171) rfl rfl
theorem w_2_172 : (Cond.selects "MailAgent" ({ cls := "MailAgent", name := "crash", desc := "()I" } : MethodName) ({ cls := "MailAgent", name := "crash", desc := "()I" } : MethodName)) ∈ jTG := jin_2 (i := 172) rfl rfl
theorem w_2_173 : (Cond.code ({ cls := "MailAgent", name := "crash", desc := "()I" } : MethodName) prog_1_method_12_code (2 : Nat) (Option.some FieldType.int)) ∈ jTG := jin_2 (i := 173) rfl rfl
theorem w_2_174 : (Cond.methodLink "MailAgentLaw" (69 : Nat) ({ cls := "MailAgent", name := "drop", desc := "(I)I" } : MethodName)) ∈ jTG := jin_2 (i := 174) rfl rfl
theorem w_2_175 : (Cond.instanceMethod ({ cls := "MailAgent", name := "drop", desc := "(I)I" } : MethodName)) ∈ jTG := jin_2 (i := 175) rfl rfl
theorem w_2_176 : (Cond.selects "MailAgent" ({ cls := "MailAgent", name := "drop", desc := "(I)I" } : MethodName) ({ cls := "MailAgent", name := "drop", desc := "(I)I" } : MethodName)) ∈ jTG := jin_2 (i := 176) rfl rfl
theorem w_2_177 : (Cond.code ({ cls := "MailAgent", name := "drop", desc := "(I)I" } : MethodName) prog_1_method_13_code (3 : Nat) (Option.some FieldType.int)) ∈ jTG := jin_2 (i := 177) rfl rfl
theorem w_2_178 : (Cond.methodLink "MailAgent" (190 : Nat) ({ cls := "MailAgent$Queue", name := "indexOf", desc := "(I)I" } : MethodName)) ∈ jTG := jin_2 (i := 178) rfl rfl
theorem w_2_179 : (Cond.instanceMethod ({ cls := "MailAgent$Queue", name := "indexOf", desc := "(I)I" } : MethodName)) ∈ jTG := jin_2 (i := 179) rfl rfl
theorem w_2_180 : (Cond.selects "MailAgent$Queue" ({ cls := "MailAgent$Queue", name := "indexOf", desc := "(I)I" } : MethodName) ({ cls := "MailAgent$Queue", name := "indexOf", desc := "(I)I" } : MethodName)) ∈ jTG := jin_2 (i := 180) rfl rfl
theorem w_2_181 : (Cond.code ({ cls := "MailAgent$Queue", name := "indexOf", desc := "(I)I" } : MethodName) prog_5_method_4_code (3 : Nat) (Option.some FieldType.int)) ∈ jTG := jin_2 (i := 181) rfl rfl
theorem w_2_182 : (Cond.methodLink "MailAgentLaw" (73 : Nat) ({ cls := "MailAgent", name := "hurry", desc := "(I)I" } : MethodName)) ∈ jTG := jin_2 (i := 182) rfl rfl
theorem w_2_183 : (Cond.instanceMethod ({ cls := "MailAgent", name := "hurry", desc := "(I)I" } : MethodName)) ∈ jTG := jin_2 (i := 183) rfl rfl
theorem w_2_184 : (Cond.selects "MailAgent" ({ cls := "MailAgent", name := "hurry", desc := "(I)I" } : MethodName) ({ cls := "MailAgent", name := "hurry", desc := "(I)I" } : MethodName)) ∈ jTG := jin_2 (i := 184) rfl rfl
theorem w_2_185 : (Cond.code ({ cls := "MailAgent", name := "hurry", desc := "(I)I" } : MethodName) prog_1_method_14_code (3 : Nat) (Option.some FieldType.int)) ∈ jTG := jin_2 (i := 185) rfl rfl
theorem w_2_186 : (Cond.methodLink "MailAgentLaw" (77 : Nat) ({ cls := "MailAgent", name := "count", desc := "(I)I" } : MethodName)) ∈ jTG := jin_2 (i := 186) rfl rfl
theorem w_2_187 : (Cond.instanceMethod ({ cls := "MailAgent", name := "count", desc := "(I)I" } : MethodName)) ∈ jTG := jin_2 (i := 187) rfl rfl
theorem w_2_188 : (Cond.selects "MailAgent" ({ cls := "MailAgent", name := "count", desc := "(I)I" } : MethodName) ({ cls := "MailAgent", name := "count", desc := "(I)I" } : MethodName)) ∈ jTG := jin_2 (i := 188) rfl rfl
theorem w_2_189 : (Cond.code ({ cls := "MailAgent", name := "count", desc := "(I)I" } : MethodName) prog_1_method_15_code (2 : Nat) (Option.some FieldType.int)) ∈ jTG := jin_2 (i := 189) rfl rfl
theorem w_2_190 : (Cond.methodLink "MailAgent" (193 : Nat) ({ cls := "MailAgent$Queue", name := "waitingRecipients", desc := "()I" } : MethodName)) ∈ jTG := jin_2 (i := 190) rfl rfl
theorem w_2_191 : (Cond.instanceMethod ({ cls := "MailAgent$Queue", name := "waitingRecipients", desc := "()I" } : MethodName)) ∈ jTG := jin_2 (i := 191) rfl rfl
theorem w_2_192 : (Cond.selects "MailAgent$Queue" ({ cls := "MailAgent$Queue", name := "waitingRecipients", desc := "()I" } : MethodName) ({ cls := "MailAgent$Queue", name := "waitingRecipients", desc := "()I" } : MethodName)) ∈ jTG := jin_2 (i := 192) rfl rfl
theorem w_2_193 : (Cond.code ({ cls := "MailAgent$Queue", name := "waitingRecipients", desc := "()I" } : MethodName) prog_5_method_6_code (3 : Nat) (Option.some FieldType.int)) ∈ jTG := jin_2 (i := 193) rfl rfl
theorem w_2_194 : (Cond.methodLink "MailAgent$Queue" (37 : Nat) ({ cls := "MailAgent$Recipients", name := "inState", desc := "(I)I" } : MethodName)) ∈ jTG := jin_2 (i := 194) rfl rfl
theorem w_2_195 : (Cond.methodLink "MailAgentLaw" (81 : Nat) ({ cls := "MailAgent", name := "message", desc := "(I)I" } : MethodName)) ∈ jTG := jin_2 (i := 195) rfl rfl
theorem w_2_196 : (Cond.instanceMethod ({ cls := "MailAgent", name := "message", desc := "(I)I" } : MethodName)) ∈ jTG := jin_2 (i := 196) rfl rfl
theorem w_2_197 : (Cond.selects "MailAgent" ({ cls := "MailAgent", name := "message", desc := "(I)I" } : MethodName) ({ cls := "MailAgent", name := "message", desc := "(I)I" } : MethodName)) ∈ jTG := jin_2 (i := 197) rfl rfl
theorem w_2_198 : (Cond.code ({ cls := "MailAgent", name := "message", desc := "(I)I" } : MethodName) prog_1_method_16_code (2 : Nat) (Option.some FieldType.int)) ∈ jTG := jin_2 (i := 198) rfl rfl
theorem w_2_199 : (Cond.methodLink "MailAgentLaw" (85 : Nat) ({ cls := "MailAgent", name := "status", desc := "(II)I" } : MethodName)) ∈ jTG := jin_2 (i := 199) rfl rfl
theorem w_2_200 : (Cond.instanceMethod ({ cls := "MailAgent", name := "status", desc := "(II)I" } : MethodName)) ∈ jTG := jin_2 (i := 200) rfl rfl
theorem w_2_201 : (Cond.selects "MailAgent" ({ cls := "MailAgent", name := "status", desc := "(II)I" } : MethodName) ({ cls := "MailAgent", name := "status", desc := "(II)I" } : MethodName)) ∈ jTG := jin_2 (i := 201) rfl rfl
theorem w_2_202 : (Cond.code ({ cls := "MailAgent", name := "status", desc := "(II)I" } : MethodName) prog_1_method_17_code (4 : Nat) (Option.some FieldType.int)) ∈ jTG := jin_2 (i := 202) rfl rfl
theorem w_2_203 : (Cond.methodLink "MailAgent" (200 : Nat) ({ cls := "MailAgent$Recipients", name := "stateOf", desc := "(I)I" } : MethodName)) ∈ jTG := jin_2 (i := 203) rfl rfl
theorem w_2_204 : (Cond.instanceMethod ({ cls := "MailAgent$Recipients", name := "stateOf", desc := "(I)I" } : MethodName)) ∈ jTG := jin_2 (i := 204) rfl rfl
theorem w_2_205 : (Cond.selects "MailAgent$Recipients" ({ cls := "MailAgent$Recipients", name := "stateOf", desc := "(I)I" } : MethodName) ({ cls := "MailAgent$Recipients", name := "stateOf", desc := "(I)I" } : MethodName)) ∈ jTG := jin_2 (i := 205) rfl rfl
theorem w_2_206 : (Cond.code ({ cls := "MailAgent$Recipients", name := "stateOf", desc := "(I)I" } : MethodName) prog_6_method_5_code (3 : Nat) (Option.some FieldType.int)) ∈ jTG := jin_2 (i := 206) rfl rfl
theorem w_2_207 : (Cond.methodLink "MailAgentLaw" (89 : Nat) ({ cls := "MailAgent", name := "sender", desc := "(I)I" } : MethodName)) ∈ jTG := jin_2 (i := 207) rfl rfl
theorem w_2_208 : (Cond.instanceMethod ({ cls := "MailAgent", name := "sender", desc := "(I)I" } : MethodName)) ∈ jTG := jin_2 (i := 208) rfl rfl
theorem w_2_209 : (Cond.selects "MailAgent" ({ cls := "MailAgent", name := "sender", desc := "(I)I" } : MethodName) ({ cls := "MailAgent", name := "sender", desc := "(I)I" } : MethodName)) ∈ jTG := jin_2 (i := 209) rfl rfl
theorem w_2_210 : (Cond.code ({ cls := "MailAgent", name := "sender", desc := "(I)I" } : MethodName) prog_1_method_18_code (3 : Nat) (Option.some FieldType.int)) ∈ jTG := jin_2 (i := 210) rfl rfl
theorem w_2_211 : (Cond.methodLink "MailAgentLaw" (93 : Nat) ({ cls := "MailAgent", name := "due", desc := "(I)I" } : MethodName)) ∈ jTG := jin_2 (i := 211) rfl rfl
theorem w_2_212 : (Cond.instanceMethod ({ cls := "MailAgent", name := "due", desc := "(I)I" } : MethodName)) ∈ jTG := jin_2 (i := 212) rfl rfl
theorem w_2_213 : (Cond.selects "MailAgent" ({ cls := "MailAgent", name := "due", desc := "(I)I" } : MethodName) ({ cls := "MailAgent", name := "due", desc := "(I)I" } : MethodName)) ∈ jTG := jin_2 (i := 213) rfl rfl
theorem w_2_214 : (Cond.code ({ cls := "MailAgent", name := "due", desc := "(I)I" } : MethodName) prog_1_method_19_code (3 : Nat) (Option.some FieldType.int)) ∈ jTG := jin_2 (i := 214) rfl rfl
theorem w_2_215 : (Cond.methodLink "MailAgentLaw" (97 : Nat) ({ cls := "MailAgent", name := "received", desc := "(II)I" } : MethodName)) ∈ jTG := jin_2 (i := 215) rfl rfl
theorem w_2_216 : (Cond.instanceMethod ({ cls := "MailAgent", name := "received", desc := "(II)I" } : MethodName)) ∈ jTG := jin_2 (i := 216) rfl rfl
theorem w_2_217 : (Cond.selects "MailAgent" ({ cls := "MailAgent", name := "received", desc := "(II)I" } : MethodName) ({ cls := "MailAgent", name := "received", desc := "(II)I" } : MethodName)) ∈ jTG := jin_2 (i := 217) rfl rfl
theorem w_2_218 : (Cond.code ({ cls := "MailAgent", name := "received", desc := "(II)I" } : MethodName) prog_1_method_20_code (3 : Nat) (Option.some FieldType.int)) ∈ jTG := jin_2 (i := 218) rfl rfl
theorem w_2_219 : (Cond.methodLink "MailAgentLaw" (9 : Nat) ({ cls := "MailAgentLaw", name := "cell", desc := "([II)I" } : MethodName)) ∈ jTG := jin_2 (i := 219) rfl rfl
theorem w_2_220 : (Cond.static ({ cls := "MailAgentLaw", name := "cell", desc := "([II)I" } : MethodName)) ∈ jTG := jin_2 (i := 220) rfl rfl
theorem w_2_221 : (Cond.code ({ cls := "MailAgentLaw", name := "cell", desc := "([II)I" } : MethodName) method_2_code (2 : Nat) (Option.some FieldType.int)) ∈ jTG := jin_2 (i := 221) rfl rfl
theorem w_2_222 : (Cond.classLink "MailAgentLaw" (18 : Nat) "MailAgentModel") ∈ jTG := jin_2 (i := 222) rfl rfl
theorem w_2_223 : (Cond.instantiable "MailAgentModel" (24 : Nat)) ∈ jTG := jin_2 (i := 223) rfl rfl
theorem w_2_224 : (Cond.methodLink "MailAgentLaw" (20 : Nat) ({ cls := "MailAgentModel", name := "<init>", desc := "(III)V" } : MethodName)) ∈ jTG := jin_2 (i := 224) rfl rfl
theorem w_2_225 : (Cond.instanceMethod ({ cls := "MailAgentModel", name := "<init>", desc := "(III)V" } : MethodName)) ∈ jTG := jin_2 (i := 225) rfl rfl
theorem w_2_226 : (Cond.code ({ cls := "MailAgentModel", name := "<init>", desc := "(III)V" } : MethodName) prog_10_method_1_code (4 : Nat) (Option.none : Option FieldType)) ∈ jTG := jin_2 (i := 226) rfl rfl
theorem w_2_227 : (Cond.methodLink "MailAgentModel" (1 : Nat) ({ cls := "java/lang/Object", name := "<init>", desc := "()V" } : MethodName)) ∈ jTG := jin_2 (i := 227) rfl rfl
theorem w_2_228 : (Cond.methodLink "MailAgentModel" (49 : Nat) ({ cls := "MailAgentModel", name := "within", desc := "(III)I" } : MethodName)) ∈ jTG := jin_2 (i := 228) rfl rfl
theorem w_2_229 : (Cond.static ({ cls := "MailAgentModel", name := "within", desc := "(III)I" } : MethodName)) ∈ jTG := jin_2 (i := 229) rfl rfl
theorem w_2_230 : (Cond.code ({ cls := "MailAgentModel", name := "within", desc := "(III)I" } : MethodName) prog_10_method_2_code (3 : Nat) (Option.some FieldType.int)) ∈ jTG := jin_2 (i := 230) rfl rfl
theorem w_2_231 : (Cond.fieldLink "MailAgentModel" (53 : Nat) "MailAgentModel" "minGap" "I") ∈ jTG := jin_2 (i := 231) rfl rfl
theorem w_2_232 : (Cond.fieldLink "MailAgentModel" (57 : Nat) "MailAgentModel" "maxGap" "I") ∈ jTG := jin_2 (i := 232) rfl rfl
theorem w_2_233 : (Cond.fieldLink "MailAgentModel" (60 : Nat) "MailAgentModel" "giveUp" "I") ∈ jTG := jin_2 (i := 233) rfl rfl
theorem w_2_234 : (Cond.fieldLink "MailAgentModel" (7 : Nat) "MailAgentModel" "goals" "[I") ∈ jTG := jin_2 (i := 234) rfl rfl
theorem w_2_235 : (Cond.fieldLink "MailAgentModel" (13 : Nat) "MailAgentModel" "goalCount" "[I") ∈ jTG := jin_2 (i := 235) rfl rfl
theorem w_2_236 : (Cond.fieldLink "MailAgentModel" (16 : Nat) "MailAgentModel" "routeHost" "[I") ∈ jTG := jin_2 (i := 236) rfl rfl
theorem w_2_237 : (Cond.fieldLink "MailAgentModel" (19 : Nat) "MailAgentModel" "routeKey" "[I") ∈ jTG := jin_2 (i := 237) rfl rfl
theorem w_2_238 : (Cond.fieldLink "MailAgentModel" (22 : Nat) "MailAgentModel" "routeCount" "[I") ∈ jTG := jin_2 (i := 238) rfl rfl
theorem w_2_239 : (Cond.fieldLink "MailAgentModel" (25 : Nat) "MailAgentModel" "hosts" "[I") ∈ jTG := jin_2 (i := 239) rfl rfl
theorem w_3_0 : (Cond.fieldLink "MailAgentModel" (101 : Nat) "MailAgentModel" "clock" "I") ∈ jTG := jin_3 (i := 0) rfl rfl
theorem w_3_1 : (Cond.fieldLink "MailAgentModel" (98 : Nat) "MailAgentModel" "last" "I") ∈ jTG := jin_3 (i := 1) rfl rfl
theorem w_3_2 : (Cond.fieldLink "MailAgentModel" (28 : Nat) "MailAgentModel" "queue" "[I") ∈ jTG := jin_3 (i := 2) rfl rfl
theorem w_3_3 : (Cond.fieldLink "MailAgentModel" (85 : Nat) "MailAgentModel" "queued" "I") ∈ jTG := jin_3 (i := 3) rfl rfl
theorem w_3_4 : (Cond.fieldLink "MailAgentModel" (31 : Nat) "MailAgentModel" "safe" "[I") ∈ jTG := jin_3 (i := 4) rfl rfl
theorem w_3_5 : (Cond.fieldLink "MailAgentModel" (91 : Nat) "MailAgentModel" "safeQueued" "I") ∈ jTG := jin_3 (i := 5) rfl rfl
theorem w_3_6 : (Cond.fieldLink "MailAgentModel" (88 : Nat) "MailAgentModel" "changes" "I") ∈ jTG := jin_3 (i := 6) rfl rfl
theorem w_3_7 : (Cond.fieldLink "MailAgentModel" (67 : Nat) "MailAgentModel" "open" "Z") ∈ jTG := jin_3 (i := 7) rfl rfl
theorem w_3_8 : (Cond.fieldLink "MailAgentModel" (71 : Nat) "MailAgentModel" "from" "I") ∈ jTG := jin_3 (i := 8) rfl rfl
theorem w_3_9 : (Cond.fieldLink "MailAgentModel" (34 : Nat) "MailAgentModel" "to" "[I") ∈ jTG := jin_3 (i := 9) rfl rfl
theorem w_3_10 : (Cond.fieldLink "MailAgentModel" (74 : Nat) "MailAgentModel" "toCount" "I") ∈ jTG := jin_3 (i := 10) rfl rfl
theorem w_3_11 : (Cond.fieldLink "MailAgentModel" (37 : Nat) "MailAgentModel" "letters" "[I") ∈ jTG := jin_3 (i := 11) rfl rfl
theorem w_3_12 : (Cond.fieldLink "MailAgentModel" (40 : Nat) "MailAgentModel" "reports" "[I") ∈ jTG := jin_3 (i := 12) rfl rfl
theorem w_3_13 : (Cond.fieldLink "MailAgentModel" (43 : Nat) "MailAgentModel" "latest" "[I") ∈ jTG := jin_3 (i := 13) rfl rfl
theorem w_3_14 : (Cond.fieldLink "MailAgentModel" (46 : Nat) "MailAgentModel" "carried" "[I") ∈ jTG := jin_3 (i := 14) rfl rfl
theorem w_3_15 : (Cond.laysFinal "MailAgentModel" "MailAgentModel" "minGap" "I") ∈ jTG := jin_3 (i := 15) rfl rfl
theorem w_3_17 : (Cond.laysFinal "MailAgentModel" "MailAgentModel" "maxGap" "I") ∈ jTG := jin_3 (i := 17) rfl rfl
theorem w_3_19 : (Cond.laysFinal "MailAgentModel" "MailAgentModel" "giveUp" "I") ∈ jTG := jin_3 (i := 19) rfl rfl
theorem w_3_21 : (Cond.laysFinal "MailAgentModel" "MailAgentModel" "goals" "[I") ∈ jTG := jin_3 (i := 21) rfl rfl
theorem w_3_23 : (Cond.laysFinal "MailAgentModel" "MailAgentModel" "goalCount" "[I") ∈ jTG := jin_3 (i := 23) rfl rfl
theorem w_3_25 : (Cond.laysFinal "MailAgentModel" "MailAgentModel" "routeHost" "[I") ∈ jTG := jin_3 (i := 25) rfl rfl
theorem w_3_27 : (Cond.laysFinal "MailAgentModel" "MailAgentModel" "routeKey" "[I") ∈ jTG := jin_3 (i := 27) rfl rfl
theorem w_3_29 : (Cond.laysFinal "MailAgentModel" "MailAgentModel" "routeCount" "[I") ∈ jTG := jin_3 (i := 29) rfl rfl
theorem w_3_31 : (Cond.laysFinal "MailAgentModel" "MailAgentModel" "hosts" "[I") ∈ jTG := jin_3 (i := 31) rfl rfl
theorem w_3_33 : (Cond.lays "MailAgentModel" "MailAgentModel" "clock" "I") ∈ jTG := jin_3 (i := 33) rfl rfl
theorem w_3_35 : (Cond.lays "MailAgentModel" "MailAgentModel" "last" "I") ∈ jTG := jin_3 (i := 35) rfl rfl
theorem w_3_37 : (Cond.laysFinal "MailAgentModel" "MailAgentModel" "queue" "[I") ∈ jTG := jin_3 (i := 37) rfl rfl
theorem w_3_39 : (Cond.lays "MailAgentModel" "MailAgentModel" "queued" "I") ∈ jTG := jin_3 (i := 39) rfl rfl
theorem w_3_41 : (Cond.laysFinal "MailAgentModel" "MailAgentModel" "safe" "[I") ∈ jTG := jin_3 (i := 41) rfl rfl
theorem w_3_43 : (Cond.lays "MailAgentModel" "MailAgentModel" "safeQueued" "I") ∈ jTG := jin_3 (i := 43) rfl rfl
theorem w_3_45 : (Cond.lays "MailAgentModel" "MailAgentModel" "changes" "I") ∈ jTG := jin_3 (i := 45) rfl rfl
theorem w_3_47 : (Cond.lays "MailAgentModel" "MailAgentModel" "open" "Z") ∈ jTG := jin_3 (i := 47) rfl rfl
theorem w_3_49 : (Cond.lays "MailAgentModel" "MailAgentModel" "from" "I") ∈ jTG := jin_3 (i := 49) rfl rfl
theorem w_3_51 : (Cond.laysFinal "MailAgentModel" "MailAgentModel" "to" "[I") ∈ jTG := jin_3 (i := 51) rfl rfl
theorem w_3_53 : (Cond.lays "MailAgentModel" "MailAgentModel" "toCount" "I") ∈ jTG := jin_3 (i := 53) rfl rfl
theorem w_3_55 : (Cond.laysFinal "MailAgentModel" "MailAgentModel" "letters" "[I") ∈ jTG := jin_3 (i := 55) rfl rfl
theorem w_3_57 : (Cond.laysFinal "MailAgentModel" "MailAgentModel" "reports" "[I") ∈ jTG := jin_3 (i := 57) rfl rfl
theorem w_3_59 : (Cond.laysFinal "MailAgentModel" "MailAgentModel" "latest" "[I") ∈ jTG := jin_3 (i := 59) rfl rfl
theorem w_3_61 : (Cond.laysFinal "MailAgentModel" "MailAgentModel" "carried" "[I") ∈ jTG := jin_3 (i := 61) rfl rfl
theorem w_3_64 : (Cond.methodLink "MailAgentLaw" (25 : Nat) ({ cls := "MailAgentModel", name := "alias", desc := "(II)I" } : MethodName)) ∈ jTG := jin_3 (i := 64) rfl rfl
theorem w_3_65 : (Cond.instanceMethod ({ cls := "MailAgentModel", name := "alias", desc := "(II)I" } : MethodName)) ∈ jTG := jin_3 (i := 65) rfl rfl
theorem w_3_66 : (Cond.selects "MailAgentModel" ({ cls := "MailAgentModel", name := "alias", desc := "(II)I" } : MethodName) ({ cls := "MailAgentModel", name := "alias", desc := "(II)I" } : MethodName)) ∈ jTG := jin_3 (i := 66) rfl rfl
theorem w_3_67 : (Cond.code ({ cls := "MailAgentModel", name := "alias", desc := "(II)I" } : MethodName) prog_10_method_4_code (4 : Nat) (Option.some FieldType.int)) ∈ jTG := jin_3 (i := 67) rfl rfl
theorem w_3_68 : (Cond.methodLink "MailAgentModel" (63 : Nat) ({ cls := "MailAgentModel", name := "out", desc := "(II)Z" } : MethodName)) ∈ jTG := jin_3 (i := 68) rfl rfl
theorem w_3_69 : (Cond.static ({ cls := "MailAgentModel", name := "out", desc := "(II)Z" } : MethodName)) ∈ jTG := jin_3 (i := 69) rfl rfl
theorem w_3_70 : (Cond.code ({ cls := "MailAgentModel", name := "out", desc := "(II)Z" } : MethodName) prog_10_method_3_code (2 : Nat) (Option.some FieldType.boolean)) ∈ jTG := jin_3 (i := 70) rfl rfl
theorem w_3_71 : (Cond.methodLink "MailAgentLaw" (30 : Nat) ({ cls := "MailAgentModel", name := "unalias", desc := "(I)I" } : MethodName)) ∈ jTG := jin_3 (i := 71) rfl rfl
theorem w_3_72 : (Cond.instanceMethod ({ cls := "MailAgentModel", name := "unalias", desc := "(I)I" } : MethodName)) ∈ jTG := jin_3 (i := 72) rfl rfl
theorem w_3_73 : (Cond.selects "MailAgentModel" ({ cls := "MailAgentModel", name := "unalias", desc := "(I)I" } : MethodName) ({ cls := "MailAgentModel", name := "unalias", desc := "(I)I" } : MethodName)) ∈ jTG := jin_3 (i := 73) rfl rfl
theorem w_3_74 : (Cond.code ({ cls := "MailAgentModel", name := "unalias", desc := "(I)I" } : MethodName) prog_10_method_5_code (3 : Nat) (Option.some FieldType.int)) ∈ jTG := jin_3 (i := 74) rfl rfl
theorem w_3_75 : (Cond.methodLink "MailAgentLaw" (35 : Nat) ({ cls := "MailAgentModel", name := "route", desc := "(III)I" } : MethodName)) ∈ jTG := jin_3 (i := 75) rfl rfl
theorem w_3_76 : (Cond.instanceMethod ({ cls := "MailAgentModel", name := "route", desc := "(III)I" } : MethodName)) ∈ jTG := jin_3 (i := 76) rfl rfl
theorem w_3_77 : (Cond.selects "MailAgentModel" ({ cls := "MailAgentModel", name := "route", desc := "(III)I" } : MethodName) ({ cls := "MailAgentModel", name := "route", desc := "(III)I" } : MethodName)) ∈ jTG := jin_3 (i := 77) rfl rfl
theorem w_3_78 : (Cond.code ({ cls := "MailAgentModel", name := "route", desc := "(III)I" } : MethodName) prog_10_method_6_code (6 : Nat) (Option.some FieldType.int)) ∈ jTG := jin_3 (i := 78) rfl rfl
theorem w_3_79 : (Cond.methodLink "MailAgentLaw" (39 : Nat) ({ cls := "MailAgentModel", name := "unroute", desc := "(I)I" } : MethodName)) ∈ jTG := jin_3 (i := 79) rfl rfl
theorem w_3_80 : (Cond.instanceMethod ({ cls := "MailAgentModel", name := "unroute", desc := "(I)I" } : MethodName)) ∈ jTG := jin_3 (i := 80) rfl rfl
theorem w_3_81 : (Cond.selects "MailAgentModel" ({ cls := "MailAgentModel", name := "unroute", desc := "(I)I" } : MethodName) ({ cls := "MailAgentModel", name := "unroute", desc := "(I)I" } : MethodName)) ∈ jTG := jin_3 (i := 81) rfl rfl
theorem w_3_82 : (Cond.code ({ cls := "MailAgentModel", name := "unroute", desc := "(I)I" } : MethodName) prog_10_method_7_code (3 : Nat) (Option.some FieldType.int)) ∈ jTG := jin_3 (i := 82) rfl rfl
theorem w_3_83 : (Cond.methodLink "MailAgentLaw" (43 : Nat) ({ cls := "MailAgentModel", name := "host", desc := "(II)I" } : MethodName)) ∈ jTG := jin_3 (i := 83) rfl rfl
theorem w_3_84 : (Cond.instanceMethod ({ cls := "MailAgentModel", name := "host", desc := "(II)I" } : MethodName)) ∈ jTG := jin_3 (i := 84) rfl rfl
theorem w_3_85 : (Cond.selects "MailAgentModel" ({ cls := "MailAgentModel", name := "host", desc := "(II)I" } : MethodName) ({ cls := "MailAgentModel", name := "host", desc := "(II)I" } : MethodName)) ∈ jTG := jin_3 (i := 85) rfl rfl
theorem w_3_86 : (Cond.code ({ cls := "MailAgentModel", name := "host", desc := "(II)I" } : MethodName) prog_10_method_8_code (4 : Nat) (Option.some FieldType.int)) ∈ jTG := jin_3 (i := 86) rfl rfl
theorem w_3_87 : (Cond.methodLink "MailAgentLaw" (47 : Nat) ({ cls := "MailAgentModel", name := "from", desc := "(I)I" } : MethodName)) ∈ jTG := jin_3 (i := 87) rfl rfl
theorem w_3_88 : (Cond.instanceMethod ({ cls := "MailAgentModel", name := "from", desc := "(I)I" } : MethodName)) ∈ jTG := jin_3 (i := 88) rfl rfl
theorem w_3_89 : (Cond.selects "MailAgentModel" ({ cls := "MailAgentModel", name := "from", desc := "(I)I" } : MethodName) ({ cls := "MailAgentModel", name := "from", desc := "(I)I" } : MethodName)) ∈ jTG := jin_3 (i := 89) rfl rfl
theorem w_3_90 : (Cond.code ({ cls := "MailAgentModel", name := "from", desc := "(I)I" } : MethodName) prog_10_method_9_code (2 : Nat) (Option.some FieldType.int)) ∈ jTG := jin_3 (i := 90) rfl rfl
theorem w_3_91 : (Cond.methodLink "MailAgentLaw" (51 : Nat) ({ cls := "MailAgentModel", name := "to", desc := "(I)I" } : MethodName)) ∈ jTG := jin_3 (i := 91) rfl rfl
theorem w_3_92 : (Cond.instanceMethod ({ cls := "MailAgentModel", name := "to", desc := "(I)I" } : MethodName)) ∈ jTG := jin_3 (i := 92) rfl rfl
theorem w_3_93 : (Cond.selects "MailAgentModel" ({ cls := "MailAgentModel", name := "to", desc := "(I)I" } : MethodName) ({ cls := "MailAgentModel", name := "to", desc := "(I)I" } : MethodName)) ∈ jTG := jin_3 (i := 93) rfl rfl
theorem w_3_94 : (Cond.code ({ cls := "MailAgentModel", name := "to", desc := "(I)I" } : MethodName) prog_10_method_12_code (8 : Nat) (Option.some FieldType.int)) ∈ jTG := jin_3 (i := 94) rfl rfl
theorem w_3_95 : (Cond.methodLink "MailAgentModel" (77 : Nat) ({ cls := "MailAgentModel", name := "reached", desc := "(I)J" } : MethodName)) ∈ jTG := jin_3 (i := 95) rfl rfl
theorem w_3_97 : (Cond.instanceMethod ({ cls := "MailAgentModel", name := "reached", desc := "(I)J" } : MethodName)) ∈ jTG := jin_3 (i := 97) rfl rfl
theorem w_3_98 : (Cond.code ({ cls := "MailAgentModel", name := "reached", desc := "(I)J" } : MethodName) prog_10_method_10_code (6 : Nat) (Option.some FieldType.long)) ∈ jTG := jin_3 (i := 98) rfl rfl
theorem w_3_99 : (Cond.methodLink "MailAgentModel" (81 : Nat) ({ cls := "MailAgentModel", name := "named", desc := "(I)Z" } : MethodName)) ∈ jTG := jin_3 (i := 99) rfl rfl
theorem w_3_101 : (Cond.instanceMethod ({ cls := "MailAgentModel", name := "named", desc := "(I)Z" } : MethodName)) ∈ jTG := jin_3 (i := 101) rfl rfl
theorem w_3_102 : (Cond.code ({ cls := "MailAgentModel", name := "named", desc := "(I)Z" } : MethodName) prog_10_method_11_code (3 : Nat) (Option.some FieldType.boolean)) ∈ jTG := jin_3 (i := 102) rfl rfl
theorem w_3_103 : (Cond.methodLink "MailAgentLaw" (55 : Nat) ({ cls := "MailAgentModel", name := "data", desc := "(I)I" } : MethodName)) ∈ jTG := jin_3 (i := 103) rfl rfl
theorem w_3_104 : (Cond.instanceMethod ({ cls := "MailAgentModel", name := "data", desc := "(I)I" } : MethodName)) ∈ jTG := jin_3 (i := 104) rfl rfl
theorem w_3_105 : (Cond.selects "MailAgentModel" ({ cls := "MailAgentModel", name := "data", desc := "(I)I" } : MethodName) ({ cls := "MailAgentModel", name := "data", desc := "(I)I" } : MethodName)) ∈ jTG := jin_3 (i := 105) rfl rfl
theorem w_3_106 : (Cond.code ({ cls := "MailAgentModel", name := "data", desc := "(I)I" } : MethodName) prog_10_method_15_code (4 : Nat) (Option.some FieldType.int)) ∈ jTG := jin_3 (i := 106) rfl rfl
theorem w_3_107 : (Cond.methodLink "MailAgentModel" (94 : Nat) ({ cls := "MailAgentModel", name := "costs", desc := "()I" } : MethodName)) ∈ jTG := jin_3 (i := 107) rfl rfl
theorem w_3_109 : (Cond.instanceMethod ({ cls := "MailAgentModel", name := "costs", desc := "()I" } : MethodName)) ∈ jTG := jin_3 (i := 109) rfl rfl
theorem w_3_110 : (Cond.code ({ cls := "MailAgentModel", name := "costs", desc := "()I" } : MethodName) prog_10_method_13_code (3 : Nat) (Option.some FieldType.int)) ∈ jTG := jin_3 (i := 110) rfl rfl
theorem w_3_111 : (Cond.methodLink "MailAgentModel" (104 : Nat) ({ cls := "MailAgentModel", name := "settle", desc := "()I" } : MethodName)) ∈ jTG := jin_3 (i := 111) rfl rfl
theorem w_3_113 : (Cond.instanceMethod ({ cls := "MailAgentModel", name := "settle", desc := "()I" } : MethodName)) ∈ jTG := jin_3 (i := 113) rfl rfl
theorem w_3_114 : (Cond.code ({ cls := "MailAgentModel", name := "settle", desc := "()I" } : MethodName) prog_10_method_14_code (3 : Nat) (Option.some FieldType.int)) ∈ jTG := jin_3 (i := 114) rfl rfl
theorem w_3_115 : (Cond.methodLink "MailAgentLaw" (59 : Nat) ({ cls := "MailAgentModel", name := "tick", desc := "(I)I" } : MethodName)) ∈ jTG := jin_3 (i := 115) rfl rfl
theorem w_3_116 : (Cond.instanceMethod ({ cls := "MailAgentModel", name := "tick", desc := "(I)I" } : MethodName)) ∈ jTG := jin_3 (i := 116) rfl rfl
theorem w_3_117 : (Cond.selects "MailAgentModel" ({ cls := "MailAgentModel", name := "tick", desc := "(I)I" } : MethodName) ({ cls := "MailAgentModel", name := "tick", desc := "(I)I" } : MethodName)) ∈ jTG := jin_3 (i := 117) rfl rfl
theorem w_3_118 : (Cond.code ({ cls := "MailAgentModel", name := "tick", desc := "(I)I" } : MethodName) prog_10_method_23_code (5 : Nat) (Option.some FieldType.int)) ∈ jTG := jin_3 (i := 118) rfl rfl
theorem w_3_119 : (Cond.constant "MailAgentModel" (126 : Nat) (1000000 : Int32)) ∈ jTG := jin_3 (i := 119) rfl rfl
theorem w_3_120 : (Cond.methodLink "MailAgentModel" (127 : Nat) ({ cls := "MailAgentModel", name := "find", desc := "(I)I" } : MethodName)) ∈ jTG := jin_3 (i := 120) rfl rfl
theorem w_3_122 : (Cond.instanceMethod ({ cls := "MailAgentModel", name := "find", desc := "(I)I" } : MethodName)) ∈ jTG := jin_3 (i := 122) rfl rfl
theorem w_3_123 : (Cond.code ({ cls := "MailAgentModel", name := "find", desc := "(I)I" } : MethodName) prog_10_method_26_code (3 : Nat) (Option.some FieldType.int)) ∈ jTG := jin_3 (i := 123) rfl rfl
theorem w_3_124 : (Cond.methodLink "MailAgentModel" (130 : Nat) ({ cls := "MailAgentModel", name := "attempt", desc := "(I)I" } : MethodName)) ∈ jTG := jin_3 (i := 124) rfl rfl
theorem w_3_126 : (Cond.instanceMethod ({ cls := "MailAgentModel", name := "attempt", desc := "(I)I" } : MethodName)) ∈ jTG := jin_3 (i := 126) rfl rfl
theorem w_3_127 : (Cond.code ({ cls := "MailAgentModel", name := "attempt", desc := "(I)I" } : MethodName) prog_10_method_20_code (6 : Nat) (Option.some FieldType.int)) ∈ jTG := jin_3 (i := 127) rfl rfl
theorem w_3_128 : (Cond.methodLink "MailAgentModel" (107 : Nat) ({ cls := "MailAgentModel", name := "carrier", desc := "(I)I" } : MethodName)) ∈ jTG := jin_3 (i := 128) rfl rfl
theorem w_3_130 : (Cond.instanceMethod ({ cls := "MailAgentModel", name := "carrier", desc := "(I)I" } : MethodName)) ∈ jTG := jin_3 (i := 130) rfl rfl
theorem w_3_131 : (Cond.code ({ cls := "MailAgentModel", name := "carrier", desc := "(I)I" } : MethodName) prog_10_method_16_code (6 : Nat) (Option.some FieldType.int)) ∈ jTG := jin_3 (i := 131) rfl rfl
theorem w_3_132 : (Cond.methodLink "MailAgentModel" (111 : Nat) ({ cls := "MailAgentModel", name := "mark", desc := "(II)V" } : MethodName)) ∈ jTG := jin_3 (i := 132) rfl rfl
theorem w_3_134 : (Cond.instanceMethod ({ cls := "MailAgentModel", name := "mark", desc := "(II)V" } : MethodName)) ∈ jTG := jin_3 (i := 134) rfl rfl
theorem w_3_135 : (Cond.code ({ cls := "MailAgentModel", name := "mark", desc := "(II)V" } : MethodName) prog_10_method_18_code (3 : Nat) (Option.none : Option FieldType)) ∈ jTG := jin_3 (i := 135) rfl rfl
theorem w_3_136 : (Cond.methodLink "MailAgentModel" (115 : Nat) ({ cls := "MailAgentModel", name := "deliver", desc := "(II)V" } : MethodName)) ∈ jTG := jin_3 (i := 136) rfl rfl
theorem w_3_138 : (Cond.instanceMethod ({ cls := "MailAgentModel", name := "deliver", desc := "(II)V" } : MethodName)) ∈ jTG := jin_3 (i := 138) rfl rfl
theorem w_3_139 : (Cond.code ({ cls := "MailAgentModel", name := "deliver", desc := "(II)V" } : MethodName) prog_10_method_19_code (3 : Nat) (Option.none : Option FieldType)) ∈ jTG := jin_3 (i := 139) rfl rfl
theorem w_3_140 : (Cond.methodLink "MailAgentModel" (118 : Nat) ({ cls := "MailAgentModel", name := "states", desc := "(II)I" } : MethodName)) ∈ jTG := jin_3 (i := 140) rfl rfl
theorem w_3_142 : (Cond.instanceMethod ({ cls := "MailAgentModel", name := "states", desc := "(II)I" } : MethodName)) ∈ jTG := jin_3 (i := 142) rfl rfl
theorem w_3_143 : (Cond.code ({ cls := "MailAgentModel", name := "states", desc := "(II)I" } : MethodName) prog_10_method_17_code (5 : Nat) (Option.some FieldType.int)) ∈ jTG := jin_3 (i := 143) rfl rfl
theorem w_3_144 : (Cond.methodLink "MailAgentModel" (122 : Nat) ({ cls := "MailAgentModel", name := "remove", desc := "(I)V" } : MethodName)) ∈ jTG := jin_3 (i := 144) rfl rfl
theorem w_3_146 : (Cond.instanceMethod ({ cls := "MailAgentModel", name := "remove", desc := "(I)V" } : MethodName)) ∈ jTG := jin_3 (i := 146) rfl rfl
theorem w_3_147 : (Cond.code ({ cls := "MailAgentModel", name := "remove", desc := "(I)V" } : MethodName) prog_10_method_21_code (3 : Nat) (Option.none : Option FieldType)) ∈ jTG := jin_3 (i := 147) rfl rfl
theorem w_3_148 : (Cond.methodLink "MailAgentModel" (133 : Nat) ({ cls := "MailAgentModel", name := "close", desc := "()V" } : MethodName)) ∈ jTG := jin_3 (i := 148) rfl rfl
theorem w_3_150 : (Cond.instanceMethod ({ cls := "MailAgentModel", name := "close", desc := "()V" } : MethodName)) ∈ jTG := jin_3 (i := 150) rfl rfl
theorem w_3_151 : (Cond.code ({ cls := "MailAgentModel", name := "close", desc := "()V" } : MethodName) prog_10_method_22_code (1 : Nat) (Option.none : Option FieldType)) ∈ jTG := jin_3 (i := 151) rfl rfl
theorem w_3_152 : (Cond.methodLink "MailAgentLaw" (64 : Nat) ({ cls := "MailAgentModel", name := "sync", desc := "()I" } : MethodName)) ∈ jTG := jin_3 (i := 152) rfl rfl
theorem w_3_153 : (Cond.instanceMethod ({ cls := "MailAgentModel", name := "sync", desc := "()I" } : MethodName)) ∈ jTG := jin_3 (i := 153) rfl rfl
theorem w_3_154 : (Cond.selects "MailAgentModel" ({ cls := "MailAgentModel", name := "sync", desc := "()I" } : MethodName) ({ cls := "MailAgentModel", name := "sync", desc := "()I" } : MethodName)) ∈ jTG := jin_3 (i := 154) rfl rfl
theorem w_3_155 : (Cond.code ({ cls := "MailAgentModel", name := "sync", desc := "()I" } : MethodName) prog_10_method_24_code (1 : Nat) (Option.some FieldType.int)) ∈ jTG := jin_3 (i := 155) rfl rfl
theorem w_3_156 : (Cond.methodLink "MailAgentLaw" (68 : Nat) ({ cls := "MailAgentModel", name := "crash", desc := "()I" } : MethodName)) ∈ jTG := jin_3 (i := 156) rfl rfl
theorem w_3_157 : (Cond.instanceMethod ({ cls := "MailAgentModel", name := "crash", desc := "()I" } : MethodName)) ∈ jTG := jin_3 (i := 157) rfl rfl
theorem w_3_158 : (Cond.selects "MailAgentModel" ({ cls := "MailAgentModel", name := "crash", desc := "()I" } : MethodName) ({ cls := "MailAgentModel", name := "crash", desc := "()I" } : MethodName)) ∈ jTG := jin_3 (i := 158) rfl rfl
theorem w_3_159 : (Cond.code ({ cls := "MailAgentModel", name := "crash", desc := "()I" } : MethodName) prog_10_method_25_code (2 : Nat) (Option.some FieldType.int)) ∈ jTG := jin_3 (i := 159) rfl rfl
theorem w_3_160 : (Cond.methodLink "MailAgentLaw" (72 : Nat) ({ cls := "MailAgentModel", name := "drop", desc := "(I)I" } : MethodName)) ∈ jTG := jin_3 (i := 160) rfl rfl
theorem w_3_161 : (Cond.instanceMethod ({ cls := "MailAgentModel", name := "drop", desc := "(I)I" } : MethodName)) ∈ jTG := jin_3 (i := 161) rfl rfl
theorem w_3_162 : (Cond.selects "MailAgentModel" ({ cls := "MailAgentModel", name := "drop", desc := "(I)I" } : MethodName) ({ cls := "MailAgentModel", name := "drop", desc := "(I)I" } : MethodName)) ∈ jTG := jin_3 (i := 162) rfl rfl
theorem w_3_163 : (Cond.code ({ cls := "MailAgentModel", name := "drop", desc := "(I)I" } : MethodName) prog_10_method_27_code (3 : Nat) (Option.some FieldType.int)) ∈ jTG := jin_3 (i := 163) rfl rfl
theorem w_3_164 : (Cond.methodLink "MailAgentLaw" (76 : Nat) ({ cls := "MailAgentModel", name := "hurry", desc := "(I)I" } : MethodName)) ∈ jTG := jin_3 (i := 164) rfl rfl
theorem w_3_165 : (Cond.instanceMethod ({ cls := "MailAgentModel", name := "hurry", desc := "(I)I" } : MethodName)) ∈ jTG := jin_3 (i := 165) rfl rfl
theorem w_3_166 : (Cond.selects "MailAgentModel" ({ cls := "MailAgentModel", name := "hurry", desc := "(I)I" } : MethodName) ({ cls := "MailAgentModel", name := "hurry", desc := "(I)I" } : MethodName)) ∈ jTG := jin_3 (i := 166) rfl rfl
theorem w_3_167 : (Cond.code ({ cls := "MailAgentModel", name := "hurry", desc := "(I)I" } : MethodName) prog_10_method_28_code (3 : Nat) (Option.some FieldType.int)) ∈ jTG := jin_3 (i := 167) rfl rfl
theorem w_3_168 : (Cond.methodLink "MailAgentLaw" (80 : Nat) ({ cls := "MailAgentModel", name := "count", desc := "(I)I" } : MethodName)) ∈ jTG := jin_3 (i := 168) rfl rfl
theorem w_3_169 : (Cond.instanceMethod ({ cls := "MailAgentModel", name := "count", desc := "(I)I" } : MethodName)) ∈ jTG := jin_3 (i := 169) rfl rfl
theorem w_3_170 : (Cond.selects "MailAgentModel" ({ cls := "MailAgentModel", name := "count", desc := "(I)I" } : MethodName) ({ cls := "MailAgentModel", name := "count", desc := "(I)I" } : MethodName)) ∈ jTG := jin_3 (i := 170) rfl rfl
theorem w_3_171 : (Cond.code ({ cls := "MailAgentModel", name := "count", desc := "(I)I" } : MethodName) prog_10_method_29_code (4 : Nat) (Option.some FieldType.int)) ∈ jTG := jin_3 (i := 171) rfl rfl
theorem w_3_172 : (Cond.methodLink "MailAgentLaw" (84 : Nat) ({ cls := "MailAgentModel", name := "message", desc := "(I)I" } : MethodName)) ∈ jTG := jin_3 (i := 172) rfl rfl
theorem w_3_173 : (Cond.instanceMethod ({ cls := "MailAgentModel", name := "message", desc := "(I)I" } : MethodName)) ∈ jTG := jin_3 (i := 173) rfl rfl
theorem w_3_174 : (Cond.selects "MailAgentModel" ({ cls := "MailAgentModel", name := "message", desc := "(I)I" } : MethodName) ({ cls := "MailAgentModel", name := "message", desc := "(I)I" } : MethodName)) ∈ jTG := jin_3 (i := 174) rfl rfl
theorem w_3_175 : (Cond.code ({ cls := "MailAgentModel", name := "message", desc := "(I)I" } : MethodName) prog_10_method_30_code (2 : Nat) (Option.some FieldType.int)) ∈ jTG := jin_3 (i := 175) rfl rfl
theorem w_3_176 : (Cond.methodLink "MailAgentLaw" (88 : Nat) ({ cls := "MailAgentModel", name := "status", desc := "(II)I" } : MethodName)) ∈ jTG := jin_3 (i := 176) rfl rfl
theorem w_3_177 : (Cond.instanceMethod ({ cls := "MailAgentModel", name := "status", desc := "(II)I" } : MethodName)) ∈ jTG := jin_3 (i := 177) rfl rfl
theorem w_3_178 : (Cond.selects "MailAgentModel" ({ cls := "MailAgentModel", name := "status", desc := "(II)I" } : MethodName) ({ cls := "MailAgentModel", name := "status", desc := "(II)I" } : MethodName)) ∈ jTG := jin_3 (i := 178) rfl rfl
theorem w_3_179 : (Cond.code ({ cls := "MailAgentModel", name := "status", desc := "(II)I" } : MethodName) prog_10_method_31_code (5 : Nat) (Option.some FieldType.int)) ∈ jTG := jin_3 (i := 179) rfl rfl
theorem w_3_180 : (Cond.methodLink "MailAgentLaw" (92 : Nat) ({ cls := "MailAgentModel", name := "sender", desc := "(I)I" } : MethodName)) ∈ jTG := jin_3 (i := 180) rfl rfl
theorem w_3_181 : (Cond.instanceMethod ({ cls := "MailAgentModel", name := "sender", desc := "(I)I" } : MethodName)) ∈ jTG := jin_3 (i := 181) rfl rfl
theorem w_3_182 : (Cond.selects "MailAgentModel" ({ cls := "MailAgentModel", name := "sender", desc := "(I)I" } : MethodName) ({ cls := "MailAgentModel", name := "sender", desc := "(I)I" } : MethodName)) ∈ jTG := jin_3 (i := 182) rfl rfl
theorem w_3_183 : (Cond.code ({ cls := "MailAgentModel", name := "sender", desc := "(I)I" } : MethodName) prog_10_method_32_code (3 : Nat) (Option.some FieldType.int)) ∈ jTG := jin_3 (i := 183) rfl rfl
theorem w_3_184 : (Cond.methodLink "MailAgentLaw" (96 : Nat) ({ cls := "MailAgentModel", name := "due", desc := "(I)I" } : MethodName)) ∈ jTG := jin_3 (i := 184) rfl rfl
theorem w_3_185 : (Cond.instanceMethod ({ cls := "MailAgentModel", name := "due", desc := "(I)I" } : MethodName)) ∈ jTG := jin_3 (i := 185) rfl rfl
theorem w_3_186 : (Cond.selects "MailAgentModel" ({ cls := "MailAgentModel", name := "due", desc := "(I)I" } : MethodName) ({ cls := "MailAgentModel", name := "due", desc := "(I)I" } : MethodName)) ∈ jTG := jin_3 (i := 186) rfl rfl
theorem w_3_187 : (Cond.code ({ cls := "MailAgentModel", name := "due", desc := "(I)I" } : MethodName) prog_10_method_33_code (3 : Nat) (Option.some FieldType.int)) ∈ jTG := jin_3 (i := 187) rfl rfl
theorem w_3_188 : (Cond.methodLink "MailAgentLaw" (100 : Nat) ({ cls := "MailAgentModel", name := "received", desc := "(II)I" } : MethodName)) ∈ jTG := jin_3 (i := 188) rfl rfl
theorem w_3_189 : (Cond.instanceMethod ({ cls := "MailAgentModel", name := "received", desc := "(II)I" } : MethodName)) ∈ jTG := jin_3 (i := 189) rfl rfl
theorem w_3_190 : (Cond.selects "MailAgentModel" ({ cls := "MailAgentModel", name := "received", desc := "(II)I" } : MethodName) ({ cls := "MailAgentModel", name := "received", desc := "(II)I" } : MethodName)) ∈ jTG := jin_3 (i := 190) rfl rfl
theorem w_3_191 : (Cond.code ({ cls := "MailAgentModel", name := "received", desc := "(II)I" } : MethodName) prog_10_method_34_code (3 : Nat) (Option.some FieldType.int)) ∈ jTG := jin_3 (i := 191) rfl rfl
theorem w_s_0 : Cond.selects "MailAgent$Aliases" ⟨"MailAgent$Aliases", "reachedFrom", "(I)J"⟩ ⟨"MailAgent$Aliases", "reachedFrom", "(I)J"⟩ ∈ jTG := List.mem_filter.mpr ⟨List.mem_append_left _ (List.mem_map.mpr ⟨lw_privs[0], List.getElem_mem _, rfl⟩), rfl⟩
theorem w_s_1 : Cond.selects "MailAgent" ⟨"MailAgent", "makeDurable", "()V"⟩ ⟨"MailAgent", "makeDurable", "()V"⟩ ∈ jTG := List.mem_filter.mpr ⟨List.mem_append_left _ (List.mem_map.mpr ⟨lw_privs[1], List.getElem_mem _, rfl⟩), rfl⟩
theorem w_s_2 : Cond.selects "MailAgent" ⟨"MailAgent", "tryRecipients", "(LMailAgent$Message;)I"⟩ ⟨"MailAgent", "tryRecipients", "(LMailAgent$Message;)I"⟩ ∈ jTG := List.mem_filter.mpr ⟨List.mem_append_left _ (List.mem_map.mpr ⟨lw_privs[2], List.getElem_mem _, rfl⟩), rfl⟩
theorem w_s_3 : Cond.selects "MailAgent" ⟨"MailAgent", "carry", "(I)I"⟩ ⟨"MailAgent", "carry", "(I)I"⟩ ∈ jTG := List.mem_filter.mpr ⟨List.mem_append_left _ (List.mem_map.mpr ⟨lw_privs[3], List.getElem_mem _, rfl⟩), rfl⟩
theorem w_s_4 : Cond.selects "MailAgent" ⟨"MailAgent", "failOverdue", "(LMailAgent$Message;)V"⟩ ⟨"MailAgent", "failOverdue", "(LMailAgent$Message;)V"⟩ ∈ jTG := List.mem_filter.mpr ⟨List.mem_append_left _ (List.mem_map.mpr ⟨lw_privs[4], List.getElem_mem _, rfl⟩), rfl⟩
theorem w_s_5 : Cond.selects "MailAgent" ⟨"MailAgent", "settle", "(LMailAgent$Message;)Z"⟩ ⟨"MailAgent", "settle", "(LMailAgent$Message;)Z"⟩ ∈ jTG := List.mem_filter.mpr ⟨List.mem_append_left _ (List.mem_map.mpr ⟨lw_privs[5], List.getElem_mem _, rfl⟩), rfl⟩
theorem w_s_6 : Cond.selects "MailAgent" ⟨"MailAgent", "keepChangesFew", "()V"⟩ ⟨"MailAgent", "keepChangesFew", "()V"⟩ ∈ jTG := List.mem_filter.mpr ⟨List.mem_append_left _ (List.mem_map.mpr ⟨lw_privs[6], List.getElem_mem _, rfl⟩), rfl⟩
theorem w_s_7 : Cond.selects "MailAgentModel" ⟨"MailAgentModel", "reached", "(I)J"⟩ ⟨"MailAgentModel", "reached", "(I)J"⟩ ∈ jTG := List.mem_filter.mpr ⟨List.mem_append_left _ (List.mem_map.mpr ⟨lw_privs[7], List.getElem_mem _, rfl⟩), rfl⟩
theorem w_s_8 : Cond.selects "MailAgentModel" ⟨"MailAgentModel", "named", "(I)Z"⟩ ⟨"MailAgentModel", "named", "(I)Z"⟩ ∈ jTG := List.mem_filter.mpr ⟨List.mem_append_left _ (List.mem_map.mpr ⟨lw_privs[8], List.getElem_mem _, rfl⟩), rfl⟩
theorem w_s_9 : Cond.selects "MailAgentModel" ⟨"MailAgentModel", "costs", "()I"⟩ ⟨"MailAgentModel", "costs", "()I"⟩ ∈ jTG := List.mem_filter.mpr ⟨List.mem_append_left _ (List.mem_map.mpr ⟨lw_privs[9], List.getElem_mem _, rfl⟩), rfl⟩
theorem w_s_10 : Cond.selects "MailAgentModel" ⟨"MailAgentModel", "settle", "()I"⟩ ⟨"MailAgentModel", "settle", "()I"⟩ ∈ jTG := List.mem_filter.mpr ⟨List.mem_append_left _ (List.mem_map.mpr ⟨lw_privs[10], List.getElem_mem _, rfl⟩), rfl⟩
theorem w_s_11 : Cond.selects "MailAgentModel" ⟨"MailAgentModel", "find", "(I)I"⟩ ⟨"MailAgentModel", "find", "(I)I"⟩ ∈ jTG := List.mem_filter.mpr ⟨List.mem_append_left _ (List.mem_map.mpr ⟨lw_privs[11], List.getElem_mem _, rfl⟩), rfl⟩
theorem w_s_12 : Cond.selects "MailAgentModel" ⟨"MailAgentModel", "attempt", "(I)I"⟩ ⟨"MailAgentModel", "attempt", "(I)I"⟩ ∈ jTG := List.mem_filter.mpr ⟨List.mem_append_left _ (List.mem_map.mpr ⟨lw_privs[12], List.getElem_mem _, rfl⟩), rfl⟩
theorem w_s_13 : Cond.selects "MailAgentModel" ⟨"MailAgentModel", "carrier", "(I)I"⟩ ⟨"MailAgentModel", "carrier", "(I)I"⟩ ∈ jTG := List.mem_filter.mpr ⟨List.mem_append_left _ (List.mem_map.mpr ⟨lw_privs[13], List.getElem_mem _, rfl⟩), rfl⟩
theorem w_s_14 : Cond.selects "MailAgentModel" ⟨"MailAgentModel", "mark", "(II)V"⟩ ⟨"MailAgentModel", "mark", "(II)V"⟩ ∈ jTG := List.mem_filter.mpr ⟨List.mem_append_left _ (List.mem_map.mpr ⟨lw_privs[14], List.getElem_mem _, rfl⟩), rfl⟩
theorem w_s_15 : Cond.selects "MailAgentModel" ⟨"MailAgentModel", "deliver", "(II)V"⟩ ⟨"MailAgentModel", "deliver", "(II)V"⟩ ∈ jTG := List.mem_filter.mpr ⟨List.mem_append_left _ (List.mem_map.mpr ⟨lw_privs[15], List.getElem_mem _, rfl⟩), rfl⟩
theorem w_s_16 : Cond.selects "MailAgentModel" ⟨"MailAgentModel", "states", "(II)I"⟩ ⟨"MailAgentModel", "states", "(II)I"⟩ ∈ jTG := List.mem_filter.mpr ⟨List.mem_append_left _ (List.mem_map.mpr ⟨lw_privs[16], List.getElem_mem _, rfl⟩), rfl⟩
theorem w_s_17 : Cond.selects "MailAgentModel" ⟨"MailAgentModel", "remove", "(I)V"⟩ ⟨"MailAgentModel", "remove", "(I)V"⟩ ∈ jTG := List.mem_filter.mpr ⟨List.mem_append_left _ (List.mem_map.mpr ⟨lw_privs[17], List.getElem_mem _, rfl⟩), rfl⟩
theorem w_s_18 : Cond.selects "MailAgentModel" ⟨"MailAgentModel", "close", "()V"⟩ ⟨"MailAgentModel", "close", "()V"⟩ ∈ jTG := List.mem_filter.mpr ⟨List.mem_append_left _ (List.mem_map.mpr ⟨lw_privs[18], List.getElem_mem _, rfl⟩), rfl⟩
end
section
/-! Walking kit: abstract heaps (an address to a cell), one judgement jJ for a method's body, one row an instruction, contracts jC. -/
abbrev jH : Type := Nat → Option va_E
def jset (h : jH) (a : Nat) (e : va_E) : jH := fun q => if q = a then some e else h q
theorem jset_s {h : jH} {a : Nat} {e : va_E} : jset h a e a = some e := if_pos rfl
theorem jset_n {h : jH} {a q : Nat} {e : va_E} (hq : q ≠ a) : jset h a e q = h q := if_neg hq
abbrev jE : Type := va_G × (Nat → ClassId) × Nat
abbrev jI (E : jE) (n : Nat) (f : Nat → Int32) : va_E := .inl (E.2.1 0, n, .inl f)
abbrev jL (E : jE) (n : Nat) (f : Nat → Int64) : va_E := .inl (E.2.1 1, n, .inr (.inl f))
abbrev jQa (E : jE) (t n : Nat) (f : Nat → Option Nat) : va_E := .inl (E.2.1 t, n, .inr (.inr (.inr (.inr f))))
abbrev jO (ci : Nat) (fs : List Value) : va_E := .inr (ci, fs)
def jR (E : jE) (h : jH) (sz : Nat) (H : Heap) : Prop := H.size = sz ∧ ∀ (a : Nat) (e : va_E), h a = some e → E.2.2 ≤ a ∧ va_at E.1 jCl (a, e) H
def jK (E : jE) (U : State) : Prop := va_K E.1 jCl (jTys E.2.1) U ∧ (∀ q ∈ jNM, va_Nw (.methodLinkNest q.1 q.2.1 q.2.2.1 q.2.2.2) U) ∧ ∀ C ∈ jAO, va_AO C U
theorem jK.warm {E : jE} {s U : State} (hW : s.WarmedH U.vm) (h : jK E s) : jK E U :=
  ⟨va_K.moved hW.alike h.1, fun q hq => va_Nw.warmM hW (h.2.1 q hq), fun C hC => va_AO.moved hW.alike (h.2.2 C hC)⟩
theorem jK.same {E : jE} {u U : State} (hv : u.vm = U.vm) (h : jK E u) : jK E U :=
  ⟨va_K.moved (by rw [← hv]; exact Vm.Alike.refl _) h.1, fun q hq => va_Nw.same rfl hv (h.2.1 q hq), fun C hC => va_AO.moved (by rw [← hv]; exact Vm.Alike.refl _) (h.2.2 C hC)⟩
theorem jR.set {E : jE} {h : jH} {sz a : Nat} {e0 e : va_E} {H H1 : Heap} (hR : jR E h sz H) (ha : h a = some e0) (he : va_at E.1 jCl (a, e) H1) (z : H1.size = H.size) (oq : ∀ q : Nat, q ≠ a → H1[q]? = H[q]?) : jR E (jset h a e) sz H1 := by
  refine ⟨z.trans hR.1, fun b e1 hb => ?_⟩
  by_cases hba : b = a
  · subst hba
    rw [jset_s] at hb
    cases hb
    exact ⟨(hR.2 b e0 ha).1, he⟩
  · rw [jset_n hba] at hb
    exact ⟨(hR.2 b e1 hb).1, (hR.2 b e1 hb).2.kept (oq b hba)⟩
theorem jR.push {E : jE} {h : jH} {sz : Nat} {e : va_E} {H H1 : Heap} (hR : jR E h sz H) (hB : E.2.2 ≤ sz) (he : va_at E.1 jCl (sz, e) H1) (z : H1.size = sz + 1) (oq : ∀ q : Nat, q < sz → H1[q]? = H[q]?) : jR E (jset h sz e) (sz + 1) H1 := by
  refine ⟨z, fun b e1 hb => ?_⟩
  by_cases hba : b = sz
  · subst hba
    rw [jset_s] at hb
    cases hb
    exact ⟨hB, he⟩
  · rw [jset_n hba] at hb
    have hlt : b < sz := by have := (hR.2 b e1 hb).2.lt; rw [hR.1] at this; exact this
    exact ⟨(hR.2 b e1 hb).1, (hR.2 b e1 hb).2.kept (oq b hlt)⟩
theorem jR.one {E : jE} {h : jH} {sz a : Nat} {e : va_E} {H : Heap} (hR : jR E h sz H) (ha : h a = some e) : va_P E.1 jCl [(a, e)] H := by
  intro k q hk
  cases k with
  | zero => rw [List.getElem?_cons_zero] at hk; cases hk; exact (hR.2 a e ha).2
  | succ n => simp at hk
/-- the context of a method's body -/
abbrev jX : Type := Program × Launch × Env × Room × State × MethodId × Array Value × List Frame × Method × Code
abbrev jxR (x : jX) : Room := x.2.2.2.1
abbrev jxs (x : jX) : State := x.2.2.2.2.1
abbrev jxm (x : jX) : MethodId := x.2.2.2.2.2.1
abbrev jxa (x : jX) : Array Value := x.2.2.2.2.2.2.1
abbrev jxb (x : jX) : List Frame := x.2.2.2.2.2.2.2.1
abbrev jxe (x : jX) : Method := x.2.2.2.2.2.2.2.2.1
abbrev jxc (x : jX) : Code := x.2.2.2.2.2.2.2.2.2
abbrev jW (x : jX) (H : Heap) (locs : List Loc) (ce sl : Nat) (Q : State → Prop) (g : JFrame) : Prop := W x.1 x.2.1 x.2.2.1 (jxR x) (jxs x) (jxm x) (jxa x) (jxb x) (jxe x) (jxc x) H locs ce sl Q g
/-- a method: name, code, locals, return type -/
abbrev jM : Type := jM0
def jOk (x : jX) (M : jM) (E : jE) (d mc ms : Nat) : Prop :=
  x.1.tables.exec = Jvm.exec ∧ (jxc x).code = M.2.1 ∧ (jxc x).maxLocals = M.2.2.1 ∧ (jxs x).vm.findClass M.1.cls = some (jxm x).cls ∧ (∀ w ∈ jTG, w.before (jxa x) (jxs x) = true) ∧ jK E (jxs x) ∧
  (d ≤ (jxR x).frames ∧ 40 * d ≤ (jxR x).locals ∧ mc ≤ (jxR x).cells ∧ ms ≤ (jxR x).slots) ∧ (jxe x).sig.returnType = M.2.2.2 ∧ (jxe x).locks = false ∧ E.2.2 ≤ (jxs x).heap.size ∧ (jxe x).name = M.1.name
theorem jOk.exec {x : jX} {M : jM} {E : jE} {d mc ms : Nat} (h : jOk x M E d mc ms) : x.1.tables.exec = Jvm.exec := h.1
theorem jOk.code {x : jX} {M : jM} {E : jE} {d mc ms : Nat} (h : jOk x M E d mc ms) : (jxc x).code = M.2.1 := h.2.1
theorem jOk.maxl {x : jX} {M : jM} {E : jE} {d mc ms : Nat} (h : jOk x M E d mc ms) : (jxc x).maxLocals = M.2.2.1 := h.2.2.1
theorem jOk.own {x : jX} {M : jM} {E : jE} {d mc ms : Nat} (h : jOk x M E d mc ms) : (jxs x).vm.findClass M.1.cls = some (jxm x).cls := h.2.2.2.1
theorem jOk.ts {x : jX} {M : jM} {E : jE} {d mc ms : Nat} (h : jOk x M E d mc ms) : ∀ w ∈ jTG, w.before (jxa x) (jxs x) = true := h.2.2.2.2.1
theorem jOk.K {x : jX} {M : jM} {E : jE} {d mc ms : Nat} (h : jOk x M E d mc ms) : jK E (jxs x) := h.2.2.2.2.2.1
theorem jOk.room {x : jX} {M : jM} {E : jE} {d mc ms : Nat} (h : jOk x M E d mc ms) : d ≤ (jxR x).frames ∧ 40 * d ≤ (jxR x).locals ∧ mc ≤ (jxR x).cells ∧ ms ≤ (jxR x).slots := h.2.2.2.2.2.2.1
theorem jOk.ret {x : jX} {M : jM} {E : jE} {d mc ms : Nat} (h : jOk x M E d mc ms) : (jxe x).sig.returnType = M.2.2.2 := h.2.2.2.2.2.2.2.1
theorem jOk.locks {x : jX} {M : jM} {E : jE} {d mc ms : Nat} (h : jOk x M E d mc ms) : (jxe x).locks = false := h.2.2.2.2.2.2.2.2.1
theorem jOk.base {x : jX} {M : jM} {E : jE} {d mc ms : Nat} (h : jOk x M E d mc ms) : E.2.2 ≤ (jxs x).heap.size := h.2.2.2.2.2.2.2.2.2.1
theorem jOk.name {x : jX} {M : jM} {E : jE} {d mc ms : Nat} (h : jOk x M E d mc ms) : (jxe x).name = M.1.name := h.2.2.2.2.2.2.2.2.2.2
def jJ (x : jX) (M : jM) (E : jE) (Q : State → Prop) (h : jH) (sz ce sl : Nat) (lv : List (Nat × Value)) (pc : Nat) (st : List Value) : Prop :=
  ∀ (H : Heap) (locs : List Loc) (ls : Array Slot), jR E h sz H → va_S (fun q => E.2.2 ≤ q) (jxs x).heap H locs → lv_has ls M.2.2.1 lv → jW x H locs ce sl Q (F0 (jxm x) pc ls st)
def jlv (lv : List (Nat × Value)) (i : Nat) : Option Value := (lv.find? (fun q => q.1 == i)).map (fun q => q.2)
def jst1 (lv : List (Nat × Value)) (i : Nat) (v : Value) : List (Nat × Value) := (i, v) :: lv.filter (fun q => !(q.1 == i) && !(q.1 + 1 == i && q.2.category == 2))
def jst2 (lv : List (Nat × Value)) (i : Nat) (v : Value) : List (Nat × Value) := (i, v) :: lv.filter (fun q => !(q.1 == i) && (!(q.1 == i + 1) && !(q.1 + 1 == i && q.2.category == 2)))
theorem jlv_mem {lv : List (Nat × Value)} {i : Nat} {v : Value} (h : jlv lv i = some v) : (i, v) ∈ lv := by
  unfold jlv at h
  cases hf : lv.find? (fun q => q.1 == i) with
  | none => rw [hf] at h; cases h
  | some q =>
    rw [hf] at h
    have h1 := List.find?_some hf
    have h2 := List.mem_of_find?_eq_some hf
    have h3 : q.1 = i := by simpa using h1
    have h4 : q.2 = v := by simpa using h
    rw [← h3, ← h4]
    exact h2
theorem jlv_at {ls : Array Slot} {nL : Nat} {lv : List (Nat × Value)} {i : Nat} {v : Value} (hl : lv_has ls nL lv) (h : jlv lv i = some v) : ls[i]? = some (.val v) := hl.2.2 (i, v) (jlv_mem h)
/-- the locals lv bear at least what lv' says -/
def jSub (lv : List (Nat × Value)) : List (Nat × Value) → Prop
  | [] => True
  | q :: r => jlv lv q.1 = some q.2 ∧ jSub lv r
theorem jSub_all {lv : List (Nat × Value)} : ∀ {lv' : List (Nat × Value)}, jSub lv lv' → ∀ q ∈ lv', q ∈ lv
  | [], _, q, hq => absurd hq List.not_mem_nil
  | r :: lv', h, q, hq => by
    rcases List.mem_cons.mp hq with e | e
    · subst e; exact jlv_mem h.1
    · exact jSub_all h.2 q e
section JRules
variable {x : jX} {M : jM} {E : jE} {Q : State → Prop} {h : jH} {sz ce sl d mc ms pc : Nat} {lv : List (Nat × Value)} {st : List Value}
theorem j_lv {lv' : List (Nat × Value)} (hs : jSub lv lv') (kk : jJ x M E Q h sz ce sl lv' pc st) : jJ x M E Q h sz ce sl lv pc st := fun H locs ls hR hS hl => kk H locs ls hR hS ⟨hl.1, hl.2.1, fun q hq => hl.2.2 q (jSub_all hs q hq)⟩
theorem j_cs {ce' sl' : Nat} (h1 : ce ≤ ce') (h2 : sl ≤ sl') (kk : jJ x M E Q h sz ce' sl' lv pc st) : jJ x M E Q h sz ce sl lv pc st := fun H locs ls hR hS hl => W.widen h1 h2 (kk H locs ls hR hS hl)
theorem j_eq {h' : jH} {sz' ce' sl' pc' : Nat} {lv' : List (Nat × Value)} {st' : List Value} (kk : jJ x M E Q h' sz' ce' sl' lv' pc' st') (e1 : h = h') (e2 : sz = sz') (e3 : ce = ce') (e4 : sl = sl') (e5 : lv = lv') (e6 : pc = pc') (e7 : st = st') : jJ x M E Q h sz ce sl lv pc st := by
  subst e1; subst e2; subst e3; subst e4; subst e5; subst e6; subst e7; exact kk
theorem j_top {v v' : Value} (e : v = v') (kk : jJ x M E Q h sz ce sl lv pc (v' :: st)) : jJ x M E Q h sz ce sl lv pc (v :: st) := e ▸ kk
theorem j_iconst (C0 : jOk x M E d mc ms) {n : Int} {v : Int32} (hd : decode M.2.1 pc = .ok (.iconst n, 1)) (hv : Int32.ofInt n = v) (kk : jJ x M E Q h sz ce sl lv (pc + 1) (.int v :: st)) : jJ x M E Q h sz ce sl lv pc (st) := fun H locs ls hR hS hl => lv_iconst C0.exec C0.code hd hv (kk H locs ls hR hS hl)
theorem j_bipush (C0 : jOk x M E d mc ms) {n : Int} {v : Int32} (hd : decode M.2.1 pc = .ok (.bipush n, 2)) (hv : (Int8.ofInt n).toInt32 = v) (kk : jJ x M E Q h sz ce sl lv (pc + 2) (.int v :: st)) : jJ x M E Q h sz ce sl lv pc (st) := fun H locs ls hR hS hl => lv_bipush C0.exec C0.code hd hv (kk H locs ls hR hS hl)
theorem j_sipush (C0 : jOk x M E d mc ms) {n : Int} {v : Int32} (hd : decode M.2.1 pc = .ok (.sipush n, 3)) (hv : (Int16.ofInt n).toInt32 = v) (kk : jJ x M E Q h sz ce sl lv (pc + 3) (.int v :: st)) : jJ x M E Q h sz ce sl lv pc (st) := fun H locs ls hR hS hl => lv_sipush C0.exec C0.code hd hv (kk H locs ls hR hS hl)
theorem j_lconst (C0 : jOk x M E d mc ms) {n : Fin 2} {v : Int64} (hd : decode M.2.1 pc = .ok (.lconst n, 1)) (hv : Int64.ofNat (n : Nat) = v) (kk : jJ x M E Q h sz ce sl lv (pc + 1) (.long v :: st)) : jJ x M E Q h sz ce sl lv pc (st) := fun H locs ls hR hS hl => lv_lconst C0.exec C0.code hd hv (kk H locs ls hR hS hl)
theorem j_ldc (C0 : jOk x M E d mc ms) {idx : Nat} {v : Int32} (hd : decode M.2.1 pc = .ok (.ldc idx, 2)) (hw : Cond.constant M.1.cls idx v ∈ jTG) (kk : jJ x M E Q h sz ce sl lv (pc + 2) (.int v :: st)) : jJ x M E Q h sz ce sl lv pc (st) := fun H locs ls hR hS hl => lv_ldc C0.exec C0.code C0.own (C0.ts _ hw) hd (kk H locs ls hR hS hl)
theorem j_ldc2 (C0 : jOk x M E d mc ms) {idx : Nat} {v : Int64} (hd : decode M.2.1 pc = .ok (.ldc2_w idx, 3)) (hw : Cond.constantLong M.1.cls idx v ∈ jTG) (kk : jJ x M E Q h sz ce sl lv (pc + 3) (.long v :: st)) : jJ x M E Q h sz ce sl lv pc (st) := fun H locs ls hR hS hl => lv_ldc2 C0.exec C0.code C0.own (C0.ts _ hw) hd (kk H locs ls hR hS hl)
theorem j_iload_n (C0 : jOk x M E d mc ms) {k : Fin 4} {i : Nat} {v : Int32} (hd : decode M.2.1 pc = .ok (.iload_n k, 1)) (hi : (k : Nat) = i) (hv : jlv lv i = some (.int v)) (kk : jJ x M E Q h sz ce sl lv (pc + 1) (.int v :: st)) : jJ x M E Q h sz ce sl lv pc (st) := fun H locs ls hR hS hl => lv_iload_n C0.exec C0.code hd hi (jlv_at hl hv) (kk H locs ls hR hS hl)
theorem j_iload (C0 : jOk x M E d mc ms) {i : Nat} {v : Int32} (hd : decode M.2.1 pc = .ok (.iload i, 2)) (hv : jlv lv i = some (.int v)) (kk : jJ x M E Q h sz ce sl lv (pc + 2) (.int v :: st)) : jJ x M E Q h sz ce sl lv pc (st) := fun H locs ls hR hS hl => lv_iload C0.exec C0.code hd (jlv_at hl hv) (kk H locs ls hR hS hl)
theorem j_istore_n (C0 : jOk x M E d mc ms) {k : Fin 4} {i : Nat} {v : Int32} (hd : decode M.2.1 pc = .ok (.istore_n k, 1)) (hi : (k : Nat) = i) (hn : i < M.2.2.1) (kk : jJ x M E Q h sz ce sl (jst1 lv i (.int v)) (pc + 1) (st)) : jJ x M E Q h sz ce sl lv pc (.int v :: st) := fun H locs ls hR hS hl => lv_istore_n C0.exec C0.code hd hi hl hn rfl (fun ls hl => kk H locs ls hR hS hl)
theorem j_istore (C0 : jOk x M E d mc ms) {i : Nat} {v : Int32} (hd : decode M.2.1 pc = .ok (.istore i, 2)) (hn : i < M.2.2.1) (kk : jJ x M E Q h sz ce sl (jst1 lv i (.int v)) (pc + 2) (st)) : jJ x M E Q h sz ce sl lv pc (.int v :: st) := fun H locs ls hR hS hl => lv_istore C0.exec C0.code hd hl hn rfl (fun ls hl => kk H locs ls hR hS hl)
theorem j_lload_n (C0 : jOk x M E d mc ms) {k : Fin 4} {i : Nat} {v : Int64} (hd : decode M.2.1 pc = .ok (.lload_n k, 1)) (hi : (k : Nat) = i) (hv : jlv lv i = some (.long v)) (kk : jJ x M E Q h sz ce sl lv (pc + 1) (.long v :: st)) : jJ x M E Q h sz ce sl lv pc (st) := fun H locs ls hR hS hl => lv_lload_n C0.exec C0.code hd hi (jlv_at hl hv) (kk H locs ls hR hS hl)
theorem j_lload (C0 : jOk x M E d mc ms) {i : Nat} {v : Int64} (hd : decode M.2.1 pc = .ok (.lload i, 2)) (hv : jlv lv i = some (.long v)) (kk : jJ x M E Q h sz ce sl lv (pc + 2) (.long v :: st)) : jJ x M E Q h sz ce sl lv pc (st) := fun H locs ls hR hS hl => lv_lload C0.exec C0.code hd (jlv_at hl hv) (kk H locs ls hR hS hl)
theorem j_lstore_n (C0 : jOk x M E d mc ms) {k : Fin 4} {i : Nat} {v : Int64} (hd : decode M.2.1 pc = .ok (.lstore_n k, 1)) (hi : (k : Nat) = i) (hn : i + 1 < M.2.2.1) (kk : jJ x M E Q h sz ce sl (jst2 lv i (.long v)) (pc + 1) (st)) : jJ x M E Q h sz ce sl lv pc (.long v :: st) := fun H locs ls hR hS hl => lv_lstore_n C0.exec C0.code hd hi hl hn rfl (fun ls hl => kk H locs ls hR hS hl)
theorem j_lstore (C0 : jOk x M E d mc ms) {i : Nat} {v : Int64} (hd : decode M.2.1 pc = .ok (.lstore i, 2)) (hn : i + 1 < M.2.2.1) (kk : jJ x M E Q h sz ce sl (jst2 lv i (.long v)) (pc + 2) (st)) : jJ x M E Q h sz ce sl lv pc (.long v :: st) := fun H locs ls hR hS hl => lv_lstore C0.exec C0.code hd hl hn rfl (fun ls hl => kk H locs ls hR hS hl)
theorem j_aload_n (C0 : jOk x M E d mc ms) {k : Fin 4} {i : Nat} {v : Nat} (hd : decode M.2.1 pc = .ok (.aload_n k, 1)) (hi : (k : Nat) = i) (hv : jlv lv i = some (.ref v)) (kk : jJ x M E Q h sz ce sl lv (pc + 1) (.ref v :: st)) : jJ x M E Q h sz ce sl lv pc (st) := fun H locs ls hR hS hl => lv_aload_n C0.exec C0.code hd hi (jlv_at hl hv) (kk H locs ls hR hS hl)
theorem j_aload (C0 : jOk x M E d mc ms) {i : Nat} {v : Nat} (hd : decode M.2.1 pc = .ok (.aload i, 2)) (hv : jlv lv i = some (.ref v)) (kk : jJ x M E Q h sz ce sl lv (pc + 2) (.ref v :: st)) : jJ x M E Q h sz ce sl lv pc (st) := fun H locs ls hR hS hl => lv_aload C0.exec C0.code hd (jlv_at hl hv) (kk H locs ls hR hS hl)
theorem j_astore_n (C0 : jOk x M E d mc ms) {k : Fin 4} {i : Nat} {v : Nat} (hd : decode M.2.1 pc = .ok (.astore_n k, 1)) (hi : (k : Nat) = i) (hn : i < M.2.2.1) (kk : jJ x M E Q h sz ce sl (jst1 lv i (.ref v)) (pc + 1) (st)) : jJ x M E Q h sz ce sl lv pc (.ref v :: st) := fun H locs ls hR hS hl => lv_astore_n C0.exec C0.code hd hi hl hn rfl (fun ls hl => kk H locs ls hR hS hl)
theorem j_astore (C0 : jOk x M E d mc ms) {i : Nat} {v : Nat} (hd : decode M.2.1 pc = .ok (.astore i, 2)) (hn : i < M.2.2.1) (kk : jJ x M E Q h sz ce sl (jst1 lv i (.ref v)) (pc + 2) (st)) : jJ x M E Q h sz ce sl lv pc (.ref v :: st) := fun H locs ls hR hS hl => lv_astore C0.exec C0.code hd hl hn rfl (fun ls hl => kk H locs ls hR hS hl)
theorem j_iinc (C0 : jOk x M E d mc ms) {i : Nat} {n : Int} {v v' : Int32} (hd : decode M.2.1 pc = .ok (.iinc i n, 3)) (hv : jlv lv i = some (.int v)) (hv' : v + Int32.ofInt n = v') (hn : i < M.2.2.1) (kk : jJ x M E Q h sz ce sl (jst1 lv i (.int v')) (pc + 3) st) : jJ x M E Q h sz ce sl lv pc st := by
  intro H locs ls hR hS hl
  obtain ⟨k, hk⟩ := List.getElem?_of_mem (jlv_mem hv)
  exact lv_iinc C0.exec C0.code hd hl hk hv' hn rfl (fun ls hl => kk H locs ls hR hS hl)
theorem j_iadd (C0 : jOk x M E d mc ms) {v w : Int32} (hd : decode M.2.1 pc = .ok (.iadd, 1)) (kk : jJ x M E Q h sz ce sl lv (pc + 1) (.int (v + w) :: st)) : jJ x M E Q h sz ce sl lv pc (.int w :: .int v :: st) := fun H locs ls hR hS hl => lv_iadd C0.exec C0.code hd (kk H locs ls hR hS hl)
theorem j_isub (C0 : jOk x M E d mc ms) {v w : Int32} (hd : decode M.2.1 pc = .ok (.isub, 1)) (kk : jJ x M E Q h sz ce sl lv (pc + 1) (.int (v - w) :: st)) : jJ x M E Q h sz ce sl lv pc (.int w :: .int v :: st) := fun H locs ls hR hS hl => lv_isub C0.exec C0.code hd (kk H locs ls hR hS hl)
theorem j_imul (C0 : jOk x M E d mc ms) {v w : Int32} (hd : decode M.2.1 pc = .ok (.imul, 1)) (kk : jJ x M E Q h sz ce sl lv (pc + 1) (.int (v * w) :: st)) : jJ x M E Q h sz ce sl lv pc (.int w :: .int v :: st) := fun H locs ls hR hS hl => lv_imul C0.exec C0.code hd (kk H locs ls hR hS hl)
theorem j_iand (C0 : jOk x M E d mc ms) {v w : Int32} (hd : decode M.2.1 pc = .ok (.iand, 1)) (kk : jJ x M E Q h sz ce sl lv (pc + 1) (.int (v &&& w) :: st)) : jJ x M E Q h sz ce sl lv pc (.int w :: .int v :: st) := fun H locs ls hR hS hl => lv_iand C0.exec C0.code hd (kk H locs ls hR hS hl)
theorem j_ior (C0 : jOk x M E d mc ms) {v w : Int32} (hd : decode M.2.1 pc = .ok (.ior, 1)) (kk : jJ x M E Q h sz ce sl lv (pc + 1) (.int (v ||| w) :: st)) : jJ x M E Q h sz ce sl lv pc (.int w :: .int v :: st) := fun H locs ls hR hS hl => lv_ior C0.exec C0.code hd (kk H locs ls hR hS hl)
theorem j_ixor (C0 : jOk x M E d mc ms) {v w : Int32} (hd : decode M.2.1 pc = .ok (.ixor, 1)) (kk : jJ x M E Q h sz ce sl lv (pc + 1) (.int (v ^^^ w) :: st)) : jJ x M E Q h sz ce sl lv pc (.int w :: .int v :: st) := fun H locs ls hR hS hl => lv_ixor C0.exec C0.code hd (kk H locs ls hR hS hl)
theorem j_ladd (C0 : jOk x M E d mc ms) {v w : Int64} (hd : decode M.2.1 pc = .ok (.ladd, 1)) (kk : jJ x M E Q h sz ce sl lv (pc + 1) (.long (v + w) :: st)) : jJ x M E Q h sz ce sl lv pc (.long w :: .long v :: st) := fun H locs ls hR hS hl => lv_ladd C0.exec C0.code hd (kk H locs ls hR hS hl)
theorem j_lsub (C0 : jOk x M E d mc ms) {v w : Int64} (hd : decode M.2.1 pc = .ok (.lsub, 1)) (kk : jJ x M E Q h sz ce sl lv (pc + 1) (.long (v - w) :: st)) : jJ x M E Q h sz ce sl lv pc (.long w :: .long v :: st) := fun H locs ls hR hS hl => lv_lsub C0.exec C0.code hd (kk H locs ls hR hS hl)
theorem j_lmul (C0 : jOk x M E d mc ms) {v w : Int64} (hd : decode M.2.1 pc = .ok (.lmul, 1)) (kk : jJ x M E Q h sz ce sl lv (pc + 1) (.long (v * w) :: st)) : jJ x M E Q h sz ce sl lv pc (.long w :: .long v :: st) := fun H locs ls hR hS hl => lv_lmul C0.exec C0.code hd (kk H locs ls hR hS hl)
theorem j_land (C0 : jOk x M E d mc ms) {v w : Int64} (hd : decode M.2.1 pc = .ok (.land, 1)) (kk : jJ x M E Q h sz ce sl lv (pc + 1) (.long (v &&& w) :: st)) : jJ x M E Q h sz ce sl lv pc (.long w :: .long v :: st) := fun H locs ls hR hS hl => lv_land C0.exec C0.code hd (kk H locs ls hR hS hl)
theorem j_lor (C0 : jOk x M E d mc ms) {v w : Int64} (hd : decode M.2.1 pc = .ok (.lor, 1)) (kk : jJ x M E Q h sz ce sl lv (pc + 1) (.long (v ||| w) :: st)) : jJ x M E Q h sz ce sl lv pc (.long w :: .long v :: st) := fun H locs ls hR hS hl => lv_lor C0.exec C0.code hd (kk H locs ls hR hS hl)
theorem j_lxor (C0 : jOk x M E d mc ms) {v w : Int64} (hd : decode M.2.1 pc = .ok (.lxor, 1)) (kk : jJ x M E Q h sz ce sl lv (pc + 1) (.long (v ^^^ w) :: st)) : jJ x M E Q h sz ce sl lv pc (.long w :: .long v :: st) := fun H locs ls hR hS hl => lv_lxor C0.exec C0.code hd (kk H locs ls hR hS hl)
theorem j_ineg (C0 : jOk x M E d mc ms) {v : Int32} (hd : decode M.2.1 pc = .ok (.ineg, 1)) (kk : jJ x M E Q h sz ce sl lv (pc + 1) (.int (-v) :: st)) : jJ x M E Q h sz ce sl lv pc (.int v :: st) := fun H locs ls hR hS hl => lv_ineg C0.exec C0.code hd (kk H locs ls hR hS hl)
theorem j_idiv (C0 : jOk x M E d mc ms) {v w : Int32} (hd : decode M.2.1 pc = .ok (.idiv, 1)) (hne : ¬ w = 0) (kk : jJ x M E Q h sz ce sl lv (pc + 1) (.int (v / w) :: st)) : jJ x M E Q h sz ce sl lv pc (.int w :: .int v :: st) := fun H locs ls hR hS hl => lv_idiv C0.exec C0.code hd hne (kk H locs ls hR hS hl)
theorem j_irem (C0 : jOk x M E d mc ms) {v w : Int32} (hd : decode M.2.1 pc = .ok (.irem, 1)) (hne : ¬ w = 0) (kk : jJ x M E Q h sz ce sl lv (pc + 1) (.int (v - v / w * w) :: st)) : jJ x M E Q h sz ce sl lv pc (.int w :: .int v :: st) := fun H locs ls hR hS hl => lv_irem C0.exec C0.code hd hne (kk H locs ls hR hS hl)
theorem j_ishl (C0 : jOk x M E d mc ms) {v w : Int32} (hd : decode M.2.1 pc = .ok (.ishl, 1)) (kk : jJ x M E Q h sz ce sl lv (pc + 1) (.int (v <<< (w &&& 31)) :: st)) : jJ x M E Q h sz ce sl lv pc (.int w :: .int v :: st) := fun H locs ls hR hS hl => lv_ishl C0.exec C0.code hd (kk H locs ls hR hS hl)
theorem j_ishr (C0 : jOk x M E d mc ms) {v w : Int32} (hd : decode M.2.1 pc = .ok (.ishr, 1)) (kk : jJ x M E Q h sz ce sl lv (pc + 1) (.int (v >>> (w &&& 31)) :: st)) : jJ x M E Q h sz ce sl lv pc (.int w :: .int v :: st) := fun H locs ls hR hS hl => lv_ishr C0.exec C0.code hd (kk H locs ls hR hS hl)
theorem j_iushr (C0 : jOk x M E d mc ms) {v w u : Int32} (hd : decode M.2.1 pc = .ok (.iushr, 1)) (hv : (v.toUInt32 >>> (w.toUInt32 &&& Int32.toUInt32 31)).toInt32 = u) (kk : jJ x M E Q h sz ce sl lv (pc + 1) (.int u :: st)) : jJ x M E Q h sz ce sl lv pc (.int w :: .int v :: st) := fun H locs ls hR hS hl => lv_iushr C0.exec C0.code hd hv (kk H locs ls hR hS hl)
theorem j_lshl (C0 : jOk x M E d mc ms) {v u : Int64} {w : Int32} (hd : decode M.2.1 pc = .ok (.lshl, 1)) (hv : v <<< (w.toInt64 &&& 63) = u) (kk : jJ x M E Q h sz ce sl lv (pc + 1) (.long u :: st)) : jJ x M E Q h sz ce sl lv pc (.int w :: .long v :: st) := fun H locs ls hR hS hl => lv_lshl C0.exec C0.code hd hv (kk H locs ls hR hS hl)
theorem j_lshr (C0 : jOk x M E d mc ms) {v u : Int64} {w : Int32} (hd : decode M.2.1 pc = .ok (.lshr, 1)) (hv : v >>> (w.toInt64 &&& 63) = u) (kk : jJ x M E Q h sz ce sl lv (pc + 1) (.long u :: st)) : jJ x M E Q h sz ce sl lv pc (.int w :: .long v :: st) := fun H locs ls hR hS hl => lv_lshr C0.exec C0.code hd hv (kk H locs ls hR hS hl)
theorem j_lushr (C0 : jOk x M E d mc ms) {v u : Int64} {w : Int32} (hd : decode M.2.1 pc = .ok (.lushr, 1)) (hv : (v.toUInt64 >>> (w.toInt64.toUInt64 &&& Int64.toUInt64 63)).toInt64 = u) (kk : jJ x M E Q h sz ce sl lv (pc + 1) (.long u :: st)) : jJ x M E Q h sz ce sl lv pc (.int w :: .long v :: st) := fun H locs ls hR hS hl => lv_lushr C0.exec C0.code hd hv (kk H locs ls hR hS hl)
theorem j_i2l (C0 : jOk x M E d mc ms) {v : Int32} {u : Int64} (hd : decode M.2.1 pc = .ok (.i2l, 1)) (hv : v.toInt64 = u) (kk : jJ x M E Q h sz ce sl lv (pc + 1) (.long u :: st)) : jJ x M E Q h sz ce sl lv pc (.int v :: st) := fun H locs ls hR hS hl => lv_i2l C0.exec C0.code hd hv (kk H locs ls hR hS hl)
theorem j_l2i (C0 : jOk x M E d mc ms) {v : Int64} {u : Int32} (hd : decode M.2.1 pc = .ok (.l2i, 1)) (hv : v.toInt32 = u) (kk : jJ x M E Q h sz ce sl lv (pc + 1) (.int u :: st)) : jJ x M E Q h sz ce sl lv pc (.long v :: st) := fun H locs ls hR hS hl => lv_l2i C0.exec C0.code hd hv (kk H locs ls hR hS hl)
theorem j_lcmp (C0 : jOk x M E d mc ms) {v w : Int64} (hd : decode M.2.1 pc = .ok (.lcmp, 1)) (kk : jJ x M E Q h sz ce sl lv (pc + 1) (.int (lg_cmp v w) :: st)) : jJ x M E Q h sz ce sl lv pc (.long w :: .long v :: st) := fun H locs ls hR hS hl => W.lcmp C0.exec C0.code hd (kk H locs ls hR hS hl)
theorem j_dup (C0 : jOk x M E d mc ms) {va : Value} (hd : decode M.2.1 pc = .ok (.dup, 1)) (ha : va.category = 1) (kk : jJ x M E Q h sz ce sl lv (pc + 1) (va :: va :: st)) : jJ x M E Q h sz ce sl lv pc (va :: st) := fun H locs ls hR hS hl => lv_dup C0.exec C0.code hd ha (kk H locs ls hR hS hl)
theorem j_pop (C0 : jOk x M E d mc ms) {va : Value} (hd : decode M.2.1 pc = .ok (.pop, 1)) (ha : va.category = 1) (kk : jJ x M E Q h sz ce sl lv (pc + 1) (st)) : jJ x M E Q h sz ce sl lv pc (va :: st) := fun H locs ls hR hS hl => lv_pop C0.exec C0.code hd ha (kk H locs ls hR hS hl)
theorem j_dup_x1 (C0 : jOk x M E d mc ms) {va vb : Value} (hd : decode M.2.1 pc = .ok (.dup_x1, 1)) (ha : va.category = 1) (hb : vb.category = 1) (kk : jJ x M E Q h sz ce sl lv (pc + 1) (va :: vb :: va :: st)) : jJ x M E Q h sz ce sl lv pc (va :: vb :: st) := fun H locs ls hR hS hl => lv_dup_x1 C0.exec C0.code hd ha hb (kk H locs ls hR hS hl)
theorem j_dup_x2 (C0 : jOk x M E d mc ms) {va vb vd : Value} (hd : decode M.2.1 pc = .ok (.dup_x2, 1)) (ha : va.category = 1) (hb : vb.category = 1) (hc : vd.category = 1) (kk : jJ x M E Q h sz ce sl lv (pc + 1) (va :: vb :: vd :: va :: st)) : jJ x M E Q h sz ce sl lv pc (va :: vb :: vd :: st) := fun H locs ls hR hS hl => lv_dup_x2 C0.exec C0.code hd ha hb hc (kk H locs ls hR hS hl)
theorem j_dup2_11 (C0 : jOk x M E d mc ms) {va vb : Value} (hd : decode M.2.1 pc = .ok (.dup2, 1)) (ha : va.category = 1) (hb : vb.category = 1) (kk : jJ x M E Q h sz ce sl lv (pc + 1) (va :: vb :: va :: vb :: st)) : jJ x M E Q h sz ce sl lv pc (va :: vb :: st) := fun H locs ls hR hS hl => lv_dup2_11 C0.exec C0.code hd ha hb (kk H locs ls hR hS hl)
theorem j_dup2_2 (C0 : jOk x M E d mc ms) {va : Value} (hd : decode M.2.1 pc = .ok (.dup2, 1)) (ha : va.category = 2) (kk : jJ x M E Q h sz ce sl lv (pc + 1) (va :: va :: st)) : jJ x M E Q h sz ce sl lv pc (va :: st) := fun H locs ls hR hS hl => lv_dup2_2 C0.exec C0.code hd ha (kk H locs ls hR hS hl)
theorem j_dup2_x1_2 (C0 : jOk x M E d mc ms) {va vb : Value} (hd : decode M.2.1 pc = .ok (.dup2_x1, 1)) (ha : va.category = 2) (hb : vb.category = 1) (kk : jJ x M E Q h sz ce sl lv (pc + 1) (va :: vb :: va :: st)) : jJ x M E Q h sz ce sl lv pc (va :: vb :: st) := fun H locs ls hR hS hl => lv_dup2_x1_2 C0.exec C0.code hd ha hb (kk H locs ls hR hS hl)
theorem j_dup2_x2_2 (C0 : jOk x M E d mc ms) {va vb vd : Value} (hd : decode M.2.1 pc = .ok (.dup2_x2, 1)) (ha : va.category = 2) (hb : vb.category = 1) (hc : vd.category = 1) (kk : jJ x M E Q h sz ce sl lv (pc + 1) (va :: vb :: vd :: va :: st)) : jJ x M E Q h sz ce sl lv pc (va :: vb :: vd :: st) := fun H locs ls hR hS hl => lv_dup2_x2_2 C0.exec C0.code hd ha hb hc (kk H locs ls hR hS hl)
theorem j_if_eq (C0 : jOk x M E d mc ms) {v : Int32} {off : Int} {tgt : Nat} (hd : decode M.2.1 pc = .ok (.ifCond .eq off, 3)) (ht : (pc : Int) + off = (tgt : Int)) (kt : v = 0 → jJ x M E Q h sz ce sl lv tgt st) (kf : ¬ v = 0 → jJ x M E Q h sz ce sl lv (pc + 3) st) : jJ x M E Q h sz ce sl lv pc (.int v :: st) := fun H locs ls hR hS hl => lv_if_eq C0.exec C0.code hd ht (fun hc => kt hc H locs ls hR hS hl) (fun hc => kf hc H locs ls hR hS hl)
theorem j_icmp_eq (C0 : jOk x M E d mc ms) {v w : Int32} {off : Int} {tgt : Nat} (hd : decode M.2.1 pc = .ok (.if_icmp .eq off, 3)) (ht : (pc : Int) + off = (tgt : Int)) (kt : v = w → jJ x M E Q h sz ce sl lv tgt st) (kf : ¬ v = w → jJ x M E Q h sz ce sl lv (pc + 3) st) : jJ x M E Q h sz ce sl lv pc (.int w :: .int v :: st) := fun H locs ls hR hS hl => lv_icmp_eq C0.exec C0.code hd ht (fun hc => kt hc H locs ls hR hS hl) (fun hc => kf hc H locs ls hR hS hl)
theorem j_if_ne (C0 : jOk x M E d mc ms) {v : Int32} {off : Int} {tgt : Nat} (hd : decode M.2.1 pc = .ok (.ifCond .ne off, 3)) (ht : (pc : Int) + off = (tgt : Int)) (kt : ¬ v = 0 → jJ x M E Q h sz ce sl lv tgt st) (kf : v = 0 → jJ x M E Q h sz ce sl lv (pc + 3) st) : jJ x M E Q h sz ce sl lv pc (.int v :: st) := fun H locs ls hR hS hl => lv_if_ne C0.exec C0.code hd ht (fun hc => kt hc H locs ls hR hS hl) (fun hc => kf hc H locs ls hR hS hl)
theorem j_icmp_ne (C0 : jOk x M E d mc ms) {v w : Int32} {off : Int} {tgt : Nat} (hd : decode M.2.1 pc = .ok (.if_icmp .ne off, 3)) (ht : (pc : Int) + off = (tgt : Int)) (kt : ¬ v = w → jJ x M E Q h sz ce sl lv tgt st) (kf : v = w → jJ x M E Q h sz ce sl lv (pc + 3) st) : jJ x M E Q h sz ce sl lv pc (.int w :: .int v :: st) := fun H locs ls hR hS hl => lv_icmp_ne C0.exec C0.code hd ht (fun hc => kt hc H locs ls hR hS hl) (fun hc => kf hc H locs ls hR hS hl)
theorem j_if_lt (C0 : jOk x M E d mc ms) {v : Int32} {off : Int} {tgt : Nat} (hd : decode M.2.1 pc = .ok (.ifCond .lt off, 3)) (ht : (pc : Int) + off = (tgt : Int)) (kt : v < 0 → jJ x M E Q h sz ce sl lv tgt st) (kf : ¬ v < 0 → jJ x M E Q h sz ce sl lv (pc + 3) st) : jJ x M E Q h sz ce sl lv pc (.int v :: st) := fun H locs ls hR hS hl => lv_if_lt C0.exec C0.code hd ht (fun hc => kt hc H locs ls hR hS hl) (fun hc => kf hc H locs ls hR hS hl)
theorem j_icmp_lt (C0 : jOk x M E d mc ms) {v w : Int32} {off : Int} {tgt : Nat} (hd : decode M.2.1 pc = .ok (.if_icmp .lt off, 3)) (ht : (pc : Int) + off = (tgt : Int)) (kt : v < w → jJ x M E Q h sz ce sl lv tgt st) (kf : ¬ v < w → jJ x M E Q h sz ce sl lv (pc + 3) st) : jJ x M E Q h sz ce sl lv pc (.int w :: .int v :: st) := fun H locs ls hR hS hl => lv_icmp_lt C0.exec C0.code hd ht (fun hc => kt hc H locs ls hR hS hl) (fun hc => kf hc H locs ls hR hS hl)
theorem j_if_ge (C0 : jOk x M E d mc ms) {v : Int32} {off : Int} {tgt : Nat} (hd : decode M.2.1 pc = .ok (.ifCond .ge off, 3)) (ht : (pc : Int) + off = (tgt : Int)) (kt : 0 ≤ v → jJ x M E Q h sz ce sl lv tgt st) (kf : ¬ 0 ≤ v → jJ x M E Q h sz ce sl lv (pc + 3) st) : jJ x M E Q h sz ce sl lv pc (.int v :: st) := fun H locs ls hR hS hl => lv_if_ge C0.exec C0.code hd ht (fun hc => kt hc H locs ls hR hS hl) (fun hc => kf hc H locs ls hR hS hl)
theorem j_icmp_ge (C0 : jOk x M E d mc ms) {v w : Int32} {off : Int} {tgt : Nat} (hd : decode M.2.1 pc = .ok (.if_icmp .ge off, 3)) (ht : (pc : Int) + off = (tgt : Int)) (kt : w ≤ v → jJ x M E Q h sz ce sl lv tgt st) (kf : ¬ w ≤ v → jJ x M E Q h sz ce sl lv (pc + 3) st) : jJ x M E Q h sz ce sl lv pc (.int w :: .int v :: st) := fun H locs ls hR hS hl => lv_icmp_ge C0.exec C0.code hd ht (fun hc => kt hc H locs ls hR hS hl) (fun hc => kf hc H locs ls hR hS hl)
theorem j_if_gt (C0 : jOk x M E d mc ms) {v : Int32} {off : Int} {tgt : Nat} (hd : decode M.2.1 pc = .ok (.ifCond .gt off, 3)) (ht : (pc : Int) + off = (tgt : Int)) (kt : 0 < v → jJ x M E Q h sz ce sl lv tgt st) (kf : ¬ 0 < v → jJ x M E Q h sz ce sl lv (pc + 3) st) : jJ x M E Q h sz ce sl lv pc (.int v :: st) := fun H locs ls hR hS hl => lv_if_gt C0.exec C0.code hd ht (fun hc => kt hc H locs ls hR hS hl) (fun hc => kf hc H locs ls hR hS hl)
theorem j_icmp_gt (C0 : jOk x M E d mc ms) {v w : Int32} {off : Int} {tgt : Nat} (hd : decode M.2.1 pc = .ok (.if_icmp .gt off, 3)) (ht : (pc : Int) + off = (tgt : Int)) (kt : w < v → jJ x M E Q h sz ce sl lv tgt st) (kf : ¬ w < v → jJ x M E Q h sz ce sl lv (pc + 3) st) : jJ x M E Q h sz ce sl lv pc (.int w :: .int v :: st) := fun H locs ls hR hS hl => lv_icmp_gt C0.exec C0.code hd ht (fun hc => kt hc H locs ls hR hS hl) (fun hc => kf hc H locs ls hR hS hl)
theorem j_if_le (C0 : jOk x M E d mc ms) {v : Int32} {off : Int} {tgt : Nat} (hd : decode M.2.1 pc = .ok (.ifCond .le off, 3)) (ht : (pc : Int) + off = (tgt : Int)) (kt : v ≤ 0 → jJ x M E Q h sz ce sl lv tgt st) (kf : ¬ v ≤ 0 → jJ x M E Q h sz ce sl lv (pc + 3) st) : jJ x M E Q h sz ce sl lv pc (.int v :: st) := fun H locs ls hR hS hl => lv_if_le C0.exec C0.code hd ht (fun hc => kt hc H locs ls hR hS hl) (fun hc => kf hc H locs ls hR hS hl)
theorem j_icmp_le (C0 : jOk x M E d mc ms) {v w : Int32} {off : Int} {tgt : Nat} (hd : decode M.2.1 pc = .ok (.if_icmp .le off, 3)) (ht : (pc : Int) + off = (tgt : Int)) (kt : v ≤ w → jJ x M E Q h sz ce sl lv tgt st) (kf : ¬ v ≤ w → jJ x M E Q h sz ce sl lv (pc + 3) st) : jJ x M E Q h sz ce sl lv pc (.int w :: .int v :: st) := fun H locs ls hR hS hl => lv_icmp_le C0.exec C0.code hd ht (fun hc => kt hc H locs ls hR hS hl) (fun hc => kf hc H locs ls hR hS hl)
theorem j_goto (C0 : jOk x M E d mc ms) {off : Int} {tgt : Nat} (hd : decode M.2.1 pc = .ok (.goto off, 3)) (ht : (pc : Int) + off = (tgt : Int)) (kk : jJ x M E Q h sz ce sl lv tgt st) : jJ x M E Q h sz ce sl lv pc st := fun H locs ls hR hS hl => lv_goto C0.exec C0.code hd ht (kk H locs ls hR hS hl)
theorem j_tableOut (C0 : jOk x M E d mc ms) {dflt lo hi : Int} {offs : Array Int} {len : Nat} {v : Int32} {tgt : Nat} (hd : decode M.2.1 pc = .ok (.tableswitch dflt lo hi offs, len)) (hv : v.toInt < lo ∨ hi < v.toInt) (ht : (pc : Int) + dflt = (tgt : Int)) (kk : jJ x M E Q h sz ce sl lv tgt st) : jJ x M E Q h sz ce sl lv pc (.int v :: st) := fun H locs ls hR hS hl => lv_tableOut C0.exec C0.code hd hv ht (kk H locs ls hR hS hl)
theorem j_tableIn (C0 : jOk x M E d mc ms) {dflt lo hi : Int} {offs : Array Int} {len : Nat} {v : Int32} {off : Int} {tgt : Nat} (hd : decode M.2.1 pc = .ok (.tableswitch dflt lo hi offs, len)) (h1 : ¬ v.toInt < lo) (h2 : ¬ hi < v.toInt) (ho : offs[(v.toInt - lo).toNat]? = some off) (ht : (pc : Int) + off = (tgt : Int)) (kk : jJ x M E Q h sz ce sl lv tgt st) : jJ x M E Q h sz ce sl lv pc (.int v :: st) := fun H locs ls hR hS hl => lv_tableIn C0.exec C0.code hd h1 h2 ho ht (kk H locs ls hR hS hl)
/-- field links: in class own, pool place idx means field k of class number ci -/
def jFL (own : String) (idx ci k : Nat) : Prop := ∃ (C : String) (T : u_T) (N : Nat), jCl[ci]? = some (C, T, N) ∧ k < N ∧ (∀ w ∈ u_ws C T N, w ∈ jTG) ∧ Cond.fieldLink own idx (T k).1 (T k).2.1 (T k).2.2.1 ∈ jTG
def jFP (own : String) (idx ci k : Nat) (ty : FieldType) (fin : Bool) : Prop := ∃ (C : String) (T : u_T) (N : Nat) (ty0 : Nat → FieldType), jCl[ci]? = some (C, T, N) ∧ k < N ∧ (∀ w ∈ u_ws C T N, w ∈ jTG) ∧ Cond.fieldLink own idx (T k).1 (T k).2.1 (T k).2.2.1 ∈ jTG ∧ (T k).2.2.2 = fin ∧ parseFieldDescriptor (T k).2.2.1 = some ty ∧ (∀ k, k < N → parseFieldDescriptor (T k).2.2.1 = some (ty0 k)) ∧ (∀ a, a < N → ∀ b, b < N → a ≠ b → (T a).2.1 ≠ (T b).2.1) ∧ (fin = true → (T k).1 = own)
theorem j_getf (C0 : jOk x M E d mc ms) {idx a ci k : Nat} {fs : List Value} {v : Value} (hd : decode M.2.1 pc = .ok (.getfield idx, 3)) (hf : jFL M.1.cls idx ci k) (ha : h a = some (.inr (ci, fs))) (hv : fs[k]? = some v) (kk : jJ x M E Q h sz ce sl lv (pc + 3) (v :: st)) : jJ x M E Q h sz ce sl lv pc (.ref a :: st) := by
  intro H locs ls hR hS hl
  obtain ⟨C, T, N, h1, h2, h3, h4⟩ := hf
  exact va_get C0.exec C0.code C0.ts h3 C0.own C0.K.1 (hR.one ha) 0 rfl h1 k h2 (C0.ts _ h4) (fun _ q => q) hv hd (kk H locs ls hR hS hl)
theorem j_putf (C0 : jOk x M E d mc ms) {idx a ci k : Nat} {fs : List Value} {ty : FieldType} {v : Value} (hd : decode M.2.1 pc = .ok (.putfield idx, 3)) (hf : jFP M.1.cls idx ci k ty false) (ha : h a = some (.inr (ci, fs))) (hlen : k < fs.length) (hn : narrow ty v = v) (hfit : fits ty v = true) (kk : jJ x M E Q (jset h a (.inr (ci, fs.set k v))) sz ce sl lv (pc + 3) st) : jJ x M E Q h sz ce sl lv pc (v :: .ref a :: st) := by
  intro H locs ls hR hS hl
  obtain ⟨C, T, N, ty0, hc, hk, hin1, hlk, hfin, hpd, hty, hnm, hdecl⟩ := hf
  have hts := C0.ts
  have hK := C0.K.1
  have hown := C0.own
  have hap := va_apart (own := M.1.cls) hts hin1 ty0 hty hnm hK hc
  obtain ⟨r, h1, cell, q1, q2, q3, q4⟩ := (hR.2 a _ ha).2
  have hr : r = (C, T, N) := Option.some.inj (h1.symm.trans hc)
  subst hr
  obtain ⟨hSl, hfc, kC, hkC, hkind⟩ := hK.1 ci _ hc
  obtain ⟨cf, kf, fi, f, hi, hsl⟩ := hSl k hk
  have hlay := hts _ (hin1 _ (u_in_lay hk))
  unfold u_lay at hlay
  have hst := (u_facts hfc hkC (u_lays hts hin1 hk) hi).1
  rw [if_neg (by rw [hfin]; decide)] at hlay
  have h6 := u_store hfc hkC hkind hlay hi hpd hn hfit
  refine W.putK C0.exec C0.code (f := f) ⟨hown, hts _ hlk, ⟨_, _, _, hi⟩, hst⟩ (by rw [q2]; exact h6) q1 q3 (by rw [hsl]; exact k2_hasslot (q4 k hk)) rfl rfl hd fun H' e1 e2 e3 => ?_
  rw [hsl] at e1 ⊢
  exact kk H' _ ls (hR.set ha ⟨_, hc, t_OB.to (V := updV (vp_V fs) k v) ⟨_, e1, q2, q3, t_set q4 hap hk v⟩ (fun j _ => vp_updV_set hlen v j)⟩ e2 e3) (hS.put e2 e3 (hR.2 a _ ha).1) hl
theorem j_putF (C0 : jOk x M E d mc ms) {idx a ci k : Nat} {fs : List Value} {ty : FieldType} {v : Value} (hd : decode M.2.1 pc = .ok (.putfield idx, 3)) (hf : jFP M.1.cls idx ci k ty true) (ha : h a = some (.inr (ci, fs))) (hlen : k < fs.length) (hn : narrow ty v = v) (hfit : fits ty v = true) (hin : M.1.name = "<init>") (kk : jJ x M E Q (jset h a (.inr (ci, fs.set k v))) sz ce sl lv (pc + 3) st) : jJ x M E Q h sz ce sl lv pc (v :: .ref a :: st) := by
  intro H locs ls hR hS hl
  obtain ⟨C, T, N, ty0, hc, hk, hin1, hlk, hfin, hpd, hty, hnm, hdecl⟩ := hf
  have hts := C0.ts
  have hK := C0.K.1
  have hown := C0.own
  have hap := va_apart (own := M.1.cls) hts hin1 ty0 hty hnm hK hc
  obtain ⟨r, h1, cell, q1, q2, q3, q4⟩ := (hR.2 a _ ha).2
  have hr : r = (C, T, N) := Option.some.inj (h1.symm.trans hc)
  subst hr
  obtain ⟨hSl, hfc, kC, hkC, hkind⟩ := hK.1 ci _ hc
  obtain ⟨cf, kf, fi, f, hi, hsl⟩ := hSl k hk
  have hlay := hts _ (hin1 _ (u_in_lay hk))
  unfold u_lay at hlay
  have hst := (u_facts hfc hkC (u_lays hts hin1 hk) hi).1
  rw [if_pos hfin] at hlay
  have hcf : (jxm x).cls = cf := by
    obtain ⟨_, _, c', _, _, _, -, -, hf', -, -, -, hown2, -⟩ := Cond.laysFinal_spec hlay
    have e1 : c' = cf := by have := hi.symm.trans hf'; simp at this; exact this.1.symm
    rw [hdecl rfl] at hown2
    rw [← e1]; exact Option.some.inj (hown.symm.trans hown2)
  have h6 := u_fits hfc hkC hkind (Or.inr hlay) hi hpd hn hfit
  refine W.putFinK C0.exec C0.code hown (hts _ hlk) hi hst hcf (C0.name.trans hin) (by rw [q2]; exact h6) q1 q3 (by rw [hsl]; exact k2_hasslot (q4 k hk)) rfl rfl hd fun H' e1 e2 e3 => ?_
  rw [hsl] at e1 ⊢
  exact kk H' _ ls (hR.set ha ⟨_, hc, t_OB.to (V := updV (vp_V fs) k v) ⟨_, e1, q2, q3, t_set q4 hap hk v⟩ (fun j _ => vp_updV_set hlen v j)⟩ e2 e3) (hS.put e2 e3 (hR.2 a _ ha).1) hl
theorem j_iald (C0 : jOk x M E d mc ms) {a n k : Nat} {f : Nat → Int32} {i : Int32} (hd : decode M.2.1 pc = .ok (.iaload, 1)) (ha : h a = some (jI E n f)) (hi : i = nI k) (hk : k < n) (hn : n < 2 ^ 31) (kk : jJ x M E Q h sz ce sl lv (pc + 1) (.int (f k) :: st)) : jJ x M E Q h sz ce sl lv pc (.int i :: .ref a :: st) := by
  intro H locs ls hR hS hl
  subst hi
  have hcl : (nI k).toNatClampNeg = k := nI_clamp (by omega)
  refine va_iald (i := nI k) C0.exec C0.code C0.K.1 (hR.one ha) 0 0 rfl rfl (vp_in_nI hk hn) hd ?_
  rw [hcl]
  exact kk H locs ls hR hS hl
theorem j_lald (C0 : jOk x M E d mc ms) {a n k : Nat} {f : Nat → Int64} {i : Int32} (hd : decode M.2.1 pc = .ok (.laload, 1)) (ha : h a = some (jL E n f)) (hi : i = nI k) (hk : k < n) (hn : n < 2 ^ 31) (kk : jJ x M E Q h sz ce sl lv (pc + 1) (.long (f k) :: st)) : jJ x M E Q h sz ce sl lv pc (.int i :: .ref a :: st) := by
  intro H locs ls hR hS hl
  subst hi
  have hcl : (nI k).toNatClampNeg = k := nI_clamp (by omega)
  refine va_lald (i := nI k) C0.exec C0.code C0.K.1 (hR.one ha) 0 1 rfl rfl (vp_in_nI hk hn) hd ?_
  rw [hcl]
  exact kk H locs ls hR hS hl
theorem j_iast (C0 : jOk x M E d mc ms) {a n k : Nat} {f : Nat → Int32} {i : Int32} {w : Int32} (hd : decode M.2.1 pc = .ok (.iastore, 1)) (ha : h a = some (jI E n f)) (hi : i = nI k) (hk : k < n) (hn : n < 2 ^ 31) (kk : jJ x M E Q (jset h a (jI E n (upd f k (w)))) sz ce sl lv (pc + 1) st) : jJ x M E Q h sz ce sl lv pc (.int w :: .int i :: .ref a :: st) := by
  intro H locs ls hR hS hl
  subst hi
  have hcl : (nI k).toNatClampNeg = k := nI_clamp (by omega)
  have hin := vp_in_nI hk hn
  refine W.iast C0.exec C0.code (hR.2 a _ ha).2 ((C0.K.1.2 0 _ rfl).1 n (fun j => .int (f j))) (fun q => by cases q) (by show ¬ (nI k < 0 ∨ (arrV _ _ _).slots.size ≤ _); rw [arrV_size]; exact hin) rfl rfl hd fun H1 e z oq => ?_
  refine kk H1 _ ls (hR.set ha ?_ z oq) (hS.put z oq (hR.2 a _ ha).1) hl
  show H1[a]? = some (vp_cell _ _)
  rw [e, hcl]
  rw [vp_cell_i, vp_cell_i, arrV_store]
  congr 2
  funext q
  by_cases hq : q = k
  · subst hq
    simp [updV, upd]
    try rfl
  · simp [updV, upd, hq]
theorem j_last (C0 : jOk x M E d mc ms) {a n k : Nat} {f : Nat → Int64} {i : Int32} {w : Int64} (hd : decode M.2.1 pc = .ok (.lastore, 1)) (ha : h a = some (jL E n f)) (hi : i = nI k) (hk : k < n) (hn : n < 2 ^ 31) (kk : jJ x M E Q (jset h a (jL E n (vp_updL f k (w)))) sz ce sl lv (pc + 1) st) : jJ x M E Q h sz ce sl lv pc (.long w :: .int i :: .ref a :: st) := by
  intro H locs ls hR hS hl
  subst hi
  have hcl : (nI k).toNatClampNeg = k := nI_clamp (by omega)
  have hin := vp_in_nI hk hn
  refine W.last C0.exec C0.code (hR.2 a _ ha).2 ((C0.K.1.2 1 _ rfl).1 n (fun j => .long (f j))) (fun q => by cases q) (by show ¬ (nI k < 0 ∨ (arrV _ _ _).slots.size ≤ _); rw [arrV_size]; exact hin) rfl rfl hd fun H1 e z oq => ?_
  refine kk H1 _ ls (hR.set ha ?_ z oq) (hS.put z oq (hR.2 a _ ha).1) hl
  show H1[a]? = some (vp_cell _ _)
  rw [e, hcl]
  rw [vp_cell_l, vp_cell_l, arrV_store]
  congr 2
  funext q
  by_cases hq : q = k
  · subst hq
    simp [updV, vp_updL]
    try rfl
  · simp [updV, vp_updL, hq]
theorem j_alen (C0 : jOk x M E d mc ms) {a t : Nat} {y : vp_A} {ty : FieldType} {v : Int32} (hd : decode M.2.1 pc = .ok (.arraylength, 1)) (ha : h a = some (.inl (E.2.1 t, y))) (ht : (jTys E.2.1)[t]? = some (E.2.1 t, ty)) (hv : Int32.ofNat y.1 = v) (kk : jJ x M E Q h sz ce sl lv (pc + 1) (.int v :: st)) : jJ x M E Q h sz ce sl lv pc (.ref a :: st) :=
  fun H locs ls hR hS hl => va_alen C0.exec C0.code C0.K.1 (hR.one ha) 0 t rfl ht hv hd (kk H locs ls hR hS hl)
theorem j_aald (C0 : jOk x M E d mc ms) {a t n k q : Nat} {C : String} {f : Nat → Option Nat} {i : Int32} (hd : decode M.2.1 pc = .ok (.aaload, 1)) (ha : h a = some (jQa E t n f)) (ht : (jTys E.2.1)[t]? = some (E.2.1 t, .object C)) (hi : i = nI k) (hk : k < n) (hn : n < 2 ^ 31) (hq : f k = some q) (kk : jJ x M E Q h sz ce sl lv (pc + 1) (.ref q :: st)) : jJ x M E Q h sz ce sl lv pc (.int i :: .ref a :: st) := by
  intro H locs ls hR hS hl
  subst hi
  have hcl : (nI k).toNatClampNeg = k := nI_clamp (by omega)
  refine va_aldq (i := nI k) C0.exec C0.code C0.K.1 (hR.one ha) 0 t rfl ht (vp_in_nI hk hn) hd ?_
  rw [hcl, hq]
  exact kk H locs ls hR hS hl
theorem j_aast (C0 : jOk x M E d mc ms) {a v t n k ci : Nat} {f : Nat → Option Nat} {vs : List Value} {r : vw_C} {i : Int32} (hd : decode M.2.1 pc = .ok (.aastore, 1)) (ha : h a = some (jQa E t n f)) (hv : h v = some (.inr (ci, vs))) (hc : jCl[ci]? = some r) (ht : (jTys E.2.1)[t]? = some (E.2.1 t, .object r.1)) (hi : i = nI k) (hk : k < n) (hn : n < 2 ^ 31) (kk : jJ x M E Q (jset h a (jQa E t n (va_up f k (some v)))) sz ce sl lv (pc + 1) st) : jJ x M E Q h sz ce sl lv pc (.ref v :: .int i :: .ref a :: st) := by
  intro H locs ls hR hS hl
  subst hi
  have hcl : (nI k).toNatClampNeg = k := nI_clamp (by omega)
  obtain ⟨r', hr', cellV, g1, g2, g3, -⟩ := (hR.2 v _ hv).2
  have hcls := (C0.K.1.1 ci r hc).2
  obtain ⟨kA, comp, k1, k2, k3, -⟩ := (C0.K.1.2 t _ ht).2
  have hcomp : comp = E.1.1 ci := Option.some.inj (k3.symm.trans hcls.1)
  subst hcomp
  obtain ⟨kC, hkC, -⟩ := hcls.2
  refine W.aast C0.exec C0.code (hR.2 a _ ha).2 (fun q h => by cases h) (fun h => by cases h) k1 k2 rfl hkC ⟨nI_pos (by omega), by rw [hcl]; show _ < (arrV _ _ _).slots.size; rw [arrV_size]; exact hk⟩ g1 (fun q h => by rw [g3] at h; cases h) (by rw [g2]; exact hkC) (by rw [g2]; exact va_assign hcls) rfl rfl hd fun H1 e z oq => ?_
  refine kk H1 _ ls (hR.set ha ?_ z oq) (hS.put z oq (hR.2 a _ ha).1) hl
  show H1[a]? = some (vp_cell _ _)
  rw [e, hcl]
  rw [vp_cell_q, vp_cell_q, arrV_store]
  congr 2
  funext q
  by_cases hq : q = k
  · subst hq
    simp [updV, va_up, va_rf]
  · simp [updV, va_up, hq]
theorem j_newi (C0 : jOk x M E d mc ms) {n : Int32} {N : Nat} (hd : decode M.2.1 pc = .ok (.newarray .int, 2)) (hw : Cond.arrayClass .int ∈ jTG) (hn : n = nI N) (hN : N < 1000000) (hce : ce + 1 ≤ mc) (hsl : sl + N ≤ ms) (kk : jJ x M E Q (jset h sz (jI E N (fun _ => 0))) (sz + 1) (ce + 1) (sl + N) lv (pc + 2) (.ref sz :: st)) : jJ x M E Q h sz ce sl lv pc (.int n :: st) := by
  intro H locs ls hR hS hl
  subst hn
  have hsz : H.size = sz := hR.1
  have hB : E.2.2 ≤ sz := by rw [← hsz]; exact Nat.le_trans C0.base hS.1
  refine va_newaK (atype := .int) C0.exec C0.code (C0.ts _ hw) rfl hd rfl (nI_pos (by omega)) (nI_clamp (by omega)) (by show N * 4 ≤ _; omega) (Nat.le_trans hce C0.room.2.2.1) (Nat.le_trans hsl C0.room.2.2.2) hsz fun H1 cA e1 z1 o1 _ hNm => ?_
  have hcA : cA = E.2.1 0 := Option.some.inj (hNm.symm.trans (C0.K.1.2 0 _ rfl).2)
  subst hcA
  exact kk H1 locs ls (hR.push hB e1 z1 (fun q hq => o1 q hq)) ⟨by rw [z1]; exact Nat.le_trans hS.1 (by rw [hsz]; omega), fun q g1 g2 => (o1 q (by rw [← hsz]; exact Nat.lt_of_lt_of_le g1 hS.1)).trans (hS.2.1 q g1 g2), hS.2.2⟩ hl
theorem j_newl (C0 : jOk x M E d mc ms) {n : Int32} {N : Nat} (hd : decode M.2.1 pc = .ok (.newarray .long, 2)) (hw : Cond.arrayClass .long ∈ jTG) (hn : n = nI N) (hN : N < 1000000) (hce : ce + 1 ≤ mc) (hsl : sl + N ≤ ms) (kk : jJ x M E Q (jset h sz (jL E N (fun _ => 0))) (sz + 1) (ce + 1) (sl + N) lv (pc + 2) (.ref sz :: st)) : jJ x M E Q h sz ce sl lv pc (.int n :: st) := by
  intro H locs ls hR hS hl
  subst hn
  have hsz : H.size = sz := hR.1
  have hB : E.2.2 ≤ sz := by rw [← hsz]; exact Nat.le_trans C0.base hS.1
  refine va_newaK (atype := .long) C0.exec C0.code (C0.ts _ hw) rfl hd rfl (nI_pos (by omega)) (nI_clamp (by omega)) (by show N * 8 ≤ _; omega) (Nat.le_trans hce C0.room.2.2.1) (Nat.le_trans hsl C0.room.2.2.2) hsz fun H1 cA e1 z1 o1 _ hNm => ?_
  have hcA : cA = E.2.1 1 := Option.some.inj (hNm.symm.trans (C0.K.1.2 1 _ rfl).2)
  subst hcA
  exact kk H1 locs ls (hR.push hB e1 z1 (fun q hq => o1 q hq)) ⟨by rw [z1]; exact Nat.le_trans hS.1 (by rw [hsz]; omega), fun q g1 g2 => (o1 q (by rw [← hsz]; exact Nat.lt_of_lt_of_le g1 hS.1)).trans (hS.2.1 q g1 g2), hS.2.2⟩ hl
theorem j_newq (C0 : jOk x M E d mc ms) {idx t N : Nat} {n : Int32} {C : String} (hd : decode M.2.1 pc = .ok (.anewarray idx, 3)) (hw : Cond.classLink M.1.cls idx C ∈ jTG) (ho : C ∈ jAO) (ht : (jTys E.2.1)[t]? = some (E.2.1 t, .object C)) (hn : n = nI N) (hN : N < 1000000) (hce : ce + 1 ≤ mc) (hsl : sl + N ≤ ms) (kk : jJ x M E Q (jset h sz (jQa E t N (fun _ => none))) (sz + 1) (ce + 1) (sl + N) lv (pc + 3) (.ref sz :: st)) : jJ x M E Q h sz ce sl lv pc (.int n :: st) := by
  intro H locs ls hR hS hl
  subst hn
  have hsz : H.size = sz := hR.1
  have hB : E.2.2 ≤ sz := by rw [← hsz]; exact Nat.le_trans C0.base hS.1
  have hcl : (nI N).toNatClampNeg = N := nI_clamp (by omega)
  refine W.anew C0.exec C0.code C0.own (C0.ts _ hw) (va_AO.use (C0.K.2.2 C ho)) rfl hd rfl (nI_pos (by omega)) (by rw [hcl]; omega) (Nat.le_trans hce C0.room.2.2.1) (by rw [hcl]; exact Nat.le_trans hsl C0.room.2.2.2) fun cA kA comp f1 f2 f3 f4 => ?_
  rw [hcl, hsz]
  obtain ⟨kA', comp', _, _, _, g4⟩ := (C0.K.1.2 t _ ht).2
  have hcA : cA = E.2.1 t := Option.some.inj (f1.symm.trans g4)
  subst hcA
  generalize hH1 : H.push ({ cls := E.2.1 t, slots := Array.replicate N .null, vm := .none } : Cell) = H1
  have z1 : H1.size = sz + 1 := by rw [← hH1, Array.size_push, hsz]
  have e1 : H1[sz]? = some (arrV (E.2.1 t) N (fun _ => .null)) := by rw [← hH1, ← hsz, Array.getElem?_push_size, ← arrV_new]
  have o1 : ∀ q : Nat, q < sz → H1[q]? = H[q]? := fun q hq => by rw [← hH1, Array.getElem?_push, if_neg (by rw [hsz]; exact Nat.ne_of_lt hq)]
  exact kk H1 locs ls (hR.push hB e1 z1 o1) ⟨by rw [z1]; exact Nat.le_trans hS.1 (by rw [hsz]; omega), fun q g1 g2 => (o1 q (by rw [← hsz]; exact Nat.lt_of_lt_of_le g1 hS.1)).trans (hS.2.1 q g1 g2), hS.2.2⟩ hl
def jNW (own : String) (idx ci N : Nat) (fs : List Value) : Prop := ∃ (C : String) (T : u_T) (ty : Nat → FieldType), jCl[ci]? = some (C, T, N) ∧ (∀ w ∈ u_ws C T N, w ∈ jTG) ∧ (∀ k, k < N → parseFieldDescriptor (T k).2.2.1 = some (ty k)) ∧ Cond.classLink own idx C ∈ jTG ∧ Cond.instantiable C N ∈ jTG ∧ Cond.initialized C ∈ jTG ∧ ∀ j, j < N → defaultValue (ty j) = vp_V fs j
theorem j_new (C0 : jOk x M E d mc ms) {idx ci N : Nat} {fs : List Value} (hd : decode M.2.1 pc = .ok (.new idx, 3)) (hf : jNW M.1.cls idx ci N fs) (hce : ce + 1 ≤ mc) (hsl : sl + N ≤ ms) (kk : jJ x M E Q (jset h sz (.inr (ci, fs))) (sz + 1) (ce + 1) (sl + N) lv (pc + 3) (.ref sz :: st)) : jJ x M E Q h sz ce sl lv pc st := by
  intro H locs ls hR hS hl
  obtain ⟨C, T, ty, hc, hin, hty, w1, w2, w3, hfs⟩ := hf
  have hsz : H.size = sz := hR.1
  have hB : E.2.2 ≤ sz := by rw [← hsz]; exact Nat.le_trans C0.base hS.1
  have hKn := C0.K.1.1 ci _ hc
  refine W.newcK C0.exec C0.code C0.own (C0.ts _ w1) (C0.ts _ w2) (C0.ts _ w3) rfl hd (Nat.le_trans hce C0.room.2.2.1) (Nat.le_trans hsl C0.room.2.2.2) hKn.2.1 hsz fun H1 kC hkC e1 z1 o1 => ?_
  exact kk H1 locs ls (hR.push hB ⟨_, hc, (u_born ty C0.ts hin hKn hkC e1 hty).to hfs⟩ z1 o1) ⟨by rw [z1]; exact Nat.le_trans hS.1 (by rw [hsz]; omega), fun q g1 g2 => (o1 q (by rw [← hsz]; exact Nat.lt_of_lt_of_le g1 hS.1)).trans (hS.2.1 q g1 g2), hS.2.2⟩ hl
theorem j_obj (C0 : jOk x M E d mc ms) {idx a : Nat} (hd : decode M.2.1 pc = .ok (.invokespecial idx, 3)) (w1 : Cond.methodLink M.1.cls idx Lib.objectInit ∈ jTG) (w2 : Cond.instanceMethod Lib.objectInit ∈ jTG) (w3 : Cond.code Lib.objectInit ⟨#[0xb1]⟩ 1 none ∈ jTG) (hdd : 1 ≤ d) (hst : (st.map fun v => v.category).sum ≤ 8) (kk : jJ x M E Q h sz ce sl lv (pc + 3) st) : jJ x M E Q h sz ce sl lv pc (.ref a :: st) := by
  intro H locs ls hR hS hl
  exact W.objInit C0.exec C0.code C0.own (C0.ts _ w1) (C0.ts _ w2) (C0.ts _ w3) rfl (by rw [C0.maxl]; exact hl.1) rfl hd (Nat.le_trans hdd C0.room.1) (by have := C0.room.2.1; show 2 * 0 + _ + 12 ≤ _; omega) (kk H locs ls hR hS hl)
/-- what a method's end says, and its contract -/
def jQc (E : jE) (Post : Option Value → jH → Nat → Prop) : Array Value → State → Outcome → State → Prop := fun _ st0 oc t => (∃ (r : Option Value) (h1 : jH), oc = .returned r ∧ Post r h1 t.heap.size ∧ jR E h1 t.heap.size t.heap) ∧ va_F (fun q => E.2.2 ≤ q) st0 t
abbrev jQ (x : jX) (E : jE) (mc ms : Nat) (Post : Option Value → jH → Nat → Prop) : State → Prop := MQ (jxb x) (jQc E Post) (jxa x) (jxs x) mc ms (fun q => E.2.2 ≤ q)
def jC (l : Launch) (M : jM) (d : Nat) (E : jE) (vs : List Value) (h : jH) (sz mc ms : Nat) (Post : Option Value → jH → Nat → Prop) : Prop :=
  Met l M.1 (.code M.1 M.2.1 M.2.2.1 M.2.2.2 :: jTG) { frames := d, cells := mc, slots := ms, locals := 40 * d } (va_Pc vs (fun U => jR E h sz U.heap ∧ jK E U ∧ E.2.2 ≤ sz)) (jQc E Post) mc ms (fun q => E.2.2 ≤ q)
theorem jC.of {l : Launch} {vs : List Value} {Post : Option Value → jH → Nat → Prop} (hy : plainName M.1.cls = true) (hn : (lg_sl vs).length ≤ M.2.2.1) (body : ∀ x : jX, jOk x M E d mc ms → x.2.1 = l → jJ x M E (jQ x E mc ms Post) h sz 0 0 (lv_args 0 vs) 0 []) : jC l M d E vs h sz mc ms Post := by
  refine Met.ofW (cc := M.2.1) (maxL := M.2.2.1) (ret := M.2.2.2) hy rfl ?_
  intro p e s m args below meth c s₁ B hml hv
  obtain ⟨rfl, hR, hK, hB⟩ := hv
  rw [lg_entry_eq]
  have hts := atoms_spec (ws := .code M.1 M.2.1 M.2.2.1 M.2.2.2 :: jTG) B.pre
  exact body (p, l, e, { frames := d, cells := mc, slots := ms, locals := 40 * d }, s, m, vs.toArray, below, meth, c)
    ⟨B.exec, B.bytes, hml, findClass_of_methodNamed B.named, fun w hw => hts w (List.mem_cons_of_mem _ hw), hK, ⟨Nat.le_refl _, Nat.le_refl _, Nat.le_refl _, Nat.le_refl _⟩, B.returns, B.notSynchronized, by rw [← hR.1] at hB; exact hB, (name_of_methodNamed B.named B.method).1⟩ rfl
    s.heap [] _ hR va_S.rf (lv_entry vs hn)
variable {Post : Option Value → jH → Nat → Prop}
theorem j_iret (C0 : jOk x M E d mc ms) {v : Int32} (hd : decode M.2.1 pc = .ok (.ireturn, 1)) (hr : M.2.2.2 = some .int) (hc : ce ≤ mc) (hs : sl ≤ ms) (hp : Post (some (.int v)) h sz) : jJ x M E (jQ x E mc ms Post) h sz ce sl lv pc [.int v] := by
  intro H locs ls hR hS hl
  refine W.widen hc hs ?_
  exact W.iret C0.exec C0.code (C0.ret.trans hr) (fun t ht _ => ⟨⟨_, h, rfl, by rw [ht, hR.1]; exact hp, by rw [ht]; exact ⟨rfl, hR.2⟩⟩, hS.F ht⟩) hS.2.2 hd C0.locks
theorem j_zret (C0 : jOk x M E d mc ms) {v : Int32} (hd : decode M.2.1 pc = .ok (.ireturn, 1)) (hr : M.2.2.2 = some .boolean) (hn : narrow .boolean (.int v) = .int v) (hc : ce ≤ mc) (hs : sl ≤ ms) (hp : Post (some (.int v)) h sz) : jJ x M E (jQ x E mc ms Post) h sz ce sl lv pc [.int v] := by
  intro H locs ls hR hS hl
  refine W.widen hc hs ?_
  exact W.zret C0.exec C0.code (C0.ret.trans hr) hn (fun t ht _ => ⟨⟨_, h, rfl, by rw [ht, hR.1]; exact hp, by rw [ht]; exact ⟨rfl, hR.2⟩⟩, hS.F ht⟩) hS.2.2 hd C0.locks
theorem j_lret (C0 : jOk x M E d mc ms) {v : Int64} (hd : decode M.2.1 pc = .ok (.lreturn, 1)) (hr : M.2.2.2 = some .long) (hc : ce ≤ mc) (hs : sl ≤ ms) (hp : Post (some (.long v)) h sz) : jJ x M E (jQ x E mc ms Post) h sz ce sl lv pc [.long v] := by
  intro H locs ls hR hS hl
  refine W.widen hc hs ?_
  exact W.lret C0.exec C0.code (C0.ret.trans hr) (fun t ht _ => ⟨⟨_, h, rfl, by rw [ht, hR.1]; exact hp, by rw [ht]; exact ⟨rfl, hR.2⟩⟩, hS.F ht⟩) hS.2.2 hd C0.locks
theorem j_aret (C0 : jOk x M E d mc ms) {a : Nat} {C : String} (hd : decode M.2.1 pc = .ok (.areturn, 1)) (hr : M.2.2.2 = some (.object C)) (hc : ce ≤ mc) (hs : sl ≤ ms) (hp : Post (some (.ref a)) h sz) : jJ x M E (jQ x E mc ms Post) h sz ce sl lv pc [.ref a] := by
  intro H locs ls hR hS hl
  refine W.widen hc hs ?_
  exact W.aret C0.exec C0.code (C0.ret.trans hr) (Or.inl ⟨C, rfl⟩) (Or.inr ⟨a, rfl⟩) (fun t ht _ => ⟨⟨_, h, rfl, by rw [ht, hR.1]; exact hp, by rw [ht]; exact ⟨rfl, hR.2⟩⟩, hS.F ht⟩) hS.2.2 hd C0.locks
theorem j_vret (C0 : jOk x M E d mc ms) (hd : decode M.2.1 pc = .ok (.return_, 1)) (hr : M.2.2.2 = none) (hc : ce ≤ mc) (hs : sl ≤ ms) (hp : Post none h sz) : jJ x M E (jQ x E mc ms Post) h sz ce sl lv pc [] := by
  intro H locs ls hR hS hl
  refine W.widen hc hs ?_
  exact W.vret C0.exec C0.code (C0.ret.trans hr) (fun t ht _ => ⟨⟨_, h, rfl, by rw [ht, hR.1]; exact hp, by rw [ht]; exact ⟨rfl, hR.2⟩⟩, hS.F ht⟩) hS.2.2 hd C0.locks
/-- behind a call -/
theorem j_run {a : Array Value} {mc' ms' : Nat} {H : Heap} {locs : List Loc} {ls : Array Slot} {stk : List Value} (hr : va_Run x.1 x.2.1 x.2.2.1 (jxR x) (jxs x) (jxm x) (jxa x) (jxb x) (jxe x) (jxc x) H locs ce sl mc' ms' (F0 (jxm x) pc ls stk) st (jQc E Post a) (fun q => E.2.2 ≤ q)) (hS : va_S (fun q => E.2.2 ≤ q) (jxs x).heap H locs) (hl : lv_has ls M.2.2.1 lv)
    (kk : ∀ (r : Option Value) (h' : jH) (sz' : Nat), Post r h' sz' → jJ x M E Q h' sz' (ce + mc') (sl + ms') lv (pc + 3) (r.toList ++ st)) : jW x H locs ce sl Q (F0 (jxm x) pc ls stk) := by
  intro T hT X
  obtain ⟨v, st₀, t, T', L, h0, X', hL, e1, e2, ⟨⟨r, h', hv, hp, hR'⟩, hz, hk⟩, hst⟩ := hr T hT X
  cases hv
  rw [h0] at hz hk
  obtain ⟨t2, a1, b1⟩ := kk v h' t.heap.size hp T'.heap (locs ++ L) ls (by rw [e1]; exact hR') ⟨Nat.le_trans hS.1 (by rw [e1]; exact hz), fun q g1 g2 => by rw [e1, hk q (Nat.lt_of_lt_of_le g1 hS.1) g2]; exact hS.2.1 q g1 g2, fun q hq => by
      rcases List.mem_append.mp hq with h | h
      · exact hS.2.2 q h
      · exact hL q h⟩ hl T' rfl X'
  exact ⟨t2, hst t2 a1, b1⟩
theorem jBlind {E : jE} {h : jH} {sz : Nat} {vs : List Value} : FrameBlind (va_Pc vs (fun U => jR E h sz U.heap ∧ jK E U ∧ E.2.2 ≤ sz)) :=
  fun _ _ _ _ q => ⟨q.1, q.2.1, jK.same rfl q.2.2.1, q.2.2.2⟩
theorem jTG_in (own : String) (w : Cond) (hw : w ∈ jTG) : w ∈ jTG ∧ ((w.onTables && w.keeps) = true ∨ ∃ ty, w = .arrayClass ty) := ⟨hw, good_of_word (jTG_good w hw)⟩
theorem jGood {M : jM} (hc : Cond.code M.1 M.2.1 M.2.2.1 M.2.2.2 ∈ jTG) : GoodIn jTG (.code M.1 M.2.1 M.2.2.1 M.2.2.2 :: jTG) := by
  intro w hw
  rcases List.mem_cons.mp hw with e | e
  · subst e; exact jTG_in "" _ hc
  · exact jTG_in "" _ e
/-- call links -/
def jCL (own : String) (idx : Nat) (M : jM) (n : Nat) : Prop := Cond.methodLink own idx M.1 ∈ jTG ∧ Cond.initialized M.1.cls ∈ jTG ∧ Cond.code M.1 M.2.1 M.2.2.1 M.2.2.2 ∈ jTG ∧ (M.1.cls ≠ "java/lang/invoke/MethodHandle" ∧ M.1.cls ≠ "java/lang/invoke/VarHandle" ∧ (parseMethodDescriptor M.1.desc).map (fun d => d.parameters.length) = some n)
def jCN (own : String) (idx : Nat) (M : jM) (host : String) (n : Nat) : Prop := (own, idx, M.1, host) ∈ jNM ∧ Cond.initialized M.1.cls ∈ jTG ∧ Cond.code M.1 M.2.1 M.2.2.1 M.2.2.2 ∈ jTG ∧ (M.1.cls ≠ "java/lang/invoke/MethodHandle" ∧ M.1.cls ≠ "java/lang/invoke/VarHandle" ∧ (parseMethodDescriptor M.1.desc).map (fun d => d.parameters.length) = some n)
theorem j_callV (C0 : jOk x M E d mc ms) {idx n : Nat} {Mc : jM} {d' mc' ms' : Nat} {b ci N : Nat} {T : u_T} {fs As stk : List Value} (hd : decode M.2.1 pc = .ok (.invokevirtual idx, 3)) (hcl : jCL M.1.cls idx Mc n) (hv : Cond.instanceMethod Mc.1 ∈ jTG ∧ Cond.selects Mc.1.cls Mc.1 Mc.1 ∈ jTG) (ct : jC x.2.1 Mc d' E (.ref b :: As) h sz mc' ms' Post) (hobj : h b = some (.inr (ci, fs))) (hC : jCl[ci]? = some (Mc.1.cls, T, N)) (hAs : As.length = n) (hstk : stk = As.reverse ++ .ref b :: st) (hR : d' + 1 ≤ d ∧ 8 + (Mc.2.2.1 + 11) + 40 * d' ≤ 40 * d) (hf : ce + mc' ≤ mc ∧ sl + ms' ≤ ms) (hst : (st.map fun v => v.category).sum ≤ 8) (kk : ∀ (r : Option Value) (h' : jH) (sz' : Nat), Post r h' sz' → jJ x M E Q h' sz' (ce + mc') (sl + ms') lv (pc + 3) (r.toList ++ st)) : jJ x M E Q h sz ce sl lv pc stk := by
  intro H locs ls hR0 hS hl
  have hB : E.2.2 ≤ sz := by rw [← hR0.1]; exact Nat.le_trans C0.base hS.1
  obtain ⟨w1, w2, w3, hd3⟩ := hcl
  obtain ⟨r', h1, cell, g1, g2, g3, -⟩ := (hR0.2 b _ hobj).2
  refine j_run (M := M) (a := (Value.ref b :: As).toArray) (va_runV (bytes := Mc.2.1) (maxL := Mc.2.2.1) (ret := Mc.2.2.2) (C := Mc.1.cls) (n := n) ⟨C0.exec, C0.code, C0.maxl, C0.own, C0.ts⟩ ct ⟨callB_of n C0.ts (jGood w3) rfl rfl rfl (C0.ts _ w2) (C0.ts _ w1) hd3 ⟨Nat.le_trans hR.1 C0.room.1, Nat.le_trans hR.2 C0.room.2.1⟩, C0.ts _ hv.1, C0.ts _ hv.2⟩ ⟨jBlind, ⟨cell, g1, by rw [g3]; rfl, by rw [g2]; exact (C0.K.1.1 ci _ hC).2.1⟩, fun U hU hW => ⟨rfl, by rw [hU]; exact hR0, C0.K.warm hW, hB⟩⟩ rfl hAs hl.1 hstk (lv_room hst) hd ⟨Nat.le_trans hf.1 C0.room.2.2.1, Nat.le_trans hf.2 C0.room.2.2.2⟩) hS hl kk
theorem j_callS (C0 : jOk x M E d mc ms) {idx n : Nat} {Mc : jM} {d' mc' ms' : Nat} {As stk : List Value} (hd : decode M.2.1 pc = .ok (.invokestatic idx, 3)) (hcl : jCL M.1.cls idx Mc n) (hv : Cond.static Mc.1 ∈ jTG) (ct : jC x.2.1 Mc d' E As h sz mc' ms' Post) (hAs : As.length = n) (hstk : stk = As.reverse ++ st) (hR : d' + 1 ≤ d ∧ 8 + (Mc.2.2.1 + 11) + 40 * d' ≤ 40 * d) (hf : ce + mc' ≤ mc ∧ sl + ms' ≤ ms) (hst : (st.map fun v => v.category).sum ≤ 8) (kk : ∀ (r : Option Value) (h' : jH) (sz' : Nat), Post r h' sz' → jJ x M E Q h' sz' (ce + mc') (sl + ms') lv (pc + 3) (r.toList ++ st)) : jJ x M E Q h sz ce sl lv pc stk := by
  intro H locs ls hR0 hS hl
  have hB : E.2.2 ≤ sz := by rw [← hR0.1]; exact Nat.le_trans C0.base hS.1
  obtain ⟨w1, w2, w3, hd3⟩ := hcl
  refine j_run (M := M) (a := As.toArray) (va_runS (bytes := Mc.2.1) (maxL := Mc.2.2.1) (ret := Mc.2.2.2) (n := n) ⟨C0.exec, C0.code, C0.maxl, C0.own, C0.ts⟩ ct ⟨callB_of n C0.ts (jGood w3) rfl rfl rfl (C0.ts _ w2) (C0.ts _ w1) hd3 ⟨Nat.le_trans hR.1 C0.room.1, Nat.le_trans hR.2 C0.room.2.1⟩, C0.ts _ hv⟩ ⟨jBlind, fun U hU hW => ⟨rfl, by rw [hU]; exact hR0, C0.K.warm hW, hB⟩⟩ rfl hAs hl.1 hstk (lv_room hst) hd ⟨Nat.le_trans hf.1 C0.room.2.2.1, Nat.le_trans hf.2 C0.room.2.2.2⟩) hS hl kk
theorem j_callI (C0 : jOk x M E d mc ms) {idx n : Nat} {Mc : jM} {d' mc' ms' : Nat} {b : Nat} {As stk : List Value} (hd : decode M.2.1 pc = .ok (.invokespecial idx, 3)) (hcl : jCL M.1.cls idx Mc n) (hv : Cond.instanceMethod Mc.1 ∈ jTG) (hy : Mc.1.name = "<init>") (hret : Mc.2.2.2 = none) (ct : jC x.2.1 Mc d' E (.ref b :: As) h sz mc' ms' Post) (hAs : As.length = n) (hstk : stk = As.reverse ++ .ref b :: st) (hR : d' + 1 ≤ d ∧ 8 + (Mc.2.2.1 + 11) + 40 * d' ≤ 40 * d) (hf : ce + mc' ≤ mc ∧ sl + ms' ≤ ms) (hst : (st.map fun v => v.category).sum ≤ 8) (kk : ∀ (r : Option Value) (h' : jH) (sz' : Nat), Post r h' sz' → jJ x M E Q h' sz' (ce + mc') (sl + ms') lv (pc + 3) (r.toList ++ st)) : jJ x M E Q h sz ce sl lv pc stk := by
  intro H locs ls hR0 hS hl
  have hB : E.2.2 ≤ sz := by rw [← hR0.1]; exact Nat.le_trans C0.base hS.1
  obtain ⟨w1, w2, w3, hd3⟩ := hcl
  have cb := callB_of (own := M.1.cls) (index := idx) (R := jxR x) (mc := mc') (ms := ms') (rm := { frames := d', cells := mc', slots := ms', locals := 40 * d' }) n C0.ts (jGood w3) rfl rfl rfl (C0.ts _ w2) (C0.ts _ w1) hd3 ⟨Nat.le_trans hR.1 C0.room.1, Nat.le_trans hR.2 C0.room.2.1⟩
  have ct' := ct
  unfold jC at ct'
  rw [hret] at cb ct'
  refine j_run (M := M) (a := (Value.ref b :: As).toArray) (va_runI (bytes := Mc.2.1) (maxL := Mc.2.2.1) (n := n) ⟨C0.exec, C0.code, C0.maxl, C0.own, C0.ts⟩ ct' ⟨cb, hy, C0.ts _ hv⟩ ⟨jBlind, fun U hU hW => ⟨rfl, by rw [hU]; exact hR0, C0.K.warm hW, hB⟩⟩ rfl hAs hl.1 hstk (lv_room hst) hd ⟨Nat.le_trans hf.1 C0.room.2.2.1, Nat.le_trans hf.2 C0.room.2.2.2⟩) hS hl kk
theorem j_callIN (C0 : jOk x M E d mc ms) {idx n : Nat} {Mc : jM} {d' mc' ms' : Nat} {b : Nat} {host : String} {As stk : List Value} (hd : decode M.2.1 pc = .ok (.invokespecial idx, 3)) (hcl : jCN M.1.cls idx Mc host n) (hv : Cond.instanceMethod Mc.1 ∈ jTG) (hy : Mc.1.name = "<init>") (hret : Mc.2.2.2 = none) (ct : jC x.2.1 Mc d' E (.ref b :: As) h sz mc' ms' Post) (hAs : As.length = n) (hstk : stk = As.reverse ++ .ref b :: st) (hR : d' + 1 ≤ d ∧ 8 + (Mc.2.2.1 + 11) + 40 * d' ≤ 40 * d) (hf : ce + mc' ≤ mc ∧ sl + ms' ≤ ms) (hst : (st.map fun v => v.category).sum ≤ 8) (kk : ∀ (r : Option Value) (h' : jH) (sz' : Nat), Post r h' sz' → jJ x M E Q h' sz' (ce + mc') (sl + ms') lv (pc + 3) (r.toList ++ st)) : jJ x M E Q h sz ce sl lv pc stk := by
  intro H locs ls hR0 hS hl
  have hB : E.2.2 ≤ sz := by rw [← hR0.1]; exact Nat.le_trans C0.base hS.1
  obtain ⟨w1, w2, w3, hd3⟩ := hcl
  have cb := va_cnB (own := M.1.cls) (host := host) (index := idx) (R := jxR x) (mc := mc') (ms := ms') (rm := { frames := d', cells := mc', slots := ms', locals := 40 * d' }) n C0.ts (jGood w3) rfl rfl rfl (C0.K.2.1 _ w1) (C0.ts _ w2) hd3 ⟨Nat.le_trans hR.1 C0.room.1, Nat.le_trans hR.2 C0.room.2.1⟩
  have ct' := ct
  unfold jC at ct'
  rw [hret] at cb ct'
  refine j_run (M := M) (a := (Value.ref b :: As).toArray) (va_runIN (bytes := Mc.2.1) (maxL := Mc.2.2.1) (n := n) ⟨C0.exec, C0.code, C0.maxl, C0.own, C0.ts⟩ ct' ⟨cb, hy, C0.ts _ hv⟩ ⟨jBlind, fun U hU hW => ⟨rfl, by rw [hU]; exact hR0, C0.K.warm hW, hB⟩⟩ rfl hAs hl.1 hstk (lv_room hst) hd ⟨Nat.le_trans hf.1 C0.room.2.2.1, Nat.le_trans hf.2 C0.room.2.2.2⟩) hS hl kk
theorem j_callSN (C0 : jOk x M E d mc ms) {idx n : Nat} {Mc : jM} {d' mc' ms' : Nat} {host : String} {As stk : List Value} (hd : decode M.2.1 pc = .ok (.invokestatic idx, 3)) (hcl : jCN M.1.cls idx Mc host n) (hv : Cond.static Mc.1 ∈ jTG) (ct : jC x.2.1 Mc d' E As h sz mc' ms' Post) (hAs : As.length = n) (hstk : stk = As.reverse ++ st) (hR : d' + 1 ≤ d ∧ 8 + (Mc.2.2.1 + 11) + 40 * d' ≤ 40 * d) (hf : ce + mc' ≤ mc ∧ sl + ms' ≤ ms) (hst : (st.map fun v => v.category).sum ≤ 8) (kk : ∀ (r : Option Value) (h' : jH) (sz' : Nat), Post r h' sz' → jJ x M E Q h' sz' (ce + mc') (sl + ms') lv (pc + 3) (r.toList ++ st)) : jJ x M E Q h sz ce sl lv pc stk := by
  intro H locs ls hR0 hS hl
  have hB : E.2.2 ≤ sz := by rw [← hR0.1]; exact Nat.le_trans C0.base hS.1
  obtain ⟨w1, w2, w3, hd3⟩ := hcl
  refine j_run (M := M) (a := As.toArray) (va_runSN (bytes := Mc.2.1) (maxL := Mc.2.2.1) (ret := Mc.2.2.2) (n := n) ⟨C0.exec, C0.code, C0.maxl, C0.own, C0.ts⟩ ct ⟨va_cnB n C0.ts (jGood w3) rfl rfl rfl (C0.K.2.1 _ w1) (C0.ts _ w2) hd3 ⟨Nat.le_trans hR.1 C0.room.1, Nat.le_trans hR.2 C0.room.2.1⟩, C0.ts _ hv, trivial⟩ ⟨jBlind, fun U hU hW => ⟨rfl, by rw [hU]; exact hR0, C0.K.warm hW, hB⟩⟩ rfl hAs hl.1 hstk (lv_room hst) hd ⟨Nat.le_trans hf.1 C0.room.2.2.1, Nat.le_trans hf.2 C0.room.2.2.2⟩) hS hl kk
theorem jC.weaken {l : Launch} {vs : List Value} {Post' : Option Value → jH → Nat → Prop} (ct : jC l M d E vs h sz mc ms Post) (hp : ∀ r h' sz', Post r h' sz' → Post' r h' sz') : jC l M d E vs h sz mc ms Post' := by
  unfold jC Met at ct ⊢
  intro p e ha hc hk s m args below hf happ hP hK
  obtain ⟨k, o, h1, h2, h3, ⟨⟨r, h', e1, e2, e3⟩, hF⟩, L, hL⟩ := ct p e ha hc hk s m args below hf happ hP hK
  exact ⟨k, o, h1, h2, h3, ⟨⟨r, h', e1, hp _ _ _ e2, e3⟩, hF⟩, L, hL⟩
end JRules
end
