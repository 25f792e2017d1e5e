/-! THE CLAIM OUT OF ONE WALK OF THE LAW'S BODY. Your part is whole_start (and what it stands on); all else here is the same for every law, but numbers. -/
def R_law : String := "MailAgentLaw"
def lw_P (b : Addr) (xs : List Int32) (args : Array Value) (s : State) : Prop := args = #[.ref b] ∧ s.IntsAt b xs ∧ xs.length ≤ 2051 ∧ (Jvm.Cond.and given_1 narrow_1).before args s = true
def lw_Q (_ : Array Value) (s : State) (o : Outcome) (t : State) : Prop := o = .returned (some (.int 1)) ∧ Framed s o t [] 600000 7302250
def lw_Z (below : List Frame) (a : Array Value) (s : State) : State → Prop := fun t => ∃ o, t.status = .running ∧ Ended t below o ∧ lw_Q a s o t
/-- the law's own end, with 1 on the stack, nothing written that was there before, its room as the claim has it -/
theorem lw_ret {p : Program} {l : Launch} {e : Env} {s : State} {m : MethodId} {below : List Frame} {meth : Method} {c : Code} {b : Nat} (hx : p.tables.exec = Jvm.exec) (hb : c.code = code) (hr : meth.sig.returnType = ret) (hlocks : meth.locks = false) {pc : Nat} {H : Heap} {ls : Array Slot} (hdg : decode code pc = .ok (.ireturn, 1)) : W p l e room_1 s m #[Value.ref b] below meth c H [] 600000 7302250 (lw_Z below #[Value.ref b] s) (F0 m pc ls [.int 1]) := by
  intro T hT X
  obtain ⟨fs, hret, hrun, hended, hW, hframe⟩ := X.leave (v := some (.int 1)) (hlocks := hlocks) (fun h => by rw [hr] at h; cases h)
  have hmeth' : T.vm.method? m = some meth := X.method'
  refine ⟨T.setFrames fs, ?_, .returned (some (.int 1)), hrun, hended, rfl, ⟨_, rfl⟩, hW, hframe⟩
  jvm_step X.here [X.here.top, hx, hb, hdg, hmeth', hr, ret, narrow_b1]
  (try refine ⟨rfl, ?_⟩); (try refine ⟨rfl, ?_⟩)
  first | (intro acts; rw [hret _ acts rfl rfl rfl]) | rw [hret _ _ rfl rfl rfl]
  exact Steps.refl _
/-- what holds at the law's entry: the machine, the code, the tables' words (any of lw_tbl by 'hts w (by decide +kernel)'), the script of L ints xs at the cell b, what the Statement gives of the start (any of its parts by flat_of_before) -/
def lw_At (p : Program) (s : State) (m : MethodId) (meth : Method) (c : Code) (b L : Nat) (xs : Nat → Int32) : Prop :=
  p.tables.exec = Jvm.exec ∧ c.code = code ∧ meth.sig.returnType = ret ∧ c.maxLocals = 4 ∧ s.vm.findClass R_law = some m.cls ∧ (∀ w ∈ lw_tbl, w.before #[Value.ref b] s = true) ∧ va_X b L xs s s.heap ∧ b < s.heap.size ∧ meth.locks = false ∧ (Jvm.Cond.and given_1 narrow_1).before #[Value.ref b] s = true
theorem sub4_in {L k : Nat} (hL : L < 2 ^ 31) (h : k + 4 ≤ L) : ¬ nI L - 4 < nI k := by
  have e : nI L - 4 = nI (L - 4) := by
    obtain ⟨q, rfl⟩ : ∃ q, L = q + 4 := ⟨L - 4, by omega⟩
    rw [show nI (q + 4) = nI q + 4 from (nI_add q 4).symm, Int32.add_sub_cancel, Nat.add_sub_cancel]
  rw [e]
  exact nI_nlt (by omega) (by omega)
theorem sub4_out {L k : Nat} (hL : L < 2 ^ 31) (hk : k < 2 ^ 31) (h : L < k + 4) (h3 : 3 ≤ k) : nI L - 4 < nI k := by
  by_cases h4 : 4 ≤ L
  · have e : nI L - 4 = nI (L - 4) := by
      obtain ⟨q, rfl⟩ : ∃ q, L = q + 4 := ⟨L - 4, by omega⟩
      rw [show nI (q + 4) = nI q + 4 from (nI_add q 4).symm, Int32.add_sub_cancel, Nat.add_sub_cancel]
    rw [e]
    exact nI_lt (by omega) hk
  · refine Int32.lt_of_lt_of_le (b := 0) ?_ (nI_le (a := 0) (Nat.zero_le _) hk)
    rcases (show L = 0 ∨ L = 1 ∨ L = 2 ∨ L = 3 by omega) with rfl | rfl | rfl | rfl <;> decide
set_option maxHeartbeats 4000000 in
set_option maxRecDepth 100000 in
theorem lw_loop {p : Program} {l : Launch} {e : Env} {s : State} {m : MethodId} {below : List Frame} {meth : Method} {c : Code} {E : jE} {b B L : Nat} {xs : Nat → Int32} {x : jX} (ex : x = (p, l, e, room_1, s, m, #[Value.ref b], below, meth, c)) (eE : E.2.2 = s.heap.size) (C0 : jOk x (M_law meth.name) E 6 600000 7302250) (hX : jXs x E b L xs) (hL : L ≤ 2051) {h : jH} (hI : lwI E B 0 h) : jJ x (M_law meth.name) E (lw_Z below #[Value.ref b] s) h (B + 104) 104 1096 (lwV b B 0) 48 [] := by
  have hL31 := hX.2.2.2
  refine j_forR ((L - 3) / 4) (fun t h => lwI E B t h) (fun _ => B + 104) (fun _ => 104) (fun _ => 1096) (fun t => lwV b B t) ?_ ?_ 0 h (Nat.zero_le _) hI
  · intro t h hT hI ih
    have ht : 4 * t + 7 ≤ L := by omega
    refine j_iload_n C0 d_law_48 rfl (by rfl) ?_
    refine j_aload_n C0 d_law_49 rfl (by rfl) ?_
    refine j_slen C0 hX d_law_50 ?_
    refine j_iconst C0 d_law_51 (v := 4) (by decide) ?_
    refine j_isub C0 d_law_52 ?_
    refine j_icmp_gt C0 d_law_53 (tgt := 635) (by decide) (fun c_53 => absurd c_53 (sub4_in hL31 (by omega))) (fun _ => ?_)
    refine j_aload_n C0 d_law_56 rfl (by rfl) ?_
    refine j_iload_n C0 d_law_57 rfl (by rfl) ?_
    refine j_sld C0 hX d_law_58 rfl (by omega) ?_
    refine j_bipush C0 d_law_59 (v := 31) (by decide) ?_
    refine j_iand C0 d_law_61 ?_
    obtain ⟨j, hj, ej⟩ := pk_andE (xs (3 + 4 * t)) (m := 31) 5 (by decide)
    rw [ej]
    rcases (show j = 0 ∨ j = 1 ∨ j = 2 ∨ j = 3 ∨ j = 4 ∨ j = 5 ∨ j = 6 ∨ j = 7 ∨ j = 8 ∨ j = 9 ∨ j = 10 ∨ j = 11 ∨ j = 12 ∨ j = 13 ∨ j = 14 ∨ j = 15 ∨ j = 16 ∨ j = 17 ∨ j = 18 ∨ 19 ≤ j by omega) with rfl | rfl | rfl | rfl | rfl | rfl | rfl | rfl | rfl | rfl | rfl | rfl | rfl | rfl | rfl | rfl | rfl | rfl | rfl | hj19
    · refine j_tableIn C0 d_law_62 (v := nI 0) (off := 90) (tgt := 152) (by decide) (by decide) (by decide) (by decide) ?_
      exact lw_alias C0 hX hL ht hI ih
    · refine j_tableIn C0 d_law_62 (v := nI 1) (off := 123) (tgt := 185) (by decide) (by decide) (by decide) (by decide) ?_
      exact lw_unalias C0 hX hL ht hI ih
    · refine j_tableIn C0 d_law_62 (v := nI 2) (off := 146) (tgt := 208) (by decide) (by decide) (by decide) (by decide) ?_
      exact lw_route C0 hX hL ht hI ih
    · refine j_tableIn C0 d_law_62 (v := nI 3) (off := 189) (tgt := 251) (by decide) (by decide) (by decide) (by decide) ?_
      exact lw_unroute C0 hX hL ht hI ih
    · refine j_tableIn C0 d_law_62 (v := nI 4) (off := 212) (tgt := 274) (by decide) (by decide) (by decide) (by decide) ?_
      exact lw_host C0 hX hL ht hI ih
    · refine j_tableIn C0 d_law_62 (v := nI 5) (off := 245) (tgt := 307) (by decide) (by decide) (by decide) (by decide) ?_
      exact lw_from C0 hX hL ht hI ih
    · refine j_tableIn C0 d_law_62 (v := nI 6) (off := 268) (tgt := 330) (by decide) (by decide) (by decide) (by decide) ?_
      exact lw_to C0 hX hL ht hI ih
    · refine j_tableIn C0 d_law_62 (v := nI 7) (off := 291) (tgt := 353) (by decide) (by decide) (by decide) (by decide) ?_
      exact lw_data C0 hX hL ht hI ih
    · refine j_tableIn C0 d_law_62 (v := nI 8) (off := 314) (tgt := 376) (by decide) (by decide) (by decide) (by decide) ?_
      exact lw_tick C0 hX hL ht hI ih
    · refine j_tableIn C0 d_law_62 (v := nI 9) (off := 337) (tgt := 399) (by decide) (by decide) (by decide) (by decide) ?_
      exact lw_sync C0 hX hL ht hI ih
    · refine j_tableIn C0 d_law_62 (v := nI 10) (off := 350) (tgt := 412) (by decide) (by decide) (by decide) (by decide) ?_
      exact lw_crash C0 hX hL ht hI ih
    · refine j_tableIn C0 d_law_62 (v := nI 11) (off := 363) (tgt := 425) (by decide) (by decide) (by decide) (by decide) ?_
      exact lw_drop C0 hX hL ht hI ih
    · refine j_tableIn C0 d_law_62 (v := nI 12) (off := 386) (tgt := 448) (by decide) (by decide) (by decide) (by decide) ?_
      exact lw_hurry C0 hX hL ht hI ih
    · refine j_tableIn C0 d_law_62 (v := nI 13) (off := 409) (tgt := 471) (by decide) (by decide) (by decide) (by decide) ?_
      exact lw_count C0 hX hL ht hI ih
    · refine j_tableIn C0 d_law_62 (v := nI 14) (off := 432) (tgt := 494) (by decide) (by decide) (by decide) (by decide) ?_
      exact lw_message C0 hX hL ht hI ih
    · refine j_tableIn C0 d_law_62 (v := nI 15) (off := 455) (tgt := 517) (by decide) (by decide) (by decide) (by decide) ?_
      exact lw_status C0 hX hL ht hI ih
    · refine j_tableIn C0 d_law_62 (v := nI 16) (off := 488) (tgt := 550) (by decide) (by decide) (by decide) (by decide) ?_
      exact lw_sender C0 hX hL ht hI ih
    · refine j_tableIn C0 d_law_62 (v := nI 17) (off := 511) (tgt := 573) (by decide) (by decide) (by decide) (by decide) ?_
      exact lw_due C0 hX hL ht hI ih
    · refine j_tableIn C0 d_law_62 (v := nI 18) (off := 534) (tgt := 596) (by decide) (by decide) (by decide) (by decide) ?_
      exact lw_received C0 hX hL ht hI ih
    · refine j_tableOut C0 d_law_62 (Or.inr (by rw [nI_toInt (by omega)]; omega)) (tgt := 629) (by decide) ?_
      refine j_iinc C0 d_law_629 (by rfl) (show _ = nI (3 + 4 * (t + 1)) from nI_add (3 + 4 * t) 4) (Nat.le_of_ble_eq_true rfl) ?_
      refine j_goto C0 d_law_632 (tgt := 48) (by decide) ?_
      obtain ⟨S, A, w, h0, q1, q2, q3⟩ := hI
      exact j_to (ih _ ⟨S, A, w, h0, q1, q2, q3.up⟩) rfl ⟨rfl, rfl, rfl, rfl, trivial⟩
  · intro h hI
    refine j_iload_n C0 d_law_48 rfl (by rfl) ?_
    refine j_aload_n C0 d_law_49 rfl (by rfl) ?_
    refine j_slen C0 hX d_law_50 ?_
    refine j_iconst C0 d_law_51 (v := 4) (by decide) ?_
    refine j_isub C0 d_law_52 ?_
    refine j_icmp_gt C0 d_law_53 (tgt := 635) (by decide) (fun _ => ?_) (fun c_53 => absurd (sub4_out hL31 (by omega) (by omega) (by omega)) c_53)
    refine j_iconst C0 d_law_635 (v := 1) (by decide) ?_
    intro H locs ls hR hS hl
    subst ex
    refine va_forget (fun q hq => by have := hS.2.2 q hq; rw [eE] at this; exact this) ?_
    refine W.widen (k := 600000) (n := 7302250) (by decide) (by decide) ?_
    exact lw_ret C0.exec C0.code C0.ret C0.locks d_law_636
theorem jNM_in : ∀ q ∈ jNM, Cond.methodLinkNest q.1 q.2.1 q.2.2.1 q.2.2.2 ∈ lw_tbl := by decide +kernel
set_option maxHeartbeats 4000000 in
set_option maxRecDepth 100000 in
theorem lw_entry {p : Program} {l : Launch} {e : Env} {s : State} {m : MethodId} {below : List Frame} {meth : Method} {c : Code} {E : jE} {b L : Nat} {xs : Nat → Int32} {x : jX} (ex : x = (p, l, e, room_1, s, m, #[Value.ref b], below, meth, c)) (eE : E.2.2 = s.heap.size) (C0 : jOk x (M_law meth.name) E 6 600000 7302250) (hX : jXs x E b L xs) (hL : L ≤ 2051) {B : Nat} : jJ x (M_law meth.name) E (lw_Z below #[Value.ref b] s) (fun _ => none) B 0 0 (lv_args 0 [.ref b]) 0 [] := by
  refine j_new C0 d_law_0 nw_La_7 (by decide) (by decide) ?_
  refine j_dup C0 d_law_3 rfl ?_
  refine j_aload_n C0 d_law_4 rfl (by rfl) ?_
  refine j_iconst C0 d_law_5 (v := 0) (by decide) ?_
  refine j_callX C0 hX d_law_6 cl_La_9 cl_La_9v (c_La_cell _ E (k := 0) (by decide)) rfl rfl ⟨by decide, by decide⟩ ⟨by decide, by decide⟩ (Nat.le_of_ble_eq_true rfl) (fun r_ h_ z_ hp_ => ?_)
  obtain ⟨rfl, rfl, rfl⟩ := hp_
  refine j_aload_n C0 d_law_9 rfl (by rfl) ?_
  refine j_iconst C0 d_law_10 (v := 1) (by decide) ?_
  refine j_callX C0 hX d_law_11 cl_La_9 cl_La_9v (c_La_cell _ E (k := 1) (by decide)) rfl rfl ⟨by decide, by decide⟩ ⟨by decide, by decide⟩ (Nat.le_of_ble_eq_true rfl) (fun r_ h_ z_ hp_ => ?_)
  obtain ⟨rfl, rfl, rfl⟩ := hp_
  refine j_aload_n C0 d_law_14 rfl (by rfl) ?_
  refine j_iconst C0 d_law_15 (v := 2) (by decide) ?_
  refine j_callX C0 hX d_law_16 cl_La_9 cl_La_9v (c_La_cell _ E (k := 2) (by decide)) rfl rfl ⟨by decide, by decide⟩ ⟨by decide, by decide⟩ (Nat.le_of_ble_eq_true rfl) (fun r_ h_ z_ hp_ => ?_)
  obtain ⟨rfl, rfl, rfl⟩ := hp_
  refine j_callI C0 d_law_19 cl_La_15 cl_La_15v rfl rfl (c_Ma_init _ E (cel L xs 0) (cel L xs 1) (cel L xs 2) jset_s rfl) rfl rfl ⟨by decide, by decide⟩ ⟨by decide, by decide⟩ (Nat.le_of_ble_eq_true rfl) (fun r_ h1 z_ hp_ => ?_)
  obtain ⟨rfl, m1, _, rfl⟩ := hp_
  refine j_astore_n C0 d_law_22 rfl (Nat.le_of_ble_eq_true rfl) ?_
  refine j_sz (B + 90) 90 572 rfl rfl rfl ?_
  refine j_new C0 d_law_23 nw_La_18 (by decide) (by decide) ?_
  refine j_dup C0 d_law_26 rfl ?_
  refine j_aload_n C0 d_law_27 rfl (by rfl) ?_
  refine j_iconst C0 d_law_28 (v := 0) (by decide) ?_
  refine j_callX C0 hX d_law_29 cl_La_9 cl_La_9v (c_La_cell _ E (k := 0) (by decide)) rfl rfl ⟨by decide, by decide⟩ ⟨by decide, by decide⟩ (Nat.le_of_ble_eq_true rfl) (fun r_ h_ z_ hp_ => ?_)
  obtain ⟨rfl, rfl, rfl⟩ := hp_
  refine j_aload_n C0 d_law_32 rfl (by rfl) ?_
  refine j_iconst C0 d_law_33 (v := 1) (by decide) ?_
  refine j_callX C0 hX d_law_34 cl_La_9 cl_La_9v (c_La_cell _ E (k := 1) (by decide)) rfl rfl ⟨by decide, by decide⟩ ⟨by decide, by decide⟩ (Nat.le_of_ble_eq_true rfl) (fun r_ h_ z_ hp_ => ?_)
  obtain ⟨rfl, rfl, rfl⟩ := hp_
  refine j_aload_n C0 d_law_37 rfl (by rfl) ?_
  refine j_iconst C0 d_law_38 (v := 2) (by decide) ?_
  refine j_callX C0 hX d_law_39 cl_La_9 cl_La_9v (c_La_cell _ E (k := 2) (by decide)) rfl rfl ⟨by decide, by decide⟩ ⟨by decide, by decide⟩ (Nat.le_of_ble_eq_true rfl) (fun r_ h_ z_ hp_ => ?_)
  obtain ⟨rfl, rfl, rfl⟩ := hp_
  refine j_callI C0 d_law_42 cl_La_20 cl_La_20v rfl rfl (c_Mo_init _ E (cel L xs 0) (cel L xs 1) (cel L xs 2) jset_s rfl) rfl rfl ⟨by decide, by decide⟩ ⟨by decide, by decide⟩ (Nat.le_of_ble_eq_true rfl) (fun r_ h2 z_ hp_ => ?_)
  obtain ⟨rfl, rfl, rfl⟩ := hp_
  refine j_astore_n C0 d_law_45 rfl (Nat.le_of_ble_eq_true rfl) ?_
  refine j_iconst C0 d_law_46 (v := 3) (by decide) ?_
  refine j_istore_n C0 d_law_47 rfl (Nat.le_of_ble_eq_true rfl) ?_
  refine j_sz (B + 104) 104 1096 rfl rfl rfl ?_
  exact j_to (lw_loop ex eE C0 hX hL (lwI.next (m1.keep (fun q q1 q2 => jset_n (by omega))) (INV_0 _ _ _))) rfl ⟨rfl, rfl, rfl, rfl, trivial⟩
set_option maxHeartbeats 4000000 in
set_option maxRecDepth 100000 in
theorem whole_start {p : Program} {e : Env} {s : State} {m : MethodId} {below : List Frame} {meth : Method} {c : Code} (l : Launch) {b L : Nat} {xs : Nat → Int32} (hL : L ≤ 2051) (C0 : lw_At p s m meth c b L xs) : W p l e room_1 s m #[Value.ref b] below meth c s.heap [] 0 0 (lw_Z below #[Value.ref b] s) (entryFrame m ([Value.ref b] : List Value).toArray 4) := by
  obtain ⟨hx, hb, hr, hml, hown, htl0, hX0, hbl, hlocks, hgv⟩ := C0
  have htl : ∀ w : Cond, w ∈ lw_tbl → w.before #[Value.ref b] s = true := fun w hw => htl0 w hw
  have htg : ∀ w ∈ jTG, w.before #[Value.ref b] s = true := fun w hw => htl0 w (List.mem_filter.mp hw).1
  obtain ⟨c0, i0, hK0⟩ := u_known (C := "MailAgent$Aliases") (T := T_Al) (N := 1) (n := 1) htg iw_Al (htl (.instantiable "MailAgent$Aliases" 1) (by decide +kernel))
  obtain ⟨c1, i1, hK1⟩ := u_known (C := "MailAgent$Deliveries") (T := T_De) (N := 4) (n := 4) htg iw_De (htl (.instantiable "MailAgent$Deliveries" 4) (by decide +kernel))
  obtain ⟨c2, i2, hK2⟩ := u_known (C := "MailAgent$Message") (T := T_Me) (N := 8) (n := 8) htg iw_Me (htl (.instantiable "MailAgent$Message" 8) (by decide +kernel))
  obtain ⟨c3, i3, hK3⟩ := u_known (C := "MailAgent$Queue") (T := T_Qu) (N := 2) (n := 2) htg iw_Qu (htl (.instantiable "MailAgent$Queue" 2) (by decide +kernel))
  obtain ⟨c4, i4, hK4⟩ := u_known (C := "MailAgent$Recipients") (T := T_Re) (N := 3) (n := 3) htg iw_Re (htl (.instantiable "MailAgent$Recipients" 3) (by decide +kernel))
  obtain ⟨c5, i5, hK5⟩ := u_known (C := "MailAgent$Routes") (T := T_Ro) (N := 3) (n := 3) htg iw_Ro (htl (.instantiable "MailAgent$Routes" 3) (by decide +kernel))
  obtain ⟨c6, i6, hK6⟩ := u_known (C := "MailAgent$Transaction") (T := T_Tr) (N := 3) (n := 3) htg iw_Tr (htl (.instantiable "MailAgent$Transaction" 3) (by decide +kernel))
  obtain ⟨c7, i7, hK7⟩ := u_known (C := "MailAgent") (T := T_Ma) (N := 13) (n := 13) htg iw_Ma (htl (.instantiable "MailAgent" 13) (by decide +kernel))
  obtain ⟨c8, i8, hK8⟩ := u_known (C := "MailAgentModel") (T := T_Mo) (N := 24) (n := 24) htg iw_Mo (htl (.instantiable "MailAgentModel" 24) (by decide +kernel))
  obtain ⟨dC, dI, hKc⟩ : ∃ (dC : Nat → ClassId) (dI : Nat → Nat → Nat), ∀ (k : Nat) (q : vw_C), jCl[k]? = some q → u_Kn s q.1 q.2.1 q.2.2 (dC k) (dI k) := by
    refine ⟨fun k => match k with | 0 => c0 | 1 => c1 | 2 => c2 | 3 => c3 | 4 => c4 | 5 => c5 | 6 => c6 | 7 => c7 | _ => c8, fun k => match k with | 0 => i0 | 1 => i1 | 2 => i2 | 3 => i3 | 4 => i4 | 5 => i5 | 6 => i6 | 7 => i7 | _ => i8, ?_⟩
    intro k q hq
    match k, hq with
    | 0, hq => cases hq; exact hK0
    | 1, hq => cases hq; exact hK1
    | 2, hq => cases hq; exact hK2
    | 3, hq => cases hq; exact hK3
    | 4, hq => cases hq; exact hK4
    | 5, hq => cases hq; exact hK5
    | 6, hq => cases hq; exact hK6
    | 7, hq => cases hq; exact hK7
    | 8, hq => cases hq; exact hK8
    | k + 9, hq => simp [jCl] at hq
  obtain ⟨a0, ka0, co0, p1, p2, p3⟩ := Cond.arrayClass_spec (htl (.arrayClass .int) (by decide +kernel))
  obtain ⟨a1, ka1, co1, q1, q2, q3⟩ := Cond.arrayClass_spec (htl (.arrayClass .long) (by decide +kernel))
  have ho2 := htl (.arrayOver (.object "MailAgent$Message")) (by decide +kernel)
  have ho3 := htl (.arrayOver (.object "MailAgent$Routes")) (by decide +kernel)
  obtain ⟨co2, a2, ka2, r1, _, r2, r3, r4⟩ := Cond.arrayOver_spec ho2
  obtain ⟨co3, a3, ka3, t1, _, t2, t3, t4⟩ := Cond.arrayOver_spec ho3
  obtain ⟨ta, e0, e1, e2, e3⟩ : ∃ ta : Nat → ClassId, ta 0 = a0 ∧ ta 1 = a1 ∧ ta 2 = a2 ∧ ta 3 = a3 := ⟨fun k => match k with | 0 => a0 | 1 => a1 | 2 => a2 | _ => a3, rfl, rfl, rfl, rfl⟩
  obtain ⟨E, eE⟩ : ∃ E : jE, E = ((dC, dI), ta, s.heap.size) := ⟨_, rfl⟩
  have hK : jK E s := by
    rw [eE]
    refine ⟨⟨hKc, fun k q hq => ?_⟩, fun q hq => va_Nw.of rfl (htl _ (jNM_in q hq)), fun C hC => ?_⟩
    · match k, hq with
      | 0, hq => cases hq; show ArrOfT s (ta 0) .int ∧ va_RA s (ta 0) .int; rw [e0]; exact ⟨fun n z => ⟨fun k h => (by cases h), ka0, p2, co0, p3⟩, p1⟩
      | 1, hq => cases hq; show ArrOfT s (ta 1) .long ∧ va_RA s (ta 1) .long; rw [e1]; exact ⟨fun n z => ⟨fun k h => (by cases h), ka1, q2, co1, q3⟩, q1⟩
      | 2, hq => cases hq; show ArrOfT s (ta 2) (.object "MailAgent$Message") ∧ va_RA s (ta 2) (.object "MailAgent$Message"); rw [e2]; exact ⟨fun n z => ⟨fun k h => (by cases h), ka2, r2, co2, r3⟩, ⟨ka2, co2, r2, r3, r1, r4⟩⟩
      | 3, hq => cases hq; show ArrOfT s (ta 3) (.object "MailAgent$Routes") ∧ va_RA s (ta 3) (.object "MailAgent$Routes"); rw [e3]; exact ⟨fun n z => ⟨fun k h => (by cases h), ka3, t2, co3, t3⟩, ⟨ka3, co3, t2, t3, t1, t4⟩⟩
      | k + 4, hq => simp [jTys] at hq
    · rcases List.mem_cons.mp hC with h | h
      · subst h; exact va_AO.of ho3
      · rcases List.mem_cons.mp h with h | h
        · subst h; exact va_AO.of ho2
        · exact absurd h List.not_mem_nil
  obtain ⟨x, ex⟩ : ∃ x : jX, x = (p, l, e, room_1, s, m, #[Value.ref b], below, meth, c) := ⟨_, rfl⟩
  have eB : E.2.2 = s.heap.size := by rw [eE]
  have C0 : jOk x (M_law meth.name) E 6 600000 7302250 := by
    rw [ex]
    exact ⟨hx, hb, hml, hown, htg, hK, ⟨show 6 ≤ room_1.frames by decide, show 40 * 6 ≤ room_1.locals by decide, show 600000 ≤ room_1.cells by decide, show 7302250 ≤ room_1.slots by decide⟩, hr, hlocks, by rw [eB]; exact Nat.le_refl _, rfl⟩
  have hX : jXs x E b L xs := by
    rw [ex]
    exact ⟨hX0, hbl, by rw [eB]; exact hbl, by omega⟩
  have hR0 : jR E (fun _ => none) s.heap.size s.heap := ⟨rfl, fun a e h => by cases h⟩
  have main : jJ x (M_law meth.name) E (lw_Z below #[Value.ref b] s) (fun _ => none) s.heap.size 0 0 (lv_args 0 [.ref b]) 0 [] := by
    exact lw_entry ex eB C0 hX hL
  have hl := lv_entry ([.ref b]) (n := 4) (Nat.le_of_ble_eq_true rfl)
  rw [lg_entry_eq]
  subst ex
  exact main s.heap [] _ hR0 (by rw [eB]; exact va_S.rf) hl
set_option maxHeartbeats 4000000 in
theorem lw_walk (l : Launch) (b : Addr) (xs : List Int32) : MetFree l x (headSpec (Jvm.Cond.code x code maxLocals ret :: tables_1) room_1) (lw_P b xs) (fun _ _ _ _ _ => True) lw_Q := by
  refine MetFree.of_bodyS (code := code) (maxLocals := maxLocals) (ret := ret) (by decide) ?_ ?_
  · intro args s m h hn
    obtain ⟨meth, c, h1, h2, h3, h4, h5, h6, -, -⟩ := Cond.code_spec hn (atoms_spec (ws := Jvm.Cond.code x code maxLocals ret :: tables_1) h _ List.mem_cons_self)
    exact ⟨meth, c, h1, h2, h3, h4, h5, h6⟩
  · intro p e s m args below meth c s₁ B hml0 hP _
    obtain ⟨rfl, hx, hbd, hgv⟩ := hP
    obtain ⟨scr, harrAt, hlist, hof, hsmall⟩ := hx
    obtain ⟨hcb, hkn, -, -⟩ := State.arrayAt?_spec harrAt
    have hown : s.vm.findClass R_law = some m.cls := findClass_of_methodNamed B.named
    have hts0 : ∀ c ∈ (Jvm.Cond.code x code maxLocals ret :: tables_1), c.before #[Value.ref b] s = true := atoms_spec (ws := Jvm.Cond.code x code maxLocals ret :: tables_1) B.pre
    have hts : ∀ w ∈ lw_tbl, w.before #[Value.ref b] s = true := k2_hts_sels lw_privs (fun w hw => hts0 w (List.mem_cons_of_mem _ hw)) lw_privs_ok
    have hml : c.maxLocals = 4 := B.maxLocals_eq (hts0 _ List.mem_cons_self)
    have X₀ : Stand p l e room_1 s m #[Value.ref b] below meth c s₁ [] 0 0 := Stand.of_body B
    have hh0 : s₁.heap = s.heap := by rw [B.state]; rfl
    have hsz : scr.slots.size = xs.length := by rw [← Array.length_toList, hlist, List.length_map]
    have hval : ∀ j : Nat, j < xs.length → scr.slots[j]? = some (.int (xs.getD j 0)) := fun j hj => by
      rw [← Array.getElem?_toList, hlist]
      simp [hj]
    have hbl : b < s.heap.size := (Array.getElem?_eq_some_iff.mp hcb).1
    have hX : va_X b xs.length (fun j => xs.getD j 0) s s.heap := ⟨scr, hcb, hof, hkn, hsz, hval⟩
    have K : W p l e room_1 s m #[Value.ref b] below meth c s₁.heap [] 0 0 (lw_Z below #[Value.ref b] s) (entryFrame m ([Value.ref b] : List Value).toArray 4) := by
      rw [hh0]
      exact whole_start l hbd ⟨B.exec, B.bytes, B.returns, hml, hown, hts, hX, hbl, B.notSynchronized, hgv⟩
    obtain ⟨t, a1, o, b1, b2, b3⟩ := K s₁ rfl X₀
    exact ⟨t, o, a1, b1, b2, b3⟩
theorem lw_pre_spec {args : Array Value} {s : State} (h : (Jvm.Cond.and given_1 narrow_1).before args s = true) (hr : rest_1_c.before args s = true) : ∃ (b : Addr) (xs : List Int32), lw_P b xs args s := by
  have hs := flat_of_before _ h
  have hq := flat_of_before _ hr
  have hc : (Cond.count 1).before args s = true := hs _ (by decide +kernel)
  have harr : (Cond.arrayOf (.arg 0) .int).before args s = true := hs _ (by decide +kernel)
  have hle : (Cond.le (.length (.arg 0)) (.int 2051)).before args s = true := hs _ (by decide +kernel)
  have hlen : (Cond.isInt (.length (.arg 0))).before args s = true := hq _ (by decide +kernel)
  have hall : (Cond.all (.arg 0) (.isInt (.elem (.arg 0) (.index 0)))).before args s = true := hq _ (by decide +kernel)
  obtain ⟨b, xs, hb, hx⟩ := State.ints_of_pre rfl harr hlen hall
  have hsm : xs.length < 2 ^ 31 := hx.choose_spec.2.2.2
  have hev : (Term.length (.arg 0)).eval args s none [] s = some (.int xs.length.toInt32) := hx.length_eval hb
  have hv := Cond.le_ints hev (show (Term.int 2051).eval args s none [] s = some (.int 2051) from rfl)
  have hd : xs.length.toInt32 ≤ 2051 := by
    simpa [Cond.before, Cond.holds, hv] using hle
  have hN : xs.length ≤ 2051 := (Int32.ofNat_le_ofNat hsm (by decide)).mp (show Int32.ofNat xs.length ≤ Int32.ofNat 2051 from hd)
  exact ⟨b, xs, Cond.one_arg hc (show args[0]? = some (.ref b) from hb), hx, hN, h⟩
theorem lw_comes (l : Launch) : Comes l x (Jvm.Cond.code x code maxLocals ret :: tables_1) room_1 (fun tb e args s => Calls_1 tb e args s ∧ rest_1 tb e args s ∧ Pre_1 tb e args s)
    (fun _ _ args s o t => lw_Q args s o t) := by
  intro p e ha hc hk s m args below hf hfit hheap happ hpre
  obtain ⟨b, xs, hP⟩ := lw_pre_spec hpre.2.2 hpre.2.1
  obtain ⟨k, o, h1, h2, h3, hQ⟩ := lw_walk l b xs p e ha hc hk s m args below hf ((Spec.applies_iff_loose hf).mp happ).1 hP trivial
  exact ⟨k, o, h1, h2, h3, hQ⟩
theorem lw_frame {s t : State} {o : Outcome} {args : Array Value} (h : Framed s o t [] 600000 7302250) :
    Framed s o t (fieldLocs frame_1_writes args s ++ arrayLocs frame_1_arrays args s ++ staticLocs frame_1_statics s) 600000 7302250 := h
theorem lw_limb (L : Cond) (hL : ∀ (args : Array Value) (s t : State), L.after args s (.returned (some (.int 1))) t = true) :
    ArmFor flags0 classFile x code maxLocals ret World_1 tables_1 room_1 Calls_1 rest_1 Pre_1
      (fun tb e a s o t => postC L tb e a s o t ∧ Framed s o t (fieldLocs frame_1_writes a s ++ arrayLocs frame_1_arrays a s ++ staticLocs frame_1_statics s) 600000 7302250) := by
  intro l _ _ _ p e ha hc hk s m args below hf hfit hheap happ hpre
  obtain ⟨k, o, h1, h2, h3, rfl, hF⟩ := lw_comes l p e ha hc hk s m args below hf hfit hheap happ hpre
  exact ⟨k, _, h1, h2, h3, hL args s _, lw_frame hF⟩
theorem i_vc : Claimed_1_1 ∧ Claimed_1_2 := ⟨lw_limb limb_1_1 (fun args s t => by simp [limb_1_1, Cond.after, Cond.holds, Cond.value]), lw_limb limb_1_2 (fun args s t => Cond.after_iff.mpr (by
  first | (rw [show limb_1_2 = Cond.eq .result (.int 1) from rfl, Cond.eq_ints (x := 1) (y := 1) rfl rfl]; simp; done) | (simp [limb_1_2, Cond.value, Term.eval]; done)))⟩
