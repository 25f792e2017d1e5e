set_option maxHeartbeats 4000000 in
set_option maxRecDepth 100000 in
theorem c_Ma_drop_no (l : Launch) (E : jE) {h : jH} {sz b : Nat} {S : maS} (m : isMA E h b S) (v : Int32) (hx : sG (fun j => ((mQ S).2 j).1 1) nI (-1) v 0 (mQ S).1 = -1) : jC l M_Ma_drop 5 E [.ref b, .int v] h sz 0 0 (fun r h' sz' => r = some (.int (-550)) ∧ isMA E h' b S ∧ (∀ q, q < b ∨ b + 90 ≤ q → h' q = h q) ∧ sz' = sz) := by
  have e0 := m.obj
  have eq := m.qu.obj
  refine jC.of (by decide) (Nat.le_of_ble_eq_true rfl) ?_
  intro x C0 hx
  subst hx

  refine j_aload_n C0 d_Ma_drop_0 rfl (by rfl) ?_
  refine j_getf C0 d_Ma_drop_1 fl_Ma_51 (by (repeat (first | rw [jset_s] | rw [jset_n (by omega)] | rw [reH_0] | rw [reH_1] | rw [reH_2] | rw [reH_n (by omega)])) <;> first | rfl | assumption) (by rfl) ?_
  refine j_iload_n C0 d_Ma_drop_4 rfl (by rfl) ?_
  refine j_callV C0 d_Ma_drop_5 cl_Ma_190 cl_Ma_190v (c_Qu_indexOf _ E v m.qu) m.qu.obj rfl rfl rfl ⟨by decide, by decide⟩ ⟨by omega, by omega⟩ (Nat.le_of_ble_eq_true rfl) (fun r_ h_ z_ hp_ => ?_)
  obtain ⟨rfl, rfl, rfl⟩ := hp_
  rw [hx]
  refine j_istore_n C0 d_Ma_drop_8 rfl (Nat.le_of_ble_eq_true rfl) ?_
  refine j_iload_n C0 d_Ma_drop_9 rfl (by rfl) ?_
  refine j_if_ge C0 d_Ma_drop_10 (tgt := 17) (by decide) (fun c_10 => ?_) (fun c_10 => ?_)
  · exact absurd c_10 (by decide)
  · refine j_sipush C0 d_Ma_drop_13 (v := -550) (by decide) ?_
    exact j_iret C0 d_Ma_drop_16 rfl (by omega) (by omega) ⟨rfl, m, fun q _ => rfl, rfl⟩
def drS (S : maS) (i : Nat) : maS := kcf (upd (mv S) 12 (mv S 12 + 1), S.2.1, S.2.2.1, S.2.2.2.1, S.2.2.2.2.1, ((mQ S).1 - 1, fun j => (mQ S).2 (rho i (mQ S).1 j)), S.2.2.2.2.2.2)
theorem wb7_rho {qn i : Nat} {Q : Nat → jMsg} (hb : wb7 qn Q) (hi : i < qn) : wb7 (qn - 1) (fun j => Q (rho i qn j)) := fun j hj => hb _ (by unfold rho; (repeat' split) <;> omega)
set_option maxHeartbeats 4000000 in
set_option maxRecDepth 100000 in
theorem c_Ma_drop (l : Launch) (E : jE) {h : jH} {sz b : Nat} {S : maS} (m : isMA E h b S) (v : Int32) {i : Nat} (hx : sG (fun j => ((mQ S).2 j).1 1) nI (-1) v 0 (mQ S).1 = nI i) (hi : i < (mQ S).1) (hb : wb7 (mQ S).1 (mQ S).2) : jC l M_Ma_drop 5 E [.ref b, .int v] h sz 0 0 (fun r h' sz' => r = some (.int 1) ∧ isMA E h' b (drS S i) ∧ (∀ q, q < b ∨ b + 90 ≤ q → h' q = h q) ∧ sz' = sz) := by
  have e0 := m.obj
  have eq := m.qu.obj
  have h6 := m.qu.le
  refine jC.of (by decide) (Nat.le_of_ble_eq_true rfl) ?_
  intro x C0 hx
  subst hx

  refine j_aload_n C0 d_Ma_drop_0 rfl (by rfl) ?_
  refine j_getf C0 d_Ma_drop_1 fl_Ma_51 (by (repeat (first | rw [jset_s] | rw [jset_n (by omega)] | rw [reH_0] | rw [reH_1] | rw [reH_2] | rw [reH_n (by omega)])) <;> first | rfl | assumption) (by rfl) ?_
  refine j_iload_n C0 d_Ma_drop_4 rfl (by rfl) ?_
  refine j_callV C0 d_Ma_drop_5 cl_Ma_190 cl_Ma_190v (c_Qu_indexOf _ E v m.qu) m.qu.obj rfl rfl rfl ⟨by decide, by decide⟩ ⟨by omega, by omega⟩ (Nat.le_of_ble_eq_true rfl) (fun r_ h_ z_ hp_ => ?_)
  obtain ⟨rfl, rfl, rfl⟩ := hp_
  rw [hx]
  refine j_istore_n C0 d_Ma_drop_8 rfl (Nat.le_of_ble_eq_true rfl) ?_
  refine j_iload_n C0 d_Ma_drop_9 rfl (by rfl) ?_
  refine j_if_ge C0 d_Ma_drop_10 (tgt := 17) (by decide) (fun c_10 => ?_) (fun c_10 => ?_)
  · refine j_aload_n C0 d_Ma_drop_17 rfl (by rfl) ?_
    refine j_getf C0 d_Ma_drop_18 fl_Ma_51 (by (repeat (first | rw [jset_s] | rw [jset_n (by omega)] | rw [reH_0] | rw [reH_1] | rw [reH_2] | rw [reH_n (by omega)])) <;> first | rfl | assumption) (by rfl) ?_
    refine j_iload_n C0 d_Ma_drop_21 rfl (by rfl) ?_
    refine j_callV C0 d_Ma_drop_22 cl_Ma_180 cl_Ma_180v (c_Qu_removeAt _ E m.qu hi) m.qu.obj rfl rfl rfl ⟨by decide, by decide⟩ ⟨by omega, by omega⟩ (Nat.le_of_ble_eq_true rfl) (fun r_ h_ z_ hp_ => ?_)
    obtain ⟨rfl, k1, k2, rfl⟩ := hp_
    have m1 := m.setQu k1 (fun q hq => k2 q (by omega))
    have e2 := m1.obj
    refine j_aload_n C0 d_Ma_drop_25 rfl (by rfl) ?_
    refine j_dup C0 d_Ma_drop_26 rfl ?_
    refine j_getf C0 d_Ma_drop_27 fl_Ma_71 (by (repeat (first | rw [jset_s] | rw [jset_n (by omega)] | rw [reH_0] | rw [reH_1] | rw [reH_2] | rw [reH_n (by omega)])) <;> first | rfl | assumption) (by rfl) ?_
    refine j_iconst C0 d_Ma_drop_30 (v := 1) (by decide) ?_
    refine j_iadd C0 d_Ma_drop_31 ?_
    refine j_putf C0 d_Ma_drop_32 fp_Ma_71 (by (repeat (first | rw [jset_s] | rw [jset_n (by omega)] | rw [reH_0] | rw [reH_1] | rw [reH_2] | rw [reH_n (by omega)])) <;> first | rfl | assumption) (Nat.le_of_ble_eq_true rfl) (by rfl) (by rfl) ?_
    have m2 := m1.setV (h' := jset h_ b _) (v := upd (mv S) 12 (mv S 12 + 1)) jset_s (fun q hq => jset_n (by omega))
    refine j_aload_n C0 d_Ma_drop_35 rfl (by rfl) ?_
    refine j_callV C0 d_Ma_drop_36 cl_Ma_183 cl_Ma_183v (c_Ma_keepChangesFew _ E m2 (wb7_rho hb hi)) m2.obj rfl rfl rfl ⟨by decide, by decide⟩ ⟨by omega, by omega⟩ (Nat.le_of_ble_eq_true rfl) (fun r_ h_ z_ hp_ => ?_)
    obtain ⟨rfl, m3, k3, rfl⟩ := hp_
    refine j_iconst C0 d_Ma_drop_39 (v := 1) (by decide) ?_
    exact j_iret C0 d_Ma_drop_40 rfl (by omega) (by omega) ⟨rfl, m3, fun q hq => by rw [k3 q hq, jset_n (by omega)]; exact k2 q (by omega), rfl⟩
  · exact absurd (nI_pos' (by omega)) c_10
set_option maxHeartbeats 4000000 in
set_option maxRecDepth 100000 in
theorem c_Ma_hurry_no (l : Launch) (E : jE) {h : jH} {sz b : Nat} {S : maS} (m : isMA E h b S) (v : Int32) (hx : sG (fun j => ((mQ S).2 j).1 1) nI (-1) v 0 (mQ S).1 = -1) : jC l M_Ma_hurry 5 E [.ref b, .int v] h sz 0 0 (fun r h' sz' => r = some (.int (-550)) ∧ isMA E h' b S ∧ (∀ q, q < b ∨ b + 90 ≤ q → h' q = h q) ∧ sz' = sz) := by
  have e0 := m.obj
  have eq := m.qu.obj
  refine jC.of (by decide) (Nat.le_of_ble_eq_true rfl) ?_
  intro x C0 hx
  subst hx

  refine j_aload_n C0 d_Ma_hurry_0 rfl (by rfl) ?_
  refine j_getf C0 d_Ma_hurry_1 fl_Ma_51 (by (repeat (first | rw [jset_s] | rw [jset_n (by omega)] | rw [reH_0] | rw [reH_1] | rw [reH_2] | rw [reH_n (by omega)])) <;> first | rfl | assumption) (by rfl) ?_
  refine j_iload_n C0 d_Ma_hurry_4 rfl (by rfl) ?_
  refine j_callV C0 d_Ma_hurry_5 cl_Ma_190 cl_Ma_190v (c_Qu_indexOf _ E v m.qu) m.qu.obj rfl rfl rfl ⟨by decide, by decide⟩ ⟨by omega, by omega⟩ (Nat.le_of_ble_eq_true rfl) (fun r_ h_ z_ hp_ => ?_)
  obtain ⟨rfl, rfl, rfl⟩ := hp_
  rw [hx]
  refine j_istore_n C0 d_Ma_hurry_8 rfl (Nat.le_of_ble_eq_true rfl) ?_
  refine j_iload_n C0 d_Ma_hurry_9 rfl (by rfl) ?_
  refine j_if_ge C0 d_Ma_hurry_10 (tgt := 17) (by decide) (fun c_10 => ?_) (fun c_10 => ?_)
  · exact absurd c_10 (by decide)
  · refine j_sipush C0 d_Ma_hurry_13 (v := -550) (by decide) ?_
    exact j_iret C0 d_Ma_hurry_16 rfl (by omega) (by omega) ⟨rfl, m, fun q _ => rfl, rfl⟩
def huM (S : maS) (i : Nat) : jMsg := (upd ((mQ S).2 i).1 5 (mv S 10), ((mQ S).2 i).2)
def huS (S : maS) (i : Nat) : maS := kcf (upd (mv S) 12 (mv S 12 + 1), S.2.1, S.2.2.1, S.2.2.2.1, S.2.2.2.2.1, ((mQ S).1, va_up (mQ S).2 i (huM S i)), S.2.2.2.2.2.2)
theorem wb7_up {qn i : Nat} {Q : Nat → jMsg} {y : jMsg} (hb : wb7 qn Q) (hy : y.1 7 = 0 ∨ y.1 7 = 1) : wb7 qn (va_up Q i y) := fun j hj => by
  by_cases h : j = i
  · subst h; rw [va_up_self]; exact hy
  · rw [va_up_ne _ _ h]; exact hb j hj
set_option maxHeartbeats 4000000 in
set_option maxRecDepth 100000 in
theorem c_Ma_hurry (l : Launch) (E : jE) {h : jH} {sz b : Nat} {S : maS} (m : isMA E h b S) (v : Int32) {i : Nat} (hx : sG (fun j => ((mQ S).2 j).1 1) nI (-1) v 0 (mQ S).1 = nI i) (hi : i < (mQ S).1) (hb : wb7 (mQ S).1 (mQ S).2) : jC l M_Ma_hurry 5 E [.ref b, .int v] h sz 0 0 (fun r h' sz' => r = some (.int 1) ∧ isMA E h' b (huS S i) ∧ (∀ q, q < b ∨ b + 90 ≤ q → h' q = h q) ∧ sz' = sz) := by
  have e0 := m.obj
  have eq := m.qu.obj
  have h6 := m.qu.le
  obtain ⟨f, e1⟩ := m.qu.arr
  obtain ⟨a, ha, ha1, ha2, hme, hup⟩ := m.qu.at e1 (show i < 6 by omega)
  obtain ⟨ea, er⟩ := hme
  refine jC.of (by decide) (Nat.le_of_ble_eq_true rfl) ?_
  intro x C0 hx
  subst hx

  refine j_aload_n C0 d_Ma_hurry_0 rfl (by rfl) ?_
  refine j_getf C0 d_Ma_hurry_1 fl_Ma_51 (by (repeat (first | rw [jset_s] | rw [jset_n (by omega)] | rw [reH_0] | rw [reH_1] | rw [reH_2] | rw [reH_n (by omega)])) <;> first | rfl | assumption) (by rfl) ?_
  refine j_iload_n C0 d_Ma_hurry_4 rfl (by rfl) ?_
  refine j_callV C0 d_Ma_hurry_5 cl_Ma_190 cl_Ma_190v (c_Qu_indexOf _ E v m.qu) m.qu.obj rfl rfl rfl ⟨by decide, by decide⟩ ⟨by omega, by omega⟩ (Nat.le_of_ble_eq_true rfl) (fun r_ h_ z_ hp_ => ?_)
  obtain ⟨rfl, rfl, rfl⟩ := hp_
  rw [hx]
  refine j_istore_n C0 d_Ma_hurry_8 rfl (Nat.le_of_ble_eq_true rfl) ?_
  refine j_iload_n C0 d_Ma_hurry_9 rfl (by rfl) ?_
  refine j_if_ge C0 d_Ma_hurry_10 (tgt := 17) (by decide) (fun c_10 => ?_) (fun c_10 => ?_)
  · refine j_aload_n C0 d_Ma_hurry_17 rfl (by rfl) ?_
    refine j_getf C0 d_Ma_hurry_18 fl_Ma_51 (by (repeat (first | rw [jset_s] | rw [jset_n (by omega)] | rw [reH_0] | rw [reH_1] | rw [reH_2] | rw [reH_n (by omega)])) <;> first | rfl | assumption) (by rfl) ?_
    refine j_getf C0 d_Ma_hurry_21 fl_Ma_161 (by (repeat (first | rw [jset_s] | rw [jset_n (by omega)] | rw [reH_0] | rw [reH_1] | rw [reH_2] | rw [reH_n (by omega)])) <;> first | rfl | assumption) (by rfl) ?_
    refine j_iload_n C0 d_Ma_hurry_24 rfl (by rfl) ?_
    refine j_aald C0 d_Ma_hurry_25 (by (repeat (first | rw [jset_s] | rw [jset_n (by omega)] | rw [reH_0] | rw [reH_1] | rw [reH_2] | rw [reH_n (by omega)])) <;> first | rfl | assumption) rfl rfl (by omega) (by decide) ha ?_
    refine j_aload_n C0 d_Ma_hurry_26 rfl (by rfl) ?_
    refine j_getf C0 d_Ma_hurry_27 fl_Ma_65 (by (repeat (first | rw [jset_s] | rw [jset_n (by omega)] | rw [reH_0] | rw [reH_1] | rw [reH_2] | rw [reH_n (by omega)])) <;> first | rfl | assumption) (by rfl) ?_
    refine j_putf C0 d_Ma_hurry_30 fp_Ma_165 (by (repeat (first | rw [jset_s] | rw [jset_n (by omega)] | rw [reH_0] | rw [reH_1] | rw [reH_2] | rw [reH_n (by omega)])) <;> first | rfl | assumption) (Nat.le_of_ble_eq_true rfl) (by rfl) (by rfl) ?_
    have m1 := m.setQu (hup (jset _ a _) (huM S i) ⟨jset_s, er.keep (fun q h1 h2 => jset_n (by omega))⟩ (fun q hq => jset_n (by omega))) (fun q hq => jset_n (by omega))
    have e2 := m1.obj
    refine j_aload_n C0 d_Ma_hurry_33 rfl (by rfl) ?_
    refine j_dup C0 d_Ma_hurry_34 rfl ?_
    refine j_getf C0 d_Ma_hurry_35 fl_Ma_71 (by (repeat (first | rw [jset_s] | rw [jset_n (by omega)] | rw [reH_0] | rw [reH_1] | rw [reH_2] | rw [reH_n (by omega)])) <;> first | rfl | assumption) (by rfl) ?_
    refine j_iconst C0 d_Ma_hurry_38 (v := 1) (by decide) ?_
    refine j_iadd C0 d_Ma_hurry_39 ?_
    refine j_putf C0 d_Ma_hurry_40 fp_Ma_71 (by (repeat (first | rw [jset_s] | rw [jset_n (by omega)] | rw [reH_0] | rw [reH_1] | rw [reH_2] | rw [reH_n (by omega)])) <;> first | rfl | assumption) (Nat.le_of_ble_eq_true rfl) (by rfl) (by rfl) ?_
    have m2 := m1.setV (h' := jset (jset _ a _) b _) (v := upd (mv S) 12 (mv S 12 + 1)) jset_s (fun q hq => jset_n (by omega))
    refine j_aload_n C0 d_Ma_hurry_43 rfl (by rfl) ?_
    refine j_callV C0 d_Ma_hurry_44 cl_Ma_183 cl_Ma_183v (c_Ma_keepChangesFew _ E m2 (wb7_up hb (hb i hi))) m2.obj rfl rfl rfl ⟨by decide, by decide⟩ ⟨by omega, by omega⟩ (Nat.le_of_ble_eq_true rfl) (fun r_ h_ z_ hp_ => ?_)
    obtain ⟨rfl, m3, k3, rfl⟩ := hp_
    refine j_iconst C0 d_Ma_hurry_47 (v := 1) (by decide) ?_
    exact j_iret C0 d_Ma_hurry_48 rfl (by omega) (by omega) ⟨rfl, m3, fun q hq => by rw [k3 q hq, jset_n (by omega), jset_n (by omega)], rfl⟩
  · exact absurd (nI_pos' (by omega)) c_10
set_option maxHeartbeats 4000000 in
set_option maxRecDepth 100000 in
theorem c_Ma_sender_no (l : Launch) (E : jE) {h : jH} {sz b : Nat} {S : maS} (m : isMA E h b S) (v : Int32) (hx : sG (fun j => ((mQ S).2 j).1 1) nI (-1) v 0 (mQ S).1 = -1) : jC l M_Ma_sender 1 E [.ref b, .int v] h sz 0 0 (fun r h' sz' => r = some (.int (-2)) ∧ isMA E h' b S ∧ (∀ q, q < b ∨ b + 90 ≤ q → h' q = h q) ∧ sz' = sz) := by
  have e0 := m.obj
  have eq := m.qu.obj
  refine jC.of (by decide) (Nat.le_of_ble_eq_true rfl) ?_
  intro x C0 hx
  subst hx

  refine j_aload_n C0 d_Ma_sender_0 rfl (by rfl) ?_
  refine j_getf C0 d_Ma_sender_1 fl_Ma_51 (by (repeat (first | rw [jset_s] | rw [jset_n (by omega)] | rw [reH_0] | rw [reH_1] | rw [reH_2] | rw [reH_n (by omega)])) <;> first | rfl | assumption) (by rfl) ?_
  refine j_iload_n C0 d_Ma_sender_4 rfl (by rfl) ?_
  refine j_callV C0 d_Ma_sender_5 cl_Ma_190 cl_Ma_190v (c_Qu_indexOf _ E v m.qu) m.qu.obj rfl rfl rfl ⟨by decide, by decide⟩ ⟨by omega, by omega⟩ (Nat.le_of_ble_eq_true rfl) (fun r_ h_ z_ hp_ => ?_)
  obtain ⟨rfl, rfl, rfl⟩ := hp_
  rw [hx]
  refine j_istore_n C0 d_Ma_sender_8 rfl (Nat.le_of_ble_eq_true rfl) ?_
  refine j_iload_n C0 d_Ma_sender_9 rfl (by rfl) ?_
  refine j_if_ge C0 d_Ma_sender_10 (tgt := 18) (by decide) (fun c_10 => ?_) (fun c_10 => ?_)
  · exact absurd c_10 (by decide)
  · refine j_bipush C0 d_Ma_sender_13 (v := -2) (by decide) ?_
    refine j_goto C0 d_Ma_sender_15 (tgt := 30) (by decide) ?_
    exact j_iret C0 d_Ma_sender_30 rfl (by omega) (by omega) ⟨rfl, m, fun q _ => rfl, rfl⟩
set_option maxHeartbeats 4000000 in
set_option maxRecDepth 100000 in
theorem c_Ma_sender (l : Launch) (E : jE) {h : jH} {sz b : Nat} {S : maS} (m : isMA E h b S) (v : Int32) {i : Nat} (hx : sG (fun j => ((mQ S).2 j).1 1) nI (-1) v 0 (mQ S).1 = nI i) (hi : i < (mQ S).1) : jC l M_Ma_sender 1 E [.ref b, .int v] h sz 0 0 (fun r h' sz' => r = some (.int (((mQ S).2 i).1 2)) ∧ isMA E h' b S ∧ (∀ q, q < b ∨ b + 90 ≤ q → h' q = h q) ∧ sz' = sz) := by
  have e0 := m.obj
  have eq := m.qu.obj
  have h6 := m.qu.le
  obtain ⟨f, e1⟩ := m.qu.arr
  obtain ⟨a, ha, ha1, ha2, hme, hup⟩ := m.qu.at e1 (show i < 6 by omega)
  obtain ⟨ea, er⟩ := hme
  refine jC.of (by decide) (Nat.le_of_ble_eq_true rfl) ?_
  intro x C0 hx
  subst hx

  refine j_aload_n C0 d_Ma_sender_0 rfl (by rfl) ?_
  refine j_getf C0 d_Ma_sender_1 fl_Ma_51 (by (repeat (first | rw [jset_s] | rw [jset_n (by omega)] | rw [reH_0] | rw [reH_1] | rw [reH_2] | rw [reH_n (by omega)])) <;> first | rfl | assumption) (by rfl) ?_
  refine j_iload_n C0 d_Ma_sender_4 rfl (by rfl) ?_
  refine j_callV C0 d_Ma_sender_5 cl_Ma_190 cl_Ma_190v (c_Qu_indexOf _ E v m.qu) m.qu.obj rfl rfl rfl ⟨by decide, by decide⟩ ⟨by omega, by omega⟩ (Nat.le_of_ble_eq_true rfl) (fun r_ h_ z_ hp_ => ?_)
  obtain ⟨rfl, rfl, rfl⟩ := hp_
  rw [hx]
  refine j_istore_n C0 d_Ma_sender_8 rfl (Nat.le_of_ble_eq_true rfl) ?_
  refine j_iload_n C0 d_Ma_sender_9 rfl (by rfl) ?_
  refine j_if_ge C0 d_Ma_sender_10 (tgt := 18) (by decide) (fun c_10 => ?_) (fun c_10 => ?_)
  · refine j_aload_n C0 d_Ma_sender_18 rfl (by rfl) ?_
    refine j_getf C0 d_Ma_sender_19 fl_Ma_51 (by (repeat (first | rw [jset_s] | rw [jset_n (by omega)] | rw [reH_0] | rw [reH_1] | rw [reH_2] | rw [reH_n (by omega)])) <;> first | rfl | assumption) (by rfl) ?_
    refine j_getf C0 d_Ma_sender_22 fl_Ma_161 (by (repeat (first | rw [jset_s] | rw [jset_n (by omega)] | rw [reH_0] | rw [reH_1] | rw [reH_2] | rw [reH_n (by omega)])) <;> first | rfl | assumption) (by rfl) ?_
    refine j_iload_n C0 d_Ma_sender_25 rfl (by rfl) ?_
    refine j_aald C0 d_Ma_sender_26 (by (repeat (first | rw [jset_s] | rw [jset_n (by omega)] | rw [reH_0] | rw [reH_1] | rw [reH_2] | rw [reH_n (by omega)])) <;> first | rfl | assumption) rfl rfl (by omega) (by decide) ha ?_
    refine j_getf C0 d_Ma_sender_27 fl_Ma_203 (by (repeat (first | rw [jset_s] | rw [jset_n (by omega)] | rw [reH_0] | rw [reH_1] | rw [reH_2] | rw [reH_n (by omega)])) <;> first | rfl | assumption) (by rfl) ?_
    exact j_iret C0 d_Ma_sender_30 rfl (by omega) (by omega) ⟨rfl, m, fun q _ => rfl, rfl⟩
  · exact absurd (nI_pos' (by omega)) c_10
set_option maxHeartbeats 4000000 in
set_option maxRecDepth 100000 in
theorem c_Ma_due_no (l : Launch) (E : jE) {h : jH} {sz b : Nat} {S : maS} (m : isMA E h b S) (v : Int32) (hx : sG (fun j => ((mQ S).2 j).1 1) nI (-1) v 0 (mQ S).1 = -1) : jC l M_Ma_due 1 E [.ref b, .int v] h sz 0 0 (fun r h' sz' => r = some (.int (-1)) ∧ isMA E h' b S ∧ (∀ q, q < b ∨ b + 90 ≤ q → h' q = h q) ∧ sz' = sz) := by
  have e0 := m.obj
  have eq := m.qu.obj
  refine jC.of (by decide) (Nat.le_of_ble_eq_true rfl) ?_
  intro x C0 hx
  subst hx

  refine j_aload_n C0 d_Ma_due_0 rfl (by rfl) ?_
  refine j_getf C0 d_Ma_due_1 fl_Ma_51 (by (repeat (first | rw [jset_s] | rw [jset_n (by omega)] | rw [reH_0] | rw [reH_1] | rw [reH_2] | rw [reH_n (by omega)])) <;> first | rfl | assumption) (by rfl) ?_
  refine j_iload_n C0 d_Ma_due_4 rfl (by rfl) ?_
  refine j_callV C0 d_Ma_due_5 cl_Ma_190 cl_Ma_190v (c_Qu_indexOf _ E v m.qu) m.qu.obj rfl rfl rfl ⟨by decide, by decide⟩ ⟨by omega, by omega⟩ (Nat.le_of_ble_eq_true rfl) (fun r_ h_ z_ hp_ => ?_)
  obtain ⟨rfl, rfl, rfl⟩ := hp_
  rw [hx]
  refine j_istore_n C0 d_Ma_due_8 rfl (Nat.le_of_ble_eq_true rfl) ?_
  refine j_iload_n C0 d_Ma_due_9 rfl (by rfl) ?_
  refine j_if_ge C0 d_Ma_due_10 (tgt := 17) (by decide) (fun c_10 => ?_) (fun c_10 => ?_)
  · exact absurd c_10 (by decide)
  · refine j_iconst C0 d_Ma_due_13 (v := -1) (by decide) ?_
    refine j_goto C0 d_Ma_due_14 (tgt := 29) (by decide) ?_
    exact j_iret C0 d_Ma_due_29 rfl (by omega) (by omega) ⟨rfl, m, fun q _ => rfl, rfl⟩
set_option maxHeartbeats 4000000 in
set_option maxRecDepth 100000 in
theorem c_Ma_due (l : Launch) (E : jE) {h : jH} {sz b : Nat} {S : maS} (m : isMA E h b S) (v : Int32) {i : Nat} (hx : sG (fun j => ((mQ S).2 j).1 1) nI (-1) v 0 (mQ S).1 = nI i) (hi : i < (mQ S).1) : jC l M_Ma_due 1 E [.ref b, .int v] h sz 0 0 (fun r h' sz' => r = some (.int (((mQ S).2 i).1 5)) ∧ isMA E h' b S ∧ (∀ q, q < b ∨ b + 90 ≤ q → h' q = h q) ∧ sz' = sz) := by
  have e0 := m.obj
  have eq := m.qu.obj
  have h6 := m.qu.le
  obtain ⟨f, e1⟩ := m.qu.arr
  obtain ⟨a, ha, ha1, ha2, hme, hup⟩ := m.qu.at e1 (show i < 6 by omega)
  obtain ⟨ea, er⟩ := hme
  refine jC.of (by decide) (Nat.le_of_ble_eq_true rfl) ?_
  intro x C0 hx
  subst hx

  refine j_aload_n C0 d_Ma_due_0 rfl (by rfl) ?_
  refine j_getf C0 d_Ma_due_1 fl_Ma_51 (by (repeat (first | rw [jset_s] | rw [jset_n (by omega)] | rw [reH_0] | rw [reH_1] | rw [reH_2] | rw [reH_n (by omega)])) <;> first | rfl | assumption) (by rfl) ?_
  refine j_iload_n C0 d_Ma_due_4 rfl (by rfl) ?_
  refine j_callV C0 d_Ma_due_5 cl_Ma_190 cl_Ma_190v (c_Qu_indexOf _ E v m.qu) m.qu.obj rfl rfl rfl ⟨by decide, by decide⟩ ⟨by omega, by omega⟩ (Nat.le_of_ble_eq_true rfl) (fun r_ h_ z_ hp_ => ?_)
  obtain ⟨rfl, rfl, rfl⟩ := hp_
  rw [hx]
  refine j_istore_n C0 d_Ma_due_8 rfl (Nat.le_of_ble_eq_true rfl) ?_
  refine j_iload_n C0 d_Ma_due_9 rfl (by rfl) ?_
  refine j_if_ge C0 d_Ma_due_10 (tgt := 17) (by decide) (fun c_10 => ?_) (fun c_10 => ?_)
  · refine j_aload_n C0 d_Ma_due_17 rfl (by rfl) ?_
    refine j_getf C0 d_Ma_due_18 fl_Ma_51 (by (repeat (first | rw [jset_s] | rw [jset_n (by omega)] | rw [reH_0] | rw [reH_1] | rw [reH_2] | rw [reH_n (by omega)])) <;> first | rfl | assumption) (by rfl) ?_
    refine j_getf C0 d_Ma_due_21 fl_Ma_161 (by (repeat (first | rw [jset_s] | rw [jset_n (by omega)] | rw [reH_0] | rw [reH_1] | rw [reH_2] | rw [reH_n (by omega)])) <;> first | rfl | assumption) (by rfl) ?_
    refine j_iload_n C0 d_Ma_due_24 rfl (by rfl) ?_
    refine j_aald C0 d_Ma_due_25 (by (repeat (first | rw [jset_s] | rw [jset_n (by omega)] | rw [reH_0] | rw [reH_1] | rw [reH_2] | rw [reH_n (by omega)])) <;> first | rfl | assumption) rfl rfl (by omega) (by decide) ha ?_
    refine j_getf C0 d_Ma_due_26 fl_Ma_165 (by (repeat (first | rw [jset_s] | rw [jset_n (by omega)] | rw [reH_0] | rw [reH_1] | rw [reH_2] | rw [reH_n (by omega)])) <;> first | rfl | assumption) (by rfl) ?_
    exact j_iret C0 d_Ma_due_29 rfl (by omega) (by omega) ⟨rfl, m, fun q _ => rfl, rfl⟩
  · exact absurd (nI_pos' (by omega)) c_10
set_option maxHeartbeats 4000000 in
set_option maxRecDepth 100000 in
theorem c_Ma_status_no (l : Launch) (E : jE) {h : jH} {sz b : Nat} {S : maS} (m : isMA E h b S) (v : Int32) (hx : sG (fun j => ((mQ S).2 j).1 1) nI (-1) v 0 (mQ S).1 = -1) (w : Int32) : jC l M_Ma_status 1 E [.ref b, .int v, .int w] h sz 0 0 (fun r h' sz' => r = some (.int 0) ∧ isMA E h' b S ∧ (∀ q, q < b ∨ b + 90 ≤ q → h' q = h q) ∧ sz' = sz) := by
  have e0 := m.obj
  have eq := m.qu.obj
  refine jC.of (by decide) (Nat.le_of_ble_eq_true rfl) ?_
  intro x C0 hx
  subst hx

  refine j_aload_n C0 d_Ma_status_0 rfl (by rfl) ?_
  refine j_getf C0 d_Ma_status_1 fl_Ma_51 (by (repeat (first | rw [jset_s] | rw [jset_n (by omega)] | rw [reH_0] | rw [reH_1] | rw [reH_2] | rw [reH_n (by omega)])) <;> first | rfl | assumption) (by rfl) ?_
  refine j_iload_n C0 d_Ma_status_4 rfl (by rfl) ?_
  refine j_callV C0 d_Ma_status_5 cl_Ma_190 cl_Ma_190v (c_Qu_indexOf _ E v m.qu) m.qu.obj rfl rfl rfl ⟨by decide, by decide⟩ ⟨by omega, by omega⟩ (Nat.le_of_ble_eq_true rfl) (fun r_ h_ z_ hp_ => ?_)
  obtain ⟨rfl, rfl, rfl⟩ := hp_
  rw [hx]
  refine j_istore_n C0 d_Ma_status_8 rfl (Nat.le_of_ble_eq_true rfl) ?_
  refine j_iload_n C0 d_Ma_status_9 rfl (by rfl) ?_
  refine j_if_ge C0 d_Ma_status_10 (tgt := 17) (by decide) (fun c_10 => ?_) (fun c_10 => ?_)
  · exact absurd c_10 (by decide)
  · refine j_iconst C0 d_Ma_status_13 (v := 0) (by decide) ?_
    refine j_goto C0 d_Ma_status_14 (tgt := 33) (by decide) ?_
    exact j_iret C0 d_Ma_status_33 rfl (by omega) (by omega) ⟨rfl, m, fun q _ => rfl, rfl⟩
set_option maxHeartbeats 4000000 in
set_option maxRecDepth 100000 in
theorem c_Ma_status (l : Launch) (E : jE) {h : jH} {sz b : Nat} {S : maS} (m : isMA E h b S) (v : Int32) {i : Nat} (hx : sG (fun j => ((mQ S).2 j).1 1) nI (-1) v 0 (mQ S).1 = nI i) (hi : i < (mQ S).1) (w : Int32) : jC l M_Ma_status 1 E [.ref b, .int v, .int w] h sz 0 0 (fun r h' sz' => r = some (.int (sF ((mQ S).2 i).2.2.1 ((mQ S).2 i).2.2.2 w 0 ((mQ S).2 i).2.1)) ∧ isMA E h' b S ∧ (∀ q, q < b ∨ b + 90 ≤ q → h' q = h q) ∧ sz' = sz) := by
  have e0 := m.obj
  have eq := m.qu.obj
  have h6 := m.qu.le
  obtain ⟨f, e1⟩ := m.qu.arr
  obtain ⟨a, ha, ha1, ha2, hme, hup⟩ := m.qu.at e1 (show i < 6 by omega)
  obtain ⟨ea, er⟩ := hme
  refine jC.of (by decide) (Nat.le_of_ble_eq_true rfl) ?_
  intro x C0 hx
  subst hx

  refine j_aload_n C0 d_Ma_status_0 rfl (by rfl) ?_
  refine j_getf C0 d_Ma_status_1 fl_Ma_51 (by (repeat (first | rw [jset_s] | rw [jset_n (by omega)] | rw [reH_0] | rw [reH_1] | rw [reH_2] | rw [reH_n (by omega)])) <;> first | rfl | assumption) (by rfl) ?_
  refine j_iload_n C0 d_Ma_status_4 rfl (by rfl) ?_
  refine j_callV C0 d_Ma_status_5 cl_Ma_190 cl_Ma_190v (c_Qu_indexOf _ E v m.qu) m.qu.obj rfl rfl rfl ⟨by decide, by decide⟩ ⟨by omega, by omega⟩ (Nat.le_of_ble_eq_true rfl) (fun r_ h_ z_ hp_ => ?_)
  obtain ⟨rfl, rfl, rfl⟩ := hp_
  rw [hx]
  refine j_istore_n C0 d_Ma_status_8 rfl (Nat.le_of_ble_eq_true rfl) ?_
  refine j_iload_n C0 d_Ma_status_9 rfl (by rfl) ?_
  refine j_if_ge C0 d_Ma_status_10 (tgt := 17) (by decide) (fun c_10 => ?_) (fun c_10 => ?_)
  · refine j_aload_n C0 d_Ma_status_17 rfl (by rfl) ?_
    refine j_getf C0 d_Ma_status_18 fl_Ma_51 (by (repeat (first | rw [jset_s] | rw [jset_n (by omega)] | rw [reH_0] | rw [reH_1] | rw [reH_2] | rw [reH_n (by omega)])) <;> first | rfl | assumption) (by rfl) ?_
    refine j_getf C0 d_Ma_status_21 fl_Ma_161 (by (repeat (first | rw [jset_s] | rw [jset_n (by omega)] | rw [reH_0] | rw [reH_1] | rw [reH_2] | rw [reH_n (by omega)])) <;> first | rfl | assumption) (by rfl) ?_
    refine j_iload_n C0 d_Ma_status_24 rfl (by rfl) ?_
    refine j_aald C0 d_Ma_status_25 (by (repeat (first | rw [jset_s] | rw [jset_n (by omega)] | rw [reH_0] | rw [reH_1] | rw [reH_2] | rw [reH_n (by omega)])) <;> first | rfl | assumption) rfl rfl (by omega) (by decide) ha ?_
    refine j_getf C0 d_Ma_status_26 fl_Ma_199 (by (repeat (first | rw [jset_s] | rw [jset_n (by omega)] | rw [reH_0] | rw [reH_1] | rw [reH_2] | rw [reH_n (by omega)])) <;> first | rfl | assumption) (by rfl) ?_
    refine j_iload_n C0 d_Ma_status_29 rfl (by rfl) ?_
    refine j_callV C0 d_Ma_status_30 cl_Ma_200 cl_Ma_200v (c_Re_stateOf _ E w er) er.1 rfl rfl rfl ⟨by decide, by decide⟩ ⟨by omega, by omega⟩ (Nat.le_of_ble_eq_true rfl) (fun r_ h_ z_ hp_ => ?_)
    obtain ⟨rfl, rfl, rfl⟩ := hp_
    exact j_iret C0 d_Ma_status_33 rfl (by omega) (by omega) ⟨rfl, m, fun q _ => rfl, rfl⟩
  · exact absurd (nI_pos' (by omega)) c_10
set_option maxHeartbeats 4000000 in
set_option maxRecDepth 100000 in
theorem c_Ma_message_bad (l : Launch) (E : jE) {h : jH} {sz b : Nat} {S : maS} (m : isMA E h b S) (p : Int32) (hbad : ¬ (¬ p < 0 ∧ ¬ nI (mQ S).1 ≤ p)) : jC l M_Ma_message 1 E [.ref b, .int p] h sz 0 0 (fun r h' sz' => r = some (.int 0) ∧ isMA E h' b S ∧ (∀ q, q < b ∨ b + 90 ≤ q → h' q = h q) ∧ sz' = sz) := by
  have e0 := m.obj
  have eq := m.qu.obj
  refine jC.of (by decide) (Nat.le_of_ble_eq_true rfl) ?_
  intro x C0 hx
  subst hx

  refine j_iload_n C0 d_Ma_message_0 rfl (by rfl) ?_
  refine j_aload_n C0 d_Ma_message_1 rfl (by rfl) ?_
  refine j_getf C0 d_Ma_message_2 fl_Ma_51 (by (repeat (first | rw [jset_s] | rw [jset_n (by omega)] | rw [reH_0] | rw [reH_1] | rw [reH_2] | rw [reH_n (by omega)])) <;> first | rfl | assumption) (by rfl) ?_
  refine j_getf C0 d_Ma_message_5 fl_Ma_139 (by (repeat (first | rw [jset_s] | rw [jset_n (by omega)] | rw [reH_0] | rw [reH_1] | rw [reH_2] | rw [reH_n (by omega)])) <;> first | rfl | assumption) (by rfl) ?_
  refine j_callS C0 d_Ma_message_8 cl_Ma_74 cl_Ma_74v (c_Ma_isBelow _ E _ _) rfl rfl ⟨by decide, by decide⟩ ⟨by omega, by omega⟩ (Nat.le_of_ble_eq_true rfl) (fun r_ h_ z_ hp_ => ?_)
  obtain ⟨rfl, rfl, rfl⟩ := hp_
  rw [jb_n hbad]
  refine j_if_eq C0 d_Ma_message_11 (tgt := 29) (by decide) (fun c_11 => ?_) (fun c_11 => ?_)
  · refine j_iconst C0 d_Ma_message_29 (v := 0) (by decide) ?_
    exact j_iret C0 d_Ma_message_30 rfl (by omega) (by omega) ⟨rfl, m, fun q _ => rfl, rfl⟩
  · exact absurd c_11 (by decide)
set_option maxHeartbeats 4000000 in
set_option maxRecDepth 100000 in
theorem c_Ma_message (l : Launch) (E : jE) {h : jH} {sz b : Nat} {S : maS} (m : isMA E h b S) {i : Nat} (hi : i < (mQ S).1) : jC l M_Ma_message 1 E [.ref b, .int (nI i)] h sz 0 0 (fun r h' sz' => r = some (.int (((mQ S).2 i).1 1)) ∧ isMA E h' b S ∧ (∀ q, q < b ∨ b + 90 ≤ q → h' q = h q) ∧ sz' = sz) := by
  have e0 := m.obj
  have eq := m.qu.obj
  have h6 := m.qu.le
  obtain ⟨f, e1⟩ := m.qu.arr
  obtain ⟨a, ha, ha1, ha2, hme, hup⟩ := m.qu.at e1 (show i < 6 by omega)
  obtain ⟨ea, er⟩ := hme
  refine jC.of (by decide) (Nat.le_of_ble_eq_true rfl) ?_
  intro x C0 hx
  subst hx

  refine j_iload_n C0 d_Ma_message_0 rfl (by rfl) ?_
  refine j_aload_n C0 d_Ma_message_1 rfl (by rfl) ?_
  refine j_getf C0 d_Ma_message_2 fl_Ma_51 (by (repeat (first | rw [jset_s] | rw [jset_n (by omega)] | rw [reH_0] | rw [reH_1] | rw [reH_2] | rw [reH_n (by omega)])) <;> first | rfl | assumption) (by rfl) ?_
  refine j_getf C0 d_Ma_message_5 fl_Ma_139 (by (repeat (first | rw [jset_s] | rw [jset_n (by omega)] | rw [reH_0] | rw [reH_1] | rw [reH_2] | rw [reH_n (by omega)])) <;> first | rfl | assumption) (by rfl) ?_
  refine j_callS C0 d_Ma_message_8 cl_Ma_74 cl_Ma_74v (c_Ma_isBelow _ E _ _) rfl rfl ⟨by decide, by decide⟩ ⟨by omega, by omega⟩ (Nat.le_of_ble_eq_true rfl) (fun r_ h_ z_ hp_ => ?_)
  obtain ⟨rfl, rfl, rfl⟩ := hp_
  rw [jb_y (okR hi (by omega) rfl)]
  refine j_if_eq C0 d_Ma_message_11 (tgt := 29) (by decide) (fun c_11 => ?_) (fun c_11 => ?_)
  · exact absurd c_11 (by decide)
  · refine j_aload_n C0 d_Ma_message_14 rfl (by rfl) ?_
    refine j_getf C0 d_Ma_message_15 fl_Ma_51 (by (repeat (first | rw [jset_s] | rw [jset_n (by omega)] | rw [reH_0] | rw [reH_1] | rw [reH_2] | rw [reH_n (by omega)])) <;> first | rfl | assumption) (by rfl) ?_
    refine j_getf C0 d_Ma_message_18 fl_Ma_161 (by (repeat (first | rw [jset_s] | rw [jset_n (by omega)] | rw [reH_0] | rw [reH_1] | rw [reH_2] | rw [reH_n (by omega)])) <;> first | rfl | assumption) (by rfl) ?_
    refine j_iload_n C0 d_Ma_message_21 rfl (by rfl) ?_
    refine j_aald C0 d_Ma_message_22 (by (repeat (first | rw [jset_s] | rw [jset_n (by omega)] | rw [reH_0] | rw [reH_1] | rw [reH_2] | rw [reH_n (by omega)])) <;> first | rfl | assumption) rfl rfl (by omega) (by decide) ha ?_
    refine j_getf C0 d_Ma_message_23 fl_Ma_196 (by (repeat (first | rw [jset_s] | rw [jset_n (by omega)] | rw [reH_0] | rw [reH_1] | rw [reH_2] | rw [reH_n (by omega)])) <;> first | rfl | assumption) (by rfl) ?_
    refine j_goto C0 d_Ma_message_26 (tgt := 30) (by decide) ?_
    exact j_iret C0 d_Ma_message_30 rfl (by omega) (by omega) ⟨rfl, m, fun q _ => rfl, rfl⟩
set_option maxHeartbeats 4000000 in
set_option maxRecDepth 100000 in
theorem c_Ma_count_0 (l : Launch) (E : jE) {h : jH} {sz b : Nat} {S : maS} (m : isMA E h b S) : jC l M_Ma_count 2 E [.ref b, .int 0] h sz 0 0 (fun r h' sz' => r = some (.int (nI (mQ S).1)) ∧ isMA E h' b S ∧ (∀ q, q < b ∨ b + 90 ≤ q → h' q = h q) ∧ sz' = sz) := by
  have e0 := m.obj
  have eq := m.qu.obj
  obtain ⟨t0, t1⟩ := m.tr
  have t2 := t1.1
  refine jC.of (by decide) (Nat.le_of_ble_eq_true rfl) ?_
  intro x C0 hx
  subst hx

  refine j_iload_n C0 d_Ma_count_0 rfl (by rfl) ?_
  refine j_tableIn C0 d_Ma_count_1 (v := 0) (off := 43) (tgt := 44) (by decide) (by decide) (by decide) (by decide) ?_
  refine j_aload_n C0 d_Ma_count_44 rfl (by rfl) ?_
  refine j_getf C0 d_Ma_count_45 fl_Ma_51 (by (repeat (first | rw [jset_s] | rw [jset_n (by omega)] | rw [reH_0] | rw [reH_1] | rw [reH_2] | rw [reH_n (by omega)])) <;> first | rfl | assumption) (by rfl) ?_
  refine j_getf C0 d_Ma_count_48 fl_Ma_139 (by (repeat (first | rw [jset_s] | rw [jset_n (by omega)] | rw [reH_0] | rw [reH_1] | rw [reH_2] | rw [reH_n (by omega)])) <;> first | rfl | assumption) (by rfl) ?_
  exact j_iret C0 d_Ma_count_51 rfl (by omega) (by omega) ⟨rfl, m, fun q _ => rfl, rfl⟩
set_option maxHeartbeats 4000000 in
set_option maxRecDepth 100000 in
theorem c_Ma_count_1 (l : Launch) (E : jE) {h : jH} {sz b : Nat} {S : maS} (m : isMA E h b S) : jC l M_Ma_count 2 E [.ref b, .int 1] h sz 0 0 (fun r h' sz' => r = some (.int (csQ (mQ S).2 (mQ S).1)) ∧ isMA E h' b S ∧ (∀ q, q < b ∨ b + 90 ≤ q → h' q = h q) ∧ sz' = sz) := by
  have e0 := m.obj
  have eq := m.qu.obj
  obtain ⟨t0, t1⟩ := m.tr
  have t2 := t1.1
  refine jC.of (by decide) (Nat.le_of_ble_eq_true rfl) ?_
  intro x C0 hx
  subst hx

  refine j_iload_n C0 d_Ma_count_0 rfl (by rfl) ?_
  refine j_tableIn C0 d_Ma_count_1 (v := 1) (off := 51) (tgt := 52) (by decide) (by decide) (by decide) (by decide) ?_
  refine j_aload_n C0 d_Ma_count_52 rfl (by rfl) ?_
  refine j_getf C0 d_Ma_count_53 fl_Ma_51 (by (repeat (first | rw [jset_s] | rw [jset_n (by omega)] | rw [reH_0] | rw [reH_1] | rw [reH_2] | rw [reH_n (by omega)])) <;> first | rfl | assumption) (by rfl) ?_
  refine j_callV C0 d_Ma_count_56 cl_Ma_140 cl_Ma_140v (c_Qu_costs _ E m.qu) m.qu.obj rfl rfl rfl ⟨by decide, by decide⟩ ⟨by omega, by omega⟩ (Nat.le_of_ble_eq_true rfl) (fun r_ h_ z_ hp_ => ?_)
  obtain ⟨rfl, rfl, rfl⟩ := hp_
  exact j_iret C0 d_Ma_count_59 rfl (by omega) (by omega) ⟨rfl, m, fun q _ => rfl, rfl⟩
set_option maxHeartbeats 4000000 in
set_option maxRecDepth 100000 in
theorem c_Ma_count_2 (l : Launch) (E : jE) {h : jH} {sz b : Nat} {S : maS} (m : isMA E h b S) : jC l M_Ma_count 2 E [.ref b, .int 2] h sz 0 0 (fun r h' sz' => r = some (.int (wtQ (mQ S).2 (mQ S).1)) ∧ isMA E h' b S ∧ (∀ q, q < b ∨ b + 90 ≤ q → h' q = h q) ∧ sz' = sz) := by
  have e0 := m.obj
  have eq := m.qu.obj
  obtain ⟨t0, t1⟩ := m.tr
  have t2 := t1.1
  refine jC.of (by decide) (Nat.le_of_ble_eq_true rfl) ?_
  intro x C0 hx
  subst hx

  refine j_iload_n C0 d_Ma_count_0 rfl (by rfl) ?_
  refine j_tableIn C0 d_Ma_count_1 (v := 2) (off := 59) (tgt := 60) (by decide) (by decide) (by decide) (by decide) ?_
  refine j_aload_n C0 d_Ma_count_60 rfl (by rfl) ?_
  refine j_getf C0 d_Ma_count_61 fl_Ma_51 (by (repeat (first | rw [jset_s] | rw [jset_n (by omega)] | rw [reH_0] | rw [reH_1] | rw [reH_2] | rw [reH_n (by omega)])) <;> first | rfl | assumption) (by rfl) ?_
  refine j_callV C0 d_Ma_count_64 cl_Ma_193 cl_Ma_193v (c_Qu_waitingRecipients _ E m.qu) m.qu.obj rfl rfl rfl ⟨by decide, by decide⟩ ⟨by omega, by omega⟩ (Nat.le_of_ble_eq_true rfl) (fun r_ h_ z_ hp_ => ?_)
  obtain ⟨rfl, rfl, rfl⟩ := hp_
  exact j_iret C0 d_Ma_count_67 rfl (by omega) (by omega) ⟨rfl, m, fun q _ => rfl, rfl⟩
set_option maxHeartbeats 4000000 in
set_option maxRecDepth 100000 in
theorem c_Ma_count_3 (l : Launch) (E : jE) {h : jH} {sz b : Nat} {S : maS} (m : isMA E h b S) : jC l M_Ma_count 2 E [.ref b, .int 3] h sz 0 0 (fun r h' sz' => r = some (.int (mv S 12)) ∧ isMA E h' b S ∧ (∀ q, q < b ∨ b + 90 ≤ q → h' q = h q) ∧ sz' = sz) := by
  have e0 := m.obj
  have eq := m.qu.obj
  obtain ⟨t0, t1⟩ := m.tr
  have t2 := t1.1
  refine jC.of (by decide) (Nat.le_of_ble_eq_true rfl) ?_
  intro x C0 hx
  subst hx

  refine j_iload_n C0 d_Ma_count_0 rfl (by rfl) ?_
  refine j_tableIn C0 d_Ma_count_1 (v := 3) (off := 67) (tgt := 68) (by decide) (by decide) (by decide) (by decide) ?_
  refine j_aload_n C0 d_Ma_count_68 rfl (by rfl) ?_
  refine j_getf C0 d_Ma_count_69 fl_Ma_71 (by (repeat (first | rw [jset_s] | rw [jset_n (by omega)] | rw [reH_0] | rw [reH_1] | rw [reH_2] | rw [reH_n (by omega)])) <;> first | rfl | assumption) (by rfl) ?_
  exact j_iret C0 d_Ma_count_72 rfl (by omega) (by omega) ⟨rfl, m, fun q _ => rfl, rfl⟩
set_option maxHeartbeats 4000000 in
set_option maxRecDepth 100000 in
theorem c_Ma_count_4 (l : Launch) (E : jE) {h : jH} {sz b : Nat} {S : maS} (m : isMA E h b S) : jC l M_Ma_count 2 E [.ref b, .int 4] h sz 0 0 (fun r h' sz' => r = some (.int (mv S 10)) ∧ isMA E h' b S ∧ (∀ q, q < b ∨ b + 90 ≤ q → h' q = h q) ∧ sz' = sz) := by
  have e0 := m.obj
  have eq := m.qu.obj
  obtain ⟨t0, t1⟩ := m.tr
  have t2 := t1.1
  refine jC.of (by decide) (Nat.le_of_ble_eq_true rfl) ?_
  intro x C0 hx
  subst hx

  refine j_iload_n C0 d_Ma_count_0 rfl (by rfl) ?_
  refine j_tableIn C0 d_Ma_count_1 (v := 4) (off := 72) (tgt := 73) (by decide) (by decide) (by decide) (by decide) ?_
  refine j_aload_n C0 d_Ma_count_73 rfl (by rfl) ?_
  refine j_getf C0 d_Ma_count_74 fl_Ma_65 (by (repeat (first | rw [jset_s] | rw [jset_n (by omega)] | rw [reH_0] | rw [reH_1] | rw [reH_2] | rw [reH_n (by omega)])) <;> first | rfl | assumption) (by rfl) ?_
  exact j_iret C0 d_Ma_count_77 rfl (by omega) (by omega) ⟨rfl, m, fun q _ => rfl, rfl⟩
set_option maxHeartbeats 4000000 in
set_option maxRecDepth 100000 in
theorem c_Ma_count_5 (l : Launch) (E : jE) {h : jH} {sz b : Nat} {S : maS} (m : isMA E h b S) : jC l M_Ma_count 2 E [.ref b, .int 5] h sz 0 0 (fun r h' sz' => r = some (.int (mv S 11)) ∧ isMA E h' b S ∧ (∀ q, q < b ∨ b + 90 ≤ q → h' q = h q) ∧ sz' = sz) := by
  have e0 := m.obj
  have eq := m.qu.obj
  obtain ⟨t0, t1⟩ := m.tr
  have t2 := t1.1
  refine jC.of (by decide) (Nat.le_of_ble_eq_true rfl) ?_
  intro x C0 hx
  subst hx

  refine j_iload_n C0 d_Ma_count_0 rfl (by rfl) ?_
  refine j_tableIn C0 d_Ma_count_1 (v := 5) (off := 77) (tgt := 78) (by decide) (by decide) (by decide) (by decide) ?_
  refine j_aload_n C0 d_Ma_count_78 rfl (by rfl) ?_
  refine j_getf C0 d_Ma_count_79 fl_Ma_68 (by (repeat (first | rw [jset_s] | rw [jset_n (by omega)] | rw [reH_0] | rw [reH_1] | rw [reH_2] | rw [reH_n (by omega)])) <;> first | rfl | assumption) (by rfl) ?_
  exact j_iret C0 d_Ma_count_82 rfl (by omega) (by omega) ⟨rfl, m, fun q _ => rfl, rfl⟩
set_option maxHeartbeats 4000000 in
set_option maxRecDepth 100000 in
theorem c_Ma_count_6 (l : Launch) (E : jE) {h : jH} {sz b : Nat} {S : maS} (m : isMA E h b S) : jC l M_Ma_count 2 E [.ref b, .int 6] h sz 0 0 (fun r h' sz' => r = some (.int (if (mT S).1 = 0 then -1 else nI (mT S).2.2.1)) ∧ isMA E h' b S ∧ (∀ q, q < b ∨ b + 90 ≤ q → h' q = h q) ∧ sz' = sz) := by
  have e0 := m.obj
  have eq := m.qu.obj
  obtain ⟨t0, t1⟩ := m.tr
  have t2 := t1.1
  refine jC.of (by decide) (Nat.le_of_ble_eq_true rfl) ?_
  intro x C0 hx
  subst hx

  refine j_iload_n C0 d_Ma_count_0 rfl (by rfl) ?_
  refine j_tableIn C0 d_Ma_count_1 (v := 6) (off := 82) (tgt := 83) (by decide) (by decide) (by decide) (by decide) ?_
  refine j_aload_n C0 d_Ma_count_83 rfl (by rfl) ?_
  refine j_getf C0 d_Ma_count_84 fl_Ma_44 (by (repeat (first | rw [jset_s] | rw [jset_n (by omega)] | rw [reH_0] | rw [reH_1] | rw [reH_2] | rw [reH_n (by omega)])) <;> first | rfl | assumption) (by rfl) ?_
  refine j_getf C0 d_Ma_count_87 fl_Ma_103 (by (repeat (first | rw [jset_s] | rw [jset_n (by omega)] | rw [reH_0] | rw [reH_1] | rw [reH_2] | rw [reH_n (by omega)])) <;> first | rfl | assumption) (by rfl) ?_
  refine j_if_eq C0 d_Ma_count_90 (tgt := 106) (by decide) (fun c_90 => ?_) (fun c_90 => ?_)
  · refine j_iconst C0 d_Ma_count_106 (v := -1) (by decide) ?_
    exact j_iret C0 d_Ma_count_107 rfl (by omega) (by omega) ⟨by simp [c_90], m, fun q _ => rfl, rfl⟩
  · refine j_aload_n C0 d_Ma_count_93 rfl (by rfl) ?_
    refine j_getf C0 d_Ma_count_94 fl_Ma_44 (by (repeat (first | rw [jset_s] | rw [jset_n (by omega)] | rw [reH_0] | rw [reH_1] | rw [reH_2] | rw [reH_n (by omega)])) <;> first | rfl | assumption) (by rfl) ?_
    refine j_getf C0 d_Ma_count_97 fl_Ma_111 (by (repeat (first | rw [jset_s] | rw [jset_n (by omega)] | rw [reH_0] | rw [reH_1] | rw [reH_2] | rw [reH_n (by omega)])) <;> first | rfl | assumption) (by rfl) ?_
    refine j_getf C0 d_Ma_count_100 fl_Ma_129 (by (repeat (first | rw [jset_s] | rw [jset_n (by omega)] | rw [reH_0] | rw [reH_1] | rw [reH_2] | rw [reH_n (by omega)])) <;> first | rfl | assumption) (by rfl) ?_
    refine j_goto C0 d_Ma_count_103 (tgt := 107) (by decide) ?_
    exact j_iret C0 d_Ma_count_107 rfl (by omega) (by omega) ⟨by simp [c_90], m, fun q _ => rfl, rfl⟩
set_option maxHeartbeats 4000000 in
set_option maxRecDepth 100000 in
theorem c_Ma_count_bad (l : Launch) (E : jE) {h : jH} {sz b : Nat} {S : maS} (m : isMA E h b S) (p : Int32) (hp : p.toInt < 0 ∨ 6 < p.toInt) : jC l M_Ma_count 2 E [.ref b, .int p] h sz 0 0 (fun r h' sz' => r = some (.int (-501)) ∧ isMA E h' b S ∧ (∀ q, q < b ∨ b + 90 ≤ q → h' q = h q) ∧ sz' = sz) := by
  refine jC.of (by decide) (Nat.le_of_ble_eq_true rfl) ?_
  intro x C0 hx
  subst hx

  refine j_iload_n C0 d_Ma_count_0 rfl (by rfl) ?_
  refine j_tableOut C0 d_Ma_count_1 hp (tgt := 108) (by decide) ?_
  refine j_sipush C0 d_Ma_count_108 (v := -501) (by decide) ?_
  exact j_iret C0 d_Ma_count_111 rfl (by omega) (by omega) ⟨rfl, m, fun q _ => rfl, rfl⟩
set_option maxHeartbeats 4000000 in
set_option maxRecDepth 100000 in
theorem c_Ma_received_bad (l : Launch) (E : jE) {h : jH} {sz b : Nat} {S : maS} (m : isMA E h b S) (p q : Int32) (hbad : ¬ (¬ p < 0 ∧ ¬ (if q = 3 then 8 else 64) ≤ p)) : jC l M_Ma_received 2 E [.ref b, .int p, .int q] h sz 0 0 (fun r h' sz' => r = some (.int (-501)) ∧ isMA E h' b S ∧ (∀ q, q < b ∨ b + 90 ≤ q → h' q = h q) ∧ sz' = sz) := by
  refine jC.of (by decide) (Nat.le_of_ble_eq_true rfl) ?_
  intro x C0 hx
  subst hx

  refine j_iload_n C0 d_Ma_received_0 rfl (by rfl) ?_
  refine j_iload_n C0 d_Ma_received_1 rfl (by rfl) ?_
  refine j_iconst C0 d_Ma_received_2 (v := 3) (by decide) ?_
  refine j_icmp_ne C0 d_Ma_received_3 (tgt := 11) (by decide) (fun c_3 => ?_) (fun c_3 => ?_)
  · rw [if_neg c_3] at hbad
    refine j_bipush C0 d_Ma_received_11 (v := 64) (by decide) ?_
    refine j_callS C0 d_Ma_received_13 cl_Ma_74 cl_Ma_74v (c_Ma_isBelow _ E _ _) rfl rfl ⟨by decide, by decide⟩ ⟨by omega, by omega⟩ (Nat.le_of_ble_eq_true rfl) (fun r_ h_ z_ hp_ => ?_)
    obtain ⟨rfl, rfl, rfl⟩ := hp_
    rw [jb_n hbad]
    refine j_if_ne C0 d_Ma_received_16 (tgt := 23) (by decide) (fun c_16 => ?_) (fun c_16 => ?_)
    · exact absurd c_16 (by decide)
    · refine j_sipush C0 d_Ma_received_19 (v := -501) (by decide) ?_
      exact j_iret C0 d_Ma_received_22 rfl (by omega) (by omega) ⟨rfl, m, fun q _ => rfl, rfl⟩
  · rw [if_pos c_3] at hbad
    refine j_bipush C0 d_Ma_received_6 (v := 8) (by decide) ?_
    refine j_goto C0 d_Ma_received_8 (tgt := 13) (by decide) ?_
    refine j_callS C0 d_Ma_received_13 cl_Ma_74 cl_Ma_74v (c_Ma_isBelow _ E _ _) rfl rfl ⟨by decide, by decide⟩ ⟨by omega, by omega⟩ (Nat.le_of_ble_eq_true rfl) (fun r_ h_ z_ hp_ => ?_)
    obtain ⟨rfl, rfl, rfl⟩ := hp_
    rw [jb_n hbad]
    refine j_if_ne C0 d_Ma_received_16 (tgt := 23) (by decide) (fun c_16 => ?_) (fun c_16 => ?_)
    · exact absurd c_16 (by decide)
    · refine j_sipush C0 d_Ma_received_19 (v := -501) (by decide) ?_
      exact j_iret C0 d_Ma_received_22 rfl (by omega) (by omega) ⟨rfl, m, fun q _ => rfl, rfl⟩
set_option maxHeartbeats 4000000 in
set_option maxRecDepth 100000 in
theorem c_Ma_received_what (l : Launch) (E : jE) {h : jH} {sz b : Nat} {S : maS} (m : isMA E h b S) {k : Nat} (q : Int32) (hk : k < 64) (hq : q.toInt < 0 ∨ 3 < q.toInt) : jC l M_Ma_received 2 E [.ref b, .int (nI k), .int q] h sz 0 0 (fun r h' sz' => r = some (.int (-501)) ∧ isMA E h' b S ∧ (∀ q, q < b ∨ b + 90 ≤ q → h' q = h q) ∧ sz' = sz) := by
  refine jC.of (by decide) (Nat.le_of_ble_eq_true rfl) ?_
  intro x C0 hx
  subst hx

  refine j_iload_n C0 d_Ma_received_0 rfl (by rfl) ?_
  refine j_iload_n C0 d_Ma_received_1 rfl (by rfl) ?_
  refine j_iconst C0 d_Ma_received_2 (v := 3) (by decide) ?_
  refine j_icmp_ne C0 d_Ma_received_3 (tgt := 11) (by decide) (fun c_3 => ?_) (fun c_3 => ?_)
  · refine j_bipush C0 d_Ma_received_11 (v := 64) (by decide) ?_
    refine j_callS C0 d_Ma_received_13 cl_Ma_74 cl_Ma_74v (c_Ma_isBelow _ E _ _) rfl rfl ⟨by decide, by decide⟩ ⟨by omega, by omega⟩ (Nat.le_of_ble_eq_true rfl) (fun r_ h_ z_ hp_ => ?_)
    obtain ⟨rfl, rfl, rfl⟩ := hp_
    rw [jb_y (okR (N := 64) hk (by decide) rfl)]
    refine j_if_ne C0 d_Ma_received_16 (tgt := 23) (by decide) (fun c_16 => ?_) (fun c_16 => ?_)
    · refine j_iload_n C0 d_Ma_received_23 rfl (by rfl) ?_
      refine j_tableOut C0 d_Ma_received_24 hq (tgt := 96) (by decide) ?_
      refine j_sipush C0 d_Ma_received_96 (v := -501) (by decide) ?_
      exact j_iret C0 d_Ma_received_99 rfl (by omega) (by omega) ⟨rfl, m, fun q _ => rfl, rfl⟩
    · exact absurd c_16 (by decide)
  · exact absurd hq (by rw [c_3]; decide)
set_option maxHeartbeats 4000000 in
set_option maxRecDepth 100000 in
theorem c_Ma_received_0 (l : Launch) (E : jE) {h : jH} {sz b : Nat} {S : maS} (m : isMA E h b S) {k : Nat} (hk : k < 64) : jC l M_Ma_received 2 E [.ref b, .int (nI k), .int 0] h sz 0 0 (fun r h' sz' => r = some (.int ((mL S).1 k)) ∧ isMA E h' b S ∧ (∀ q, q < b ∨ b + 90 ≤ q → h' q = h q) ∧ sz' = sz) := by
  have e0 := m.obj
  obtain ⟨d0, d1, d2, d3, d4⟩ := m.de
  refine jC.of (by decide) (Nat.le_of_ble_eq_true rfl) ?_
  intro x C0 hx
  subst hx

  refine j_iload_n C0 d_Ma_received_0 rfl (by rfl) ?_
  refine j_iload_n C0 d_Ma_received_1 rfl (by rfl) ?_
  refine j_iconst C0 d_Ma_received_2 (v := 3) (by decide) ?_
  refine j_icmp_ne C0 d_Ma_received_3 (tgt := 11) (by decide) (fun c_3 => ?_) (fun c_3 => ?_)
  · refine j_bipush C0 d_Ma_received_11 (v := 64) (by decide) ?_
    refine j_callS C0 d_Ma_received_13 cl_Ma_74 cl_Ma_74v (c_Ma_isBelow _ E _ _) rfl rfl ⟨by decide, by decide⟩ ⟨by omega, by omega⟩ (Nat.le_of_ble_eq_true rfl) (fun r_ h_ z_ hp_ => ?_)
    obtain ⟨rfl, rfl, rfl⟩ := hp_
    rw [jb_y (okR (N := 64) hk (by decide) rfl)]
    refine j_if_ne C0 d_Ma_received_16 (tgt := 23) (by decide) (fun c_16 => ?_) (fun c_16 => ?_)
    · refine j_iload_n C0 d_Ma_received_23 rfl (by rfl) ?_
      refine j_tableIn C0 d_Ma_received_24 (v := 0) (off := 32) (tgt := 56) (by decide) (by decide) (by decide) (by decide) ?_
      refine j_aload_n C0 d_Ma_received_56 rfl (by rfl) ?_
      refine j_getf C0 d_Ma_received_57 fl_Ma_61 (by (repeat (first | rw [jset_s] | rw [jset_n (by omega)] | rw [reH_0] | rw [reH_1] | rw [reH_2] | rw [reH_n (by omega)])) <;> first | rfl | assumption) (by rfl) ?_
      refine j_getf C0 d_Ma_received_60 fl_Ma_206 (by (repeat (first | rw [jset_s] | rw [jset_n (by omega)] | rw [reH_0] | rw [reH_1] | rw [reH_2] | rw [reH_n (by omega)])) <;> first | rfl | assumption) (by rfl) ?_
      refine j_iload_n C0 d_Ma_received_63 rfl (by rfl) ?_
      refine j_iald C0 d_Ma_received_64 (by (repeat (first | rw [jset_s] | rw [jset_n (by omega)] | rw [reH_0] | rw [reH_1] | rw [reH_2] | rw [reH_n (by omega)])) <;> first | rfl | assumption) rfl (by omega) (by decide) ?_
      exact j_iret C0 d_Ma_received_65 rfl (by omega) (by omega) ⟨rfl, m, fun q _ => rfl, rfl⟩
    · exact absurd c_16 (by decide)
  · exact absurd c_3 (by decide)
set_option maxHeartbeats 4000000 in
set_option maxRecDepth 100000 in
theorem c_Ma_received_1 (l : Launch) (E : jE) {h : jH} {sz b : Nat} {S : maS} (m : isMA E h b S) {k : Nat} (hk : k < 64) : jC l M_Ma_received 2 E [.ref b, .int (nI k), .int 1] h sz 0 0 (fun r h' sz' => r = some (.int ((mL S).2.1 k)) ∧ isMA E h' b S ∧ (∀ q, q < b ∨ b + 90 ≤ q → h' q = h q) ∧ sz' = sz) := by
  have e0 := m.obj
  obtain ⟨d0, d1, d2, d3, d4⟩ := m.de
  refine jC.of (by decide) (Nat.le_of_ble_eq_true rfl) ?_
  intro x C0 hx
  subst hx

  refine j_iload_n C0 d_Ma_received_0 rfl (by rfl) ?_
  refine j_iload_n C0 d_Ma_received_1 rfl (by rfl) ?_
  refine j_iconst C0 d_Ma_received_2 (v := 3) (by decide) ?_
  refine j_icmp_ne C0 d_Ma_received_3 (tgt := 11) (by decide) (fun c_3 => ?_) (fun c_3 => ?_)
  · refine j_bipush C0 d_Ma_received_11 (v := 64) (by decide) ?_
    refine j_callS C0 d_Ma_received_13 cl_Ma_74 cl_Ma_74v (c_Ma_isBelow _ E _ _) rfl rfl ⟨by decide, by decide⟩ ⟨by omega, by omega⟩ (Nat.le_of_ble_eq_true rfl) (fun r_ h_ z_ hp_ => ?_)
    obtain ⟨rfl, rfl, rfl⟩ := hp_
    rw [jb_y (okR (N := 64) hk (by decide) rfl)]
    refine j_if_ne C0 d_Ma_received_16 (tgt := 23) (by decide) (fun c_16 => ?_) (fun c_16 => ?_)
    · refine j_iload_n C0 d_Ma_received_23 rfl (by rfl) ?_
      refine j_tableIn C0 d_Ma_received_24 (v := 1) (off := 42) (tgt := 66) (by decide) (by decide) (by decide) (by decide) ?_
      refine j_aload_n C0 d_Ma_received_66 rfl (by rfl) ?_
      refine j_getf C0 d_Ma_received_67 fl_Ma_61 (by (repeat (first | rw [jset_s] | rw [jset_n (by omega)] | rw [reH_0] | rw [reH_1] | rw [reH_2] | rw [reH_n (by omega)])) <;> first | rfl | assumption) (by rfl) ?_
      refine j_getf C0 d_Ma_received_70 fl_Ma_209 (by (repeat (first | rw [jset_s] | rw [jset_n (by omega)] | rw [reH_0] | rw [reH_1] | rw [reH_2] | rw [reH_n (by omega)])) <;> first | rfl | assumption) (by rfl) ?_
      refine j_iload_n C0 d_Ma_received_73 rfl (by rfl) ?_
      refine j_iald C0 d_Ma_received_74 (by (repeat (first | rw [jset_s] | rw [jset_n (by omega)] | rw [reH_0] | rw [reH_1] | rw [reH_2] | rw [reH_n (by omega)])) <;> first | rfl | assumption) rfl (by omega) (by decide) ?_
      exact j_iret C0 d_Ma_received_75 rfl (by omega) (by omega) ⟨rfl, m, fun q _ => rfl, rfl⟩
    · exact absurd c_16 (by decide)
  · exact absurd c_3 (by decide)
set_option maxHeartbeats 4000000 in
set_option maxRecDepth 100000 in
theorem c_Ma_received_2 (l : Launch) (E : jE) {h : jH} {sz b : Nat} {S : maS} (m : isMA E h b S) {k : Nat} (hk : k < 64) : jC l M_Ma_received 2 E [.ref b, .int (nI k), .int 2] h sz 0 0 (fun r h' sz' => r = some (.int ((mL S).2.2.1 k)) ∧ isMA E h' b S ∧ (∀ q, q < b ∨ b + 90 ≤ q → h' q = h q) ∧ sz' = sz) := by
  have e0 := m.obj
  obtain ⟨d0, d1, d2, d3, d4⟩ := m.de
  refine jC.of (by decide) (Nat.le_of_ble_eq_true rfl) ?_
  intro x C0 hx
  subst hx

  refine j_iload_n C0 d_Ma_received_0 rfl (by rfl) ?_
  refine j_iload_n C0 d_Ma_received_1 rfl (by rfl) ?_
  refine j_iconst C0 d_Ma_received_2 (v := 3) (by decide) ?_
  refine j_icmp_ne C0 d_Ma_received_3 (tgt := 11) (by decide) (fun c_3 => ?_) (fun c_3 => ?_)
  · refine j_bipush C0 d_Ma_received_11 (v := 64) (by decide) ?_
    refine j_callS C0 d_Ma_received_13 cl_Ma_74 cl_Ma_74v (c_Ma_isBelow _ E _ _) rfl rfl ⟨by decide, by decide⟩ ⟨by omega, by omega⟩ (Nat.le_of_ble_eq_true rfl) (fun r_ h_ z_ hp_ => ?_)
    obtain ⟨rfl, rfl, rfl⟩ := hp_
    rw [jb_y (okR (N := 64) hk (by decide) rfl)]
    refine j_if_ne C0 d_Ma_received_16 (tgt := 23) (by decide) (fun c_16 => ?_) (fun c_16 => ?_)
    · refine j_iload_n C0 d_Ma_received_23 rfl (by rfl) ?_
      refine j_tableIn C0 d_Ma_received_24 (v := 2) (off := 52) (tgt := 76) (by decide) (by decide) (by decide) (by decide) ?_
      refine j_aload_n C0 d_Ma_received_76 rfl (by rfl) ?_
      refine j_getf C0 d_Ma_received_77 fl_Ma_61 (by (repeat (first | rw [jset_s] | rw [jset_n (by omega)] | rw [reH_0] | rw [reH_1] | rw [reH_2] | rw [reH_n (by omega)])) <;> first | rfl | assumption) (by rfl) ?_
      refine j_getf C0 d_Ma_received_80 fl_Ma_212 (by (repeat (first | rw [jset_s] | rw [jset_n (by omega)] | rw [reH_0] | rw [reH_1] | rw [reH_2] | rw [reH_n (by omega)])) <;> first | rfl | assumption) (by rfl) ?_
      refine j_iload_n C0 d_Ma_received_83 rfl (by rfl) ?_
      refine j_iald C0 d_Ma_received_84 (by (repeat (first | rw [jset_s] | rw [jset_n (by omega)] | rw [reH_0] | rw [reH_1] | rw [reH_2] | rw [reH_n (by omega)])) <;> first | rfl | assumption) rfl (by omega) (by decide) ?_
      exact j_iret C0 d_Ma_received_85 rfl (by omega) (by omega) ⟨rfl, m, fun q _ => rfl, rfl⟩
    · exact absurd c_16 (by decide)
  · exact absurd c_3 (by decide)
set_option maxHeartbeats 4000000 in
set_option maxRecDepth 100000 in
theorem c_Ma_received_3 (l : Launch) (E : jE) {h : jH} {sz b : Nat} {S : maS} (m : isMA E h b S) {k : Nat} (hk : k < 8) : jC l M_Ma_received 2 E [.ref b, .int (nI k), .int 3] h sz 0 0 (fun r h' sz' => r = some (.int ((mL S).2.2.2 k)) ∧ isMA E h' b S ∧ (∀ q, q < b ∨ b + 90 ≤ q → h' q = h q) ∧ sz' = sz) := by
  have e0 := m.obj
  obtain ⟨d0, d1, d2, d3, d4⟩ := m.de
  refine jC.of (by decide) (Nat.le_of_ble_eq_true rfl) ?_
  intro x C0 hx
  subst hx

  refine j_iload_n C0 d_Ma_received_0 rfl (by rfl) ?_
  refine j_iload_n C0 d_Ma_received_1 rfl (by rfl) ?_
  refine j_iconst C0 d_Ma_received_2 (v := 3) (by decide) ?_
  refine j_icmp_ne C0 d_Ma_received_3 (tgt := 11) (by decide) (fun c_3 => ?_) (fun c_3 => ?_)
  · exact absurd c_3 (by decide)
  · refine j_bipush C0 d_Ma_received_6 (v := 8) (by decide) ?_
    refine j_goto C0 d_Ma_received_8 (tgt := 13) (by decide) ?_
    refine j_callS C0 d_Ma_received_13 cl_Ma_74 cl_Ma_74v (c_Ma_isBelow _ E _ _) rfl rfl ⟨by decide, by decide⟩ ⟨by omega, by omega⟩ (Nat.le_of_ble_eq_true rfl) (fun r_ h_ z_ hp_ => ?_)
    obtain ⟨rfl, rfl, rfl⟩ := hp_
    rw [jb_y (okR (N := 8) hk (by decide) rfl)]
    refine j_if_ne C0 d_Ma_received_16 (tgt := 23) (by decide) (fun c_16 => ?_) (fun c_16 => ?_)
    · refine j_iload_n C0 d_Ma_received_23 rfl (by rfl) ?_
      refine j_tableIn C0 d_Ma_received_24 (v := 3) (off := 62) (tgt := 86) (by decide) (by decide) (by decide) (by decide) ?_
      refine j_aload_n C0 d_Ma_received_86 rfl (by rfl) ?_
      refine j_getf C0 d_Ma_received_87 fl_Ma_61 (by (repeat (first | rw [jset_s] | rw [jset_n (by omega)] | rw [reH_0] | rw [reH_1] | rw [reH_2] | rw [reH_n (by omega)])) <;> first | rfl | assumption) (by rfl) ?_
      refine j_getf C0 d_Ma_received_90 fl_Ma_215 (by (repeat (first | rw [jset_s] | rw [jset_n (by omega)] | rw [reH_0] | rw [reH_1] | rw [reH_2] | rw [reH_n (by omega)])) <;> first | rfl | assumption) (by rfl) ?_
      refine j_iload_n C0 d_Ma_received_93 rfl (by rfl) ?_
      refine j_iald C0 d_Ma_received_94 (by (repeat (first | rw [jset_s] | rw [jset_n (by omega)] | rw [reH_0] | rw [reH_1] | rw [reH_2] | rw [reH_n (by omega)])) <;> first | rfl | assumption) rfl (by omega) (by decide) ?_
      exact j_iret C0 d_Ma_received_95 rfl (by omega) (by omega) ⟨rfl, m, fun q _ => rfl, rfl⟩
    · exact absurd c_16 (by decide)
