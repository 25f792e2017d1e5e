set_option maxHeartbeats 4000000 in
set_option maxRecDepth 100000 in
theorem c_Mo_drop_no (l : Launch) (E : jE) {h0 : jH} {sz c : Nat} {A : moA} {w : Nat → Int32} {n : Nat} {Q : Nat → jMsg} (hn : w 12 = nI n) (hq : RQ n Q (A 6)) (v : Int32) (hx : sG (fun j => (Q j).1 1) (fun j => nI (16 * j)) (-1) v 0 n = -1) : jC l M_Mo_drop 2 E [.ref c, .int v] (moH E h0 c A w) sz 0 0 (fun r h' sz' => r = some (.int (-550)) ∧ h' = moH E h0 c A w ∧ sz' = sz) := by
  refine jC.of (by decide) (Nat.le_of_ble_eq_true rfl) ?_
  intro x C0 hx
  subst hx

  refine j_aload_n C0 d_Mo_drop_0 rfl (by rfl) ?_
  refine j_iload_n C0 d_Mo_drop_1 rfl (by rfl) ?_
  refine j_callV C0 d_Mo_drop_2 cl_Mo_127 cl_Mo_127v (c_Mo_find _ E hn hq v) mo_this rfl rfl rfl ⟨by decide, by decide⟩ ⟨by omega, by omega⟩ (Nat.le_of_ble_eq_true rfl) (fun r_ h_ z_ hp_ => ?_)
  obtain ⟨rfl, rfl, rfl⟩ := hp_
  rw [hx]
  refine j_istore_n C0 d_Mo_drop_5 rfl (Nat.le_of_ble_eq_true rfl) ?_
  refine j_iload_n C0 d_Mo_drop_6 rfl (by rfl) ?_
  refine j_if_ge C0 d_Mo_drop_7 (tgt := 14) (by decide) (fun c_7 => ?_) (fun c_7 => ?_)
  · exact absurd c_7 (by decide)
  · refine j_sipush C0 d_Mo_drop_10 (v := -550) (by decide) ?_
    exact j_iret C0 d_Mo_drop_13 rfl (by omega) (by omega) (⟨rfl, rfl, rfl⟩)
set_option maxHeartbeats 4000000 in
set_option maxRecDepth 100000 in
theorem c_Mo_drop (l : Launch) (E : jE) {h0 : jH} {sz c : Nat} {A : moA} {w : Nat → Int32} {n : Nat} {Q : Nat → jMsg} (hn : w 12 = nI n) (hq : RQ n Q (A 6)) (v : Int32) {i : Nat} (hx : sG (fun j => (Q j).1 1) (fun j => nI (16 * j)) (-1) v 0 n = nI (16 * i)) (hi : i < n) : jC l M_Mo_drop 2 E [.ref c, .int v] (moH E h0 c A w) sz 0 0 (fun r h' sz' => r = some (.int 1) ∧ h' = moH E h0 c (clA (rmA A (16 * i)) (upd (rmW w) 15 (rmW w 15 + 1))) (clW (upd (rmW w) 15 (rmW w 15 + 1))) ∧ sz' = sz) := by
  have h6 := hq.1
  have hr := hq.2 i hi
  refine jC.of (by decide) (Nat.le_of_ble_eq_true rfl) ?_
  intro x C0 hx
  subst hx

  refine j_aload_n C0 d_Mo_drop_0 rfl (by rfl) ?_
  refine j_iload_n C0 d_Mo_drop_1 rfl (by rfl) ?_
  refine j_callV C0 d_Mo_drop_2 cl_Mo_127 cl_Mo_127v (c_Mo_find _ E hn hq v) mo_this rfl rfl rfl ⟨by decide, by decide⟩ ⟨by omega, by omega⟩ (Nat.le_of_ble_eq_true rfl) (fun r_ h_ z_ hp_ => ?_)
  obtain ⟨rfl, rfl, rfl⟩ := hp_
  rw [hx]
  refine j_istore_n C0 d_Mo_drop_5 rfl (Nat.le_of_ble_eq_true rfl) ?_
  refine j_iload_n C0 d_Mo_drop_6 rfl (by rfl) ?_
  refine j_if_ge C0 d_Mo_drop_7 (tgt := 14) (by decide) (fun c_7 => ?_) (fun c_7 => ?_)
  · refine j_aload_n C0 d_Mo_drop_14 rfl (by rfl) ?_
    refine j_iload_n C0 d_Mo_drop_15 rfl (by rfl) ?_
    refine j_callV C0 d_Mo_drop_16 cl_Mo_122 cl_Mo_122v (c_Mo_remove _ E (b := 16 * i) (by omega)) mo_this rfl rfl rfl ⟨by decide, by decide⟩ ⟨by omega, by omega⟩ (Nat.le_of_ble_eq_true rfl) (fun r_ h_ z_ hp_ => ?_)
    obtain ⟨rfl, rfl, rfl⟩ := hp_
    refine j_aload_n C0 d_Mo_drop_19 rfl (by rfl) ?_
    refine j_dup C0 d_Mo_drop_20 rfl ?_
    refine mo_get C0 d_Mo_drop_21 fl_Mo_88 (by rfl) ?_
    refine j_iconst C0 d_Mo_drop_24 (v := 1) (by decide) ?_
    refine j_iadd C0 d_Mo_drop_25 ?_
    refine mo_put C0 d_Mo_drop_26 fp_Mo_88 (by decide) rfl (by rfl) (by rfl) ?_
    refine j_aload_n C0 d_Mo_drop_29 rfl (by rfl) ?_
    refine j_callV C0 d_Mo_drop_30 cl_Mo_133 cl_Mo_133v (c_Mo_close _ E) mo_this rfl rfl rfl ⟨by decide, by decide⟩ ⟨by omega, by omega⟩ (Nat.le_of_ble_eq_true rfl) (fun r_ h_ z_ hp_ => ?_)
    obtain ⟨rfl, rfl, rfl⟩ := hp_
    refine j_iconst C0 d_Mo_drop_33 (v := 1) (by decide) ?_
    exact j_iret C0 d_Mo_drop_34 rfl (by omega) (by omega) (⟨rfl, rfl, rfl⟩)
  · exact absurd (Int32.not_lt.mp (nI_pos (n := 16 * i) (by omega))) c_7
set_option maxHeartbeats 4000000 in
set_option maxRecDepth 100000 in
theorem c_Mo_hurry_no (l : Launch) (E : jE) {h0 : jH} {sz c : Nat} {A : moA} {w : Nat → Int32} {n : Nat} {Q : Nat → jMsg} (hn : w 12 = nI n) (hq : RQ n Q (A 6)) (v : Int32) (hx : sG (fun j => (Q j).1 1) (fun j => nI (16 * j)) (-1) v 0 n = -1) : jC l M_Mo_hurry 2 E [.ref c, .int v] (moH E h0 c A w) sz 0 0 (fun r h' sz' => r = some (.int (-550)) ∧ h' = moH E h0 c A w ∧ sz' = sz) := by
  refine jC.of (by decide) (Nat.le_of_ble_eq_true rfl) ?_
  intro x C0 hx
  subst hx

  refine j_aload_n C0 d_Mo_hurry_0 rfl (by rfl) ?_
  refine j_iload_n C0 d_Mo_hurry_1 rfl (by rfl) ?_
  refine j_callV C0 d_Mo_hurry_2 cl_Mo_127 cl_Mo_127v (c_Mo_find _ E hn hq v) mo_this rfl rfl rfl ⟨by decide, by decide⟩ ⟨by omega, by omega⟩ (Nat.le_of_ble_eq_true rfl) (fun r_ h_ z_ hp_ => ?_)
  obtain ⟨rfl, rfl, rfl⟩ := hp_
  rw [hx]
  refine j_istore_n C0 d_Mo_hurry_5 rfl (Nat.le_of_ble_eq_true rfl) ?_
  refine j_iload_n C0 d_Mo_hurry_6 rfl (by rfl) ?_
  refine j_if_ge C0 d_Mo_hurry_7 (tgt := 14) (by decide) (fun c_7 => ?_) (fun c_7 => ?_)
  · exact absurd c_7 (by decide)
  · refine j_sipush C0 d_Mo_hurry_10 (v := -550) (by decide) ?_
    exact j_iret C0 d_Mo_hurry_13 rfl (by omega) (by omega) (⟨rfl, rfl, rfl⟩)
set_option maxHeartbeats 4000000 in
set_option maxRecDepth 100000 in
theorem c_Mo_hurry (l : Launch) (E : jE) {h0 : jH} {sz c : Nat} {A : moA} {w : Nat → Int32} {n : Nat} {Q : Nat → jMsg} (hn : w 12 = nI n) (hq : RQ n Q (A 6)) (v : Int32) {i : Nat} (hx : sG (fun j => (Q j).1 1) (fun j => nI (16 * j)) (-1) v 0 n = nI (16 * i)) (hi : i < n) : jC l M_Mo_hurry 2 E [.ref c, .int v] (moH E h0 c A w) sz 0 0 (fun r h' sz' => r = some (.int 1) ∧ h' = moH E h0 c (clA (va_up A 6 (upd (A 6) (16 * i + 13) (w 9))) (upd w 15 (w 15 + 1))) (clW (upd w 15 (w 15 + 1))) ∧ sz' = sz) := by
  have h6 := hq.1
  have hr := hq.2 i hi
  refine jC.of (by decide) (Nat.le_of_ble_eq_true rfl) ?_
  intro x C0 hx
  subst hx

  refine j_aload_n C0 d_Mo_hurry_0 rfl (by rfl) ?_
  refine j_iload_n C0 d_Mo_hurry_1 rfl (by rfl) ?_
  refine j_callV C0 d_Mo_hurry_2 cl_Mo_127 cl_Mo_127v (c_Mo_find _ E hn hq v) mo_this rfl rfl rfl ⟨by decide, by decide⟩ ⟨by omega, by omega⟩ (Nat.le_of_ble_eq_true rfl) (fun r_ h_ z_ hp_ => ?_)
  obtain ⟨rfl, rfl, rfl⟩ := hp_
  rw [hx]
  refine j_istore_n C0 d_Mo_hurry_5 rfl (Nat.le_of_ble_eq_true rfl) ?_
  refine j_iload_n C0 d_Mo_hurry_6 rfl (by rfl) ?_
  refine j_if_ge C0 d_Mo_hurry_7 (tgt := 14) (by decide) (fun c_7 => ?_) (fun c_7 => ?_)
  · refine j_aload_n C0 d_Mo_hurry_14 rfl (by rfl) ?_
    refine j_iload_n C0 d_Mo_hurry_15 rfl (by rfl) ?_
    refine j_bipush C0 d_Mo_hurry_16 (v := 13) (by decide) ?_
    refine j_iadd C0 d_Mo_hurry_18 ?_
    rw [show nI (16 * i) + 13 = nI (16 * i + 13) from nI_add _ 13]
    refine j_aload_n C0 d_Mo_hurry_19 rfl (by rfl) ?_
    refine mo_get C0 d_Mo_hurry_20 fl_Mo_101 (by rfl) ?_
    refine j_callV C0 d_Mo_hurry_23 cl_Mo_111 cl_Mo_111v (c_Mo_mark _ E (k := 16 * i + 13) (by omega) _) mo_this rfl rfl rfl ⟨by decide, by decide⟩ ⟨by omega, by omega⟩ (Nat.le_of_ble_eq_true rfl) (fun r_ h_ z_ hp_ => ?_)
    obtain ⟨rfl, rfl, rfl⟩ := hp_
    refine j_aload_n C0 d_Mo_hurry_26 rfl (by rfl) ?_
    refine j_callV C0 d_Mo_hurry_27 cl_Mo_133 cl_Mo_133v (c_Mo_close _ E) mo_this rfl rfl rfl ⟨by decide, by decide⟩ ⟨by omega, by omega⟩ (Nat.le_of_ble_eq_true rfl) (fun r_ h_ z_ hp_ => ?_)
    obtain ⟨rfl, rfl, rfl⟩ := hp_
    refine j_iconst C0 d_Mo_hurry_30 (v := 1) (by decide) ?_
    exact j_iret C0 d_Mo_hurry_31 rfl (by omega) (by omega) (⟨rfl, rfl, rfl⟩)
  · exact absurd (Int32.not_lt.mp (nI_pos (n := 16 * i) (by omega))) c_7
set_option maxHeartbeats 4000000 in
set_option maxRecDepth 100000 in
theorem c_Mo_sender_no (l : Launch) (E : jE) {h0 : jH} {sz c : Nat} {A : moA} {w : Nat → Int32} {n : Nat} {Q : Nat → jMsg} (hn : w 12 = nI n) (hq : RQ n Q (A 6)) (v : Int32) (hx : sG (fun j => (Q j).1 1) (fun j => nI (16 * j)) (-1) v 0 n = -1) : jC l M_Mo_sender 1 E [.ref c, .int v] (moH E h0 c A w) sz 0 0 (fun r h' sz' => r = some (.int (-2)) ∧ h' = moH E h0 c A w ∧ sz' = sz) := by
  refine jC.of (by decide) (Nat.le_of_ble_eq_true rfl) ?_
  intro x C0 hx
  subst hx

  refine j_aload_n C0 d_Mo_sender_0 rfl (by rfl) ?_
  refine j_iload_n C0 d_Mo_sender_1 rfl (by rfl) ?_
  refine j_callV C0 d_Mo_sender_2 cl_Mo_127 cl_Mo_127v (c_Mo_find _ E hn hq v) mo_this rfl rfl rfl ⟨by decide, by decide⟩ ⟨by omega, by omega⟩ (Nat.le_of_ble_eq_true rfl) (fun r_ h_ z_ hp_ => ?_)
  obtain ⟨rfl, rfl, rfl⟩ := hp_
  rw [hx]
  refine j_istore_n C0 d_Mo_sender_5 rfl (Nat.le_of_ble_eq_true rfl) ?_
  refine j_iload_n C0 d_Mo_sender_6 rfl (by rfl) ?_
  refine j_if_ge C0 d_Mo_sender_7 (tgt := 15) (by decide) (fun c_7 => ?_) (fun c_7 => ?_)
  · exact absurd c_7 (by decide)
  · refine j_bipush C0 d_Mo_sender_10 (v := -2) (by decide) ?_
    refine j_goto C0 d_Mo_sender_12 (tgt := 23) (by decide) ?_
    exact j_iret C0 d_Mo_sender_23 rfl (by omega) (by omega) (⟨rfl, rfl, rfl⟩)
set_option maxHeartbeats 4000000 in
set_option maxRecDepth 100000 in
theorem c_Mo_sender (l : Launch) (E : jE) {h0 : jH} {sz c : Nat} {A : moA} {w : Nat → Int32} {n : Nat} {Q : Nat → jMsg} (hn : w 12 = nI n) (hq : RQ n Q (A 6)) (v : Int32) {i : Nat} (hx : sG (fun j => (Q j).1 1) (fun j => nI (16 * j)) (-1) v 0 n = nI (16 * i)) (hi : i < n) : jC l M_Mo_sender 1 E [.ref c, .int v] (moH E h0 c A w) sz 0 0 (fun r h' sz' => r = some (.int ((Q i).1 2)) ∧ h' = moH E h0 c A w ∧ sz' = sz) := by
  have h6 := hq.1
  have hr := hq.2 i hi
  refine jC.of (by decide) (Nat.le_of_ble_eq_true rfl) ?_
  intro x C0 hx
  subst hx

  refine j_aload_n C0 d_Mo_sender_0 rfl (by rfl) ?_
  refine j_iload_n C0 d_Mo_sender_1 rfl (by rfl) ?_
  refine j_callV C0 d_Mo_sender_2 cl_Mo_127 cl_Mo_127v (c_Mo_find _ E hn hq v) mo_this rfl rfl rfl ⟨by decide, by decide⟩ ⟨by omega, by omega⟩ (Nat.le_of_ble_eq_true rfl) (fun r_ h_ z_ hp_ => ?_)
  obtain ⟨rfl, rfl, rfl⟩ := hp_
  rw [hx]
  refine j_istore_n C0 d_Mo_sender_5 rfl (Nat.le_of_ble_eq_true rfl) ?_
  refine j_iload_n C0 d_Mo_sender_6 rfl (by rfl) ?_
  refine j_if_ge C0 d_Mo_sender_7 (tgt := 15) (by decide) (fun c_7 => ?_) (fun c_7 => ?_)
  · refine j_aload_n C0 d_Mo_sender_15 rfl (by rfl) ?_
    refine mo_get C0 d_Mo_sender_16 fl_Mo_28 (by rfl) ?_
    refine j_iload_n C0 d_Mo_sender_19 rfl (by rfl) ?_
    refine j_iconst C0 d_Mo_sender_20 (v := 1) (by decide) ?_
    refine j_iadd C0 d_Mo_sender_21 ?_
    refine mo_ld C0 (i := 6) (k := 16 * i + 1) d_Mo_sender_22 (by simp only [jn0, jn1, jn2, jn3, jn4, jn8, jn12, jn13, jn14, jn15, jn16, pk_mul, nI_add]) (by show _ < 96; omega) (by decide) ?_
    rw [hr.c1]
    exact j_iret C0 d_Mo_sender_23 rfl (by omega) (by omega) (⟨rfl, rfl, rfl⟩)
  · exact absurd (Int32.not_lt.mp (nI_pos (n := 16 * i) (by omega))) c_7
set_option maxHeartbeats 4000000 in
set_option maxRecDepth 100000 in
theorem c_Mo_due_no (l : Launch) (E : jE) {h0 : jH} {sz c : Nat} {A : moA} {w : Nat → Int32} {n : Nat} {Q : Nat → jMsg} (hn : w 12 = nI n) (hq : RQ n Q (A 6)) (v : Int32) (hx : sG (fun j => (Q j).1 1) (fun j => nI (16 * j)) (-1) v 0 n = -1) : jC l M_Mo_due 1 E [.ref c, .int v] (moH E h0 c A w) sz 0 0 (fun r h' sz' => r = some (.int (-1)) ∧ h' = moH E h0 c A w ∧ sz' = sz) := by
  refine jC.of (by decide) (Nat.le_of_ble_eq_true rfl) ?_
  intro x C0 hx
  subst hx

  refine j_aload_n C0 d_Mo_due_0 rfl (by rfl) ?_
  refine j_iload_n C0 d_Mo_due_1 rfl (by rfl) ?_
  refine j_callV C0 d_Mo_due_2 cl_Mo_127 cl_Mo_127v (c_Mo_find _ E hn hq v) mo_this rfl rfl rfl ⟨by decide, by decide⟩ ⟨by omega, by omega⟩ (Nat.le_of_ble_eq_true rfl) (fun r_ h_ z_ hp_ => ?_)
  obtain ⟨rfl, rfl, rfl⟩ := hp_
  rw [hx]
  refine j_istore_n C0 d_Mo_due_5 rfl (Nat.le_of_ble_eq_true rfl) ?_
  refine j_iload_n C0 d_Mo_due_6 rfl (by rfl) ?_
  refine j_if_ge C0 d_Mo_due_7 (tgt := 14) (by decide) (fun c_7 => ?_) (fun c_7 => ?_)
  · exact absurd c_7 (by decide)
  · refine j_iconst C0 d_Mo_due_10 (v := -1) (by decide) ?_
    refine j_goto C0 d_Mo_due_11 (tgt := 23) (by decide) ?_
    exact j_iret C0 d_Mo_due_23 rfl (by omega) (by omega) (⟨rfl, rfl, rfl⟩)
set_option maxHeartbeats 4000000 in
set_option maxRecDepth 100000 in
theorem c_Mo_due (l : Launch) (E : jE) {h0 : jH} {sz c : Nat} {A : moA} {w : Nat → Int32} {n : Nat} {Q : Nat → jMsg} (hn : w 12 = nI n) (hq : RQ n Q (A 6)) (v : Int32) {i : Nat} (hx : sG (fun j => (Q j).1 1) (fun j => nI (16 * j)) (-1) v 0 n = nI (16 * i)) (hi : i < n) : jC l M_Mo_due 1 E [.ref c, .int v] (moH E h0 c A w) sz 0 0 (fun r h' sz' => r = some (.int ((Q i).1 5)) ∧ h' = moH E h0 c A w ∧ sz' = sz) := by
  have h6 := hq.1
  have hr := hq.2 i hi
  refine jC.of (by decide) (Nat.le_of_ble_eq_true rfl) ?_
  intro x C0 hx
  subst hx

  refine j_aload_n C0 d_Mo_due_0 rfl (by rfl) ?_
  refine j_iload_n C0 d_Mo_due_1 rfl (by rfl) ?_
  refine j_callV C0 d_Mo_due_2 cl_Mo_127 cl_Mo_127v (c_Mo_find _ E hn hq v) mo_this rfl rfl rfl ⟨by decide, by decide⟩ ⟨by omega, by omega⟩ (Nat.le_of_ble_eq_true rfl) (fun r_ h_ z_ hp_ => ?_)
  obtain ⟨rfl, rfl, rfl⟩ := hp_
  rw [hx]
  refine j_istore_n C0 d_Mo_due_5 rfl (Nat.le_of_ble_eq_true rfl) ?_
  refine j_iload_n C0 d_Mo_due_6 rfl (by rfl) ?_
  refine j_if_ge C0 d_Mo_due_7 (tgt := 14) (by decide) (fun c_7 => ?_) (fun c_7 => ?_)
  · refine j_aload_n C0 d_Mo_due_14 rfl (by rfl) ?_
    refine mo_get C0 d_Mo_due_15 fl_Mo_28 (by rfl) ?_
    refine j_iload_n C0 d_Mo_due_18 rfl (by rfl) ?_
    refine j_bipush C0 d_Mo_due_19 (v := 13) (by decide) ?_
    refine j_iadd C0 d_Mo_due_21 ?_
    refine mo_ld C0 (i := 6) (k := 16 * i + 13) d_Mo_due_22 (by simp only [jn0, jn1, jn2, jn3, jn4, jn8, jn12, jn13, jn14, jn15, jn16, pk_mul, nI_add]) (by show _ < 96; omega) (by decide) ?_
    rw [hr.c13]
    exact j_iret C0 d_Mo_due_23 rfl (by omega) (by omega) (⟨rfl, rfl, rfl⟩)
  · exact absurd (Int32.not_lt.mp (nI_pos (n := 16 * i) (by omega))) c_7
set_option maxHeartbeats 4000000 in
set_option maxRecDepth 100000 in
theorem c_Mo_message_bad (l : Launch) (E : jE) {h0 : jH} {sz c : Nat} {A : moA} {w : Nat → Int32} {n : Nat} {Q : Nat → jMsg} (hn : w 12 = nI n) (hq : RQ n Q (A 6)) (p : Int32) (hbad : ¬ (¬ p < 0 ∧ ¬ nI n ≤ p)) : jC l M_Mo_message 0 E [.ref c, .int p] (moH E h0 c A w) sz 0 0 (fun r h' sz' => r = some (.int 0) ∧ h' = moH E h0 c A w ∧ sz' = sz) := by
  refine jC.of (by decide) (Nat.le_of_ble_eq_true rfl) ?_
  intro x C0 hx
  subst hx

  refine j_iload_n C0 d_Mo_message_0 rfl (by rfl) ?_
  refine j_if_lt C0 d_Mo_message_1 (tgt := 12) (by decide) (fun c_1 => ?_) (fun c_1 => ?_)
  · refine j_iconst C0 d_Mo_message_12 (v := 0) (by decide) ?_
    refine j_goto C0 d_Mo_message_13 (tgt := 25) (by decide) ?_
    exact j_iret C0 d_Mo_message_25 rfl (by omega) (by omega) (⟨rfl, rfl, rfl⟩)
  · refine j_iload_n C0 d_Mo_message_4 rfl (by rfl) ?_
    refine j_aload_n C0 d_Mo_message_5 rfl (by rfl) ?_
    refine mo_get C0 d_Mo_message_6 fl_Mo_85 (by rfl) ?_
    rw [hn]
    refine j_icmp_lt C0 d_Mo_message_9 (tgt := 16) (by decide) (fun c_9 => ?_) (fun c_9 => ?_)
    · exact absurd ⟨c_1, Int32.not_le.mpr c_9⟩ hbad
    · refine j_iconst C0 d_Mo_message_12 (v := 0) (by decide) ?_
      refine j_goto C0 d_Mo_message_13 (tgt := 25) (by decide) ?_
      exact j_iret C0 d_Mo_message_25 rfl (by omega) (by omega) (⟨rfl, rfl, rfl⟩)
set_option maxHeartbeats 4000000 in
set_option maxRecDepth 100000 in
theorem c_Mo_message (l : Launch) (E : jE) {h0 : jH} {sz c : Nat} {A : moA} {w : Nat → Int32} {n : Nat} {Q : Nat → jMsg} (hn : w 12 = nI n) (hq : RQ n Q (A 6)) {i : Nat} (hi : i < n) : jC l M_Mo_message 0 E [.ref c, .int (nI i)] (moH E h0 c A w) sz 0 0 (fun r h' sz' => r = some (.int ((Q i).1 1)) ∧ h' = moH E h0 c A w ∧ sz' = sz) := by
  have h6 := hq.1
  have hr := hq.2 i hi
  refine jC.of (by decide) (Nat.le_of_ble_eq_true rfl) ?_
  intro x C0 hx
  subst hx

  refine j_iload_n C0 d_Mo_message_0 rfl (by rfl) ?_
  refine j_if_lt C0 d_Mo_message_1 (tgt := 12) (by decide) (fun c_1 => ?_) (fun c_1 => ?_)
  · exact absurd c_1 (nI_pos (by omega))
  · refine j_iload_n C0 d_Mo_message_4 rfl (by rfl) ?_
    refine j_aload_n C0 d_Mo_message_5 rfl (by rfl) ?_
    refine mo_get C0 d_Mo_message_6 fl_Mo_85 (by rfl) ?_
    rw [hn]
    refine j_icmp_lt C0 d_Mo_message_9 (tgt := 16) (by decide) (fun c_9 => ?_) (fun c_9 => ?_)
    · refine j_aload_n C0 d_Mo_message_16 rfl (by rfl) ?_
      refine mo_get C0 d_Mo_message_17 fl_Mo_28 (by rfl) ?_
      refine j_bipush C0 d_Mo_message_20 (v := 16) (by decide) ?_
      refine j_iload_n C0 d_Mo_message_22 rfl (by rfl) ?_
      refine j_imul C0 d_Mo_message_23 ?_
      refine mo_ld C0 (i := 6) (k := 16 * i) d_Mo_message_24 (by simp only [jn0, jn1, jn2, jn3, jn4, jn8, jn12, jn13, jn14, jn15, jn16, pk_mul, nI_add]) (by show _ < 96; omega) (by decide) ?_
      rw [hr.c0]
      exact j_iret C0 d_Mo_message_25 rfl (by omega) (by omega) (⟨rfl, rfl, rfl⟩)
    · exact absurd (nI_lt hi (by omega)) c_9
set_option maxHeartbeats 4000000 in
set_option maxRecDepth 100000 in
theorem c_Mo_status_no (l : Launch) (E : jE) {h0 : jH} {sz c : Nat} {A : moA} {w : Nat → Int32} {n : Nat} {Q : Nat → jMsg} (hn : w 12 = nI n) (hq : RQ n Q (A 6)) (v : Int32) (hx : sG (fun j => (Q j).1 1) (fun j => nI (16 * j)) (-1) v 0 n = -1) (y : Int32) : jC l M_Mo_status 1 E [.ref c, .int v, .int y] (moH E h0 c A w) sz 0 0 (fun r h' sz' => r = some (.int 0) ∧ h' = moH E h0 c A w ∧ sz' = sz) := by
  refine jC.of (by decide) (Nat.le_of_ble_eq_true rfl) ?_
  intro x C0 hx
  subst hx

  refine j_aload_n C0 d_Mo_status_0 rfl (by rfl) ?_
  refine j_iload_n C0 d_Mo_status_1 rfl (by rfl) ?_
  refine j_callV C0 d_Mo_status_2 cl_Mo_127 cl_Mo_127v (c_Mo_find _ E hn hq v) mo_this rfl rfl rfl ⟨by decide, by decide⟩ ⟨by omega, by omega⟩ (Nat.le_of_ble_eq_true rfl) (fun r_ h_ z_ hp_ => ?_)
  obtain ⟨rfl, rfl, rfl⟩ := hp_
  rw [hx]
  refine j_istore_n C0 d_Mo_status_5 rfl (Nat.le_of_ble_eq_true rfl) ?_
  refine j_iconst C0 d_Mo_status_6 (v := 0) (by decide) ?_
  refine j_istore C0 d_Mo_status_7 (Nat.le_of_ble_eq_true rfl) ?_
  refine j_iload_n C0 d_Mo_status_9 rfl (by rfl) ?_
  refine j_if_lt C0 d_Mo_status_10 (tgt := 60) (by decide) (fun c_10 => ?_) (fun c_10 => ?_)
  · refine j_iconst C0 d_Mo_status_60 (v := 0) (by decide) ?_
    exact j_iret C0 d_Mo_status_61 rfl (by omega) (by omega) (⟨rfl, rfl, rfl⟩)
  · exact absurd (by decide) c_10
set_option maxHeartbeats 4000000 in
set_option maxRecDepth 100000 in
theorem c_Mo_status (l : Launch) (E : jE) {h0 : jH} {sz c : Nat} {A : moA} {w : Nat → Int32} {n : Nat} {Q : Nat → jMsg} (hn : w 12 = nI n) (hq : RQ n Q (A 6)) (v : Int32) {i : Nat} (hx : sG (fun j => (Q j).1 1) (fun j => nI (16 * j)) (-1) v 0 n = nI (16 * i)) (hi : i < n) (y : Int32) : jC l M_Mo_status 1 E [.ref c, .int v, .int y] (moH E h0 c A w) sz 0 0 (fun r h' sz' => r = some (.int (sF (Q i).2.2.1 (Q i).2.2.2 y 0 (Q i).2.1)) ∧ h' = moH E h0 c A w ∧ sz' = sz) := by
  have h6 := hq.1
  have hr := hq.2 i hi
  have h4 := hr.le
  refine jC.of (by decide) (Nat.le_of_ble_eq_true rfl) ?_
  intro x C0 hx
  subst hx

  refine j_aload_n C0 d_Mo_status_0 rfl (by rfl) ?_
  refine j_iload_n C0 d_Mo_status_1 rfl (by rfl) ?_
  refine j_callV C0 d_Mo_status_2 cl_Mo_127 cl_Mo_127v (c_Mo_find _ E hn hq v) mo_this rfl rfl rfl ⟨by decide, by decide⟩ ⟨by omega, by omega⟩ (Nat.le_of_ble_eq_true rfl) (fun r_ h_ z_ hp_ => ?_)
  obtain ⟨rfl, rfl, rfl⟩ := hp_
  rw [hx]
  refine j_istore_n C0 d_Mo_status_5 rfl (Nat.le_of_ble_eq_true rfl) ?_
  refine j_iconst C0 d_Mo_status_6 (v := 0) (by decide) ?_
  refine j_istore C0 d_Mo_status_7 (Nat.le_of_ble_eq_true rfl) ?_
  refine j_lv (lv' := [(0, .ref c), (1, .int v), (2, .int y), (3, .int (nI (16 * i))), (4, .int (nI 0))]) ⟨rfl, rfl, rfl, rfl, rfl, trivial⟩ ?_
  refine j_forI (Q i).2.1 (fun k => sF (Q i).2.2.1 (Q i).2.2.2 y 0 (Q i).2.1 = sF (Q i).2.2.1 (Q i).2.2.2 y k ((Q i).2.1 - k)) (fun _ => moH E h0 c A w) (fun k => [(0, .ref c), (1, .int v), (2, .int y), (3, .int (nI (16 * i))), (4, .int (nI k))]) ?_ ?_ 0 (Nat.zero_le _) rfl
  · intro k hk hI ih
    refine j_iload_n C0 d_Mo_status_9 rfl (by rfl) ?_
    refine j_if_lt C0 d_Mo_status_10 (tgt := 60) (by decide) (fun c_10 => ?_) (fun c_10 => ?_)
    · exact absurd c_10 (nI_pos (by omega))
    · refine j_iload C0 d_Mo_status_13 (by rfl) ?_
      refine j_aload_n C0 d_Mo_status_15 rfl (by rfl) ?_
      refine mo_get C0 d_Mo_status_16 fl_Mo_28 (by rfl) ?_
      refine j_iload_n C0 d_Mo_status_19 rfl (by rfl) ?_
      refine j_iconst C0 d_Mo_status_20 (v := 3) (by decide) ?_
      refine j_iadd C0 d_Mo_status_21 ?_
      refine mo_ld C0 (i := 6) (k := 16 * i + 3) d_Mo_status_22 (by simp only [jn0, jn1, jn2, jn3, jn4, jn8, jn12, jn13, jn14, jn15, jn16, pk_mul, nI_add]) (by show _ < 96; omega) (by decide) ?_
      rw [hr.c3]
      refine j_icmp_ge C0 d_Mo_status_23 (tgt := 60) (by decide) (fun c_23 => ?_) (fun c_23 => ?_)
      · exact absurd c_23 (nI_ge hk (by omega))
      · refine j_aload_n C0 d_Mo_status_26 rfl (by rfl) ?_
        refine mo_get C0 d_Mo_status_27 fl_Mo_28 (by rfl) ?_
        refine j_iload_n C0 d_Mo_status_30 rfl (by rfl) ?_
        refine j_iconst C0 d_Mo_status_31 (v := 4) (by decide) ?_
        refine j_iadd C0 d_Mo_status_32 ?_
        refine j_iload C0 d_Mo_status_33 (by rfl) ?_
        refine j_iadd C0 d_Mo_status_35 ?_
        refine mo_ld C0 (i := 6) (k := 16 * i + 4 + k) d_Mo_status_36 (by simp only [jn0, jn1, jn2, jn3, jn4, jn8, jn12, jn13, jn14, jn15, jn16, pk_mul, nI_add]) (by show _ < 96; omega) (by decide) ?_
        rw [hr.ad k hk]
        refine j_iload_n C0 d_Mo_status_37 rfl (by rfl) ?_
        refine j_icmp_ne C0 d_Mo_status_38 (tgt := 54) (by decide) (fun c_38 => ?_) (fun c_38 => ?_)
        · refine j_iinc C0 d_Mo_status_54 (by rfl) (jinc _) (Nat.le_of_ble_eq_true rfl) ?_
          refine j_goto C0 d_Mo_status_57 (tgt := 9) (by decide) ?_
          exact j_to (ih (hI.trans (sF_n hk c_38))) rfl ⟨rfl, rfl, rfl, rfl, rfl, trivial⟩
        · refine j_aload_n C0 d_Mo_status_41 rfl (by rfl) ?_
          refine mo_get C0 d_Mo_status_42 fl_Mo_28 (by rfl) ?_
          refine j_iload_n C0 d_Mo_status_45 rfl (by rfl) ?_
          refine j_bipush C0 d_Mo_status_46 (v := 8) (by decide) ?_
          refine j_iadd C0 d_Mo_status_48 ?_
          refine j_iload C0 d_Mo_status_49 (by rfl) ?_
          refine j_iadd C0 d_Mo_status_51 ?_
          refine mo_ld C0 (i := 6) (k := 16 * i + 8 + k) d_Mo_status_52 (by simp only [jn0, jn1, jn2, jn3, jn4, jn8, jn12, jn13, jn14, jn15, jn16, pk_mul, nI_add]) (by show _ < 96; omega) (by decide) ?_
          rw [hr.st k hk]
          exact j_iret C0 d_Mo_status_53 rfl (by omega) (by omega) (⟨by rw [hI, sF_y hk c_38], rfl, rfl⟩)
  · intro hI
    refine j_iload_n C0 d_Mo_status_9 rfl (by rfl) ?_
    refine j_if_lt C0 d_Mo_status_10 (tgt := 60) (by decide) (fun c_10 => ?_) (fun c_10 => ?_)
    · exact absurd c_10 (nI_pos (by omega))
    · refine j_iload C0 d_Mo_status_13 (by rfl) ?_
      refine j_aload_n C0 d_Mo_status_15 rfl (by rfl) ?_
      refine mo_get C0 d_Mo_status_16 fl_Mo_28 (by rfl) ?_
      refine j_iload_n C0 d_Mo_status_19 rfl (by rfl) ?_
      refine j_iconst C0 d_Mo_status_20 (v := 3) (by decide) ?_
      refine j_iadd C0 d_Mo_status_21 ?_
      refine mo_ld C0 (i := 6) (k := 16 * i + 3) d_Mo_status_22 (by simp only [jn0, jn1, jn2, jn3, jn4, jn8, jn12, jn13, jn14, jn15, jn16, pk_mul, nI_add]) (by show _ < 96; omega) (by decide) ?_
      rw [hr.c3]
      refine j_icmp_ge C0 d_Mo_status_23 (tgt := 60) (by decide) (fun c_23 => ?_) (fun c_23 => ?_)
      · refine j_iconst C0 d_Mo_status_60 (v := 0) (by decide) ?_
        exact j_iret C0 d_Mo_status_61 rfl (by omega) (by omega) (⟨by rw [hI, Nat.sub_self]; rfl, rfl, rfl⟩)
      · exact absurd (nI_le (Nat.le_refl _) (by omega)) c_23
theorem whI {q : Int32} : (q.toInt < 0 ∨ 3 < q.toInt) ↔ ¬ (¬ q < 0 ∧ ¬ 4 ≤ q) := by
  rw [Int32.lt_iff_toInt_lt, Int32.le_iff_toInt_le, show (4 : Int32).toInt = 4 from by decide, show (0 : Int32).toInt = 0 from by decide]
  omega
set_option maxHeartbeats 4000000 in
set_option maxRecDepth 100000 in
theorem c_Mo_received_bad (l : Launch) (E : jE) {h0 : jH} {sz c : Nat} {A : moA} {w : Nat → Int32} (p q : Int32) (hbad : ¬ (¬ q < 0 ∧ ¬ 4 ≤ q) ∨ ¬ (¬ p < 0 ∧ ¬ (if q = 3 then 8 else 64) ≤ p)) : jC l M_Mo_received 1 E [.ref c, .int p, .int q] (moH E h0 c A w) sz 0 0 (fun r h' sz' => r = some (.int (-501)) ∧ h' = moH E h0 c A w ∧ sz' = sz) := by
  refine jC.of (by decide) (Nat.le_of_ble_eq_true rfl) ?_
  intro x C0 hx
  subst hx

  refine j_iload_n C0 d_Mo_received_0 rfl (by rfl) ?_
  refine j_iconst C0 d_Mo_received_1 (v := 3) (by decide) ?_
  refine j_callS C0 d_Mo_received_2 cl_Mo_63 cl_Mo_63v (c_Mo_out _ E q 3 (N := 4) (by decide)) rfl rfl ⟨by decide, by decide⟩ ⟨by omega, by omega⟩ (Nat.le_of_ble_eq_true rfl) (fun r_ h_ z_ hp_ => ?_)
  obtain ⟨rfl, rfl, rfl⟩ := hp_
  refine j_if_ne C0 d_Mo_received_5 (tgt := 27) (by decide) (fun c_5 => ?_) (fun c_5 => ?_)
  · refine j_sipush C0 d_Mo_received_27 (v := -501) (by decide) ?_
    exact j_iret C0 d_Mo_received_30 rfl (by omega) (by omega) (⟨rfl, rfl, rfl⟩)
  · have g1 : ¬ ¬ (¬ q < 0 ∧ ¬ 4 ≤ q) := fun g => by rw [jb_y g] at c_5; exact absurd c_5 (by decide)
    refine j_iload_n C0 d_Mo_received_8 rfl (by rfl) ?_
    refine j_iload_n C0 d_Mo_received_9 rfl (by rfl) ?_
    refine j_iconst C0 d_Mo_received_10 (v := 3) (by decide) ?_
    refine j_icmp_ne C0 d_Mo_received_11 (tgt := 19) (by decide) (fun c_11 => ?_) (fun c_11 => ?_)
    · have hb := hbad.resolve_left g1
      rw [if_neg c_11] at hb
      refine j_bipush C0 d_Mo_received_19 (v := 63) (by decide) ?_
      refine j_callS C0 d_Mo_received_21 cl_Mo_63 cl_Mo_63v (c_Mo_out _ E p 63 (N := 64) (by decide)) rfl rfl ⟨by decide, by decide⟩ ⟨by omega, by omega⟩ (Nat.le_of_ble_eq_true rfl) (fun r_ h_ z_ hp_ => ?_)
      obtain ⟨rfl, rfl, rfl⟩ := hp_
      refine j_if_eq C0 d_Mo_received_24 (tgt := 31) (by decide) (fun c_24 => ?_) (fun c_24 => ?_)
      · exact absurd c_24 (by rw [jb_y hb]; decide)
      · refine j_sipush C0 d_Mo_received_27 (v := -501) (by decide) ?_
        exact j_iret C0 d_Mo_received_30 rfl (by omega) (by omega) (⟨rfl, rfl, rfl⟩)
    · have hb := hbad.resolve_left g1
      rw [if_pos c_11] at hb
      refine j_bipush C0 d_Mo_received_14 (v := 7) (by decide) ?_
      refine j_goto C0 d_Mo_received_16 (tgt := 21) (by decide) ?_
      refine j_callS C0 d_Mo_received_21 cl_Mo_63 cl_Mo_63v (c_Mo_out _ E p 7 (N := 8) (by decide)) rfl rfl ⟨by decide, by decide⟩ ⟨by omega, by omega⟩ (Nat.le_of_ble_eq_true rfl) (fun r_ h_ z_ hp_ => ?_)
      obtain ⟨rfl, rfl, rfl⟩ := hp_
      refine j_if_eq C0 d_Mo_received_24 (tgt := 31) (by decide) (fun c_24 => ?_) (fun c_24 => ?_)
      · exact absurd c_24 (by rw [jb_y hb]; decide)
      · refine j_sipush C0 d_Mo_received_27 (v := -501) (by decide) ?_
        exact j_iret C0 d_Mo_received_30 rfl (by omega) (by omega) (⟨rfl, rfl, rfl⟩)
set_option maxHeartbeats 4000000 in
set_option maxRecDepth 100000 in
theorem c_Mo_received_0 (l : Launch) (E : jE) {h0 : jH} {sz c : Nat} {A : moA} {w : Nat → Int32} {k : Nat} (hk : k < 64) : jC l M_Mo_received 1 E [.ref c, .int (nI k), .int 0] (moH E h0 c A w) sz 0 0 (fun r h' sz' => r = some (.int (A 9 k)) ∧ h' = moH E h0 c A w ∧ sz' = sz) := by
  refine jC.of (by decide) (Nat.le_of_ble_eq_true rfl) ?_
  intro x C0 hx
  subst hx

  refine j_iload_n C0 d_Mo_received_0 rfl (by rfl) ?_
  refine j_iconst C0 d_Mo_received_1 (v := 3) (by decide) ?_
  refine j_callS C0 d_Mo_received_2 cl_Mo_63 cl_Mo_63v (c_Mo_out _ E 0 3 (N := 4) (by decide)) rfl rfl ⟨by decide, by decide⟩ ⟨by omega, by omega⟩ (Nat.le_of_ble_eq_true rfl) (fun r_ h_ z_ hp_ => ?_)
  obtain ⟨rfl, rfl, rfl⟩ := hp_
  rw [jb_n (p := ¬ (¬ (0 : Int32) < 0 ∧ ¬ 4 ≤ (0 : Int32))) (by decide)]
  refine j_if_ne C0 d_Mo_received_5 (tgt := 27) (by decide) (fun c_5 => ?_) (fun c_5 => ?_)
  · exact absurd rfl c_5
  · refine j_iload_n C0 d_Mo_received_8 rfl (by rfl) ?_
    refine j_iload_n C0 d_Mo_received_9 rfl (by rfl) ?_
    refine j_iconst C0 d_Mo_received_10 (v := 3) (by decide) ?_
    refine j_icmp_ne C0 d_Mo_received_11 (tgt := 19) (by decide) (fun c_11 => ?_) (fun c_11 => ?_)
    · refine j_bipush C0 d_Mo_received_19 (v := 63) (by decide) ?_
      refine j_callS C0 d_Mo_received_21 cl_Mo_63 cl_Mo_63v (c_Mo_out _ E (nI k) 63 (N := 64) (by decide)) rfl rfl ⟨by decide, by decide⟩ ⟨by omega, by omega⟩ (Nat.le_of_ble_eq_true rfl) (fun r_ h_ z_ hp_ => ?_)
      obtain ⟨rfl, rfl, rfl⟩ := hp_
      rw [jb_n (okR' (N := 64) hk (by decide) rfl)]
      refine j_if_eq C0 d_Mo_received_24 (tgt := 31) (by decide) (fun c_24 => ?_) (fun c_24 => ?_)
      · refine j_iload_n C0 d_Mo_received_31 rfl (by rfl) ?_
        refine j_if_ne C0 d_Mo_received_32 (tgt := 44) (by decide) (fun c_32 => ?_) (fun c_32 => ?_)
        · exact absurd rfl c_32
        · refine j_aload_n C0 d_Mo_received_35 rfl (by rfl) ?_
          refine mo_get C0 d_Mo_received_36 fl_Mo_37 (by rfl) ?_
          refine j_iload_n C0 d_Mo_received_39 rfl (by rfl) ?_
          refine mo_ld C0 (i := 9) (k := k) d_Mo_received_40 rfl (by show _ < 64; omega) (by decide) ?_
          refine j_goto C0 d_Mo_received_41 (tgt := 78) (by decide) ?_
          exact j_iret C0 d_Mo_received_78 rfl (by omega) (by omega) (⟨rfl, rfl, rfl⟩)
      · exact absurd rfl c_24
    · exact absurd c_11 (by decide)
set_option maxHeartbeats 4000000 in
set_option maxRecDepth 100000 in
theorem c_Mo_received_1 (l : Launch) (E : jE) {h0 : jH} {sz c : Nat} {A : moA} {w : Nat → Int32} {k : Nat} (hk : k < 64) : jC l M_Mo_received 1 E [.ref c, .int (nI k), .int 1] (moH E h0 c A w) sz 0 0 (fun r h' sz' => r = some (.int (A 10 k)) ∧ h' = moH E h0 c A w ∧ sz' = sz) := by
  refine jC.of (by decide) (Nat.le_of_ble_eq_true rfl) ?_
  intro x C0 hx
  subst hx

  refine j_iload_n C0 d_Mo_received_0 rfl (by rfl) ?_
  refine j_iconst C0 d_Mo_received_1 (v := 3) (by decide) ?_
  refine j_callS C0 d_Mo_received_2 cl_Mo_63 cl_Mo_63v (c_Mo_out _ E 1 3 (N := 4) (by decide)) rfl rfl ⟨by decide, by decide⟩ ⟨by omega, by omega⟩ (Nat.le_of_ble_eq_true rfl) (fun r_ h_ z_ hp_ => ?_)
  obtain ⟨rfl, rfl, rfl⟩ := hp_
  rw [jb_n (p := ¬ (¬ (1 : Int32) < 0 ∧ ¬ 4 ≤ (1 : Int32))) (by decide)]
  refine j_if_ne C0 d_Mo_received_5 (tgt := 27) (by decide) (fun c_5 => ?_) (fun c_5 => ?_)
  · exact absurd rfl c_5
  · refine j_iload_n C0 d_Mo_received_8 rfl (by rfl) ?_
    refine j_iload_n C0 d_Mo_received_9 rfl (by rfl) ?_
    refine j_iconst C0 d_Mo_received_10 (v := 3) (by decide) ?_
    refine j_icmp_ne C0 d_Mo_received_11 (tgt := 19) (by decide) (fun c_11 => ?_) (fun c_11 => ?_)
    · refine j_bipush C0 d_Mo_received_19 (v := 63) (by decide) ?_
      refine j_callS C0 d_Mo_received_21 cl_Mo_63 cl_Mo_63v (c_Mo_out _ E (nI k) 63 (N := 64) (by decide)) rfl rfl ⟨by decide, by decide⟩ ⟨by omega, by omega⟩ (Nat.le_of_ble_eq_true rfl) (fun r_ h_ z_ hp_ => ?_)
      obtain ⟨rfl, rfl, rfl⟩ := hp_
      rw [jb_n (okR' (N := 64) hk (by decide) rfl)]
      refine j_if_eq C0 d_Mo_received_24 (tgt := 31) (by decide) (fun c_24 => ?_) (fun c_24 => ?_)
      · refine j_iload_n C0 d_Mo_received_31 rfl (by rfl) ?_
        refine j_if_ne C0 d_Mo_received_32 (tgt := 44) (by decide) (fun c_32 => ?_) (fun c_32 => ?_)
        · refine j_iload_n C0 d_Mo_received_44 rfl (by rfl) ?_
          refine j_iconst C0 d_Mo_received_45 (v := 1) (by decide) ?_
          refine j_icmp_ne C0 d_Mo_received_46 (tgt := 58) (by decide) (fun c_46 => ?_) (fun c_46 => ?_)
          · exact absurd rfl c_46
          · refine j_aload_n C0 d_Mo_received_49 rfl (by rfl) ?_
            refine mo_get C0 d_Mo_received_50 fl_Mo_40 (by rfl) ?_
            refine j_iload_n C0 d_Mo_received_53 rfl (by rfl) ?_
            refine mo_ld C0 (i := 10) (k := k) d_Mo_received_54 rfl (by show _ < 64; omega) (by decide) ?_
            refine j_goto C0 d_Mo_received_55 (tgt := 78) (by decide) ?_
            exact j_iret C0 d_Mo_received_78 rfl (by omega) (by omega) (⟨rfl, rfl, rfl⟩)
        · exact absurd c_32 (by decide)
      · exact absurd rfl c_24
    · exact absurd c_11 (by decide)
set_option maxHeartbeats 4000000 in
set_option maxRecDepth 100000 in
theorem c_Mo_received_2 (l : Launch) (E : jE) {h0 : jH} {sz c : Nat} {A : moA} {w : Nat → Int32} {k : Nat} (hk : k < 64) : jC l M_Mo_received 1 E [.ref c, .int (nI k), .int 2] (moH E h0 c A w) sz 0 0 (fun r h' sz' => r = some (.int (A 11 k)) ∧ h' = moH E h0 c A w ∧ sz' = sz) := by
  refine jC.of (by decide) (Nat.le_of_ble_eq_true rfl) ?_
  intro x C0 hx
  subst hx

  refine j_iload_n C0 d_Mo_received_0 rfl (by rfl) ?_
  refine j_iconst C0 d_Mo_received_1 (v := 3) (by decide) ?_
  refine j_callS C0 d_Mo_received_2 cl_Mo_63 cl_Mo_63v (c_Mo_out _ E 2 3 (N := 4) (by decide)) rfl rfl ⟨by decide, by decide⟩ ⟨by omega, by omega⟩ (Nat.le_of_ble_eq_true rfl) (fun r_ h_ z_ hp_ => ?_)
  obtain ⟨rfl, rfl, rfl⟩ := hp_
  rw [jb_n (p := ¬ (¬ (2 : Int32) < 0 ∧ ¬ 4 ≤ (2 : Int32))) (by decide)]
  refine j_if_ne C0 d_Mo_received_5 (tgt := 27) (by decide) (fun c_5 => ?_) (fun c_5 => ?_)
  · exact absurd rfl c_5
  · refine j_iload_n C0 d_Mo_received_8 rfl (by rfl) ?_
    refine j_iload_n C0 d_Mo_received_9 rfl (by rfl) ?_
    refine j_iconst C0 d_Mo_received_10 (v := 3) (by decide) ?_
    refine j_icmp_ne C0 d_Mo_received_11 (tgt := 19) (by decide) (fun c_11 => ?_) (fun c_11 => ?_)
    · refine j_bipush C0 d_Mo_received_19 (v := 63) (by decide) ?_
      refine j_callS C0 d_Mo_received_21 cl_Mo_63 cl_Mo_63v (c_Mo_out _ E (nI k) 63 (N := 64) (by decide)) rfl rfl ⟨by decide, by decide⟩ ⟨by omega, by omega⟩ (Nat.le_of_ble_eq_true rfl) (fun r_ h_ z_ hp_ => ?_)
      obtain ⟨rfl, rfl, rfl⟩ := hp_
      rw [jb_n (okR' (N := 64) hk (by decide) rfl)]
      refine j_if_eq C0 d_Mo_received_24 (tgt := 31) (by decide) (fun c_24 => ?_) (fun c_24 => ?_)
      · refine j_iload_n C0 d_Mo_received_31 rfl (by rfl) ?_
        refine j_if_ne C0 d_Mo_received_32 (tgt := 44) (by decide) (fun c_32 => ?_) (fun c_32 => ?_)
        · refine j_iload_n C0 d_Mo_received_44 rfl (by rfl) ?_
          refine j_iconst C0 d_Mo_received_45 (v := 1) (by decide) ?_
          refine j_icmp_ne C0 d_Mo_received_46 (tgt := 58) (by decide) (fun c_46 => ?_) (fun c_46 => ?_)
          · refine j_iload_n C0 d_Mo_received_58 rfl (by rfl) ?_
            refine j_iconst C0 d_Mo_received_59 (v := 2) (by decide) ?_
            refine j_icmp_ne C0 d_Mo_received_60 (tgt := 72) (by decide) (fun c_60 => ?_) (fun c_60 => ?_)
            · exact absurd rfl c_60
            · refine j_aload_n C0 d_Mo_received_63 rfl (by rfl) ?_
              refine mo_get C0 d_Mo_received_64 fl_Mo_43 (by rfl) ?_
              refine j_iload_n C0 d_Mo_received_67 rfl (by rfl) ?_
              refine mo_ld C0 (i := 11) (k := k) d_Mo_received_68 rfl (by show _ < 64; omega) (by decide) ?_
              refine j_goto C0 d_Mo_received_69 (tgt := 78) (by decide) ?_
              exact j_iret C0 d_Mo_received_78 rfl (by omega) (by omega) (⟨rfl, rfl, rfl⟩)
          · exact absurd c_46 (by decide)
        · exact absurd c_32 (by decide)
      · exact absurd rfl c_24
    · exact absurd c_11 (by decide)
set_option maxHeartbeats 4000000 in
set_option maxRecDepth 100000 in
theorem c_Mo_received_3 (l : Launch) (E : jE) {h0 : jH} {sz c : Nat} {A : moA} {w : Nat → Int32} {k : Nat} (hk : k < 8) : jC l M_Mo_received 1 E [.ref c, .int (nI k), .int 3] (moH E h0 c A w) sz 0 0 (fun r h' sz' => r = some (.int (A 12 k)) ∧ h' = moH E h0 c A w ∧ sz' = sz) := by
  refine jC.of (by decide) (Nat.le_of_ble_eq_true rfl) ?_
  intro x C0 hx
  subst hx

  refine j_iload_n C0 d_Mo_received_0 rfl (by rfl) ?_
  refine j_iconst C0 d_Mo_received_1 (v := 3) (by decide) ?_
  refine j_callS C0 d_Mo_received_2 cl_Mo_63 cl_Mo_63v (c_Mo_out _ E 3 3 (N := 4) (by decide)) rfl rfl ⟨by decide, by decide⟩ ⟨by omega, by omega⟩ (Nat.le_of_ble_eq_true rfl) (fun r_ h_ z_ hp_ => ?_)
  obtain ⟨rfl, rfl, rfl⟩ := hp_
  rw [jb_n (p := ¬ (¬ (3 : Int32) < 0 ∧ ¬ 4 ≤ (3 : Int32))) (by decide)]
  refine j_if_ne C0 d_Mo_received_5 (tgt := 27) (by decide) (fun c_5 => ?_) (fun c_5 => ?_)
  · exact absurd rfl c_5
  · refine j_iload_n C0 d_Mo_received_8 rfl (by rfl) ?_
    refine j_iload_n C0 d_Mo_received_9 rfl (by rfl) ?_
    refine j_iconst C0 d_Mo_received_10 (v := 3) (by decide) ?_
    refine j_icmp_ne C0 d_Mo_received_11 (tgt := 19) (by decide) (fun c_11 => ?_) (fun c_11 => ?_)
    · exact absurd rfl c_11
    · refine j_bipush C0 d_Mo_received_14 (v := 7) (by decide) ?_
      refine j_goto C0 d_Mo_received_16 (tgt := 21) (by decide) ?_
      refine j_callS C0 d_Mo_received_21 cl_Mo_63 cl_Mo_63v (c_Mo_out _ E (nI k) 7 (N := 8) (by decide)) rfl rfl ⟨by decide, by decide⟩ ⟨by omega, by omega⟩ (Nat.le_of_ble_eq_true rfl) (fun r_ h_ z_ hp_ => ?_)
      obtain ⟨rfl, rfl, rfl⟩ := hp_
      rw [jb_n (okR' (N := 8) hk (by decide) rfl)]
      refine j_if_eq C0 d_Mo_received_24 (tgt := 31) (by decide) (fun c_24 => ?_) (fun c_24 => ?_)
      · refine j_iload_n C0 d_Mo_received_31 rfl (by rfl) ?_
        refine j_if_ne C0 d_Mo_received_32 (tgt := 44) (by decide) (fun c_32 => ?_) (fun c_32 => ?_)
        · refine j_iload_n C0 d_Mo_received_44 rfl (by rfl) ?_
          refine j_iconst C0 d_Mo_received_45 (v := 1) (by decide) ?_
          refine j_icmp_ne C0 d_Mo_received_46 (tgt := 58) (by decide) (fun c_46 => ?_) (fun c_46 => ?_)
          · refine j_iload_n C0 d_Mo_received_58 rfl (by rfl) ?_
            refine j_iconst C0 d_Mo_received_59 (v := 2) (by decide) ?_
            refine j_icmp_ne C0 d_Mo_received_60 (tgt := 72) (by decide) (fun c_60 => ?_) (fun c_60 => ?_)
            · refine j_aload_n C0 d_Mo_received_72 rfl (by rfl) ?_
              refine mo_get C0 d_Mo_received_73 fl_Mo_46 (by rfl) ?_
              refine j_iload_n C0 d_Mo_received_76 rfl (by rfl) ?_
              refine mo_ld C0 (i := 12) (k := k) d_Mo_received_77 rfl (by show _ < 8; omega) (by decide) ?_
              exact j_iret C0 d_Mo_received_78 rfl (by omega) (by omega) (⟨rfl, rfl, rfl⟩)
            · exact absurd c_60 (by decide)
          · exact absurd c_46 (by decide)
        · exact absurd c_32 (by decide)
      · exact absurd rfl c_24
set_option maxHeartbeats 4000000 in
set_option maxRecDepth 100000 in
theorem c_Mo_count_0 (l : Launch) (E : jE) {h0 : jH} {sz c : Nat} {A : moA} {w : Nat → Int32} {n : Nat} {Q : Nat → jMsg} (hn : w 12 = nI n) (hq : RQ n Q (A 6)) : jC l M_Mo_count 1 E [.ref c, .int 0] (moH E h0 c A w) sz 0 0 (fun r h' sz' => r = some (.int (nI n)) ∧ h' = moH E h0 c A w ∧ sz' = sz) := by
  have h6 := hq.1
  refine jC.of (by decide) (Nat.le_of_ble_eq_true rfl) ?_
  intro x C0 hx
  subst hx

  refine j_iconst C0 d_Mo_count_0 (v := 0) (by decide) ?_
  refine j_istore_n C0 d_Mo_count_1 rfl (Nat.le_of_ble_eq_true rfl) ?_
  refine j_iconst C0 d_Mo_count_2 (v := 0) (by decide) ?_
  refine j_istore_n C0 d_Mo_count_3 rfl (Nat.le_of_ble_eq_true rfl) ?_
  refine j_lv (lv' := [(0, .ref c), (1, .int 0), (2, .int (wtQ Q 0)), (3, .int (nI 0))]) ⟨rfl, rfl, rfl, rfl, trivial⟩ ?_
  refine j_for n (fun _ => moH E h0 c A w) (fun i => [(0, .ref c), (1, .int 0), (2, .int (wtQ Q i)), (3, .int (nI i))]) ?_ ?_ 0 (Nat.zero_le n)
  · intro i hi ih
    have hr := hq.2 i hi
    refine j_iload_n C0 d_Mo_count_4 rfl (by rfl) ?_
    refine j_aload_n C0 d_Mo_count_5 rfl (by rfl) ?_
    refine mo_get C0 d_Mo_count_6 fl_Mo_85 (by rfl) ?_
    rw [hn]
    refine j_icmp_ge C0 d_Mo_count_9 (tgt := 30) (by decide) (fun c_9 => ?_) (fun c_9 => ?_)
    · exact absurd c_9 (nI_ge hi (by omega))
    · refine j_iload_n C0 d_Mo_count_12 rfl (by rfl) ?_
      refine j_aload_n C0 d_Mo_count_13 rfl (by rfl) ?_
      refine j_bipush C0 d_Mo_count_14 (v := 16) (by decide) ?_
      refine j_iload_n C0 d_Mo_count_16 rfl (by rfl) ?_
      refine j_imul C0 d_Mo_count_17 ?_
      rw [show (16 : Int32) * nI i = nI (16 * i) from pk_mul 16 i]
      refine j_iconst C0 d_Mo_count_18 (v := 1) (by decide) ?_
      refine j_callV C0 d_Mo_count_19 cl_Mo_118 cl_Mo_118v (c_Mo_states _ E (b := 16 * i) (by omega) hr 1) mo_this rfl rfl rfl ⟨by decide, by decide⟩ ⟨by omega, by omega⟩ (Nat.le_of_ble_eq_true rfl) (fun r_ h_ z_ hp_ => ?_)
      obtain ⟨rfl, rfl, rfl⟩ := hp_
      refine j_iadd C0 d_Mo_count_22 ?_
      refine j_istore_n C0 d_Mo_count_23 rfl (Nat.le_of_ble_eq_true rfl) ?_
      refine j_iinc C0 d_Mo_count_24 (by rfl) (jinc _) (Nat.le_of_ble_eq_true rfl) ?_
      refine j_goto C0 d_Mo_count_27 (tgt := 4) (by decide) ?_
      exact j_to ih rfl ⟨rfl, rfl, rfl, rfl, trivial⟩
  · refine j_iload_n C0 d_Mo_count_4 rfl (by rfl) ?_
    refine j_aload_n C0 d_Mo_count_5 rfl (by rfl) ?_
    refine mo_get C0 d_Mo_count_6 fl_Mo_85 (by rfl) ?_
    rw [hn]
    refine j_icmp_ge C0 d_Mo_count_9 (tgt := 30) (by decide) (fun c_9 => ?_) (fun c_9 => ?_)
    · refine j_iload_n C0 d_Mo_count_30 rfl (by rfl) ?_
      refine j_tableIn C0 d_Mo_count_31 (v := 0) (off := 41) (tgt := 72) (by decide) (by decide) (by decide) (by decide) ?_
      refine j_aload_n C0 d_Mo_count_72 rfl (by rfl) ?_
      refine mo_get C0 d_Mo_count_73 fl_Mo_85 (by rfl) ?_
      rw [hn]
      exact j_iret C0 d_Mo_count_76 rfl (by omega) (by omega) (⟨rfl, rfl, rfl⟩)
    · exact absurd (nI_le (Nat.le_refl _) (by omega)) c_9
set_option maxHeartbeats 4000000 in
set_option maxRecDepth 100000 in
theorem c_Mo_count_1 (l : Launch) (E : jE) {h0 : jH} {sz c : Nat} {A : moA} {w : Nat → Int32} {n : Nat} {Q : Nat → jMsg} (hn : w 12 = nI n) (hq : RQ n Q (A 6)) : jC l M_Mo_count 1 E [.ref c, .int 1] (moH E h0 c A w) sz 0 0 (fun r h' sz' => r = some (.int (csQ Q n)) ∧ h' = moH E h0 c A w ∧ sz' = sz) := by
  have h6 := hq.1
  refine jC.of (by decide) (Nat.le_of_ble_eq_true rfl) ?_
  intro x C0 hx
  subst hx

  refine j_iconst C0 d_Mo_count_0 (v := 0) (by decide) ?_
  refine j_istore_n C0 d_Mo_count_1 rfl (Nat.le_of_ble_eq_true rfl) ?_
  refine j_iconst C0 d_Mo_count_2 (v := 0) (by decide) ?_
  refine j_istore_n C0 d_Mo_count_3 rfl (Nat.le_of_ble_eq_true rfl) ?_
  refine j_lv (lv' := [(0, .ref c), (1, .int 1), (2, .int (wtQ Q 0)), (3, .int (nI 0))]) ⟨rfl, rfl, rfl, rfl, trivial⟩ ?_
  refine j_for n (fun _ => moH E h0 c A w) (fun i => [(0, .ref c), (1, .int 1), (2, .int (wtQ Q i)), (3, .int (nI i))]) ?_ ?_ 0 (Nat.zero_le n)
  · intro i hi ih
    have hr := hq.2 i hi
    refine j_iload_n C0 d_Mo_count_4 rfl (by rfl) ?_
    refine j_aload_n C0 d_Mo_count_5 rfl (by rfl) ?_
    refine mo_get C0 d_Mo_count_6 fl_Mo_85 (by rfl) ?_
    rw [hn]
    refine j_icmp_ge C0 d_Mo_count_9 (tgt := 30) (by decide) (fun c_9 => ?_) (fun c_9 => ?_)
    · exact absurd c_9 (nI_ge hi (by omega))
    · refine j_iload_n C0 d_Mo_count_12 rfl (by rfl) ?_
      refine j_aload_n C0 d_Mo_count_13 rfl (by rfl) ?_
      refine j_bipush C0 d_Mo_count_14 (v := 16) (by decide) ?_
      refine j_iload_n C0 d_Mo_count_16 rfl (by rfl) ?_
      refine j_imul C0 d_Mo_count_17 ?_
      rw [show (16 : Int32) * nI i = nI (16 * i) from pk_mul 16 i]
      refine j_iconst C0 d_Mo_count_18 (v := 1) (by decide) ?_
      refine j_callV C0 d_Mo_count_19 cl_Mo_118 cl_Mo_118v (c_Mo_states _ E (b := 16 * i) (by omega) hr 1) mo_this rfl rfl rfl ⟨by decide, by decide⟩ ⟨by omega, by omega⟩ (Nat.le_of_ble_eq_true rfl) (fun r_ h_ z_ hp_ => ?_)
      obtain ⟨rfl, rfl, rfl⟩ := hp_
      refine j_iadd C0 d_Mo_count_22 ?_
      refine j_istore_n C0 d_Mo_count_23 rfl (Nat.le_of_ble_eq_true rfl) ?_
      refine j_iinc C0 d_Mo_count_24 (by rfl) (jinc _) (Nat.le_of_ble_eq_true rfl) ?_
      refine j_goto C0 d_Mo_count_27 (tgt := 4) (by decide) ?_
      exact j_to ih rfl ⟨rfl, rfl, rfl, rfl, trivial⟩
  · refine j_iload_n C0 d_Mo_count_4 rfl (by rfl) ?_
    refine j_aload_n C0 d_Mo_count_5 rfl (by rfl) ?_
    refine mo_get C0 d_Mo_count_6 fl_Mo_85 (by rfl) ?_
    rw [hn]
    refine j_icmp_ge C0 d_Mo_count_9 (tgt := 30) (by decide) (fun c_9 => ?_) (fun c_9 => ?_)
    · refine j_iload_n C0 d_Mo_count_30 rfl (by rfl) ?_
      refine j_tableIn C0 d_Mo_count_31 (v := 1) (off := 46) (tgt := 77) (by decide) (by decide) (by decide) (by decide) ?_
      refine j_aload_n C0 d_Mo_count_77 rfl (by rfl) ?_
      refine j_callV C0 d_Mo_count_78 cl_Mo_94 cl_Mo_94v (c_Mo_costs _ E hn hq) mo_this rfl rfl rfl ⟨by decide, by decide⟩ ⟨by omega, by omega⟩ (Nat.le_of_ble_eq_true rfl) (fun r_ h_ z_ hp_ => ?_)
      obtain ⟨rfl, rfl, rfl⟩ := hp_
      exact j_iret C0 d_Mo_count_81 rfl (by omega) (by omega) (⟨rfl, rfl, rfl⟩)
    · exact absurd (nI_le (Nat.le_refl _) (by omega)) c_9
set_option maxHeartbeats 4000000 in
set_option maxRecDepth 100000 in
theorem c_Mo_count_2 (l : Launch) (E : jE) {h0 : jH} {sz c : Nat} {A : moA} {w : Nat → Int32} {n : Nat} {Q : Nat → jMsg} (hn : w 12 = nI n) (hq : RQ n Q (A 6)) : jC l M_Mo_count 1 E [.ref c, .int 2] (moH E h0 c A w) sz 0 0 (fun r h' sz' => r = some (.int (wtQ Q n)) ∧ h' = moH E h0 c A w ∧ sz' = sz) := by
  have h6 := hq.1
  refine jC.of (by decide) (Nat.le_of_ble_eq_true rfl) ?_
  intro x C0 hx
  subst hx

  refine j_iconst C0 d_Mo_count_0 (v := 0) (by decide) ?_
  refine j_istore_n C0 d_Mo_count_1 rfl (Nat.le_of_ble_eq_true rfl) ?_
  refine j_iconst C0 d_Mo_count_2 (v := 0) (by decide) ?_
  refine j_istore_n C0 d_Mo_count_3 rfl (Nat.le_of_ble_eq_true rfl) ?_
  refine j_lv (lv' := [(0, .ref c), (1, .int 2), (2, .int (wtQ Q 0)), (3, .int (nI 0))]) ⟨rfl, rfl, rfl, rfl, trivial⟩ ?_
  refine j_for n (fun _ => moH E h0 c A w) (fun i => [(0, .ref c), (1, .int 2), (2, .int (wtQ Q i)), (3, .int (nI i))]) ?_ ?_ 0 (Nat.zero_le n)
  · intro i hi ih
    have hr := hq.2 i hi
    refine j_iload_n C0 d_Mo_count_4 rfl (by rfl) ?_
    refine j_aload_n C0 d_Mo_count_5 rfl (by rfl) ?_
    refine mo_get C0 d_Mo_count_6 fl_Mo_85 (by rfl) ?_
    rw [hn]
    refine j_icmp_ge C0 d_Mo_count_9 (tgt := 30) (by decide) (fun c_9 => ?_) (fun c_9 => ?_)
    · exact absurd c_9 (nI_ge hi (by omega))
    · refine j_iload_n C0 d_Mo_count_12 rfl (by rfl) ?_
      refine j_aload_n C0 d_Mo_count_13 rfl (by rfl) ?_
      refine j_bipush C0 d_Mo_count_14 (v := 16) (by decide) ?_
      refine j_iload_n C0 d_Mo_count_16 rfl (by rfl) ?_
      refine j_imul C0 d_Mo_count_17 ?_
      rw [show (16 : Int32) * nI i = nI (16 * i) from pk_mul 16 i]
      refine j_iconst C0 d_Mo_count_18 (v := 1) (by decide) ?_
      refine j_callV C0 d_Mo_count_19 cl_Mo_118 cl_Mo_118v (c_Mo_states _ E (b := 16 * i) (by omega) hr 1) mo_this rfl rfl rfl ⟨by decide, by decide⟩ ⟨by omega, by omega⟩ (Nat.le_of_ble_eq_true rfl) (fun r_ h_ z_ hp_ => ?_)
      obtain ⟨rfl, rfl, rfl⟩ := hp_
      refine j_iadd C0 d_Mo_count_22 ?_
      refine j_istore_n C0 d_Mo_count_23 rfl (Nat.le_of_ble_eq_true rfl) ?_
      refine j_iinc C0 d_Mo_count_24 (by rfl) (jinc _) (Nat.le_of_ble_eq_true rfl) ?_
      refine j_goto C0 d_Mo_count_27 (tgt := 4) (by decide) ?_
      exact j_to ih rfl ⟨rfl, rfl, rfl, rfl, trivial⟩
  · refine j_iload_n C0 d_Mo_count_4 rfl (by rfl) ?_
    refine j_aload_n C0 d_Mo_count_5 rfl (by rfl) ?_
    refine mo_get C0 d_Mo_count_6 fl_Mo_85 (by rfl) ?_
    rw [hn]
    refine j_icmp_ge C0 d_Mo_count_9 (tgt := 30) (by decide) (fun c_9 => ?_) (fun c_9 => ?_)
    · refine j_iload_n C0 d_Mo_count_30 rfl (by rfl) ?_
      refine j_tableIn C0 d_Mo_count_31 (v := 2) (off := 51) (tgt := 82) (by decide) (by decide) (by decide) (by decide) ?_
      refine j_iload_n C0 d_Mo_count_82 rfl (by rfl) ?_
      exact j_iret C0 d_Mo_count_83 rfl (by omega) (by omega) (⟨rfl, rfl, rfl⟩)
    · exact absurd (nI_le (Nat.le_refl _) (by omega)) c_9
set_option maxHeartbeats 4000000 in
set_option maxRecDepth 100000 in
theorem c_Mo_count_3 (l : Launch) (E : jE) {h0 : jH} {sz c : Nat} {A : moA} {w : Nat → Int32} {n : Nat} {Q : Nat → jMsg} (hn : w 12 = nI n) (hq : RQ n Q (A 6)) : jC l M_Mo_count 1 E [.ref c, .int 3] (moH E h0 c A w) sz 0 0 (fun r h' sz' => r = some (.int (w 15)) ∧ h' = moH E h0 c A w ∧ sz' = sz) := by
  have h6 := hq.1
  refine jC.of (by decide) (Nat.le_of_ble_eq_true rfl) ?_
  intro x C0 hx
  subst hx

  refine j_iconst C0 d_Mo_count_0 (v := 0) (by decide) ?_
  refine j_istore_n C0 d_Mo_count_1 rfl (Nat.le_of_ble_eq_true rfl) ?_
  refine j_iconst C0 d_Mo_count_2 (v := 0) (by decide) ?_
  refine j_istore_n C0 d_Mo_count_3 rfl (Nat.le_of_ble_eq_true rfl) ?_
  refine j_lv (lv' := [(0, .ref c), (1, .int 3), (2, .int (wtQ Q 0)), (3, .int (nI 0))]) ⟨rfl, rfl, rfl, rfl, trivial⟩ ?_
  refine j_for n (fun _ => moH E h0 c A w) (fun i => [(0, .ref c), (1, .int 3), (2, .int (wtQ Q i)), (3, .int (nI i))]) ?_ ?_ 0 (Nat.zero_le n)
  · intro i hi ih
    have hr := hq.2 i hi
    refine j_iload_n C0 d_Mo_count_4 rfl (by rfl) ?_
    refine j_aload_n C0 d_Mo_count_5 rfl (by rfl) ?_
    refine mo_get C0 d_Mo_count_6 fl_Mo_85 (by rfl) ?_
    rw [hn]
    refine j_icmp_ge C0 d_Mo_count_9 (tgt := 30) (by decide) (fun c_9 => ?_) (fun c_9 => ?_)
    · exact absurd c_9 (nI_ge hi (by omega))
    · refine j_iload_n C0 d_Mo_count_12 rfl (by rfl) ?_
      refine j_aload_n C0 d_Mo_count_13 rfl (by rfl) ?_
      refine j_bipush C0 d_Mo_count_14 (v := 16) (by decide) ?_
      refine j_iload_n C0 d_Mo_count_16 rfl (by rfl) ?_
      refine j_imul C0 d_Mo_count_17 ?_
      rw [show (16 : Int32) * nI i = nI (16 * i) from pk_mul 16 i]
      refine j_iconst C0 d_Mo_count_18 (v := 1) (by decide) ?_
      refine j_callV C0 d_Mo_count_19 cl_Mo_118 cl_Mo_118v (c_Mo_states _ E (b := 16 * i) (by omega) hr 1) mo_this rfl rfl rfl ⟨by decide, by decide⟩ ⟨by omega, by omega⟩ (Nat.le_of_ble_eq_true rfl) (fun r_ h_ z_ hp_ => ?_)
      obtain ⟨rfl, rfl, rfl⟩ := hp_
      refine j_iadd C0 d_Mo_count_22 ?_
      refine j_istore_n C0 d_Mo_count_23 rfl (Nat.le_of_ble_eq_true rfl) ?_
      refine j_iinc C0 d_Mo_count_24 (by rfl) (jinc _) (Nat.le_of_ble_eq_true rfl) ?_
      refine j_goto C0 d_Mo_count_27 (tgt := 4) (by decide) ?_
      exact j_to ih rfl ⟨rfl, rfl, rfl, rfl, trivial⟩
  · refine j_iload_n C0 d_Mo_count_4 rfl (by rfl) ?_
    refine j_aload_n C0 d_Mo_count_5 rfl (by rfl) ?_
    refine mo_get C0 d_Mo_count_6 fl_Mo_85 (by rfl) ?_
    rw [hn]
    refine j_icmp_ge C0 d_Mo_count_9 (tgt := 30) (by decide) (fun c_9 => ?_) (fun c_9 => ?_)
    · refine j_iload_n C0 d_Mo_count_30 rfl (by rfl) ?_
      refine j_tableIn C0 d_Mo_count_31 (v := 3) (off := 53) (tgt := 84) (by decide) (by decide) (by decide) (by decide) ?_
      refine j_aload_n C0 d_Mo_count_84 rfl (by rfl) ?_
      refine mo_get C0 d_Mo_count_85 fl_Mo_88 (by rfl) ?_
      exact j_iret C0 d_Mo_count_88 rfl (by omega) (by omega) (⟨rfl, rfl, rfl⟩)
    · exact absurd (nI_le (Nat.le_refl _) (by omega)) c_9
set_option maxHeartbeats 4000000 in
set_option maxRecDepth 100000 in
theorem c_Mo_count_4 (l : Launch) (E : jE) {h0 : jH} {sz c : Nat} {A : moA} {w : Nat → Int32} {n : Nat} {Q : Nat → jMsg} (hn : w 12 = nI n) (hq : RQ n Q (A 6)) : jC l M_Mo_count 1 E [.ref c, .int 4] (moH E h0 c A w) sz 0 0 (fun r h' sz' => r = some (.int (w 9)) ∧ h' = moH E h0 c A w ∧ sz' = sz) := by
  have h6 := hq.1
  refine jC.of (by decide) (Nat.le_of_ble_eq_true rfl) ?_
  intro x C0 hx
  subst hx

  refine j_iconst C0 d_Mo_count_0 (v := 0) (by decide) ?_
  refine j_istore_n C0 d_Mo_count_1 rfl (Nat.le_of_ble_eq_true rfl) ?_
  refine j_iconst C0 d_Mo_count_2 (v := 0) (by decide) ?_
  refine j_istore_n C0 d_Mo_count_3 rfl (Nat.le_of_ble_eq_true rfl) ?_
  refine j_lv (lv' := [(0, .ref c), (1, .int 4), (2, .int (wtQ Q 0)), (3, .int (nI 0))]) ⟨rfl, rfl, rfl, rfl, trivial⟩ ?_
  refine j_for n (fun _ => moH E h0 c A w) (fun i => [(0, .ref c), (1, .int 4), (2, .int (wtQ Q i)), (3, .int (nI i))]) ?_ ?_ 0 (Nat.zero_le n)
  · intro i hi ih
    have hr := hq.2 i hi
    refine j_iload_n C0 d_Mo_count_4 rfl (by rfl) ?_
    refine j_aload_n C0 d_Mo_count_5 rfl (by rfl) ?_
    refine mo_get C0 d_Mo_count_6 fl_Mo_85 (by rfl) ?_
    rw [hn]
    refine j_icmp_ge C0 d_Mo_count_9 (tgt := 30) (by decide) (fun c_9 => ?_) (fun c_9 => ?_)
    · exact absurd c_9 (nI_ge hi (by omega))
    · refine j_iload_n C0 d_Mo_count_12 rfl (by rfl) ?_
      refine j_aload_n C0 d_Mo_count_13 rfl (by rfl) ?_
      refine j_bipush C0 d_Mo_count_14 (v := 16) (by decide) ?_
      refine j_iload_n C0 d_Mo_count_16 rfl (by rfl) ?_
      refine j_imul C0 d_Mo_count_17 ?_
      rw [show (16 : Int32) * nI i = nI (16 * i) from pk_mul 16 i]
      refine j_iconst C0 d_Mo_count_18 (v := 1) (by decide) ?_
      refine j_callV C0 d_Mo_count_19 cl_Mo_118 cl_Mo_118v (c_Mo_states _ E (b := 16 * i) (by omega) hr 1) mo_this rfl rfl rfl ⟨by decide, by decide⟩ ⟨by omega, by omega⟩ (Nat.le_of_ble_eq_true rfl) (fun r_ h_ z_ hp_ => ?_)
      obtain ⟨rfl, rfl, rfl⟩ := hp_
      refine j_iadd C0 d_Mo_count_22 ?_
      refine j_istore_n C0 d_Mo_count_23 rfl (Nat.le_of_ble_eq_true rfl) ?_
      refine j_iinc C0 d_Mo_count_24 (by rfl) (jinc _) (Nat.le_of_ble_eq_true rfl) ?_
      refine j_goto C0 d_Mo_count_27 (tgt := 4) (by decide) ?_
      exact j_to ih rfl ⟨rfl, rfl, rfl, rfl, trivial⟩
  · refine j_iload_n C0 d_Mo_count_4 rfl (by rfl) ?_
    refine j_aload_n C0 d_Mo_count_5 rfl (by rfl) ?_
    refine mo_get C0 d_Mo_count_6 fl_Mo_85 (by rfl) ?_
    rw [hn]
    refine j_icmp_ge C0 d_Mo_count_9 (tgt := 30) (by decide) (fun c_9 => ?_) (fun c_9 => ?_)
    · refine j_iload_n C0 d_Mo_count_30 rfl (by rfl) ?_
      refine j_tableIn C0 d_Mo_count_31 (v := 4) (off := 58) (tgt := 89) (by decide) (by decide) (by decide) (by decide) ?_
      refine j_aload_n C0 d_Mo_count_89 rfl (by rfl) ?_
      refine mo_get C0 d_Mo_count_90 fl_Mo_101 (by rfl) ?_
      exact j_iret C0 d_Mo_count_93 rfl (by omega) (by omega) (⟨rfl, rfl, rfl⟩)
    · exact absurd (nI_le (Nat.le_refl _) (by omega)) c_9
set_option maxHeartbeats 4000000 in
set_option maxRecDepth 100000 in
theorem c_Mo_count_5 (l : Launch) (E : jE) {h0 : jH} {sz c : Nat} {A : moA} {w : Nat → Int32} {n : Nat} {Q : Nat → jMsg} (hn : w 12 = nI n) (hq : RQ n Q (A 6)) : jC l M_Mo_count 1 E [.ref c, .int 5] (moH E h0 c A w) sz 0 0 (fun r h' sz' => r = some (.int (w 10)) ∧ h' = moH E h0 c A w ∧ sz' = sz) := by
  have h6 := hq.1
  refine jC.of (by decide) (Nat.le_of_ble_eq_true rfl) ?_
  intro x C0 hx
  subst hx

  refine j_iconst C0 d_Mo_count_0 (v := 0) (by decide) ?_
  refine j_istore_n C0 d_Mo_count_1 rfl (Nat.le_of_ble_eq_true rfl) ?_
  refine j_iconst C0 d_Mo_count_2 (v := 0) (by decide) ?_
  refine j_istore_n C0 d_Mo_count_3 rfl (Nat.le_of_ble_eq_true rfl) ?_
  refine j_lv (lv' := [(0, .ref c), (1, .int 5), (2, .int (wtQ Q 0)), (3, .int (nI 0))]) ⟨rfl, rfl, rfl, rfl, trivial⟩ ?_
  refine j_for n (fun _ => moH E h0 c A w) (fun i => [(0, .ref c), (1, .int 5), (2, .int (wtQ Q i)), (3, .int (nI i))]) ?_ ?_ 0 (Nat.zero_le n)
  · intro i hi ih
    have hr := hq.2 i hi
    refine j_iload_n C0 d_Mo_count_4 rfl (by rfl) ?_
    refine j_aload_n C0 d_Mo_count_5 rfl (by rfl) ?_
    refine mo_get C0 d_Mo_count_6 fl_Mo_85 (by rfl) ?_
    rw [hn]
    refine j_icmp_ge C0 d_Mo_count_9 (tgt := 30) (by decide) (fun c_9 => ?_) (fun c_9 => ?_)
    · exact absurd c_9 (nI_ge hi (by omega))
    · refine j_iload_n C0 d_Mo_count_12 rfl (by rfl) ?_
      refine j_aload_n C0 d_Mo_count_13 rfl (by rfl) ?_
      refine j_bipush C0 d_Mo_count_14 (v := 16) (by decide) ?_
      refine j_iload_n C0 d_Mo_count_16 rfl (by rfl) ?_
      refine j_imul C0 d_Mo_count_17 ?_
      rw [show (16 : Int32) * nI i = nI (16 * i) from pk_mul 16 i]
      refine j_iconst C0 d_Mo_count_18 (v := 1) (by decide) ?_
      refine j_callV C0 d_Mo_count_19 cl_Mo_118 cl_Mo_118v (c_Mo_states _ E (b := 16 * i) (by omega) hr 1) mo_this rfl rfl rfl ⟨by decide, by decide⟩ ⟨by omega, by omega⟩ (Nat.le_of_ble_eq_true rfl) (fun r_ h_ z_ hp_ => ?_)
      obtain ⟨rfl, rfl, rfl⟩ := hp_
      refine j_iadd C0 d_Mo_count_22 ?_
      refine j_istore_n C0 d_Mo_count_23 rfl (Nat.le_of_ble_eq_true rfl) ?_
      refine j_iinc C0 d_Mo_count_24 (by rfl) (jinc _) (Nat.le_of_ble_eq_true rfl) ?_
      refine j_goto C0 d_Mo_count_27 (tgt := 4) (by decide) ?_
      exact j_to ih rfl ⟨rfl, rfl, rfl, rfl, trivial⟩
  · refine j_iload_n C0 d_Mo_count_4 rfl (by rfl) ?_
    refine j_aload_n C0 d_Mo_count_5 rfl (by rfl) ?_
    refine mo_get C0 d_Mo_count_6 fl_Mo_85 (by rfl) ?_
    rw [hn]
    refine j_icmp_ge C0 d_Mo_count_9 (tgt := 30) (by decide) (fun c_9 => ?_) (fun c_9 => ?_)
    · refine j_iload_n C0 d_Mo_count_30 rfl (by rfl) ?_
      refine j_tableIn C0 d_Mo_count_31 (v := 5) (off := 63) (tgt := 94) (by decide) (by decide) (by decide) (by decide) ?_
      refine j_aload_n C0 d_Mo_count_94 rfl (by rfl) ?_
      refine mo_get C0 d_Mo_count_95 fl_Mo_98 (by rfl) ?_
      exact j_iret C0 d_Mo_count_98 rfl (by omega) (by omega) (⟨rfl, rfl, rfl⟩)
    · exact absurd (nI_le (Nat.le_refl _) (by omega)) c_9
set_option maxHeartbeats 4000000 in
set_option maxRecDepth 100000 in
theorem c_Mo_count_6 (l : Launch) (E : jE) {h0 : jH} {sz c : Nat} {A : moA} {w : Nat → Int32} {n : Nat} {Q : Nat → jMsg} (hn : w 12 = nI n) (hq : RQ n Q (A 6)) : jC l M_Mo_count 1 E [.ref c, .int 6] (moH E h0 c A w) sz 0 0 (fun r h' sz' => r = some (.int (if w 16 = 0 then -1 else w 19)) ∧ h' = moH E h0 c A w ∧ sz' = sz) := by
  have h6 := hq.1
  refine jC.of (by decide) (Nat.le_of_ble_eq_true rfl) ?_
  intro x C0 hx
  subst hx

  refine j_iconst C0 d_Mo_count_0 (v := 0) (by decide) ?_
  refine j_istore_n C0 d_Mo_count_1 rfl (Nat.le_of_ble_eq_true rfl) ?_
  refine j_iconst C0 d_Mo_count_2 (v := 0) (by decide) ?_
  refine j_istore_n C0 d_Mo_count_3 rfl (Nat.le_of_ble_eq_true rfl) ?_
  refine j_lv (lv' := [(0, .ref c), (1, .int 6), (2, .int (wtQ Q 0)), (3, .int (nI 0))]) ⟨rfl, rfl, rfl, rfl, trivial⟩ ?_
  refine j_for n (fun _ => moH E h0 c A w) (fun i => [(0, .ref c), (1, .int 6), (2, .int (wtQ Q i)), (3, .int (nI i))]) ?_ ?_ 0 (Nat.zero_le n)
  · intro i hi ih
    have hr := hq.2 i hi
    refine j_iload_n C0 d_Mo_count_4 rfl (by rfl) ?_
    refine j_aload_n C0 d_Mo_count_5 rfl (by rfl) ?_
    refine mo_get C0 d_Mo_count_6 fl_Mo_85 (by rfl) ?_
    rw [hn]
    refine j_icmp_ge C0 d_Mo_count_9 (tgt := 30) (by decide) (fun c_9 => ?_) (fun c_9 => ?_)
    · exact absurd c_9 (nI_ge hi (by omega))
    · refine j_iload_n C0 d_Mo_count_12 rfl (by rfl) ?_
      refine j_aload_n C0 d_Mo_count_13 rfl (by rfl) ?_
      refine j_bipush C0 d_Mo_count_14 (v := 16) (by decide) ?_
      refine j_iload_n C0 d_Mo_count_16 rfl (by rfl) ?_
      refine j_imul C0 d_Mo_count_17 ?_
      rw [show (16 : Int32) * nI i = nI (16 * i) from pk_mul 16 i]
      refine j_iconst C0 d_Mo_count_18 (v := 1) (by decide) ?_
      refine j_callV C0 d_Mo_count_19 cl_Mo_118 cl_Mo_118v (c_Mo_states _ E (b := 16 * i) (by omega) hr 1) mo_this rfl rfl rfl ⟨by decide, by decide⟩ ⟨by omega, by omega⟩ (Nat.le_of_ble_eq_true rfl) (fun r_ h_ z_ hp_ => ?_)
      obtain ⟨rfl, rfl, rfl⟩ := hp_
      refine j_iadd C0 d_Mo_count_22 ?_
      refine j_istore_n C0 d_Mo_count_23 rfl (Nat.le_of_ble_eq_true rfl) ?_
      refine j_iinc C0 d_Mo_count_24 (by rfl) (jinc _) (Nat.le_of_ble_eq_true rfl) ?_
      refine j_goto C0 d_Mo_count_27 (tgt := 4) (by decide) ?_
      exact j_to ih rfl ⟨rfl, rfl, rfl, rfl, trivial⟩
  · refine j_iload_n C0 d_Mo_count_4 rfl (by rfl) ?_
    refine j_aload_n C0 d_Mo_count_5 rfl (by rfl) ?_
    refine mo_get C0 d_Mo_count_6 fl_Mo_85 (by rfl) ?_
    rw [hn]
    refine j_icmp_ge C0 d_Mo_count_9 (tgt := 30) (by decide) (fun c_9 => ?_) (fun c_9 => ?_)
    · refine j_iload_n C0 d_Mo_count_30 rfl (by rfl) ?_
      refine j_tableIn C0 d_Mo_count_31 (v := 6) (off := 68) (tgt := 99) (by decide) (by decide) (by decide) (by decide) ?_
      refine j_aload_n C0 d_Mo_count_99 rfl (by rfl) ?_
      refine mo_get C0 d_Mo_count_100 fl_Mo_67 (by rfl) ?_
      refine j_if_eq C0 d_Mo_count_103 (tgt := 113) (by decide) (fun c_103 => ?_) (fun c_103 => ?_)
      · refine j_iconst C0 d_Mo_count_113 (v := -1) (by decide) ?_
        exact j_iret C0 d_Mo_count_114 rfl (by omega) (by omega) (⟨by simp [c_103], rfl, rfl⟩)
      · refine j_aload_n C0 d_Mo_count_106 rfl (by rfl) ?_
        refine mo_get C0 d_Mo_count_107 fl_Mo_74 (by rfl) ?_
        refine j_goto C0 d_Mo_count_110 (tgt := 114) (by decide) ?_
        exact j_iret C0 d_Mo_count_114 rfl (by omega) (by omega) (⟨by simp [c_103], rfl, rfl⟩)
    · exact absurd (nI_le (Nat.le_refl _) (by omega)) c_9
set_option maxHeartbeats 4000000 in
set_option maxRecDepth 100000 in
theorem c_Mo_count_bad (l : Launch) (E : jE) {h0 : jH} {sz c : Nat} {A : moA} {w : Nat → Int32} {n : Nat} {Q : Nat → jMsg} (hn : w 12 = nI n) (hq : RQ n Q (A 6)) (p : Int32) (hp : p.toInt < 0 ∨ 6 < p.toInt) : jC l M_Mo_count 1 E [.ref c, .int p] (moH E h0 c A w) sz 0 0 (fun r h' sz' => r = some (.int (-501)) ∧ h' = moH E h0 c A w ∧ sz' = sz) := by
  have h6 := hq.1
  refine jC.of (by decide) (Nat.le_of_ble_eq_true rfl) ?_
  intro x C0 hx
  subst hx

  refine j_iconst C0 d_Mo_count_0 (v := 0) (by decide) ?_
  refine j_istore_n C0 d_Mo_count_1 rfl (Nat.le_of_ble_eq_true rfl) ?_
  refine j_iconst C0 d_Mo_count_2 (v := 0) (by decide) ?_
  refine j_istore_n C0 d_Mo_count_3 rfl (Nat.le_of_ble_eq_true rfl) ?_
  refine j_lv (lv' := [(0, .ref c), (1, .int p), (2, .int (wtQ Q 0)), (3, .int (nI 0))]) ⟨rfl, rfl, rfl, rfl, trivial⟩ ?_
  refine j_for n (fun _ => moH E h0 c A w) (fun i => [(0, .ref c), (1, .int p), (2, .int (wtQ Q i)), (3, .int (nI i))]) ?_ ?_ 0 (Nat.zero_le n)
  · intro i hi ih
    have hr := hq.2 i hi
    refine j_iload_n C0 d_Mo_count_4 rfl (by rfl) ?_
    refine j_aload_n C0 d_Mo_count_5 rfl (by rfl) ?_
    refine mo_get C0 d_Mo_count_6 fl_Mo_85 (by rfl) ?_
    rw [hn]
    refine j_icmp_ge C0 d_Mo_count_9 (tgt := 30) (by decide) (fun c_9 => ?_) (fun c_9 => ?_)
    · exact absurd c_9 (nI_ge hi (by omega))
    · refine j_iload_n C0 d_Mo_count_12 rfl (by rfl) ?_
      refine j_aload_n C0 d_Mo_count_13 rfl (by rfl) ?_
      refine j_bipush C0 d_Mo_count_14 (v := 16) (by decide) ?_
      refine j_iload_n C0 d_Mo_count_16 rfl (by rfl) ?_
      refine j_imul C0 d_Mo_count_17 ?_
      rw [show (16 : Int32) * nI i = nI (16 * i) from pk_mul 16 i]
      refine j_iconst C0 d_Mo_count_18 (v := 1) (by decide) ?_
      refine j_callV C0 d_Mo_count_19 cl_Mo_118 cl_Mo_118v (c_Mo_states _ E (b := 16 * i) (by omega) hr 1) mo_this rfl rfl rfl ⟨by decide, by decide⟩ ⟨by omega, by omega⟩ (Nat.le_of_ble_eq_true rfl) (fun r_ h_ z_ hp_ => ?_)
      obtain ⟨rfl, rfl, rfl⟩ := hp_
      refine j_iadd C0 d_Mo_count_22 ?_
      refine j_istore_n C0 d_Mo_count_23 rfl (Nat.le_of_ble_eq_true rfl) ?_
      refine j_iinc C0 d_Mo_count_24 (by rfl) (jinc _) (Nat.le_of_ble_eq_true rfl) ?_
      refine j_goto C0 d_Mo_count_27 (tgt := 4) (by decide) ?_
      exact j_to ih rfl ⟨rfl, rfl, rfl, rfl, trivial⟩
  · refine j_iload_n C0 d_Mo_count_4 rfl (by rfl) ?_
    refine j_aload_n C0 d_Mo_count_5 rfl (by rfl) ?_
    refine mo_get C0 d_Mo_count_6 fl_Mo_85 (by rfl) ?_
    rw [hn]
    refine j_icmp_ge C0 d_Mo_count_9 (tgt := 30) (by decide) (fun c_9 => ?_) (fun c_9 => ?_)
    · refine j_iload_n C0 d_Mo_count_30 rfl (by rfl) ?_
      refine j_tableOut C0 d_Mo_count_31 hp (tgt := 115) (by decide) ?_
      refine j_sipush C0 d_Mo_count_115 (v := -501) (by decide) ?_
      exact j_iret C0 d_Mo_count_118 rfl (by omega) (by omega) (⟨rfl, rfl, rfl⟩)
    · exact absurd (nI_le (Nat.le_refl _) (by omega)) c_9
