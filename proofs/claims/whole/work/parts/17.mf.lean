abbrev bmp (v : Nat → Int32) : Nat → Int32 := upd v 12 (v 12 + 1)
def foS (S : maS) (i : Nat) : maS := if mv S 10 < ((mQ S).2 i).1 4 + mv S 2 then S else (upd (mv S) 12 (mv S 12 + nI (cnt ((mQ S).2 i).2.2.2 1 ((mQ S).2 i).2.1)), (setQi S i (((mQ S).2 i).1, ((mQ S).2 i).2.1, ((mQ S).2 i).2.2.1, fw ((mQ S).2 i).2.2.2 ((mQ S).2 i).2.1)).2)
def poM (S : maS) (i : Nat) : jMsg := (upd (upd ((mQ S).2 i).1 5 (mv S 10 + ((mQ S).2 i).1 6)) 6 (jmin (((mQ S).2 i).1 6 * 2) (mv S 1)), ((mQ S).2 i).2)
def rpM (S : maS) (i : Nat) : jMsg := (upd (upd (upd (upd (upd (upd ((mQ S).2 i).1 2 (-1)) 3 0) 7 1) 4 (mv S 10)) 5 (mv S 10)) 6 (mv S 0), 1, upd ((mQ S).2 i).2.2.1 0 (((mQ S).2 i).1 2), upd ((mQ S).2 i).2.2.2 0 1)
def brM (S : maS) (i : Nat) : jMsg := (upd (upd (upd ((mQ S).2 i).1 2 (-1)) 3 0) 7 1, 1, upd ((mQ S).2 i).2.2.1 0 (((mQ S).2 i).1 2), upd ((mQ S).2 i).2.2.2 0 1)
def seS (S : maS) (i : Nat) : maS × Bool := if 0 < cnt ((mQ S).2 i).2.2.2 1 ((mQ S).2 i).2.1 then ((bmp (mv S), (setQi S i (poM S i)).2), true) else if 0 < cnt ((mQ S).2 i).2.2.2 3 ((mQ S).2 i).2.1 ∧ ¬ ((mQ S).2 i).1 2 = -1 then ((bmp (mv S), (setQi S i (rpM S i)).2), true) else ((bmp (mv S), S.2), false)
theorem okM_up {m : jMsg} {k : Nat} {x : Int32} (h : okM m) (h2 : k ≠ 2) (h7 : k ≠ 7) : okM (upd m.1 k x, m.2) := by
  unfold okM at h ⊢
  rw [show (upd m.1 k x, m.2).1 7 = m.1 7 from pk_un (by omega), show (upd m.1 k x, m.2).1 2 = m.1 2 from pk_un (by omega)]
  exact h
theorem foS_WF {S : maS} (h : WF S) {i : Nat} (hi : i < (mQ S).1) : WF (foS S i) := by
  unfold foS
  split
  · exact h
  · exact (h.qi (i := i) (y := (((mQ S).2 i).1, ((mQ S).2 i).2.1, ((mQ S).2 i).2.2.1, fw ((mQ S).2 i).2.2.2 ((mQ S).2 i).2.1)) (h.1 i hi) : WF (setQi S i _))
theorem foS_q (S : maS) (i : Nat) : (mQ (foS S i)).1 = (mQ S).1 := by
  unfold foS
  split <;> rfl
theorem seS_q (S : maS) (i : Nat) : (mQ (seS S i).1).1 = (mQ S).1 := by
  unfold seS
  split
  · rfl
  · split <;> rfl
theorem seS_WF {S : maS} (h : WF S) {i : Nat} (hi : i < (mQ S).1) : WF (seS S i).1 := by
  have hm := h.1 i hi
  unfold seS
  split
  · refine (h.qi (i := i) (y := poM S i) ?_ : WF (setQi S i _))
    exact okM_up (m := (upd ((mQ S).2 i).1 5 _, ((mQ S).2 i).2)) (okM_up hm (by decide) (by decide)) (by decide) (by decide)
  · split
    · rename_i hc
      refine (h.qi (i := i) (y := rpM S i) ?_ : WF (setQi S i _))
      obtain ⟨u, hu, eu⟩ := hm.2.2.resolve_left hc.2
      exact ⟨Or.inr rfl, fun j hj => ⟨u, hu, by rw [show j = 0 by have : j < 1 := hj; omega]; show upd ((mQ S).2 i).2.2.1 0 (((mQ S).2 i).1 2) 0 = _; rw [pk_us]; exact eu⟩, Or.inl rfl⟩
    · exact h
set_option maxHeartbeats 4000000 in
set_option maxRecDepth 100000 in
theorem c_Ma_failOverdue (l : Launch) (E : jE) {h : jH} {sz b : Nat} {S : maS} (m : isMA E h b S) {i a : Nat} {f : Nat → Option Nat} (hi : i < (mQ S).1) (hf : h (b + 33 + 1) = some (jQa E 2 6 f)) (ha : f i = some a) : jC l M_Ma_failOverdue 1 E [.ref b, .ref a] h sz 0 0 (fun r h' sz' => r = none ∧ isMA E h' b (foS S i) ∧ (∀ q, q < b ∨ b + 90 ≤ q → h' q = h q) ∧ h' (b + 33 + 1) = h (b + 33 + 1) ∧ sz' = sz) := by
  have h6 := m.qu.le
  obtain ⟨a', ha', ha1, ha2, hme, hup⟩ := m.qu.at hf (show i < 6 by omega)
  cases ha.symm.trans ha'
  have hme0 := hme
  obtain ⟨ea, er⟩ := hme
  have e0 := m.obj
  have er0 := er
  obtain ⟨r0, r1, r2, rn⟩ := er
  refine jC.of (by decide) (Nat.le_of_ble_eq_true rfl) ?_
  intro x C0 hx
  subst hx

  refine j_aload_n C0 d_Ma_failOverdue_0 rfl (by rfl) ?_
  refine j_getf C0 d_Ma_failOverdue_1 fl_Ma_65 (by (repeat (first | rw [jset_s] | rw [jset_n (by omega)] | rw [reH_0] | rw [reH_1] | rw [reH_2] | rw [reH_n (by omega)])) <;> first | rfl | assumption) (by rfl) ?_
  refine j_aload_n C0 d_Ma_failOverdue_4 rfl (by rfl) ?_
  refine j_getf C0 d_Ma_failOverdue_5 fl_Ma_243 (by (repeat (first | rw [jset_s] | rw [jset_n (by omega)] | rw [reH_0] | rw [reH_1] | rw [reH_2] | rw [reH_n (by omega)])) <;> first | rfl | assumption) (by rfl) ?_
  refine j_aload_n C0 d_Ma_failOverdue_8 rfl (by rfl) ?_
  refine j_getf C0 d_Ma_failOverdue_9 fl_Ma_20 (by (repeat (first | rw [jset_s] | rw [jset_n (by omega)] | rw [reH_0] | rw [reH_1] | rw [reH_2] | rw [reH_n (by omega)])) <;> first | rfl | assumption) (by rfl) ?_
  refine j_iadd C0 d_Ma_failOverdue_12 ?_
  refine j_icmp_lt C0 d_Ma_failOverdue_13 (tgt := 32) (by decide) (fun c_13 => ?_) (fun c_13 => ?_)
  · have eF : foS S i = S := if_pos c_13
    exact j_vret C0 d_Ma_failOverdue_32 rfl (by omega) (by omega) ⟨rfl, by
        rw [eF]
        first | exact m | exact m1.setV jset_s (fun q hq => jset_n (by omega)), by
        first | exact fun q _ => rfl | exact fun q hq => by rw [jset_n (by omega), hh1, reH_n (by omega)], by
        first | rfl | rw [jset_n (by omega), hh1, reH_n (by omega)], rfl⟩
  · have eF : foS S i = _ := if_neg c_13
    refine j_aload_n C0 d_Ma_failOverdue_16 rfl (by rfl) ?_
    refine j_dup C0 d_Ma_failOverdue_17 rfl ?_
    refine j_getf C0 d_Ma_failOverdue_18 fl_Ma_71 (by (repeat (first | rw [jset_s] | rw [jset_n (by omega)] | rw [reH_0] | rw [reH_1] | rw [reH_2] | rw [reH_n (by omega)])) <;> first | rfl | assumption) (by rfl) ?_
    refine j_aload_n C0 d_Ma_failOverdue_21 rfl (by rfl) ?_
    refine j_getf C0 d_Ma_failOverdue_22 fl_Ma_199 (by (repeat (first | rw [jset_s] | rw [jset_n (by omega)] | rw [reH_0] | rw [reH_1] | rw [reH_2] | rw [reH_n (by omega)])) <;> first | rfl | assumption) (by rfl) ?_
    refine j_callV C0 d_Ma_failOverdue_25 cl_Ma_245 cl_Ma_245v (c_Re_failWaiting _ E er0) er0.1 rfl rfl rfl ⟨by decide, by decide⟩ ⟨by omega, by omega⟩ (Nat.le_of_ble_eq_true rfl) (fun r_ h1 z_ hp_ => ?_)
    obtain ⟨rfl, hh1, rfl⟩ := hp_
    have m1 := m.setQu (hup h1 (((mQ S).2 i).1, ((mQ S).2 i).2.1, ((mQ S).2 i).2.2.1, fw ((mQ S).2 i).2.2.2 ((mQ S).2 i).2.1) ⟨by rw [hh1, reH_n (by omega)]; exact ea, by rw [hh1]; exact reH_is rn⟩ (fun q hq => by rw [hh1, reH_n (by omega)])) (fun q hq => by rw [hh1, reH_n (by omega)])
    have e1 := m1.obj
    refine j_iadd C0 d_Ma_failOverdue_28 ?_
    refine j_putf C0 d_Ma_failOverdue_29 fp_Ma_71 (by (repeat (first | rw [jset_s] | rw [jset_n (by omega)] | rw [reH_0] | rw [reH_1] | rw [reH_2] | rw [reH_n (by omega)])) <;> first | rfl | assumption) (Nat.le_of_ble_eq_true rfl) (by rfl) (by rfl) ?_
    exact j_vret C0 d_Ma_failOverdue_32 rfl (by omega) (by omega) ⟨rfl, by
        rw [eF]
        first | exact m | exact m1.setV jset_s (fun q hq => jset_n (by omega)), by
        first | exact fun q _ => rfl | exact fun q hq => by rw [jset_n (by omega), hh1, reH_n (by omega)], by
        first | rfl | rw [jset_n (by omega), hh1, reH_n (by omega)], rfl⟩
set_option maxHeartbeats 4000000 in
set_option maxRecDepth 100000 in
theorem c_Ma_settle (l : Launch) (E : jE) {h : jH} {sz b : Nat} {S : maS} (m : isMA E h b S) {i a : Nat} {f : Nat → Option Nat} (hi : i < (mQ S).1) (hf : h (b + 33 + 1) = some (jQa E 2 6 f)) (ha : f i = some a) : jC l M_Ma_settle 2 E [.ref b, .ref a] h sz 0 0 (fun r h' sz' => r = some (.int (if (seS S i).2 then 1 else 0)) ∧ isMA E h' b (seS S i).1 ∧ (∀ q, q < b ∨ b + 90 ≤ q → h' q = h q) ∧ h' (b + 33 + 1) = h (b + 33 + 1) ∧ sz' = sz) := by
  have h6 := m.qu.le
  obtain ⟨a', ha', ha1, ha2, hme, hup⟩ := m.qu.at hf (show i < 6 by omega)
  cases ha.symm.trans ha'
  have hme0 := hme
  obtain ⟨ea, er⟩ := hme
  have e0 := m.obj
  have er0 := er
  obtain ⟨r0, r1, r2, rn⟩ := er
  refine jC.of (by decide) (Nat.le_of_ble_eq_true rfl) ?_
  intro x C0 hx
  subst hx

  have hc1 := cnt_le ((mQ S).2 i).2.2.2 1 ((mQ S).2 i).2.1
  have hc3 := cnt_le ((mQ S).2 i).2.2.2 3 ((mQ S).2 i).2.1
  refine j_aload_n C0 d_Ma_settle_0 rfl (by rfl) ?_
  refine j_dup C0 d_Ma_settle_1 rfl ?_
  refine j_getf C0 d_Ma_settle_2 fl_Ma_71 (by (repeat (first | rw [jset_s] | rw [jset_n (by omega)] | rw [reH_0] | rw [reH_1] | rw [reH_2] | rw [reH_n (by omega)])) <;> first | rfl | assumption) (by rfl) ?_
  refine j_iconst C0 d_Ma_settle_5 (v := 1) (by decide) ?_
  refine j_iadd C0 d_Ma_settle_6 ?_
  refine j_putf C0 d_Ma_settle_7 fp_Ma_71 (by (repeat (first | rw [jset_s] | rw [jset_n (by omega)] | rw [reH_0] | rw [reH_1] | rw [reH_2] | rw [reH_n (by omega)])) <;> first | rfl | assumption) (Nat.le_of_ble_eq_true rfl) (by rfl) (by rfl) ?_
  refine j_heap (fun h1 eh => ?_)
  have m1 : isMA E h1 b (bmp (mv S), S.2) := by rw [eh]; exact m.setV jset_s (fun q hq => jset_n (by omega))
  have k1 : ∀ q, q < b ∨ b + 1 ≤ q → h1 q = h q := fun q hq => by rw [eh]; exact jset_n (by omega)
  have f1 : h1 (b + 33 + 1) = some (jQa E 2 6 f) := by rw [k1 _ (by omega)]; exact hf
  obtain ⟨a', ha', -, -, hme1, hup1⟩ := m1.qu.at f1 (show i < 6 by omega)
  cases ha.symm.trans ha'
  have ea1 := hme1.1
  have er1 := hme1.2
  have e1 := m1.obj
  refine j_aload_n C0 d_Ma_settle_10 rfl (by rfl) ?_
  refine j_getf C0 d_Ma_settle_11 fl_Ma_199 (by (repeat (first | rw [jset_s] | rw [jset_n (by omega)] | rw [reH_0] | rw [reH_1] | rw [reH_2] | rw [reH_n (by omega)])) <;> first | rfl | assumption) (by rfl) ?_
  refine j_iconst C0 d_Ma_settle_14 (v := 1) (by decide) ?_
  refine j_callV C0 d_Ma_settle_15 cl_Ma_248 cl_Ma_248v (c_Re_inState _ E 1 er1) er1.1 rfl rfl rfl ⟨by decide, by decide⟩ ⟨by omega, by omega⟩ (Nat.le_of_ble_eq_true rfl) (fun r_ h_ z_ hp_ => ?_)
  obtain ⟨rfl, rfl, rfl⟩ := hp_
  refine j_if_le C0 d_Ma_settle_18 (tgt := 35) (by decide) (fun c_18 => ?_) (fun c_18 => ?_)
  · have hA : ¬ 0 < cnt ((mQ S).2 i).2.2.2 1 ((mQ S).2 i).2.1 := fun hh => nI_nle hh (by omega) c_18
    refine j_aload_n C0 d_Ma_settle_35 rfl (by rfl) ?_
    refine j_getf C0 d_Ma_settle_36 fl_Ma_199 (by (repeat (first | rw [jset_s] | rw [jset_n (by omega)] | rw [reH_0] | rw [reH_1] | rw [reH_2] | rw [reH_n (by omega)])) <;> first | rfl | assumption) (by rfl) ?_
    refine j_iconst C0 d_Ma_settle_39 (v := 3) (by decide) ?_
    refine j_callV C0 d_Ma_settle_40 cl_Ma_248 cl_Ma_248v (c_Re_inState _ E 3 er1) er1.1 rfl rfl rfl ⟨by decide, by decide⟩ ⟨by omega, by omega⟩ (Nat.le_of_ble_eq_true rfl) (fun r_ h_ z_ hp_ => ?_)
    obtain ⟨rfl, rfl, rfl⟩ := hp_
    refine j_if_le C0 d_Ma_settle_43 (tgt := 72) (by decide) (fun c_43 => ?_) (fun c_43 => ?_)
    · have hB : ¬ (0 < cnt ((mQ S).2 i).2.2.2 3 ((mQ S).2 i).2.1 ∧ ¬ ((mQ S).2 i).1 2 = -1) := fun hh => nI_nle hh.1 (by omega) c_43
      have eS : seS S i = ((bmp (mv S), S.2), false) := by unfold seS; rw [if_neg hA, if_neg hB]
      refine j_iconst C0 d_Ma_settle_72 (v := 0) (by decide) ?_
      exact j_zret C0 d_Ma_settle_73 rfl (by rfl) (by omega) (by omega) ⟨by rw [eS]; rfl, by rw [eS]; exact m1, fun q hq => k1 q (by omega), k1 _ (by omega), rfl⟩
    · have hB : 0 < cnt ((mQ S).2 i).2.2.2 3 ((mQ S).2 i).2.1 := Nat.pos_of_ne_zero (fun hh => c_43 (by show nI (cnt ((mQ S).2 i).2.2.2 3 ((mQ S).2 i).2.1) ≤ 0; rw [hh]; decide))
      refine j_aload_n C0 d_Ma_settle_46 rfl (by rfl) ?_
      refine j_getf C0 d_Ma_settle_47 fl_Ma_203 (by (repeat (first | rw [jset_s] | rw [jset_n (by omega)] | rw [reH_0] | rw [reH_1] | rw [reH_2] | rw [reH_n (by omega)])) <;> first | rfl | assumption) (by rfl) ?_
      refine j_iconst C0 d_Ma_settle_50 (v := -1) (by decide) ?_
      refine j_icmp_eq C0 d_Ma_settle_51 (tgt := 72) (by decide) (fun c_51 => ?_) (fun c_51 => ?_)
      · have hC : ¬ (0 < cnt ((mQ S).2 i).2.2.2 3 ((mQ S).2 i).2.1 ∧ ¬ ((mQ S).2 i).1 2 = -1) := fun hh => hh.2 c_51
        have eS : seS S i = ((bmp (mv S), S.2), false) := by unfold seS; rw [if_neg hA, if_neg hC]
        refine j_iconst C0 d_Ma_settle_72 (v := 0) (by decide) ?_
        exact j_zret C0 d_Ma_settle_73 rfl (by rfl) (by omega) (by omega) ⟨by rw [eS]; rfl, by rw [eS]; exact m1, fun q hq => k1 q (by omega), k1 _ (by omega), rfl⟩
      · have eS : seS S i = ((bmp (mv S), (setQi S i (rpM S i)).2), true) := by unfold seS; rw [if_neg hA, if_pos ⟨hB, c_51⟩]
        refine j_aload_n C0 d_Ma_settle_54 rfl (by rfl) ?_
        refine j_callV C0 d_Ma_settle_55 cl_Ma_254 cl_Ma_254v (c_Me_becomeReport _ E hme1) ea1 rfl rfl rfl ⟨by decide, by decide⟩ ⟨by omega, by omega⟩ (Nat.le_of_ble_eq_true rfl) (fun r_ h2 z_ hp_ => ?_)
        obtain ⟨rfl, hh2, rfl⟩ := hp_
        have hh2 : h2 = meH E _ a (brM S i) := hh2
        have hme2 : isMe E h2 a (brM S i) := by rw [hh2]; exact meH_is (by show 1 ≤ 4; decide)
        have e2 : h2 b = some (maO b (bmp (mv S))) := by rw [hh2, meH_n (by omega)]; exact e1
        have k2 : ∀ q, q < a ∨ a + 4 ≤ q → h2 q = h_ q := fun q hq => by rw [hh2]; exact meH_n hq
        refine j_aload_n C0 d_Ma_settle_58 rfl (by rfl) ?_
        refine j_aload_n C0 d_Ma_settle_59 rfl (by rfl) ?_
        refine j_getf C0 d_Ma_settle_60 fl_Ma_65 (by (repeat (first | rw [jset_s] | rw [jset_n (by omega)] | rw [reH_0] | rw [reH_1] | rw [reH_2] | rw [reH_n (by omega)])) <;> first | rfl | assumption) (by rfl) ?_
        refine j_aload_n C0 d_Ma_settle_63 rfl (by rfl) ?_
        refine j_getf C0 d_Ma_settle_64 fl_Ma_13 (by (repeat (first | rw [jset_s] | rw [jset_n (by omega)] | rw [reH_0] | rw [reH_1] | rw [reH_2] | rw [reH_n (by omega)])) <;> first | rfl | assumption) (by rfl) ?_
        refine j_callV C0 d_Ma_settle_67 cl_Ma_153 cl_Ma_153v (c_Me_schedule _ E _ _ hme2) hme2.1 rfl rfl rfl ⟨by decide, by decide⟩ ⟨by omega, by omega⟩ (Nat.le_of_ble_eq_true rfl) (fun r_ h3 z_ hp_ => ?_)
        obtain ⟨rfl, hh3, rfl⟩ := hp_
        have k3 := fun (q : Nat) (hq : q < a ∨ a + 4 ≤ q) => (by rw [hh3, jset_n (by omega)] : h3 q = h2 q).trans (k2 q hq)
        have m3 := m1.setQu (hup1 h3 (rpM S i) ⟨by rw [hh3, jset_s]; rfl, hme2.2.keep (fun q h1 h2 => by rw [hh3, jset_n (by omega)])⟩ k3) (fun q hq => k3 q (by omega))
        refine j_iconst C0 d_Ma_settle_70 (v := 1) (by decide) ?_
        exact j_zret C0 d_Ma_settle_71 rfl (by rfl) (by omega) (by omega) ⟨by rw [eS]; rfl, by rw [eS]; exact m3, fun q hq => by rw [k3 q (by omega)]; exact k1 q (by omega), by rw [k3 _ (by omega)]; exact k1 _ (by omega), rfl⟩
  · have hA : 0 < cnt ((mQ S).2 i).2.2.2 1 ((mQ S).2 i).2.1 := Nat.pos_of_ne_zero (fun hh => c_18 (by show nI (cnt ((mQ S).2 i).2.2.2 1 ((mQ S).2 i).2.1) ≤ 0; rw [hh]; decide))
    have eS : seS S i = ((bmp (mv S), (setQi S i (poM S i)).2), true) := if_pos hA
    refine j_aload_n C0 d_Ma_settle_21 rfl (by rfl) ?_
    refine j_aload_n C0 d_Ma_settle_22 rfl (by rfl) ?_
    refine j_getf C0 d_Ma_settle_23 fl_Ma_65 (by (repeat (first | rw [jset_s] | rw [jset_n (by omega)] | rw [reH_0] | rw [reH_1] | rw [reH_2] | rw [reH_n (by omega)])) <;> first | rfl | assumption) (by rfl) ?_
    refine j_aload_n C0 d_Ma_settle_26 rfl (by rfl) ?_
    refine j_getf C0 d_Ma_settle_27 fl_Ma_17 (by (repeat (first | rw [jset_s] | rw [jset_n (by omega)] | rw [reH_0] | rw [reH_1] | rw [reH_2] | rw [reH_n (by omega)])) <;> first | rfl | assumption) (by rfl) ?_
    refine j_callV C0 d_Ma_settle_30 cl_Ma_251 cl_Ma_251v (c_Me_putOff _ E _ _ hme1) ea1 rfl rfl rfl ⟨by decide, by decide⟩ ⟨by omega, by omega⟩ (Nat.le_of_ble_eq_true rfl) (fun r_ h2 z_ hp_ => ?_)
    obtain ⟨rfl, hh2, rfl⟩ := hp_
    have m2 := m1.setQu (hup1 h2 (poM S i) ⟨by rw [hh2, jset_s]; rfl, er1.keep (fun q h1 h2 => by rw [hh2, jset_n (by omega)])⟩ (fun q hq => by rw [hh2, jset_n (by omega)])) (fun q hq => by rw [hh2, jset_n (by omega)])
    refine j_iconst C0 d_Ma_settle_33 (v := 1) (by decide) ?_
    exact j_zret C0 d_Ma_settle_34 rfl (by rfl) (by omega) (by omega) ⟨by rw [eS]; rfl, by rw [eS]; exact m2, fun q hq => by rw [hh2, jset_n (by omega)]; exact k1 q (by omega), by rw [hh2, jset_n (by omega)]; exact k1 _ (by omega), rfl⟩
theorem j_cut {x : jX} {M : jM} {E : jE} {Q : State → Prop} {h : jH} {sz ce sl pc : Nat} {lv : List (Nat × Value)} {st : List Value} (A : jH → Prop) (lv' : List (Nat × Value)) (pc' : Nat) (st' : List Value) (tail : ∀ h5, A h5 → jJ x M E Q h5 sz ce sl lv' pc' st') (body : (∀ h5, A h5 → jJ x M E Q h5 sz ce sl lv' pc' st') → jJ x M E Q h sz ce sl lv pc st) : jJ x M E Q h sz ce sl lv pc st := body tail
def remS (S : maS) (i : Nat) : maS := (S.1, S.2.1, S.2.2.1, S.2.2.2.1, S.2.2.2.2.1, ((mQ S).1 - 1, fun j => (mQ S).2 (rho i (mQ S).1 j)), S.2.2.2.2.2.2)
def tkM (S : maS) (i : Nat) : maS × Nat × Bool := if mv S 10 < ((mQ S).2 i).1 5 then (S, 0, true) else ((seS (foS (trS S i ((mQ S).2 i).2.1).1 i) i).1, (trS S i ((mQ S).2 i).2.1).2, (seS (foS (trS S i ((mQ S).2 i).2.1).1 i) i).2)
def tk1 (p : maS × Nat × Nat) : maS × Nat × Nat := if p.2.1 < (mQ p.1).1 then (if (tkM p.1 p.2.1).2.2 then ((tkM p.1 p.2.1).1, p.2.1 + 1, p.2.2 + (tkM p.1 p.2.1).2.1) else (remS (tkM p.1 p.2.1).1 p.2.1, p.2.1, p.2.2 + (tkM p.1 p.2.1).2.1)) else p
def tkS (S : maS) : Nat → maS × Nat × Nat
  | 0 => (S, 0, 0)
  | t + 1 => tk1 (tkS S t)
theorem tkM_q (S : maS) (i : Nat) : (mQ (tkM S i).1).1 = (mQ S).1 := by
  unfold tkM
  split
  · rfl
  · rw [seS_q, foS_q]; exact (trS_keep S i _).1
theorem tkM_WF {S : maS} (h : WF S) {i : Nat} (hi : i < (mQ S).1) : WF (tkM S i).1 := by
  unfold tkM
  split
  · exact h
  · have h1 := trS_WF h i ((mQ S).2 i).2.1
    have h2 : i < (mQ (trS S i ((mQ S).2 i).2.1).1).1 := by rw [(trS_keep S i _).1]; exact hi
    exact seS_WF (foS_WF h1 h2) (by rw [foS_q]; exact h2)
theorem remS_WF {S : maS} (h : WF S) {i : Nat} (hi : i < (mQ S).1) : WF (remS S i) := ⟨fun j hj => by
  show okM ((mQ S).2 (rho i (mQ S).1 j))
  have hj : j < (mQ S).1 - 1 := hj
  exact h.1 _ (by unfold rho; (repeat' split) <;> omega), h.2⟩
theorem tk1_WF {p : maS × Nat × Nat} (h : WF p.1) : WF (tk1 p).1 := by
  unfold tk1
  split
  · rename_i hi
    split
    · exact tkM_WF h hi
    · exact remS_WF (tkM_WF h hi) (by rw [tkM_q]; exact hi)
  · exact h
theorem tkS_WF {S : maS} (h : WF S) : ∀ t, WF (tkS S t).1
  | 0 => h
  | t + 1 => tk1_WF (tkS_WF h t)
theorem tkS_i (S : maS) : ∀ t, (tkS S t).2.1 ≤ t
  | 0 => Nat.le_refl 0
  | t + 1 => by
    have := tkS_i S t
    show (tk1 (tkS S t)).2.1 ≤ t + 1
    unfold tk1
    split
    · split
      · show _ + 1 ≤ _; omega
      · show (tkS S t).2.1 ≤ _; omega
    · omega
theorem tkS_stuck {S : maS} {t : Nat} (h : ¬ (tkS S t).2.1 < (mQ (tkS S t).1).1) : ∀ d, tkS S (t + d) = tkS S t
  | 0 => rfl
  | d + 1 => by
    show tk1 (tkS S (t + d)) = _
    rw [tkS_stuck h d]
    exact if_neg h
theorem tkS_q6 {S : maS} (h : (mQ S).1 ≤ 6) : ∀ t, (mQ (tkS S t).1).1 - (tkS S t).2.1 ≤ 6 - t ∧ (mQ (tkS S t).1).1 ≤ 6
  | 0 => ⟨h, h⟩
  | t + 1 => by
    obtain ⟨h1, h2⟩ := tkS_q6 h t
    have hq := tkM_q (tkS S t).1 (tkS S t).2.1
    show (mQ (tk1 (tkS S t)).1).1 - (tk1 (tkS S t)).2.1 ≤ _ ∧ (mQ (tk1 (tkS S t)).1).1 ≤ 6
    unfold tk1
    split
    · split
      · show (mQ (tkM _ _).1).1 - ((tkS S t).2.1 + 1) ≤ _ ∧ (mQ (tkM _ _).1).1 ≤ 6
        rw [hq]; omega
      · show ((mQ (tkM _ _).1).1 - 1) - (tkS S t).2.1 ≤ _ ∧ (mQ (tkM _ _).1).1 - 1 ≤ 6
        rw [hq]; omega
    · omega
abbrev tkZ (S : maS) (t : Int32) : maS := (upd (mv S) 10 t, S.2)
def tiS (S : maS) (t : Int32) : maS := kcf (tkS (tkZ S t) 6).1
set_option maxHeartbeats 4000000 in
set_option maxRecDepth 100000 in
theorem c_Ma_tick_bad (l : Launch) (E : jE) {h : jH} {sz b : Nat} {S : maS} (m : isMA E h b S) (p : Int32) (hbad : p < mv S 10 ∨ ¬ p ≤ 1000000) : jC l M_Ma_tick 5 E [.ref b, .int p] h sz 0 0 (fun r h' sz' => r = some (.int (-501)) ∧ isMA E h' b S ∧ (∀ q, q < b ∨ b + 90 ≤ q → h' q = h q) ∧ sz' = sz) := by
  have e0 := m.obj
  refine jC.of (by decide) (Nat.le_of_ble_eq_true rfl) ?_
  intro x C0 hx
  subst hx

  refine j_iload_n C0 d_Ma_tick_0 rfl (by rfl) ?_
  refine j_aload_n C0 d_Ma_tick_1 rfl (by rfl) ?_
  refine j_getf C0 d_Ma_tick_2 fl_Ma_65 (by (repeat (first | rw [jset_s] | rw [jset_n (by omega)] | rw [reH_0] | rw [reH_1] | rw [reH_2] | rw [reH_n (by omega)])) <;> first | rfl | assumption) (by rfl) ?_
  refine j_icmp_lt C0 d_Ma_tick_5 (tgt := 14) (by decide) (fun c_5 => ?_) (fun c_5 => ?_)
  · refine j_sipush C0 d_Ma_tick_14 (v := -501) (by decide) ?_
    exact j_iret C0 d_Ma_tick_17 rfl (by omega) (by omega) ⟨rfl, m, fun q _ => rfl, rfl⟩
  · refine j_iload_n C0 d_Ma_tick_8 rfl (by rfl) ?_
    refine j_ldc C0 d_Ma_tick_9 w_2_119 ?_
    refine j_icmp_le C0 d_Ma_tick_11 (tgt := 18) (by decide) (fun c_11 => ?_) (fun c_11 => ?_)
    · exact absurd c_11 (hbad.resolve_left c_5)
    · refine j_sipush C0 d_Ma_tick_14 (v := -501) (by decide) ?_
      exact j_iret C0 d_Ma_tick_17 rfl (by omega) (by omega) ⟨rfl, m, fun q _ => rfl, rfl⟩
set_option maxHeartbeats 4000000 in
set_option maxRecDepth 100000 in
theorem c_Ma_tick (l : Launch) (E : jE) {h : jH} {sz b : Nat} {S : maS} (m : isMA E h b S) (p : Int32) (hok : ¬ p < mv S 10 ∧ p ≤ 1000000) (hw : WF S) : jC l M_Ma_tick 5 E [.ref b, .int p] h sz 0 0 (fun r h' sz' => r = some (.int (nI (tkS (tkZ S p) 6).2.2)) ∧ isMA E h' b (tiS S p) ∧ (∀ q, q < b ∨ b + 90 ≤ q → h' q = h q) ∧ sz' = sz) := by
  have e0 := m.obj
  have h6 := m.qu.le
  refine jC.of (by decide) (Nat.le_of_ble_eq_true rfl) ?_
  intro x C0 hx
  subst hx

  refine j_iload_n C0 d_Ma_tick_0 rfl (by rfl) ?_
  refine j_aload_n C0 d_Ma_tick_1 rfl (by rfl) ?_
  refine j_getf C0 d_Ma_tick_2 fl_Ma_65 (by (repeat (first | rw [jset_s] | rw [jset_n (by omega)] | rw [reH_0] | rw [reH_1] | rw [reH_2] | rw [reH_n (by omega)])) <;> first | rfl | assumption) (by rfl) ?_
  refine j_icmp_lt C0 d_Ma_tick_5 (tgt := 14) (by decide) (fun c_5 => ?_) (fun c_5 => ?_)
  · exact absurd c_5 hok.1
  · refine j_iload_n C0 d_Ma_tick_8 rfl (by rfl) ?_
    refine j_ldc C0 d_Ma_tick_9 w_2_119 ?_
    refine j_icmp_le C0 d_Ma_tick_11 (tgt := 18) (by decide) (fun c_11 => ?_) (fun c_11 => ?_)
    · refine j_aload_n C0 d_Ma_tick_18 rfl (by rfl) ?_
      refine j_iload_n C0 d_Ma_tick_19 rfl (by rfl) ?_
      refine j_putf C0 d_Ma_tick_20 fp_Ma_65 (by (repeat (first | rw [jset_s] | rw [jset_n (by omega)] | rw [reH_0] | rw [reH_1] | rw [reH_2] | rw [reH_n (by omega)])) <;> first | rfl | assumption) (Nat.le_of_ble_eq_true rfl) (by rfl) (by rfl) ?_
      refine j_heap (fun h0 eh0 => ?_)
      have m0 : isMA E h0 b (tkZ S p) := by rw [eh0]; exact m.setV jset_s (fun q hq => jset_n (by omega))
      have k0 : ∀ q, q < b ∨ b + 90 ≤ q → h0 q = h q := fun q hq => by rw [eh0]; exact jset_n (by omega)
      have hw0 : WF (tkZ S p) := hw
      refine j_iconst C0 d_Ma_tick_23 (v := 0) (by decide) ?_
      refine j_istore_n C0 d_Ma_tick_24 rfl (Nat.le_of_ble_eq_true rfl) ?_
      refine j_iconst C0 d_Ma_tick_25 (v := 0) (by decide) ?_
      refine j_istore_n C0 d_Ma_tick_26 rfl (Nat.le_of_ble_eq_true rfl) ?_
      refine j_iconst C0 d_Ma_tick_27 (v := 0) (by decide) ?_
      refine j_istore C0 d_Ma_tick_28 (Nat.le_of_ble_eq_true rfl) ?_
      refine j_lv (lv' := [(0, .ref b), (1, .int p), (2, .int (nI (tkS (tkZ S p) 0).2.2)), (3, .int (nI (tkS (tkZ S p) 0).2.1)), (4, .int (nI 0))]) ⟨rfl, rfl, rfl, rfl, rfl, trivial⟩ ?_
      refine j_forR 6 (fun t hh => isMA E hh b (tkS (tkZ S p) t).1 ∧ ∀ q, q < b ∨ b + 90 ≤ q → hh q = h q) (fun _ => sz) (fun _ => 0) (fun _ => 0) (fun t => [(0, .ref b), (1, .int p), (2, .int (nI (tkS (tkZ S p) t).2.2)), (3, .int (nI (tkS (tkZ S p) t).2.1)), (4, .int (nI t))]) ?_ ?_ 0 h0 (by decide) ⟨m0, k0⟩
      · intro t hh ht hI ih
        obtain ⟨mt, kt⟩ := hI
        have hwt := tkS_WF hw0 t
        have hit := tkS_i (tkZ S p) t
        have hq6 := mt.qu.le
        have eqt := mt.qu.obj
        have et := mt.obj
        obtain ⟨f, ef⟩ := mt.qu.arr
        refine j_cut (fun h5 => isMA E h5 b (tkM (tkS (tkZ S p) t).1 (tkS (tkZ S p) t).2.1).1 ∧ (∀ q, q < b ∨ b + 90 ≤ q → h5 q = h q) ∧ (tkS (tkZ S p) t).2.1 < (mQ (tkS (tkZ S p) t).1).1) [(0, .ref b), (1, .int p), (2, .int (nI ((tkS (tkZ S p) t).2.2 + (tkM (tkS (tkZ S p) t).1 (tkS (tkZ S p) t).2.1).2.1))), (3, .int (nI (tkS (tkZ S p) t).2.1)), (4, .int (nI t)), (6, .int (if (tkM (tkS (tkZ S p) t).1 (tkS (tkZ S p) t).2.1).2.2 then 1 else 0))] 97 [] ?_ ?_
        · intro h5 hA
          obtain ⟨m5, k5, hlt⟩ := hA
          have e5 := m5.obj
          have hq5 := tkM_q (tkS (tkZ S p) t).1 (tkS (tkZ S p) t).2.1
          have hlt5 : (tkS (tkZ S p) t).2.1 < (mQ (tkM (tkS (tkZ S p) t).1 (tkS (tkZ S p) t).2.1).1).1 := by rw [hq5]; exact hlt
          refine j_iload C0 d_Ma_tick_97 (by rfl) ?_
          refine j_if_eq C0 d_Ma_tick_99 (tgt := 108) (by decide) (fun c_99 => ?_) (fun c_99 => ?_)
          · have hb : (tkM (tkS (tkZ S p) t).1 (tkS (tkZ S p) t).2.1).2.2 = false := by
              cases hq : (tkM (tkS (tkZ S p) t).1 (tkS (tkZ S p) t).2.1).2.2 with
              | false => rfl
              | true => rw [hq] at c_99; exact absurd c_99 (by decide)
            have eN : tkS (tkZ S p) (t + 1) = (remS (tkM (tkS (tkZ S p) t).1 (tkS (tkZ S p) t).2.1).1 (tkS (tkZ S p) t).2.1, (tkS (tkZ S p) t).2.1, (tkS (tkZ S p) t).2.2 + (tkM (tkS (tkZ S p) t).1 (tkS (tkZ S p) t).2.1).2.1) := by show tk1 _ = _; unfold tk1; rw [if_pos hlt, hb]; rfl
            refine j_aload_n C0 d_Ma_tick_108 rfl (by rfl) ?_
            refine j_getf C0 d_Ma_tick_109 fl_Ma_51 (by (repeat (first | rw [jset_s] | rw [jset_n (by omega)] | rw [reH_0] | rw [reH_1] | rw [reH_2] | rw [reH_n (by omega)])) <;> first | rfl | assumption) (by rfl) ?_
            refine j_iload_n C0 d_Ma_tick_112 rfl (by rfl) ?_
            refine j_callV C0 d_Ma_tick_113 cl_Ma_180 cl_Ma_180v (c_Qu_removeAt _ E m5.qu hlt5) m5.qu.obj rfl rfl rfl ⟨by decide, by decide⟩ ⟨by omega, by omega⟩ (Nat.le_of_ble_eq_true rfl) (fun r_ h7 z_ hp_ => ?_)
            obtain ⟨rfl, u1, u2, rfl⟩ := hp_
            have m7 : isMA E h7 b (tkS (tkZ S p) (t + 1)).1 := by rw [eN]; exact m5.setQu u1 (fun q hq => u2 q (by omega))
            have mN := m7
            have kN : ∀ q, q < b ∨ b + 90 ≤ q → h7 q = h q := fun q hq => by rw [u2 q (by omega)]; exact k5 q hq
            refine j_iinc C0 d_Ma_tick_116 (by rfl) (jinc _) (Nat.le_of_ble_eq_true rfl) ?_
            refine j_goto C0 d_Ma_tick_119 (tgt := 30) (by decide) ?_
            refine j_lv (lv' := [(0, .ref b), (1, .int p), (2, .int (nI (tkS (tkZ S p) (t + 1)).2.2)), (3, .int (nI (tkS (tkZ S p) (t + 1)).2.1)), (4, .int (nI (t + 1)))]) ⟨rfl, rfl, by rw [eN]; rfl, by rw [eN]; rfl, rfl, trivial⟩ ?_
            exact ih _ ⟨mN, kN⟩
          · have hb : (tkM (tkS (tkZ S p) t).1 (tkS (tkZ S p) t).2.1).2.2 = true := by
              cases hq : (tkM (tkS (tkZ S p) t).1 (tkS (tkZ S p) t).2.1).2.2 with
              | true => rfl
              | false => rw [hq] at c_99; exact absurd rfl c_99
            have eN : tkS (tkZ S p) (t + 1) = ((tkM (tkS (tkZ S p) t).1 (tkS (tkZ S p) t).2.1).1, (tkS (tkZ S p) t).2.1 + 1, (tkS (tkZ S p) t).2.2 + (tkM (tkS (tkZ S p) t).1 (tkS (tkZ S p) t).2.1).2.1) := by show tk1 _ = _; unfold tk1; rw [if_pos hlt, hb]; rfl
            have mN : isMA E h5 b (tkS (tkZ S p) (t + 1)).1 := by rw [eN]; exact m5
            have kN := k5
            refine j_iinc C0 d_Ma_tick_102 (by rfl) (jinc _) (Nat.le_of_ble_eq_true rfl) ?_
            refine j_goto C0 d_Ma_tick_105 (tgt := 116) (by decide) ?_
            refine j_iinc C0 d_Ma_tick_116 (by rfl) (jinc _) (Nat.le_of_ble_eq_true rfl) ?_
            refine j_goto C0 d_Ma_tick_119 (tgt := 30) (by decide) ?_
            refine j_lv (lv' := [(0, .ref b), (1, .int p), (2, .int (nI (tkS (tkZ S p) (t + 1)).2.2)), (3, .int (nI (tkS (tkZ S p) (t + 1)).2.1)), (4, .int (nI (t + 1)))]) ⟨rfl, rfl, by rw [eN]; rfl, by rw [eN]; rfl, rfl, trivial⟩ ?_
            exact ih _ ⟨mN, kN⟩
        · intro tail
          refine j_iload C0 d_Ma_tick_30 (by rfl) ?_
          refine j_bipush C0 d_Ma_tick_32 (v := 6) (by decide) ?_
          refine j_icmp_ge C0 d_Ma_tick_34 (tgt := 122) (by decide) (fun c_34 => ?_) (fun c_34 => ?_)
          · exact absurd c_34 (nI_ge (b := 6) ht (by decide))
          · refine j_iload_n C0 d_Ma_tick_37 rfl (by rfl) ?_
            refine j_aload_n C0 d_Ma_tick_38 rfl (by rfl) ?_
            refine j_getf C0 d_Ma_tick_39 fl_Ma_51 (by (repeat (first | rw [jset_s] | rw [jset_n (by omega)] | rw [reH_0] | rw [reH_1] | rw [reH_2] | rw [reH_n (by omega)])) <;> first | rfl | assumption) (by rfl) ?_
            refine j_getf C0 d_Ma_tick_42 fl_Ma_139 (by (repeat (first | rw [jset_s] | rw [jset_n (by omega)] | rw [reH_0] | rw [reH_1] | rw [reH_2] | rw [reH_n (by omega)])) <;> first | rfl | assumption) (by rfl) ?_
            refine j_icmp_ge C0 d_Ma_tick_45 (tgt := 122) (by decide) (fun c_45 => ?_) (fun c_45 => ?_)
            · have hge : ¬ (tkS (tkZ S p) t).2.1 < (mQ (tkS (tkZ S p) t).1).1 := fun hh => nI_ge hh (by omega) c_45
              have e6 : tkS (tkZ S p) 6 = (tkS (tkZ S p) t) := by have := tkS_stuck hge (6 - t); rw [show t + (6 - t) = 6 by omega] at this; exact this
              have mE : isMA E hh b (tkS (tkZ S p) 6).1 := by rw [e6]; exact mt
              rw [← e6]
              refine j_aload_n C0 d_Ma_tick_122 rfl (by rfl) ?_
              refine j_callV C0 d_Ma_tick_123 cl_Ma_183 cl_Ma_183v (c_Ma_keepChangesFew _ E mE (tkS_WF hw0 6).b7) mE.obj rfl rfl rfl ⟨by decide, by decide⟩ ⟨by omega, by omega⟩ (Nat.le_of_ble_eq_true rfl) (fun r_ h9 z_ hp_ => ?_)
              obtain ⟨rfl, m9, k9, rfl⟩ := hp_
              refine j_iload_n C0 d_Ma_tick_126 rfl (by rfl) ?_
              exact j_iret C0 d_Ma_tick_127 rfl (by omega) (by omega) ⟨rfl, m9, fun q hq => by rw [k9 q hq]; exact kt q hq, rfl⟩
            · have hlt : (tkS (tkZ S p) t).2.1 < (mQ (tkS (tkZ S p) t).1).1 := Nat.lt_of_not_le (fun hh => c_45 (nI_le hh (by omega)))
              obtain ⟨a, ha, ha1, ha2, hme, hup⟩ := mt.qu.at ef (show (tkS (tkZ S p) t).2.1 < 6 by omega)
              have ea := hme.1
              refine j_aload_n C0 d_Ma_tick_48 rfl (by rfl) ?_
              refine j_getf C0 d_Ma_tick_49 fl_Ma_51 (by (repeat (first | rw [jset_s] | rw [jset_n (by omega)] | rw [reH_0] | rw [reH_1] | rw [reH_2] | rw [reH_n (by omega)])) <;> first | rfl | assumption) (by rfl) ?_
              refine j_getf C0 d_Ma_tick_52 fl_Ma_161 (by (repeat (first | rw [jset_s] | rw [jset_n (by omega)] | rw [reH_0] | rw [reH_1] | rw [reH_2] | rw [reH_n (by omega)])) <;> first | rfl | assumption) (by rfl) ?_
              refine j_iload_n C0 d_Ma_tick_55 rfl (by rfl) ?_
              refine j_aald C0 d_Ma_tick_56 (by (repeat (first | rw [jset_s] | rw [jset_n (by omega)] | rw [reH_0] | rw [reH_1] | rw [reH_2] | rw [reH_n (by omega)])) <;> first | rfl | assumption) rfl rfl (by omega) (by decide) ha ?_
              refine j_astore C0 d_Ma_tick_57 (Nat.le_of_ble_eq_true rfl) ?_
              refine j_iconst C0 d_Ma_tick_59 (v := 1) (by decide) ?_
              refine j_istore C0 d_Ma_tick_60 (Nat.le_of_ble_eq_true rfl) ?_
              refine j_aload C0 d_Ma_tick_62 (by rfl) ?_
              refine j_getf C0 d_Ma_tick_64 fl_Ma_165 (by (repeat (first | rw [jset_s] | rw [jset_n (by omega)] | rw [reH_0] | rw [reH_1] | rw [reH_2] | rw [reH_n (by omega)])) <;> first | rfl | assumption) (by rfl) ?_
              refine j_aload_n C0 d_Ma_tick_67 rfl (by rfl) ?_
              refine j_getf C0 d_Ma_tick_68 fl_Ma_65 (by (repeat (first | rw [jset_s] | rw [jset_n (by omega)] | rw [reH_0] | rw [reH_1] | rw [reH_2] | rw [reH_n (by omega)])) <;> first | rfl | assumption) (by rfl) ?_
              refine j_icmp_gt C0 d_Ma_tick_71 (tgt := 97) (by decide) (fun c_71 => ?_) (fun c_71 => ?_)
              · have eK : tkM (tkS (tkZ S p) t).1 (tkS (tkZ S p) t).2.1 = ((tkS (tkZ S p) t).1, 0, true) := if_pos c_71
                have m8 : isMA E hh b (tkM (tkS (tkZ S p) t).1 (tkS (tkZ S p) t).2.1).1 := by rw [eK]; exact mt
                have k8 := kt
                exact j_to (tail _ ⟨m8, k8, hlt⟩) rfl ⟨rfl, rfl, by rw [eK]; rfl, rfl, rfl, by rw [eK]; rfl, trivial⟩
              · have eK : tkM (tkS (tkZ S p) t).1 (tkS (tkZ S p) t).2.1 = _ := if_neg c_71
                refine j_iload_n C0 d_Ma_tick_74 rfl (by rfl) ?_
                refine j_aload_n C0 d_Ma_tick_75 rfl (by rfl) ?_
                refine j_aload C0 d_Ma_tick_76 (by rfl) ?_
                refine j_callV C0 d_Ma_tick_78 cl_Ma_168 cl_Ma_168v (c_Ma_tryRecipients _ E mt hlt ef ha hwt) mt.obj rfl rfl rfl ⟨by decide, by decide⟩ ⟨by omega, by omega⟩ (Nat.le_of_ble_eq_true rfl) (fun r_ h1 z_ hp_ => ?_)
                obtain ⟨rfl, m1, k1, q1, rfl⟩ := hp_
                rw [show ∀ y, (some (Value.int y)).toList ++ ([Value.int (nI (tkS (tkZ S p) t).2.2)] : List Value) = [Value.int y, Value.int (nI (tkS (tkZ S p) t).2.2)] from fun _ => rfl]
                have hk := trS_keep (tkS (tkZ S p) t).1 (tkS (tkZ S p) t).2.1 ((mQ (tkS (tkZ S p) t).1).2 (tkS (tkZ S p) t).2.1).2.1
                have hl1 : (tkS (tkZ S p) t).2.1 < (mQ (trS (tkS (tkZ S p) t).1 (tkS (tkZ S p) t).2.1 ((mQ (tkS (tkZ S p) t).1).2 (tkS (tkZ S p) t).2.1).2.1).1).1 := by rw [hk.1]; exact hlt
                have ef1 : h1 (b + 33 + 1) = some (jQa E 2 6 f) := by rw [q1]; exact ef
                refine j_iadd C0 d_Ma_tick_81 ?_
                rw [nI_add]
                refine j_istore_n C0 d_Ma_tick_82 rfl (Nat.le_of_ble_eq_true rfl) ?_
                refine j_aload_n C0 d_Ma_tick_83 rfl (by rfl) ?_
                refine j_aload C0 d_Ma_tick_84 (by rfl) ?_
                refine j_callV C0 d_Ma_tick_86 cl_Ma_172 cl_Ma_172v (c_Ma_failOverdue _ E m1 hl1 ef1 ha) m1.obj rfl rfl rfl ⟨by decide, by decide⟩ ⟨by omega, by omega⟩ (Nat.le_of_ble_eq_true rfl) (fun r_ h2 z_ hp_ => ?_)
                obtain ⟨rfl, m2, k2, q2, rfl⟩ := hp_
                have ef2 : h2 (b + 33 + 1) = some (jQa E 2 6 f) := by rw [q2]; exact ef1
                refine j_aload_n C0 d_Ma_tick_89 rfl (by rfl) ?_
                refine j_aload C0 d_Ma_tick_90 (by rfl) ?_
                refine j_callV C0 d_Ma_tick_92 cl_Ma_176 cl_Ma_176v (c_Ma_settle _ E m2 (by rw [foS_q]; exact hl1) ef2 ha) m2.obj rfl rfl rfl ⟨by decide, by decide⟩ ⟨by omega, by omega⟩ (Nat.le_of_ble_eq_true rfl) (fun r_ h3 z_ hp_ => ?_)
                obtain ⟨rfl, m3, k3, q3, rfl⟩ := hp_
                have m8 : isMA E h3 b (tkM (tkS (tkZ S p) t).1 (tkS (tkZ S p) t).2.1).1 := by rw [eK]; exact m3
                have k8 : ∀ q, q < b ∨ b + 90 ≤ q → h3 q = h q := fun q hq => by rw [k3 q hq, k2 q hq, k1 q hq]; exact kt q hq
                refine j_istore C0 d_Ma_tick_95 (Nat.le_of_ble_eq_true rfl) ?_
                exact j_to (tail _ ⟨m8, k8, hlt⟩) rfl ⟨rfl, rfl, by rw [eK]; rfl, rfl, rfl, by rw [eK]; rfl, trivial⟩
      · intro hh hI
        obtain ⟨mE, kt⟩ := hI
        have et := mE.obj
        have eqt := mE.qu.obj
        refine j_iload C0 d_Ma_tick_30 (by rfl) ?_
        refine j_bipush C0 d_Ma_tick_32 (v := 6) (by decide) ?_
        refine j_icmp_ge C0 d_Ma_tick_34 (tgt := 122) (by decide) (fun c_34 => ?_) (fun c_34 => ?_)
        · refine j_aload_n C0 d_Ma_tick_122 rfl (by rfl) ?_
          refine j_callV C0 d_Ma_tick_123 cl_Ma_183 cl_Ma_183v (c_Ma_keepChangesFew _ E mE (tkS_WF hw0 6).b7) mE.obj rfl rfl rfl ⟨by decide, by decide⟩ ⟨by omega, by omega⟩ (Nat.le_of_ble_eq_true rfl) (fun r_ h9 z_ hp_ => ?_)
          obtain ⟨rfl, m9, k9, rfl⟩ := hp_
          refine j_iload_n C0 d_Ma_tick_126 rfl (by rfl) ?_
          exact j_iret C0 d_Ma_tick_127 rfl (by omega) (by omega) ⟨rfl, m9, fun q hq => by rw [k9 q hq]; exact kt q hq, rfl⟩
        · exact absurd (nI_le (Nat.le_refl 6) (by decide)) c_34
    · exact absurd hok.2 c_11
