theorem jb_y {p : Prop} [Decidable p] (h : p) : jb p = 1 := if_pos h
theorem jb_n {p : Prop} [Decidable p] (h : ¬ p) : jb p = 0 := if_neg h
theorem isAl.keep {E : jE} {h h' : jH} {a : Nat} {g : Nat → Nat} (hm : isAl E h a g) (hk : ∀ q, a ≤ q → q < a + 2 → h' q = h q) : isAl E h' a g :=
  ⟨by rw [hk a (by omega) (by omega)]; exact hm.1, by rw [hk (a + 1) (by omega) (by omega)]; exact hm.2.1, hm.2.2⟩
theorem isTr.keep {E : jE} {h h' : jH} {a n : Nat} {op snd : Int32} {ad st : Nat → Int32} (hm : isTr E h a op snd n ad st) (hk : ∀ q, a ≤ q → q < a + 4 → h' q = h q) : isTr E h' a op snd n ad st :=
  ⟨by rw [hk a (by omega) (by omega)]; exact hm.1, hm.2.keep (fun q h1 h2 => hk q (by omega) (by omega))⟩
theorem isDe.keep {E : jE} {h h' : jH} {a : Nat} {le re la ca : Nat → Int32} (hm : isDe E h a le re la ca) (hk : ∀ q, a ≤ q → q < a + 5 → h' q = h q) : isDe E h' a le re la ca :=
  ⟨by rw [hk a (by omega) (by omega)]; exact hm.1, by rw [hk (a + 1) (by omega) (by omega)]; exact hm.2.1, by rw [hk (a + 2) (by omega) (by omega)]; exact hm.2.2.1, by rw [hk (a + 3) (by omega) (by omega)]; exact hm.2.2.2.1, by rw [hk (a + 4) (by omega) (by omega)]; exact hm.2.2.2.2⟩
/-- the state of a MailAgent: numbers by field; masks; routes by domain; hosts; transaction; queue; durable; deliveries -/
abbrev jRt : Type := Nat × (Nat → Int32) × (Nat → Int32)
abbrev jTr : Type := Int32 × Int32 × Nat × (Nat → Int32) × (Nat → Int32)
abbrev jDe : Type := (Nat → Int32) × (Nat → Int32) × (Nat → Int32) × (Nat → Int32)
abbrev maS : Type := (Nat → Int32) × (Nat → Nat) × (Nat → jRt) × (Nat → Int32) × jTr × (Nat × (Nat → jMsg)) × (Nat × (Nat → jMsg)) × jDe
abbrev mv (S : maS) : Nat → Int32 := S.1
abbrev mg (S : maS) : Nat → Nat := S.2.1
abbrev mR (S : maS) : Nat → jRt := S.2.2.1
abbrev mh (S : maS) : Nat → Int32 := S.2.2.2.1
abbrev mT (S : maS) : jTr := S.2.2.2.2.1
abbrev mQ (S : maS) : Nat × (Nat → jMsg) := S.2.2.2.2.2.1
abbrev mD (S : maS) : Nat × (Nat → jMsg) := S.2.2.2.2.2.2.1
abbrev mL (S : maS) : jDe := S.2.2.2.2.2.2.2
abbrev maO (b : Nat) (v : Nat → Int32) : va_E := jO 7 [.int (v 0), .int (v 1), .int (v 2), .ref (b + 1), .ref (b + 3), .ref (b + 28), .ref (b + 29), .ref (b + 33), .ref (b + 59), .ref (b + 85), .int (v 10), .int (v 11), .int (v 12)]
def isMA (E : jE) (h : jH) (b : Nat) (S : maS) : Prop :=
  h b = some (maO b (mv S)) ∧ isAl E h (b + 1) (mg S) ∧ (∃ f, h (b + 3) = some (jQa E 3 8 f) ∧ ∀ d, d < 8 → f d = some (b + 4 + 3 * d)) ∧ (∀ d, d < 8 → isRo E h (b + 4 + 3 * d) (mR S d).1 (mR S d).2.1 (mR S d).2.2) ∧ h (b + 28) = some (jI E 8 (mh S)) ∧ isTr E h (b + 29) (mT S).1 (mT S).2.1 (mT S).2.2.1 (mT S).2.2.2.1 (mT S).2.2.2.2 ∧ isQu E h (b + 33) (mQ S).1 (mQ S).2 ∧ isQu E h (b + 59) (mD S).1 (mD S).2 ∧ isDe E h (b + 85) (mL S).1 (mL S).2.1 (mL S).2.2.1 (mL S).2.2.2
section MA
variable {E : jE} {h h' : jH} {b : Nat} {S : maS}
theorem isMA.obj (m : isMA E h b S) : h b = some (maO b (mv S)) := m.1
theorem isMA.al (m : isMA E h b S) : isAl E h (b + 1) (mg S) := m.2.1
theorem isMA.ra (m : isMA E h b S) : ∃ f, h (b + 3) = some (jQa E 3 8 f) ∧ ∀ d, d < 8 → f d = some (b + 4 + 3 * d) := m.2.2.1
theorem isMA.ro (m : isMA E h b S) : ∀ d, d < 8 → isRo E h (b + 4 + 3 * d) (mR S d).1 (mR S d).2.1 (mR S d).2.2 := m.2.2.2.1
theorem isMA.hs (m : isMA E h b S) : h (b + 28) = some (jI E 8 (mh S)) := m.2.2.2.2.1
theorem isMA.tr (m : isMA E h b S) : isTr E h (b + 29) (mT S).1 (mT S).2.1 (mT S).2.2.1 (mT S).2.2.2.1 (mT S).2.2.2.2 := m.2.2.2.2.2.1
theorem isMA.qu (m : isMA E h b S) : isQu E h (b + 33) (mQ S).1 (mQ S).2 := m.2.2.2.2.2.2.1
theorem isMA.du (m : isMA E h b S) : isQu E h (b + 59) (mD S).1 (mD S).2 := m.2.2.2.2.2.2.2.1
theorem isMA.de (m : isMA E h b S) : isDe E h (b + 85) (mL S).1 (mL S).2.1 (mL S).2.2.1 (mL S).2.2.2 := m.2.2.2.2.2.2.2.2
theorem isMA.keep (m : isMA E h b S) (hk : ∀ q, b ≤ q → q < b + 90 → h' q = h q) : isMA E h' b S := by
  obtain ⟨f, h1, h2⟩ := m.ra
  exact ⟨by rw [hk b (by omega) (by omega)]; exact m.obj, m.al.keep (fun q _ _ => hk q (by omega) (by omega)), ⟨f, by rw [hk _ (by omega) (by omega)]; exact h1, h2⟩, fun d hd => (m.ro d hd).keep (fun q _ _ => hk q (by omega) (by omega)), by rw [hk _ (by omega) (by omega)]; exact m.hs, m.tr.keep (fun q _ _ => hk q (by omega) (by omega)), m.qu.keep (fun q _ _ => hk q (by omega) (by omega)), m.du.keep (fun q _ _ => hk q (by omega) (by omega)), m.de.keep (fun q _ _ => hk q (by omega) (by omega))⟩
theorem isMA.setV (m : isMA E h b S) {v : Nat → Int32} (n : h' b = some (maO b v)) (hk : ∀ q, q < b ∨ b + 1 ≤ q → h' q = h q) : isMA E h' b (v, S.2) := by
  obtain ⟨f, h1, h2⟩ := m.ra
  exact ⟨n, m.al.keep (fun q _ _ => hk q (by omega)), ⟨f, by rw [hk _ (by omega)]; exact h1, h2⟩, fun d hd => (m.ro d hd).keep (fun q _ _ => hk q (by omega)), by rw [hk _ (by omega)]; exact m.hs, m.tr.keep (fun q _ _ => hk q (by omega)), m.qu.keep (fun q _ _ => hk q (by omega)), m.du.keep (fun q _ _ => hk q (by omega)), m.de.keep (fun q _ _ => hk q (by omega))⟩
theorem isMA.setAl (m : isMA E h b S) {g : Nat → Nat} (n : isAl E h' (b + 1) g) (hk : ∀ q, q < b + 1 ∨ b + 3 ≤ q → h' q = h q) : isMA E h' b (S.1, g, S.2.2) := by
  obtain ⟨f, h1, h2⟩ := m.ra
  exact ⟨by rw [hk b (by omega)]; exact m.obj, n, ⟨f, by rw [hk _ (by omega)]; exact h1, h2⟩, fun d hd => (m.ro d hd).keep (fun q _ _ => hk q (by omega)), by rw [hk _ (by omega)]; exact m.hs, m.tr.keep (fun q _ _ => hk q (by omega)), m.qu.keep (fun q _ _ => hk q (by omega)), m.du.keep (fun q _ _ => hk q (by omega)), m.de.keep (fun q _ _ => hk q (by omega))⟩
theorem isMA.setRo (m : isMA E h b S) {k rn : Nat} {hs pr : Nat → Int32} (hd8 : k < 8) (n : isRo E h' (b + 4 + 3 * k) rn hs pr) (hk : ∀ q, q < b + 4 + 3 * k ∨ b + 4 + 3 * k + 3 ≤ q → h' q = h q) : isMA E h' b (S.1, S.2.1, va_up (mR S) k (rn, hs, pr), S.2.2.2) := by
  obtain ⟨f, h1, h2⟩ := m.ra
  exact ⟨by rw [hk b (by omega)]; exact m.obj, m.al.keep (fun q _ _ => hk q (by omega)), ⟨f, by rw [hk _ (by omega)]; exact h1, h2⟩, fun d hd => by
    show isRo E h' _ (va_up (mR S) k (rn, hs, pr) d).1 (va_up (mR S) k (rn, hs, pr) d).2.1 (va_up (mR S) k (rn, hs, pr) d).2.2
    by_cases hdk : d = k
    · subst hdk; rw [va_up_self]; exact n
    · rw [va_up_ne _ _ hdk]; exact (m.ro d hd).keep (fun q _ _ => hk q (by omega)), by rw [hk _ (by omega)]; exact m.hs, m.tr.keep (fun q _ _ => hk q (by omega)), m.qu.keep (fun q _ _ => hk q (by omega)), m.du.keep (fun q _ _ => hk q (by omega)), m.de.keep (fun q _ _ => hk q (by omega))⟩
theorem isMA.setHs (m : isMA E h b S) {f0 : Nat → Int32} (n : h' (b + 28) = some (jI E 8 f0)) (hk : ∀ q, q < b + 28 ∨ b + 29 ≤ q → h' q = h q) : isMA E h' b (S.1, S.2.1, S.2.2.1, f0, S.2.2.2.2) := by
  obtain ⟨f, h1, h2⟩ := m.ra
  exact ⟨by rw [hk b (by omega)]; exact m.obj, m.al.keep (fun q _ _ => hk q (by omega)), ⟨f, by rw [hk _ (by omega)]; exact h1, h2⟩, fun d hd => (m.ro d hd).keep (fun q _ _ => hk q (by omega)), n, m.tr.keep (fun q _ _ => hk q (by omega)), m.qu.keep (fun q _ _ => hk q (by omega)), m.du.keep (fun q _ _ => hk q (by omega)), m.de.keep (fun q _ _ => hk q (by omega))⟩
theorem isMA.setTr (m : isMA E h b S) {op snd : Int32} {tn : Nat} {ad st : Nat → Int32} (n : isTr E h' (b + 29) op snd tn ad st) (hk : ∀ q, q < b + 29 ∨ b + 33 ≤ q → h' q = h q) : isMA E h' b (S.1, S.2.1, S.2.2.1, S.2.2.2.1, (op, snd, tn, ad, st), S.2.2.2.2.2) := by
  obtain ⟨f, h1, h2⟩ := m.ra
  exact ⟨by rw [hk b (by omega)]; exact m.obj, m.al.keep (fun q _ _ => hk q (by omega)), ⟨f, by rw [hk _ (by omega)]; exact h1, h2⟩, fun d hd => (m.ro d hd).keep (fun q _ _ => hk q (by omega)), by rw [hk _ (by omega)]; exact m.hs, n, m.qu.keep (fun q _ _ => hk q (by omega)), m.du.keep (fun q _ _ => hk q (by omega)), m.de.keep (fun q _ _ => hk q (by omega))⟩
theorem isMA.setQu (m : isMA E h b S) {qn : Nat} {Q1 : Nat → jMsg} (n : isQu E h' (b + 33) qn Q1) (hk : ∀ q, q < b + 33 ∨ b + 59 ≤ q → h' q = h q) : isMA E h' b (S.1, S.2.1, S.2.2.1, S.2.2.2.1, S.2.2.2.2.1, (qn, Q1), S.2.2.2.2.2.2) := by
  obtain ⟨f, h1, h2⟩ := m.ra
  exact ⟨by rw [hk b (by omega)]; exact m.obj, m.al.keep (fun q _ _ => hk q (by omega)), ⟨f, by rw [hk _ (by omega)]; exact h1, h2⟩, fun d hd => (m.ro d hd).keep (fun q _ _ => hk q (by omega)), by rw [hk _ (by omega)]; exact m.hs, m.tr.keep (fun q _ _ => hk q (by omega)), n, m.du.keep (fun q _ _ => hk q (by omega)), m.de.keep (fun q _ _ => hk q (by omega))⟩
theorem isMA.setDu (m : isMA E h b S) {qn : Nat} {Q1 : Nat → jMsg} (n : isQu E h' (b + 59) qn Q1) (hk : ∀ q, q < b + 59 ∨ b + 85 ≤ q → h' q = h q) : isMA E h' b (S.1, S.2.1, S.2.2.1, S.2.2.2.1, S.2.2.2.2.1, S.2.2.2.2.2.1, (qn, Q1), S.2.2.2.2.2.2.2) := by
  obtain ⟨f, h1, h2⟩ := m.ra
  exact ⟨by rw [hk b (by omega)]; exact m.obj, m.al.keep (fun q _ _ => hk q (by omega)), ⟨f, by rw [hk _ (by omega)]; exact h1, h2⟩, fun d hd => (m.ro d hd).keep (fun q _ _ => hk q (by omega)), by rw [hk _ (by omega)]; exact m.hs, m.tr.keep (fun q _ _ => hk q (by omega)), m.qu.keep (fun q _ _ => hk q (by omega)), n, m.de.keep (fun q _ _ => hk q (by omega))⟩
theorem isMA.setDe (m : isMA E h b S) {le re la ca : Nat → Int32} (n : isDe E h' (b + 85) le re la ca) (hk : ∀ q, q < b + 85 ∨ b + 90 ≤ q → h' q = h q) : isMA E h' b (S.1, S.2.1, S.2.2.1, S.2.2.2.1, S.2.2.2.2.1, S.2.2.2.2.2.1, S.2.2.2.2.2.2.1, (le, re, la, ca)) := by
  obtain ⟨f, h1, h2⟩ := m.ra
  exact ⟨by rw [hk b (by omega)]; exact m.obj, m.al.keep (fun q _ _ => hk q (by omega)), ⟨f, by rw [hk _ (by omega)]; exact h1, h2⟩, fun d hd => (m.ro d hd).keep (fun q _ _ => hk q (by omega)), by rw [hk _ (by omega)]; exact m.hs, m.tr.keep (fun q _ _ => hk q (by omega)), m.qu.keep (fun q _ _ => hk q (by omega)), m.du.keep (fun q _ _ => hk q (by omega)), n⟩
end MA
abbrev wb7 (qn : Nat) (Q : Nat → jMsg) : Prop := ∀ i, i < qn → (Q i).1 7 = 0 ∨ (Q i).1 7 = 1
def mkDur (S : maS) : maS := (upd (mv S) 12 0, S.2.1, S.2.2.1, S.2.2.2.1, S.2.2.2.2.1, S.2.2.2.2.2.1, ((mQ S).1, cpQ (mD S).2 (mQ S).2 (mQ S).1), S.2.2.2.2.2.2.2)
def kcf (S : maS) : maS := if 24 ≤ mv S 12 then mkDur S else S
set_option maxHeartbeats 4000000 in
set_option maxRecDepth 100000 in
theorem c_Ma_makeDurable (l : Launch) (E : jE) {h : jH} {sz b : Nat} {S : maS} (m : isMA E h b S) (hb : wb7 (mQ S).1 (mQ S).2) : jC l M_Ma_makeDurable 3 E [.ref b] h sz 0 0 (fun r h' sz' => r = none ∧ isMA E h' b (mkDur S) ∧ (∀ q, q < b ∨ b + 90 ≤ q → h' q = h q) ∧ sz' = sz) := by
  have e0 := m.obj
  have e1 := m.du.obj
  refine jC.of (by decide) (Nat.le_of_ble_eq_true rfl) ?_
  intro x C0 hx
  subst hx

  refine j_aload_n C0 d_Ma_makeDurable_0 rfl (by rfl) ?_
  refine j_getf C0 d_Ma_makeDurable_1 fl_Ma_55 (by (repeat (first | rw [jset_s] | rw [jset_n (by omega)] | rw [reH_0] | rw [reH_1] | rw [reH_2] | rw [reH_n (by omega)])) <;> first | rfl | assumption) (by rfl) ?_
  refine j_aload_n C0 d_Ma_makeDurable_4 rfl (by rfl) ?_
  refine j_getf C0 d_Ma_makeDurable_5 fl_Ma_51 (by (repeat (first | rw [jset_s] | rw [jset_n (by omega)] | rw [reH_0] | rw [reH_1] | rw [reH_2] | rw [reH_n (by omega)])) <;> first | rfl | assumption) (by rfl) ?_
  refine j_callV C0 d_Ma_makeDurable_8 cl_Ma_186 cl_Ma_186v (c_Qu_copyFrom _ E m.du m.qu (by omega) hb) (by (repeat (first | rw [jset_s] | rw [jset_n (by omega)] | rw [reH_0] | rw [reH_1] | rw [reH_2] | rw [reH_n (by omega)])) <;> first | rfl | assumption) rfl rfl rfl ⟨by decide, by decide⟩ ⟨by omega, by omega⟩ (Nat.le_of_ble_eq_true rfl) (fun r_ h_ z_ hp_ => ?_)
  obtain ⟨rfl, k1, k2, rfl⟩ := hp_
  have m1 := m.setDu k1 (fun q hq => k2 q (by omega))
  have e2 := m1.obj
  refine j_aload_n C0 d_Ma_makeDurable_11 rfl (by rfl) ?_
  refine j_iconst C0 d_Ma_makeDurable_12 (v := 0) (by decide) ?_
  refine j_putf C0 d_Ma_makeDurable_13 fp_Ma_71 (by (repeat (first | rw [jset_s] | rw [jset_n (by omega)] | rw [reH_0] | rw [reH_1] | rw [reH_2] | rw [reH_n (by omega)])) <;> first | rfl | assumption) (Nat.le_of_ble_eq_true rfl) (by rfl) (by rfl) ?_
  exact j_vret C0 d_Ma_makeDurable_16 rfl (by omega) (by omega) ⟨rfl, m1.setV (v := upd (mv S) 12 0) (by rw [jset_s]; rfl) (fun q hq => jset_n (by omega)), fun q hq => by rw [jset_n (by omega)]; exact k2 q (by omega), rfl⟩
set_option maxHeartbeats 4000000 in
set_option maxRecDepth 100000 in
theorem c_Ma_keepChangesFew (l : Launch) (E : jE) {h : jH} {sz b : Nat} {S : maS} (m : isMA E h b S) (hb : wb7 (mQ S).1 (mQ S).2) : jC l M_Ma_keepChangesFew 4 E [.ref b] h sz 0 0 (fun r h' sz' => r = none ∧ isMA E h' b (kcf S) ∧ (∀ q, q < b ∨ b + 90 ≤ q → h' q = h q) ∧ sz' = sz) := by
  have e0 := m.obj
  refine jC.of (by decide) (Nat.le_of_ble_eq_true rfl) ?_
  intro x C0 hx
  subst hx

  refine j_aload_n C0 d_Ma_keepChangesFew_0 rfl (by rfl) ?_
  refine j_getf C0 d_Ma_keepChangesFew_1 fl_Ma_71 (by (repeat (first | rw [jset_s] | rw [jset_n (by omega)] | rw [reH_0] | rw [reH_1] | rw [reH_2] | rw [reH_n (by omega)])) <;> first | rfl | assumption) (by rfl) ?_
  refine j_bipush C0 d_Ma_keepChangesFew_4 (v := 24) (by decide) ?_
  refine j_icmp_lt C0 d_Ma_keepChangesFew_6 (tgt := 13) (by decide) (fun c_6 => ?_) (fun c_6 => ?_)
  · have ek : kcf S = S := if_neg (Int32.not_le.mpr c_6)
    exact j_vret C0 d_Ma_keepChangesFew_13 rfl (by omega) (by omega) ⟨rfl, by rw [ek]; assumption, by first | exact k1 | exact fun q _ => rfl, rfl⟩
  · have ek : kcf S = mkDur S := if_pos (Int32.not_lt.mp c_6)
    refine j_aload_n C0 d_Ma_keepChangesFew_9 rfl (by rfl) ?_
    refine j_callV C0 d_Ma_keepChangesFew_10 cl_Ma_157 cl_Ma_157v (c_Ma_makeDurable _ E m hb) (by (repeat (first | rw [jset_s] | rw [jset_n (by omega)] | rw [reH_0] | rw [reH_1] | rw [reH_2] | rw [reH_n (by omega)])) <;> first | rfl | assumption) rfl rfl rfl ⟨by decide, by decide⟩ ⟨by omega, by omega⟩ (Nat.le_of_ble_eq_true rfl) (fun r_ h_ z_ hp_ => ?_)
    obtain ⟨rfl, m1, k1, rfl⟩ := hp_
    exact j_vret C0 d_Ma_keepChangesFew_13 rfl (by omega) (by omega) ⟨rfl, by rw [ek]; assumption, by first | exact k1 | exact fun q _ => rfl, rfl⟩
set_option maxHeartbeats 4000000 in
set_option maxRecDepth 100000 in
theorem c_Ma_sync (l : Launch) (E : jE) {h : jH} {sz b : Nat} {S : maS} (m : isMA E h b S) (hb : wb7 (mQ S).1 (mQ S).2) : jC l M_Ma_sync 4 E [.ref b] h sz 0 0 (fun r h' sz' => r = some (.int (mv S 12)) ∧ isMA E h' b (mkDur S) ∧ (∀ q, q < b ∨ b + 90 ≤ q → h' q = h q) ∧ sz' = sz) := by
  have e0 := m.obj
  refine jC.of (by decide) (Nat.le_of_ble_eq_true rfl) ?_
  intro x C0 hx
  subst hx

  refine j_aload_n C0 d_Ma_sync_0 rfl (by rfl) ?_
  refine j_getf C0 d_Ma_sync_1 fl_Ma_71 (by (repeat (first | rw [jset_s] | rw [jset_n (by omega)] | rw [reH_0] | rw [reH_1] | rw [reH_2] | rw [reH_n (by omega)])) <;> first | rfl | assumption) (by rfl) ?_
  refine j_istore_n C0 d_Ma_sync_4 rfl (Nat.le_of_ble_eq_true rfl) ?_
  refine j_aload_n C0 d_Ma_sync_5 rfl (by rfl) ?_
  refine j_callV C0 d_Ma_sync_6 cl_Ma_157 cl_Ma_157v (c_Ma_makeDurable _ E m hb) (by (repeat (first | rw [jset_s] | rw [jset_n (by omega)] | rw [reH_0] | rw [reH_1] | rw [reH_2] | rw [reH_n (by omega)])) <;> first | rfl | assumption) rfl rfl rfl ⟨by decide, by decide⟩ ⟨by omega, by omega⟩ (Nat.le_of_ble_eq_true rfl) (fun r_ h_ z_ hp_ => ?_)
  obtain ⟨rfl, m1, k1, rfl⟩ := hp_
  refine j_iload_n C0 d_Ma_sync_9 rfl (by rfl) ?_
  exact j_iret C0 d_Ma_sync_10 rfl (by omega) (by omega) ⟨rfl, m1, k1, rfl⟩
def crS (S : maS) : maS := (upd (mv S) 12 0, S.2.1, S.2.2.1, S.2.2.2.1, (0, (mT S).2), ((mD S).1, cpQ (mQ S).2 (mD S).2 (mD S).1), S.2.2.2.2.2.2)
set_option maxHeartbeats 4000000 in
set_option maxRecDepth 100000 in
theorem c_Ma_crash (l : Launch) (E : jE) {h : jH} {sz b : Nat} {S : maS} (m : isMA E h b S) (hb : wb7 (mD S).1 (mD S).2) : jC l M_Ma_crash 3 E [.ref b] h sz 0 0 (fun r h' sz' => r = some (.int (mv S 12)) ∧ isMA E h' b (crS S) ∧ (∀ q, q < b ∨ b + 90 ≤ q → h' q = h q) ∧ sz' = sz) := by
  have e0 := m.obj
  have e1 := m.qu.obj
  refine jC.of (by decide) (Nat.le_of_ble_eq_true rfl) ?_
  intro x C0 hx
  subst hx

  refine j_aload_n C0 d_Ma_crash_0 rfl (by rfl) ?_
  refine j_getf C0 d_Ma_crash_1 fl_Ma_71 (by (repeat (first | rw [jset_s] | rw [jset_n (by omega)] | rw [reH_0] | rw [reH_1] | rw [reH_2] | rw [reH_n (by omega)])) <;> first | rfl | assumption) (by rfl) ?_
  refine j_istore_n C0 d_Ma_crash_4 rfl (Nat.le_of_ble_eq_true rfl) ?_
  refine j_aload_n C0 d_Ma_crash_5 rfl (by rfl) ?_
  refine j_getf C0 d_Ma_crash_6 fl_Ma_51 (by (repeat (first | rw [jset_s] | rw [jset_n (by omega)] | rw [reH_0] | rw [reH_1] | rw [reH_2] | rw [reH_n (by omega)])) <;> first | rfl | assumption) (by rfl) ?_
  refine j_aload_n C0 d_Ma_crash_9 rfl (by rfl) ?_
  refine j_getf C0 d_Ma_crash_10 fl_Ma_55 (by (repeat (first | rw [jset_s] | rw [jset_n (by omega)] | rw [reH_0] | rw [reH_1] | rw [reH_2] | rw [reH_n (by omega)])) <;> first | rfl | assumption) (by rfl) ?_
  refine j_callV C0 d_Ma_crash_13 cl_Ma_186 cl_Ma_186v (c_Qu_copyFrom _ E m.qu m.du (by omega) hb) (by (repeat (first | rw [jset_s] | rw [jset_n (by omega)] | rw [reH_0] | rw [reH_1] | rw [reH_2] | rw [reH_n (by omega)])) <;> first | rfl | assumption) rfl rfl rfl ⟨by decide, by decide⟩ ⟨by omega, by omega⟩ (Nat.le_of_ble_eq_true rfl) (fun r_ h_ z_ hp_ => ?_)
  obtain ⟨rfl, k1, k2, rfl⟩ := hp_
  have m1 := m.setQu k1 (fun q hq => k2 q (by omega))
  have e2 := m1.obj
  obtain ⟨t0, t1⟩ := m1.tr
  refine j_aload_n C0 d_Ma_crash_16 rfl (by rfl) ?_
  refine j_iconst C0 d_Ma_crash_17 (v := 0) (by decide) ?_
  refine j_putf C0 d_Ma_crash_18 fp_Ma_71 (by (repeat (first | rw [jset_s] | rw [jset_n (by omega)] | rw [reH_0] | rw [reH_1] | rw [reH_2] | rw [reH_n (by omega)])) <;> first | rfl | assumption) (Nat.le_of_ble_eq_true rfl) (by rfl) (by rfl) ?_
  have m2 := m1.setV (h' := jset h_ b _) (v := upd (mv S) 12 0) jset_s (fun q hq => jset_n (by omega))
  refine j_aload_n C0 d_Ma_crash_21 rfl (by rfl) ?_
  refine j_getf C0 d_Ma_crash_22 fl_Ma_44 (by (repeat (first | rw [jset_s] | rw [jset_n (by omega)] | rw [reH_0] | rw [reH_1] | rw [reH_2] | rw [reH_n (by omega)])) <;> first | rfl | assumption) (by rfl) ?_
  refine j_iconst C0 d_Ma_crash_25 (v := 0) (by decide) ?_
  refine j_putf C0 d_Ma_crash_26 fp_Ma_103 (by (repeat (first | rw [jset_s] | rw [jset_n (by omega)] | rw [reH_0] | rw [reH_1] | rw [reH_2] | rw [reH_n (by omega)])) <;> first | rfl | assumption) (Nat.le_of_ble_eq_true rfl) (by rfl) (by rfl) ?_
  refine j_iload_n C0 d_Ma_crash_29 rfl (by rfl) ?_
  exact j_iret C0 d_Ma_crash_30 rfl (by omega) (by omega) ⟨rfl, m2.setTr (op := 0) (snd := (mT S).2.1) (tn := (mT S).2.2.1) (ad := (mT S).2.2.2.1) (st := (mT S).2.2.2.2) ⟨by rw [jset_s]; rfl, t1.keep (fun q h1 h2 => by rw [jset_n (by omega), jset_n (by omega)])⟩ (fun q hq => jset_n (by omega)), fun q hq => by rw [jset_n (by omega), jset_n (by omega)]; exact k2 q (by omega), rfl⟩
theorem inR {x : Int32} {n : Nat} (hn : n < 2 ^ 31) {N : Int32} (hN : N = nI n) (h : ¬ x < 0 ∧ ¬ N ≤ x) : ∃ k, k < n ∧ x = nI k := by
  subst hN
  rcases pk_ix x hn with h1 | h1 | h1
  · exact absurd h1 h.1
  · exact absurd h1 h.2
  · exact h1
theorem okR {k n : Nat} (hk : k < n) (hn : n < 2 ^ 31) {N : Int32} (hN : N = nI n) : ¬ nI k < 0 ∧ ¬ N ≤ nI k := by
  subst hN
  exact ⟨nI_pos (by omega), nI_ge hk hn⟩
set_option maxHeartbeats 4000000 in
set_option maxRecDepth 100000 in
theorem c_Ma_alias_bad (l : Launch) (E : jE) {h : jH} {sz b : Nat} {S : maS} (m : isMA E h b S) (p q : Int32) (hbad : ¬ (¬ p < 0 ∧ ¬ 8 ≤ p) ∨ ¬ (¬ q < 0 ∧ ¬ 64 ≤ q)) : jC l M_Ma_alias 2 E [.ref b, .int p, .int q] h sz 0 0 (fun r h' sz' => r = some (.int (-501)) ∧ isMA E h' b S ∧ (∀ q, q < b ∨ b + 90 ≤ q → h' q = h q) ∧ sz' = sz) := by
  refine jC.of (by decide) (Nat.le_of_ble_eq_true rfl) ?_
  intro x C0 hx
  subst hx

  by_cases h1 : ¬ p < 0 ∧ ¬ 8 ≤ p
  · have h2 : ¬ (¬ q < 0 ∧ ¬ 64 ≤ q) := hbad.resolve_left (fun h => h h1)
    refine j_iload_n C0 d_Ma_alias_0 rfl (by rfl) ?_
    refine j_bipush C0 d_Ma_alias_1 (v := 8) (by decide) ?_
    refine j_callS C0 d_Ma_alias_3 cl_Ma_74 cl_Ma_74v (c_Ma_isBelow _ E _ _) rfl rfl ⟨by decide, by decide⟩ ⟨by omega, by omega⟩ (Nat.le_of_ble_eq_true rfl) (fun r_ h_ z_ hp_ => ?_)
    obtain ⟨rfl, rfl, rfl⟩ := hp_
    rw [jb_y h1]
    refine j_if_eq C0 d_Ma_alias_6 (tgt := 18) (by decide) (fun c_6 => ?_) (fun c_6 => ?_)
    · exact absurd c_6 (by decide)
    · refine j_iload_n C0 d_Ma_alias_9 rfl (by rfl) ?_
      refine j_bipush C0 d_Ma_alias_10 (v := 64) (by decide) ?_
      refine j_callS C0 d_Ma_alias_12 cl_Ma_74 cl_Ma_74v (c_Ma_isBelow _ E _ _) rfl rfl ⟨by decide, by decide⟩ ⟨by omega, by omega⟩ (Nat.le_of_ble_eq_true rfl) (fun r_ h_ z_ hp_ => ?_)
      obtain ⟨rfl, rfl, rfl⟩ := hp_
      rw [jb_n h2]
      refine j_if_ne C0 d_Ma_alias_15 (tgt := 22) (by decide) (fun c_15 => ?_) (fun c_15 => ?_)
      · exact absurd c_15 (by decide)
      · refine j_sipush C0 d_Ma_alias_18 (v := -501) (by decide) ?_
        exact j_iret C0 d_Ma_alias_21 rfl (by omega) (by omega) ⟨rfl, m, fun q _ => rfl, rfl⟩
  · refine j_iload_n C0 d_Ma_alias_0 rfl (by rfl) ?_
    refine j_bipush C0 d_Ma_alias_1 (v := 8) (by decide) ?_
    refine j_callS C0 d_Ma_alias_3 cl_Ma_74 cl_Ma_74v (c_Ma_isBelow _ E _ _) rfl rfl ⟨by decide, by decide⟩ ⟨by omega, by omega⟩ (Nat.le_of_ble_eq_true rfl) (fun r_ h_ z_ hp_ => ?_)
    obtain ⟨rfl, rfl, rfl⟩ := hp_
    rw [jb_n h1]
    refine j_if_eq C0 d_Ma_alias_6 (tgt := 18) (by decide) (fun c_6 => ?_) (fun c_6 => ?_)
    · refine j_sipush C0 d_Ma_alias_18 (v := -501) (by decide) ?_
      exact j_iret C0 d_Ma_alias_21 rfl (by omega) (by omega) ⟨rfl, m, fun q _ => rfl, rfl⟩
    · exact absurd c_6 (by decide)
set_option maxHeartbeats 4000000 in
set_option maxRecDepth 100000 in
theorem c_Ma_alias_full (l : Launch) (E : jE) {h : jH} {sz b : Nat} {S : maS} (m : isMA E h b S) {k u : Nat} (hk : k < 8) (hu : u < 64) (hF : ¬ (pp_c (mg S k) 64 < 4 ∧ (mg S k).testBit u = false)) : jC l M_Ma_alias 2 E [.ref b, .int (nI k), .int (nI u)] h sz 0 0 (fun r h' sz' => r = some (.int (-452)) ∧ isMA E h' b S ∧ (∀ q, q < b ∨ b + 90 ≤ q → h' q = h q) ∧ sz' = sz) := by
  have e0 := m.obj
  refine jC.of (by decide) (Nat.le_of_ble_eq_true rfl) ?_
  intro x C0 hx
  subst hx

  refine j_iload_n C0 d_Ma_alias_0 rfl (by rfl) ?_
  refine j_bipush C0 d_Ma_alias_1 (v := 8) (by decide) ?_
  refine j_callS C0 d_Ma_alias_3 cl_Ma_74 cl_Ma_74v (c_Ma_isBelow _ E _ _) rfl rfl ⟨by decide, by decide⟩ ⟨by omega, by omega⟩ (Nat.le_of_ble_eq_true rfl) (fun r_ h_ z_ hp_ => ?_)
  obtain ⟨rfl, rfl, rfl⟩ := hp_
  rw [jb_y (okR (N := 8) hk (by decide) rfl)]
  refine j_if_eq C0 d_Ma_alias_6 (tgt := 18) (by decide) (fun c_6 => ?_) (fun c_6 => ?_)
  · exact absurd c_6 (by decide)
  · refine j_iload_n C0 d_Ma_alias_9 rfl (by rfl) ?_
    refine j_bipush C0 d_Ma_alias_10 (v := 64) (by decide) ?_
    refine j_callS C0 d_Ma_alias_12 cl_Ma_74 cl_Ma_74v (c_Ma_isBelow _ E _ _) rfl rfl ⟨by decide, by decide⟩ ⟨by omega, by omega⟩ (Nat.le_of_ble_eq_true rfl) (fun r_ h_ z_ hp_ => ?_)
    obtain ⟨rfl, rfl, rfl⟩ := hp_
    rw [jb_y (okR (N := 64) hu (by decide) rfl)]
    refine j_if_ne C0 d_Ma_alias_15 (tgt := 22) (by decide) (fun c_15 => ?_) (fun c_15 => ?_)
    · refine j_aload_n C0 d_Ma_alias_22 rfl (by rfl) ?_
      refine j_getf C0 d_Ma_alias_23 fl_Ma_26 (by (repeat (first | rw [jset_s] | rw [jset_n (by omega)] | rw [reH_0] | rw [reH_1] | rw [reH_2] | rw [reH_n (by omega)])) <;> first | rfl | assumption) (by rfl) ?_
      refine j_iload_n C0 d_Ma_alias_26 rfl (by rfl) ?_
      refine j_iload_n C0 d_Ma_alias_27 rfl (by rfl) ?_
      refine j_callV C0 d_Ma_alias_28 cl_Ma_78 cl_Ma_78v (c_Al_hasRoomFor _ E hk hu m.al) m.al.1 rfl rfl rfl ⟨by decide, by decide⟩ ⟨by omega, by omega⟩ (Nat.le_of_ble_eq_true rfl) (fun r_ h_ z_ hp_ => ?_)
      obtain ⟨rfl, rfl, rfl⟩ := hp_
      rw [jb_n hF]
      refine j_if_ne C0 d_Ma_alias_31 (tgt := 38) (by decide) (fun c_31 => ?_) (fun c_31 => ?_)
      · exact absurd c_31 (by decide)
      · refine j_sipush C0 d_Ma_alias_34 (v := -452) (by decide) ?_
        exact j_iret C0 d_Ma_alias_37 rfl (by omega) (by omega) ⟨rfl, m, fun q _ => rfl, rfl⟩
    · exact absurd c_15 (by decide)
set_option maxHeartbeats 4000000 in
set_option maxRecDepth 100000 in
theorem c_Ma_alias (l : Launch) (E : jE) {h : jH} {sz b : Nat} {S : maS} (m : isMA E h b S) {k u : Nat} (hk : k < 8) (hu : u < 64) (hF : pp_c (mg S k) 64 < 4 ∧ (mg S k).testBit u = false) : jC l M_Ma_alias 2 E [.ref b, .int (nI k), .int (nI u)] h sz 0 0 (fun r h' sz' => r = some (.int (nI (pp_c (mg S k ||| 2 ^ u) 64))) ∧ isMA E h' b (S.1, va_up (mg S) k (mg S k ||| 2 ^ u), S.2.2) ∧ (∀ q, q < b ∨ b + 90 ≤ q → h' q = h q) ∧ sz' = sz) := by
  have e0 := m.obj
  refine jC.of (by decide) (Nat.le_of_ble_eq_true rfl) ?_
  intro x C0 hx
  subst hx

  refine j_iload_n C0 d_Ma_alias_0 rfl (by rfl) ?_
  refine j_bipush C0 d_Ma_alias_1 (v := 8) (by decide) ?_
  refine j_callS C0 d_Ma_alias_3 cl_Ma_74 cl_Ma_74v (c_Ma_isBelow _ E _ _) rfl rfl ⟨by decide, by decide⟩ ⟨by omega, by omega⟩ (Nat.le_of_ble_eq_true rfl) (fun r_ h_ z_ hp_ => ?_)
  obtain ⟨rfl, rfl, rfl⟩ := hp_
  rw [jb_y (okR (N := 8) hk (by decide) rfl)]
  refine j_if_eq C0 d_Ma_alias_6 (tgt := 18) (by decide) (fun c_6 => ?_) (fun c_6 => ?_)
  · exact absurd c_6 (by decide)
  · refine j_iload_n C0 d_Ma_alias_9 rfl (by rfl) ?_
    refine j_bipush C0 d_Ma_alias_10 (v := 64) (by decide) ?_
    refine j_callS C0 d_Ma_alias_12 cl_Ma_74 cl_Ma_74v (c_Ma_isBelow _ E _ _) rfl rfl ⟨by decide, by decide⟩ ⟨by omega, by omega⟩ (Nat.le_of_ble_eq_true rfl) (fun r_ h_ z_ hp_ => ?_)
    obtain ⟨rfl, rfl, rfl⟩ := hp_
    rw [jb_y (okR (N := 64) hu (by decide) rfl)]
    refine j_if_ne C0 d_Ma_alias_15 (tgt := 22) (by decide) (fun c_15 => ?_) (fun c_15 => ?_)
    · refine j_aload_n C0 d_Ma_alias_22 rfl (by rfl) ?_
      refine j_getf C0 d_Ma_alias_23 fl_Ma_26 (by (repeat (first | rw [jset_s] | rw [jset_n (by omega)] | rw [reH_0] | rw [reH_1] | rw [reH_2] | rw [reH_n (by omega)])) <;> first | rfl | assumption) (by rfl) ?_
      refine j_iload_n C0 d_Ma_alias_26 rfl (by rfl) ?_
      refine j_iload_n C0 d_Ma_alias_27 rfl (by rfl) ?_
      refine j_callV C0 d_Ma_alias_28 cl_Ma_78 cl_Ma_78v (c_Al_hasRoomFor _ E hk hu m.al) m.al.1 rfl rfl rfl ⟨by decide, by decide⟩ ⟨by omega, by omega⟩ (Nat.le_of_ble_eq_true rfl) (fun r_ h_ z_ hp_ => ?_)
      obtain ⟨rfl, rfl, rfl⟩ := hp_
      rw [jb_y hF]
      refine j_if_ne C0 d_Ma_alias_31 (tgt := 38) (by decide) (fun c_31 => ?_) (fun c_31 => ?_)
      · refine j_aload_n C0 d_Ma_alias_38 rfl (by rfl) ?_
        refine j_getf C0 d_Ma_alias_39 fl_Ma_26 (by (repeat (first | rw [jset_s] | rw [jset_n (by omega)] | rw [reH_0] | rw [reH_1] | rw [reH_2] | rw [reH_n (by omega)])) <;> first | rfl | assumption) (by rfl) ?_
        refine j_iload_n C0 d_Ma_alias_42 rfl (by rfl) ?_
        refine j_iload_n C0 d_Ma_alias_43 rfl (by rfl) ?_
        refine j_callV C0 d_Ma_alias_44 cl_Ma_81 cl_Ma_81v (c_Al_add _ E hk hu m.al) m.al.1 rfl rfl rfl ⟨by decide, by decide⟩ ⟨by omega, by omega⟩ (Nat.le_of_ble_eq_true rfl) (fun r_ h_ z_ hp_ => ?_)
        obtain ⟨rfl, k1, k2, rfl⟩ := hp_
        exact j_iret C0 d_Ma_alias_47 rfl (by omega) (by omega) ⟨rfl, m.setAl k1 (fun q hq => k2 q (by omega)), fun q hq => k2 q (by omega), rfl⟩
      · exact absurd c_31 (by decide)
    · exact absurd c_15 (by decide)
set_option maxHeartbeats 4000000 in
set_option maxRecDepth 100000 in
theorem c_Ma_unalias_bad (l : Launch) (E : jE) {h : jH} {sz b : Nat} {S : maS} (m : isMA E h b S) (p : Int32) (hbad : ¬ (¬ p < 0 ∧ ¬ 8 ≤ p)) : jC l M_Ma_unalias 2 E [.ref b, .int p] h sz 0 0 (fun r h' sz' => r = some (.int (-501)) ∧ isMA E h' b S ∧ (∀ q, q < b ∨ b + 90 ≤ q → h' q = h q) ∧ sz' = sz) := by
  refine jC.of (by decide) (Nat.le_of_ble_eq_true rfl) ?_
  intro x C0 hx
  subst hx

  refine j_iload_n C0 d_Ma_unalias_0 rfl (by rfl) ?_
  refine j_bipush C0 d_Ma_unalias_1 (v := 8) (by decide) ?_
  refine j_callS C0 d_Ma_unalias_3 cl_Ma_74 cl_Ma_74v (c_Ma_isBelow _ E _ _) rfl rfl ⟨by decide, by decide⟩ ⟨by omega, by omega⟩ (Nat.le_of_ble_eq_true rfl) (fun r_ h_ z_ hp_ => ?_)
  obtain ⟨rfl, rfl, rfl⟩ := hp_
  rw [jb_n hbad]
  refine j_if_ne C0 d_Ma_unalias_6 (tgt := 13) (by decide) (fun c_6 => ?_) (fun c_6 => ?_)
  · exact absurd c_6 (by decide)
  · refine j_sipush C0 d_Ma_unalias_9 (v := -501) (by decide) ?_
    exact j_iret C0 d_Ma_unalias_12 rfl (by omega) (by omega) ⟨rfl, m, fun q _ => rfl, rfl⟩
set_option maxHeartbeats 4000000 in
set_option maxRecDepth 100000 in
theorem c_Ma_unalias (l : Launch) (E : jE) {h : jH} {sz b : Nat} {S : maS} (m : isMA E h b S) {k : Nat} (hk : k < 8) : jC l M_Ma_unalias 2 E [.ref b, .int (nI k)] h sz 0 0 (fun r h' sz' => r = some (.int (nI (pp_c (mg S k) 64))) ∧ isMA E h' b (S.1, va_up (mg S) k 0, S.2.2) ∧ (∀ q, q < b ∨ b + 90 ≤ q → h' q = h q) ∧ sz' = sz) := by
  have e0 := m.obj
  refine jC.of (by decide) (Nat.le_of_ble_eq_true rfl) ?_
  intro x C0 hx
  subst hx

  refine j_iload_n C0 d_Ma_unalias_0 rfl (by rfl) ?_
  refine j_bipush C0 d_Ma_unalias_1 (v := 8) (by decide) ?_
  refine j_callS C0 d_Ma_unalias_3 cl_Ma_74 cl_Ma_74v (c_Ma_isBelow _ E _ _) rfl rfl ⟨by decide, by decide⟩ ⟨by omega, by omega⟩ (Nat.le_of_ble_eq_true rfl) (fun r_ h_ z_ hp_ => ?_)
  obtain ⟨rfl, rfl, rfl⟩ := hp_
  rw [jb_y (okR (N := 8) hk (by decide) rfl)]
  refine j_if_ne C0 d_Ma_unalias_6 (tgt := 13) (by decide) (fun c_6 => ?_) (fun c_6 => ?_)
  · refine j_aload_n C0 d_Ma_unalias_13 rfl (by rfl) ?_
    refine j_getf C0 d_Ma_unalias_14 fl_Ma_26 (by (repeat (first | rw [jset_s] | rw [jset_n (by omega)] | rw [reH_0] | rw [reH_1] | rw [reH_2] | rw [reH_n (by omega)])) <;> first | rfl | assumption) (by rfl) ?_
    refine j_iload_n C0 d_Ma_unalias_17 rfl (by rfl) ?_
    refine j_callV C0 d_Ma_unalias_18 cl_Ma_85 cl_Ma_85v (c_Al_clear _ E hk m.al) m.al.1 rfl rfl rfl ⟨by decide, by decide⟩ ⟨by omega, by omega⟩ (Nat.le_of_ble_eq_true rfl) (fun r_ h_ z_ hp_ => ?_)
    obtain ⟨rfl, k1, k2, rfl⟩ := hp_
    exact j_iret C0 d_Ma_unalias_21 rfl (by omega) (by omega) ⟨rfl, m.setAl k1 (fun q hq => k2 q (by omega)), fun q hq => k2 q (by omega), rfl⟩
  · exact absurd c_6 (by decide)
theorem okF {k : Nat} (hk : k < 8) (h0 : 0 < k) : ¬ nI k = 0 ∧ ¬ nI k < 0 ∧ ¬ (8 : Int32) ≤ nI k := ⟨nI_ne0 h0 (by omega), okR hk (by decide) rfl⟩
set_option maxHeartbeats 4000000 in
set_option maxRecDepth 100000 in
theorem c_Ma_route_bad (l : Launch) (E : jE) {h : jH} {sz b : Nat} {S : maS} (m : isMA E h b S) (p q s : Int32) (hbad : ¬ (¬ p = 0 ∧ ¬ p < 0 ∧ ¬ 8 ≤ p) ∨ ¬ (¬ q < 0 ∧ ¬ 8 ≤ q) ∨ ¬ (¬ s < 0 ∧ ¬ 100 ≤ s)) : jC l M_Ma_route 2 E [.ref b, .int p, .int q, .int s] h sz 0 0 (fun r h' sz' => r = some (.int (-501)) ∧ isMA E h' b S ∧ (∀ q, q < b ∨ b + 90 ≤ q → h' q = h q) ∧ sz' = sz) := by
  refine jC.of (by decide) (Nat.le_of_ble_eq_true rfl) ?_
  intro x C0 hx
  subst hx

  by_cases h1 : ¬ p = 0 ∧ ¬ p < 0 ∧ ¬ 8 ≤ p
  · by_cases h2 : ¬ q < 0 ∧ ¬ 8 ≤ q
    · have h3 : ¬ (¬ s < 0 ∧ ¬ 100 ≤ s) := (hbad.resolve_left (fun h => h h1)).resolve_left (fun h => h h2)
      refine j_iload_n C0 d_Ma_route_0 rfl (by rfl) ?_
      refine j_callS C0 d_Ma_route_1 cl_Ma_89 cl_Ma_89v (c_Ma_isForeign _ E _) rfl rfl ⟨by decide, by decide⟩ ⟨by omega, by omega⟩ (Nat.le_of_ble_eq_true rfl) (fun r_ h_ z_ hp_ => ?_)
      obtain ⟨rfl, rfl, rfl⟩ := hp_
      rw [jb_y h1]
      refine j_if_eq C0 d_Ma_route_4 (tgt := 25) (by decide) (fun c_4 => ?_) (fun c_4 => ?_)
      · exact absurd c_4 (by decide)
      · refine j_iload_n C0 d_Ma_route_7 rfl (by rfl) ?_
        refine j_bipush C0 d_Ma_route_8 (v := 8) (by decide) ?_
        refine j_callS C0 d_Ma_route_10 cl_Ma_74 cl_Ma_74v (c_Ma_isBelow _ E _ _) rfl rfl ⟨by decide, by decide⟩ ⟨by omega, by omega⟩ (Nat.le_of_ble_eq_true rfl) (fun r_ h_ z_ hp_ => ?_)
        obtain ⟨rfl, rfl, rfl⟩ := hp_
        rw [jb_y h2]
        refine j_if_eq C0 d_Ma_route_13 (tgt := 25) (by decide) (fun c_13 => ?_) (fun c_13 => ?_)
        · exact absurd c_13 (by decide)
        · refine j_iload_n C0 d_Ma_route_16 rfl (by rfl) ?_
          refine j_bipush C0 d_Ma_route_17 (v := 100) (by decide) ?_
          refine j_callS C0 d_Ma_route_19 cl_Ma_74 cl_Ma_74v (c_Ma_isBelow _ E _ _) rfl rfl ⟨by decide, by decide⟩ ⟨by omega, by omega⟩ (Nat.le_of_ble_eq_true rfl) (fun r_ h_ z_ hp_ => ?_)
          obtain ⟨rfl, rfl, rfl⟩ := hp_
          rw [jb_n h3]
          refine j_if_ne C0 d_Ma_route_22 (tgt := 29) (by decide) (fun c_22 => ?_) (fun c_22 => ?_)
          · exact absurd c_22 (by decide)
          · refine j_sipush C0 d_Ma_route_25 (v := -501) (by decide) ?_
            exact j_iret C0 d_Ma_route_28 rfl (by omega) (by omega) ⟨rfl, m, fun q _ => rfl, rfl⟩
    · refine j_iload_n C0 d_Ma_route_0 rfl (by rfl) ?_
      refine j_callS C0 d_Ma_route_1 cl_Ma_89 cl_Ma_89v (c_Ma_isForeign _ E _) rfl rfl ⟨by decide, by decide⟩ ⟨by omega, by omega⟩ (Nat.le_of_ble_eq_true rfl) (fun r_ h_ z_ hp_ => ?_)
      obtain ⟨rfl, rfl, rfl⟩ := hp_
      rw [jb_y h1]
      refine j_if_eq C0 d_Ma_route_4 (tgt := 25) (by decide) (fun c_4 => ?_) (fun c_4 => ?_)
      · exact absurd c_4 (by decide)
      · refine j_iload_n C0 d_Ma_route_7 rfl (by rfl) ?_
        refine j_bipush C0 d_Ma_route_8 (v := 8) (by decide) ?_
        refine j_callS C0 d_Ma_route_10 cl_Ma_74 cl_Ma_74v (c_Ma_isBelow _ E _ _) rfl rfl ⟨by decide, by decide⟩ ⟨by omega, by omega⟩ (Nat.le_of_ble_eq_true rfl) (fun r_ h_ z_ hp_ => ?_)
        obtain ⟨rfl, rfl, rfl⟩ := hp_
        rw [jb_n h2]
        refine j_if_eq C0 d_Ma_route_13 (tgt := 25) (by decide) (fun c_13 => ?_) (fun c_13 => ?_)
        · refine j_sipush C0 d_Ma_route_25 (v := -501) (by decide) ?_
          exact j_iret C0 d_Ma_route_28 rfl (by omega) (by omega) ⟨rfl, m, fun q _ => rfl, rfl⟩
        · exact absurd c_13 (by decide)
  · refine j_iload_n C0 d_Ma_route_0 rfl (by rfl) ?_
    refine j_callS C0 d_Ma_route_1 cl_Ma_89 cl_Ma_89v (c_Ma_isForeign _ E _) rfl rfl ⟨by decide, by decide⟩ ⟨by omega, by omega⟩ (Nat.le_of_ble_eq_true rfl) (fun r_ h_ z_ hp_ => ?_)
    obtain ⟨rfl, rfl, rfl⟩ := hp_
    rw [jb_n h1]
    refine j_if_eq C0 d_Ma_route_4 (tgt := 25) (by decide) (fun c_4 => ?_) (fun c_4 => ?_)
    · refine j_sipush C0 d_Ma_route_25 (v := -501) (by decide) ?_
      exact j_iret C0 d_Ma_route_28 rfl (by omega) (by omega) ⟨rfl, m, fun q _ => rfl, rfl⟩
    · exact absurd c_4 (by decide)
set_option maxHeartbeats 4000000 in
set_option maxRecDepth 100000 in
theorem c_Ma_route_full (l : Launch) (E : jE) {h : jH} {sz b : Nat} {S : maS} (m : isMA E h b S) {k u s : Nat} (hk : k < 8) (h0 : 0 < k) (hu : u < 8) (hs : s < 100) (hF : ¬ (cnt (mR S k).2.1 (nI u) (mR S k).1 = 0 ∧ (mR S k).1 < 3)) : jC l M_Ma_route 2 E [.ref b, .int (nI k), .int (nI u), .int (nI s)] h sz 0 0 (fun r h' sz' => r = some (.int (-452)) ∧ isMA E h' b S ∧ (∀ q, q < b ∨ b + 90 ≤ q → h' q = h q) ∧ sz' = sz) := by
  have e0 := m.obj
  obtain ⟨f, e1, hf⟩ := m.ra
  have er := m.ro k hk
  refine jC.of (by decide) (Nat.le_of_ble_eq_true rfl) ?_
  intro x C0 hx
  subst hx

  refine j_iload_n C0 d_Ma_route_0 rfl (by rfl) ?_
  refine j_callS C0 d_Ma_route_1 cl_Ma_89 cl_Ma_89v (c_Ma_isForeign _ E _) rfl rfl ⟨by decide, by decide⟩ ⟨by omega, by omega⟩ (Nat.le_of_ble_eq_true rfl) (fun r_ h_ z_ hp_ => ?_)
  obtain ⟨rfl, rfl, rfl⟩ := hp_
  rw [jb_y (okF hk h0)]
  refine j_if_eq C0 d_Ma_route_4 (tgt := 25) (by decide) (fun c_4 => ?_) (fun c_4 => ?_)
  · exact absurd c_4 (by decide)
  · refine j_iload_n C0 d_Ma_route_7 rfl (by rfl) ?_
    refine j_bipush C0 d_Ma_route_8 (v := 8) (by decide) ?_
    refine j_callS C0 d_Ma_route_10 cl_Ma_74 cl_Ma_74v (c_Ma_isBelow _ E _ _) rfl rfl ⟨by decide, by decide⟩ ⟨by omega, by omega⟩ (Nat.le_of_ble_eq_true rfl) (fun r_ h_ z_ hp_ => ?_)
    obtain ⟨rfl, rfl, rfl⟩ := hp_
    rw [jb_y (okR (N := 8) hu (by decide) rfl)]
    refine j_if_eq C0 d_Ma_route_13 (tgt := 25) (by decide) (fun c_13 => ?_) (fun c_13 => ?_)
    · exact absurd c_13 (by decide)
    · refine j_iload_n C0 d_Ma_route_16 rfl (by rfl) ?_
      refine j_bipush C0 d_Ma_route_17 (v := 100) (by decide) ?_
      refine j_callS C0 d_Ma_route_19 cl_Ma_74 cl_Ma_74v (c_Ma_isBelow _ E _ _) rfl rfl ⟨by decide, by decide⟩ ⟨by omega, by omega⟩ (Nat.le_of_ble_eq_true rfl) (fun r_ h_ z_ hp_ => ?_)
      obtain ⟨rfl, rfl, rfl⟩ := hp_
      rw [jb_y (okR (N := 100) hs (by decide) rfl)]
      refine j_if_ne C0 d_Ma_route_22 (tgt := 29) (by decide) (fun c_22 => ?_) (fun c_22 => ?_)
      · refine j_aload_n C0 d_Ma_route_29 rfl (by rfl) ?_
        refine j_getf C0 d_Ma_route_30 fl_Ma_32 (by (repeat (first | rw [jset_s] | rw [jset_n (by omega)] | rw [reH_0] | rw [reH_1] | rw [reH_2] | rw [reH_n (by omega)])) <;> first | rfl | assumption) (by rfl) ?_
        refine j_iload_n C0 d_Ma_route_33 rfl (by rfl) ?_
        refine j_aald C0 d_Ma_route_34 (by (repeat (first | rw [jset_s] | rw [jset_n (by omega)] | rw [reH_0] | rw [reH_1] | rw [reH_2] | rw [reH_n (by omega)])) <;> first | rfl | assumption) rfl rfl (by omega) (by decide) (hf k hk) ?_
        refine j_iload_n C0 d_Ma_route_35 rfl (by rfl) ?_
        refine j_callV C0 d_Ma_route_36 cl_Ma_93 cl_Ma_93v (c_Ro_hasRoomFor _ E (nI u) er) er.1 rfl rfl rfl ⟨by decide, by decide⟩ ⟨by omega, by omega⟩ (Nat.le_of_ble_eq_true rfl) (fun r_ h_ z_ hp_ => ?_)
        obtain ⟨rfl, rfl, rfl⟩ := hp_
        rw [jb_n hF]
        refine j_if_ne C0 d_Ma_route_39 (tgt := 46) (by decide) (fun c_39 => ?_) (fun c_39 => ?_)
        · exact absurd c_39 (by decide)
        · refine j_sipush C0 d_Ma_route_42 (v := -452) (by decide) ?_
          exact j_iret C0 d_Ma_route_45 rfl (by omega) (by omega) ⟨rfl, m, fun q _ => rfl, rfl⟩
      · exact absurd c_22 (by decide)
set_option maxHeartbeats 4000000 in
set_option maxRecDepth 100000 in
theorem c_Ma_route (l : Launch) (E : jE) {h : jH} {sz b : Nat} {S : maS} (m : isMA E h b S) {k u s : Nat} (hk : k < 8) (h0 : 0 < k) (hu : u < 8) (hs : s < 100) (hF : cnt (mR S k).2.1 (nI u) (mR S k).1 = 0 ∧ (mR S k).1 < 3) : jC l M_Ma_route 2 E [.ref b, .int (nI k), .int (nI u), .int (nI s)] h sz 0 0 (fun r h' sz' => r = some (.int (nI ((mR S k).1 + 1))) ∧ isMA E h' b (S.1, S.2.1, va_up (mR S) k ((mR S k).1 + 1, insF (mR S k).2.1 (insP (mR S k).2.2 (nI s) (mR S k).1) (mR S k).1 (nI u), insF (mR S k).2.2 (insP (mR S k).2.2 (nI s) (mR S k).1) (mR S k).1 (nI s)), S.2.2.2) ∧ (∀ q, q < b ∨ b + 90 ≤ q → h' q = h q) ∧ sz' = sz) := by
  have e0 := m.obj
  obtain ⟨f, e1, hf⟩ := m.ra
  have er := m.ro k hk
  refine jC.of (by decide) (Nat.le_of_ble_eq_true rfl) ?_
  intro x C0 hx
  subst hx

  refine j_iload_n C0 d_Ma_route_0 rfl (by rfl) ?_
  refine j_callS C0 d_Ma_route_1 cl_Ma_89 cl_Ma_89v (c_Ma_isForeign _ E _) rfl rfl ⟨by decide, by decide⟩ ⟨by omega, by omega⟩ (Nat.le_of_ble_eq_true rfl) (fun r_ h_ z_ hp_ => ?_)
  obtain ⟨rfl, rfl, rfl⟩ := hp_
  rw [jb_y (okF hk h0)]
  refine j_if_eq C0 d_Ma_route_4 (tgt := 25) (by decide) (fun c_4 => ?_) (fun c_4 => ?_)
  · exact absurd c_4 (by decide)
  · refine j_iload_n C0 d_Ma_route_7 rfl (by rfl) ?_
    refine j_bipush C0 d_Ma_route_8 (v := 8) (by decide) ?_
    refine j_callS C0 d_Ma_route_10 cl_Ma_74 cl_Ma_74v (c_Ma_isBelow _ E _ _) rfl rfl ⟨by decide, by decide⟩ ⟨by omega, by omega⟩ (Nat.le_of_ble_eq_true rfl) (fun r_ h_ z_ hp_ => ?_)
    obtain ⟨rfl, rfl, rfl⟩ := hp_
    rw [jb_y (okR (N := 8) hu (by decide) rfl)]
    refine j_if_eq C0 d_Ma_route_13 (tgt := 25) (by decide) (fun c_13 => ?_) (fun c_13 => ?_)
    · exact absurd c_13 (by decide)
    · refine j_iload_n C0 d_Ma_route_16 rfl (by rfl) ?_
      refine j_bipush C0 d_Ma_route_17 (v := 100) (by decide) ?_
      refine j_callS C0 d_Ma_route_19 cl_Ma_74 cl_Ma_74v (c_Ma_isBelow _ E _ _) rfl rfl ⟨by decide, by decide⟩ ⟨by omega, by omega⟩ (Nat.le_of_ble_eq_true rfl) (fun r_ h_ z_ hp_ => ?_)
      obtain ⟨rfl, rfl, rfl⟩ := hp_
      rw [jb_y (okR (N := 100) hs (by decide) rfl)]
      refine j_if_ne C0 d_Ma_route_22 (tgt := 29) (by decide) (fun c_22 => ?_) (fun c_22 => ?_)
      · refine j_aload_n C0 d_Ma_route_29 rfl (by rfl) ?_
        refine j_getf C0 d_Ma_route_30 fl_Ma_32 (by (repeat (first | rw [jset_s] | rw [jset_n (by omega)] | rw [reH_0] | rw [reH_1] | rw [reH_2] | rw [reH_n (by omega)])) <;> first | rfl | assumption) (by rfl) ?_
        refine j_iload_n C0 d_Ma_route_33 rfl (by rfl) ?_
        refine j_aald C0 d_Ma_route_34 (by (repeat (first | rw [jset_s] | rw [jset_n (by omega)] | rw [reH_0] | rw [reH_1] | rw [reH_2] | rw [reH_n (by omega)])) <;> first | rfl | assumption) rfl rfl (by omega) (by decide) (hf k hk) ?_
        refine j_iload_n C0 d_Ma_route_35 rfl (by rfl) ?_
        refine j_callV C0 d_Ma_route_36 cl_Ma_93 cl_Ma_93v (c_Ro_hasRoomFor _ E (nI u) er) er.1 rfl rfl rfl ⟨by decide, by decide⟩ ⟨by omega, by omega⟩ (Nat.le_of_ble_eq_true rfl) (fun r_ h_ z_ hp_ => ?_)
        obtain ⟨rfl, rfl, rfl⟩ := hp_
        rw [jb_y hF]
        refine j_if_ne C0 d_Ma_route_39 (tgt := 46) (by decide) (fun c_39 => ?_) (fun c_39 => ?_)
        · refine j_aload_n C0 d_Ma_route_46 rfl (by rfl) ?_
          refine j_getf C0 d_Ma_route_47 fl_Ma_32 (by (repeat (first | rw [jset_s] | rw [jset_n (by omega)] | rw [reH_0] | rw [reH_1] | rw [reH_2] | rw [reH_n (by omega)])) <;> first | rfl | assumption) (by rfl) ?_
          refine j_iload_n C0 d_Ma_route_50 rfl (by rfl) ?_
          refine j_aald C0 d_Ma_route_51 (by (repeat (first | rw [jset_s] | rw [jset_n (by omega)] | rw [reH_0] | rw [reH_1] | rw [reH_2] | rw [reH_n (by omega)])) <;> first | rfl | assumption) rfl rfl (by omega) (by decide) (hf k hk) ?_
          refine j_iload_n C0 d_Ma_route_52 rfl (by rfl) ?_
          refine j_iload_n C0 d_Ma_route_53 rfl (by rfl) ?_
          refine j_callV C0 d_Ma_route_54 cl_Ma_95 cl_Ma_95v (c_Ro_add _ E (nI u) (nI s) er hF.2) er.1 rfl rfl rfl ⟨by decide, by decide⟩ ⟨by omega, by omega⟩ (Nat.le_of_ble_eq_true rfl) (fun r_ h_ z_ hp_ => ?_)
          obtain ⟨rfl, k1, k2, rfl⟩ := hp_
          exact j_iret C0 d_Ma_route_57 rfl (by omega) (by omega) ⟨rfl, m.setRo hk k1 (fun q hq => k2 q (by omega)), fun q hq => k2 q (by omega), rfl⟩
        · exact absurd c_39 (by decide)
      · exact absurd c_22 (by decide)
set_option maxHeartbeats 4000000 in
set_option maxRecDepth 100000 in
theorem c_Ma_unroute_bad (l : Launch) (E : jE) {h : jH} {sz b : Nat} {S : maS} (m : isMA E h b S) (p : Int32) (hbad : ¬ (¬ p = 0 ∧ ¬ p < 0 ∧ ¬ 8 ≤ p)) : jC l M_Ma_unroute 2 E [.ref b, .int p] h sz 0 0 (fun r h' sz' => r = some (.int (-501)) ∧ isMA E h' b S ∧ (∀ q, q < b ∨ b + 90 ≤ q → h' q = h q) ∧ sz' = sz) := by
  refine jC.of (by decide) (Nat.le_of_ble_eq_true rfl) ?_
  intro x C0 hx
  subst hx

  refine j_iload_n C0 d_Ma_unroute_0 rfl (by rfl) ?_
  refine j_callS C0 d_Ma_unroute_1 cl_Ma_89 cl_Ma_89v (c_Ma_isForeign _ E _) rfl rfl ⟨by decide, by decide⟩ ⟨by omega, by omega⟩ (Nat.le_of_ble_eq_true rfl) (fun r_ h_ z_ hp_ => ?_)
  obtain ⟨rfl, rfl, rfl⟩ := hp_
  rw [jb_n hbad]
  refine j_if_ne C0 d_Ma_unroute_4 (tgt := 11) (by decide) (fun c_4 => ?_) (fun c_4 => ?_)
  · exact absurd c_4 (by decide)
  · refine j_sipush C0 d_Ma_unroute_7 (v := -501) (by decide) ?_
    exact j_iret C0 d_Ma_unroute_10 rfl (by omega) (by omega) ⟨rfl, m, fun q _ => rfl, rfl⟩
set_option maxHeartbeats 4000000 in
set_option maxRecDepth 100000 in
theorem c_Ma_unroute (l : Launch) (E : jE) {h : jH} {sz b : Nat} {S : maS} (m : isMA E h b S) {k : Nat} (hk : k < 8) (h0 : 0 < k) : jC l M_Ma_unroute 2 E [.ref b, .int (nI k)] h sz 0 0 (fun r h' sz' => r = some (.int (nI (mR S k).1)) ∧ isMA E h' b (S.1, S.2.1, va_up (mR S) k (0, (mR S k).2.1, (mR S k).2.2), S.2.2.2) ∧ (∀ q, q < b ∨ b + 90 ≤ q → h' q = h q) ∧ sz' = sz) := by
  have e0 := m.obj
  obtain ⟨f, e1, hf⟩ := m.ra
  have er := m.ro k hk
  refine jC.of (by decide) (Nat.le_of_ble_eq_true rfl) ?_
  intro x C0 hx
  subst hx

  refine j_iload_n C0 d_Ma_unroute_0 rfl (by rfl) ?_
  refine j_callS C0 d_Ma_unroute_1 cl_Ma_89 cl_Ma_89v (c_Ma_isForeign _ E _) rfl rfl ⟨by decide, by decide⟩ ⟨by omega, by omega⟩ (Nat.le_of_ble_eq_true rfl) (fun r_ h_ z_ hp_ => ?_)
  obtain ⟨rfl, rfl, rfl⟩ := hp_
  rw [jb_y (okF hk h0)]
  refine j_if_ne C0 d_Ma_unroute_4 (tgt := 11) (by decide) (fun c_4 => ?_) (fun c_4 => ?_)
  · refine j_aload_n C0 d_Ma_unroute_11 rfl (by rfl) ?_
    refine j_getf C0 d_Ma_unroute_12 fl_Ma_32 (by (repeat (first | rw [jset_s] | rw [jset_n (by omega)] | rw [reH_0] | rw [reH_1] | rw [reH_2] | rw [reH_n (by omega)])) <;> first | rfl | assumption) (by rfl) ?_
    refine j_iload_n C0 d_Ma_unroute_15 rfl (by rfl) ?_
    refine j_aald C0 d_Ma_unroute_16 (by (repeat (first | rw [jset_s] | rw [jset_n (by omega)] | rw [reH_0] | rw [reH_1] | rw [reH_2] | rw [reH_n (by omega)])) <;> first | rfl | assumption) rfl rfl (by omega) (by decide) (hf k hk) ?_
    refine j_callV C0 d_Ma_unroute_17 cl_Ma_96 cl_Ma_96v (c_Ro_clear _ E er) er.1 rfl rfl rfl ⟨by decide, by decide⟩ ⟨by omega, by omega⟩ (Nat.le_of_ble_eq_true rfl) (fun r_ h_ z_ hp_ => ?_)
    obtain ⟨rfl, k1, k2, rfl⟩ := hp_
    exact j_iret C0 d_Ma_unroute_20 rfl (by omega) (by omega) ⟨rfl, m.setRo hk k1 (fun q hq => k2 q (by omega)), fun q hq => k2 q (by omega), rfl⟩
  · exact absurd c_4 (by decide)
set_option maxHeartbeats 4000000 in
set_option maxRecDepth 100000 in
theorem c_Ma_host_bad (l : Launch) (E : jE) {h : jH} {sz b : Nat} {S : maS} (m : isMA E h b S) (p q : Int32) (hbad : ¬ (¬ p < 0 ∧ ¬ 8 ≤ p) ∨ ¬ (¬ q < 0 ∧ ¬ 3 ≤ q)) : jC l M_Ma_host 2 E [.ref b, .int p, .int q] h sz 0 0 (fun r h' sz' => r = some (.int (-501)) ∧ isMA E h' b S ∧ (∀ q, q < b ∨ b + 90 ≤ q → h' q = h q) ∧ sz' = sz) := by
  refine jC.of (by decide) (Nat.le_of_ble_eq_true rfl) ?_
  intro x C0 hx
  subst hx

  by_cases h1 : ¬ p < 0 ∧ ¬ 8 ≤ p
  · have h2 : ¬ (¬ q < 0 ∧ ¬ 3 ≤ q) := hbad.resolve_left (fun h => h h1)
    refine j_iload_n C0 d_Ma_host_0 rfl (by rfl) ?_
    refine j_bipush C0 d_Ma_host_1 (v := 8) (by decide) ?_
    refine j_callS C0 d_Ma_host_3 cl_Ma_74 cl_Ma_74v (c_Ma_isBelow _ E _ _) rfl rfl ⟨by decide, by decide⟩ ⟨by omega, by omega⟩ (Nat.le_of_ble_eq_true rfl) (fun r_ h_ z_ hp_ => ?_)
    obtain ⟨rfl, rfl, rfl⟩ := hp_
    rw [jb_y h1]
    refine j_if_eq C0 d_Ma_host_6 (tgt := 17) (by decide) (fun c_6 => ?_) (fun c_6 => ?_)
    · exact absurd c_6 (by decide)
    · refine j_iload_n C0 d_Ma_host_9 rfl (by rfl) ?_
      refine j_iconst C0 d_Ma_host_10 (v := 3) (by decide) ?_
      refine j_callS C0 d_Ma_host_11 cl_Ma_74 cl_Ma_74v (c_Ma_isBelow _ E _ _) rfl rfl ⟨by decide, by decide⟩ ⟨by omega, by omega⟩ (Nat.le_of_ble_eq_true rfl) (fun r_ h_ z_ hp_ => ?_)
      obtain ⟨rfl, rfl, rfl⟩ := hp_
      rw [jb_n h2]
      refine j_if_ne C0 d_Ma_host_14 (tgt := 21) (by decide) (fun c_14 => ?_) (fun c_14 => ?_)
      · exact absurd c_14 (by decide)
      · refine j_sipush C0 d_Ma_host_17 (v := -501) (by decide) ?_
        exact j_iret C0 d_Ma_host_20 rfl (by omega) (by omega) ⟨rfl, m, fun q _ => rfl, rfl⟩
  · refine j_iload_n C0 d_Ma_host_0 rfl (by rfl) ?_
    refine j_bipush C0 d_Ma_host_1 (v := 8) (by decide) ?_
    refine j_callS C0 d_Ma_host_3 cl_Ma_74 cl_Ma_74v (c_Ma_isBelow _ E _ _) rfl rfl ⟨by decide, by decide⟩ ⟨by omega, by omega⟩ (Nat.le_of_ble_eq_true rfl) (fun r_ h_ z_ hp_ => ?_)
    obtain ⟨rfl, rfl, rfl⟩ := hp_
    rw [jb_n h1]
    refine j_if_eq C0 d_Ma_host_6 (tgt := 17) (by decide) (fun c_6 => ?_) (fun c_6 => ?_)
    · refine j_sipush C0 d_Ma_host_17 (v := -501) (by decide) ?_
      exact j_iret C0 d_Ma_host_20 rfl (by omega) (by omega) ⟨rfl, m, fun q _ => rfl, rfl⟩
    · exact absurd c_6 (by decide)
set_option maxHeartbeats 4000000 in
set_option maxRecDepth 100000 in
theorem c_Ma_host (l : Launch) (E : jE) {h : jH} {sz b : Nat} {S : maS} (m : isMA E h b S) {k : Nat} (q : Int32) (hk : k < 8) (hq : ¬ q < 0 ∧ ¬ 3 ≤ q) : jC l M_Ma_host 2 E [.ref b, .int (nI k), .int q] h sz 0 0 (fun r h' sz' => r = some (.int (mh S k)) ∧ isMA E h' b (S.1, S.2.1, S.2.2.1, upd (mh S) k q, S.2.2.2.2) ∧ (∀ q, q < b ∨ b + 90 ≤ q → h' q = h q) ∧ sz' = sz) := by
  have e0 := m.obj
  have e1 := m.hs
  refine jC.of (by decide) (Nat.le_of_ble_eq_true rfl) ?_
  intro x C0 hx
  subst hx

  refine j_iload_n C0 d_Ma_host_0 rfl (by rfl) ?_
  refine j_bipush C0 d_Ma_host_1 (v := 8) (by decide) ?_
  refine j_callS C0 d_Ma_host_3 cl_Ma_74 cl_Ma_74v (c_Ma_isBelow _ E _ _) rfl rfl ⟨by decide, by decide⟩ ⟨by omega, by omega⟩ (Nat.le_of_ble_eq_true rfl) (fun r_ h_ z_ hp_ => ?_)
  obtain ⟨rfl, rfl, rfl⟩ := hp_
  rw [jb_y (okR (N := 8) hk (by decide) rfl)]
  refine j_if_eq C0 d_Ma_host_6 (tgt := 17) (by decide) (fun c_6 => ?_) (fun c_6 => ?_)
  · exact absurd c_6 (by decide)
  · refine j_iload_n C0 d_Ma_host_9 rfl (by rfl) ?_
    refine j_iconst C0 d_Ma_host_10 (v := 3) (by decide) ?_
    refine j_callS C0 d_Ma_host_11 cl_Ma_74 cl_Ma_74v (c_Ma_isBelow _ E _ _) rfl rfl ⟨by decide, by decide⟩ ⟨by omega, by omega⟩ (Nat.le_of_ble_eq_true rfl) (fun r_ h_ z_ hp_ => ?_)
    obtain ⟨rfl, rfl, rfl⟩ := hp_
    rw [jb_y hq]
    refine j_if_ne C0 d_Ma_host_14 (tgt := 21) (by decide) (fun c_14 => ?_) (fun c_14 => ?_)
    · refine j_aload_n C0 d_Ma_host_21 rfl (by rfl) ?_
      refine j_getf C0 d_Ma_host_22 fl_Ma_37 (by (repeat (first | rw [jset_s] | rw [jset_n (by omega)] | rw [reH_0] | rw [reH_1] | rw [reH_2] | rw [reH_n (by omega)])) <;> first | rfl | assumption) (by rfl) ?_
      refine j_iload_n C0 d_Ma_host_25 rfl (by rfl) ?_
      refine j_iald C0 d_Ma_host_26 (by (repeat (first | rw [jset_s] | rw [jset_n (by omega)] | rw [reH_0] | rw [reH_1] | rw [reH_2] | rw [reH_n (by omega)])) <;> first | rfl | assumption) rfl (by omega) (by decide) ?_
      refine j_istore_n C0 d_Ma_host_27 rfl (Nat.le_of_ble_eq_true rfl) ?_
      refine j_aload_n C0 d_Ma_host_28 rfl (by rfl) ?_
      refine j_getf C0 d_Ma_host_29 fl_Ma_37 (by (repeat (first | rw [jset_s] | rw [jset_n (by omega)] | rw [reH_0] | rw [reH_1] | rw [reH_2] | rw [reH_n (by omega)])) <;> first | rfl | assumption) (by rfl) ?_
      refine j_iload_n C0 d_Ma_host_32 rfl (by rfl) ?_
      refine j_iload_n C0 d_Ma_host_33 rfl (by rfl) ?_
      refine j_iast C0 d_Ma_host_34 (by (repeat (first | rw [jset_s] | rw [jset_n (by omega)] | rw [reH_0] | rw [reH_1] | rw [reH_2] | rw [reH_n (by omega)])) <;> first | rfl | assumption) rfl (by omega) (by decide) ?_
      refine j_iload_n C0 d_Ma_host_35 rfl (by rfl) ?_
      exact j_iret C0 d_Ma_host_36 rfl (by omega) (by omega) ⟨rfl, m.setHs jset_s (fun q hq => jset_n (by omega)), fun q hq => jset_n (by omega), rfl⟩
    · exact absurd c_14 (by decide)
set_option maxHeartbeats 4000000 in
set_option maxRecDepth 100000 in
theorem c_Ma_from_bad (l : Launch) (E : jE) {h : jH} {sz b : Nat} {S : maS} (m : isMA E h b S) (p : Int32) (hbad : ¬ p = -1 ∧ ¬ (¬ p < 0 ∧ ¬ 64 ≤ p)) : jC l M_Ma_from 2 E [.ref b, .int p] h sz 0 0 (fun r h' sz' => r = some (.int (-501)) ∧ isMA E h' b S ∧ (∀ q, q < b ∨ b + 90 ≤ q → h' q = h q) ∧ sz' = sz) := by
  refine jC.of (by decide) (Nat.le_of_ble_eq_true rfl) ?_
  intro x C0 hx
  subst hx

  refine j_iload_n C0 d_Ma_from_0 rfl (by rfl) ?_
  refine j_iconst C0 d_Ma_from_1 (v := -1) (by decide) ?_
  refine j_icmp_eq C0 d_Ma_from_2 (tgt := 18) (by decide) (fun c_2 => ?_) (fun c_2 => ?_)
  · exact absurd c_2 hbad.1
  · refine j_iload_n C0 d_Ma_from_5 rfl (by rfl) ?_
    refine j_bipush C0 d_Ma_from_6 (v := 64) (by decide) ?_
    refine j_callS C0 d_Ma_from_8 cl_Ma_74 cl_Ma_74v (c_Ma_isBelow _ E _ _) rfl rfl ⟨by decide, by decide⟩ ⟨by omega, by omega⟩ (Nat.le_of_ble_eq_true rfl) (fun r_ h_ z_ hp_ => ?_)
    obtain ⟨rfl, rfl, rfl⟩ := hp_
    rw [jb_n hbad.2]
    refine j_if_ne C0 d_Ma_from_11 (tgt := 18) (by decide) (fun c_11 => ?_) (fun c_11 => ?_)
    · exact absurd c_11 (by decide)
    · refine j_sipush C0 d_Ma_from_14 (v := -501) (by decide) ?_
      exact j_iret C0 d_Ma_from_17 rfl (by omega) (by omega) ⟨rfl, m, fun q _ => rfl, rfl⟩
set_option maxHeartbeats 4000000 in
set_option maxRecDepth 100000 in
theorem c_Ma_from (l : Launch) (E : jE) {h : jH} {sz b : Nat} {S : maS} (m : isMA E h b S) (p : Int32) (hok : p = -1 ∨ (¬ p < 0 ∧ ¬ 64 ≤ p)) : jC l M_Ma_from 2 E [.ref b, .int p] h sz 0 0 (fun r h' sz' => r = some (.int 0) ∧ isMA E h' b (S.1, S.2.1, S.2.2.1, S.2.2.2.1, (1, p, 0, (mT S).2.2.2.1, (mT S).2.2.2.2), S.2.2.2.2.2) ∧ (∀ q, q < b ∨ b + 90 ≤ q → h' q = h q) ∧ sz' = sz) := by
  have e0 := m.obj
  refine jC.of (by decide) (Nat.le_of_ble_eq_true rfl) ?_
  intro x C0 hx
  subst hx

  rcases hok with hok | hok
  · refine j_iload_n C0 d_Ma_from_0 rfl (by rfl) ?_
    refine j_iconst C0 d_Ma_from_1 (v := -1) (by decide) ?_
    refine j_icmp_eq C0 d_Ma_from_2 (tgt := 18) (by decide) (fun c_2 => ?_) (fun c_2 => ?_)
    · refine j_aload_n C0 d_Ma_from_18 rfl (by rfl) ?_
      refine j_getf C0 d_Ma_from_19 fl_Ma_44 (by (repeat (first | rw [jset_s] | rw [jset_n (by omega)] | rw [reH_0] | rw [reH_1] | rw [reH_2] | rw [reH_n (by omega)])) <;> first | rfl | assumption) (by rfl) ?_
      refine j_iload_n C0 d_Ma_from_22 rfl (by rfl) ?_
      refine j_callV C0 d_Ma_from_23 cl_Ma_99 cl_Ma_99v (c_Tr_start _ E p m.tr) m.tr.1 rfl rfl rfl ⟨by decide, by decide⟩ ⟨by omega, by omega⟩ (Nat.le_of_ble_eq_true rfl) (fun r_ h_ z_ hp_ => ?_)
      obtain ⟨rfl, k1, k2, rfl⟩ := hp_
      refine j_iconst C0 d_Ma_from_26 (v := 0) (by decide) ?_
      exact j_iret C0 d_Ma_from_27 rfl (by omega) (by omega) ⟨rfl, m.setTr k1 (fun q hq => k2 q (by omega)), fun q hq => k2 q (by omega), rfl⟩
    · exact absurd hok c_2
  · have hne : ¬ p = -1 := fun e => hok.1 (by rw [e]; decide)
    refine j_iload_n C0 d_Ma_from_0 rfl (by rfl) ?_
    refine j_iconst C0 d_Ma_from_1 (v := -1) (by decide) ?_
    refine j_icmp_eq C0 d_Ma_from_2 (tgt := 18) (by decide) (fun c_2 => ?_) (fun c_2 => ?_)
    · exact absurd c_2 hne
    · refine j_iload_n C0 d_Ma_from_5 rfl (by rfl) ?_
      refine j_bipush C0 d_Ma_from_6 (v := 64) (by decide) ?_
      refine j_callS C0 d_Ma_from_8 cl_Ma_74 cl_Ma_74v (c_Ma_isBelow _ E _ _) rfl rfl ⟨by decide, by decide⟩ ⟨by omega, by omega⟩ (Nat.le_of_ble_eq_true rfl) (fun r_ h_ z_ hp_ => ?_)
      obtain ⟨rfl, rfl, rfl⟩ := hp_
      rw [jb_y hok]
      refine j_if_ne C0 d_Ma_from_11 (tgt := 18) (by decide) (fun c_11 => ?_) (fun c_11 => ?_)
      · refine j_aload_n C0 d_Ma_from_18 rfl (by rfl) ?_
        refine j_getf C0 d_Ma_from_19 fl_Ma_44 (by (repeat (first | rw [jset_s] | rw [jset_n (by omega)] | rw [reH_0] | rw [reH_1] | rw [reH_2] | rw [reH_n (by omega)])) <;> first | rfl | assumption) (by rfl) ?_
        refine j_iload_n C0 d_Ma_from_22 rfl (by rfl) ?_
        refine j_callV C0 d_Ma_from_23 cl_Ma_99 cl_Ma_99v (c_Tr_start _ E p m.tr) m.tr.1 rfl rfl rfl ⟨by decide, by decide⟩ ⟨by omega, by omega⟩ (Nat.le_of_ble_eq_true rfl) (fun r_ h_ z_ hp_ => ?_)
        obtain ⟨rfl, k1, k2, rfl⟩ := hp_
        refine j_iconst C0 d_Ma_from_26 (v := 0) (by decide) ?_
        exact j_iret C0 d_Ma_from_27 rfl (by omega) (by omega) ⟨rfl, m.setTr k1 (fun q hq => k2 q (by omega)), fun q hq => k2 q (by omega), rfl⟩
      · exact absurd c_11 (by decide)
