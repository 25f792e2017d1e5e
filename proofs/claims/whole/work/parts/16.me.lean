theorem j_heap {x : jX} {M : jM} {E : jE} {Q : State → Prop} {h : jH} {sz ce sl pc : Nat} {lv : List (Nat × Value)} {st : List Value} (kk : ∀ h3, h3 = h → jJ x M E Q h3 sz ce sl lv pc st) : jJ x M E Q h sz ce sl lv pc st := kk h rfl
def noteL (L : jDe) (u : Nat) (m : jMsg) : jDe := (if m.1 7 = 1 then L.1 else upd L.1 u (L.1 u + 1), if m.1 7 = 1 then upd L.2.1 u (L.2.1 u + 1) else L.2.1, upd L.2.2.1 u (m.1 1), L.2.2.2)
def setQi (S : maS) (i : Nat) (y : jMsg) : maS := (S.1, S.2.1, S.2.2.1, S.2.2.2.1, S.2.2.2.2.1, ((mQ S).1, va_up (mQ S).2 i y), S.2.2.2.2.2.2)
def tr2 (S : maS) (i k u : Nat) : maS := setQi (caS S u) i (((mQ S).2 i).1, ((mQ S).2 i).2.1, ((mQ S).2 i).2.2.1, upd ((mQ S).2 i).2.2.2 k (caF S u).1)
def tr3 (S : maS) (i k u : Nat) : maS := if (caF S u).1 = 1 then tr2 S i k u else (upd (mv S) 12 (mv S 12 + 1), (tr2 S i k u).2)
def tr4 (S : maS) (i k u : Nat) : maS × Nat := if (caF S u).1 = 2 then (setL (tr3 S i k u) (noteL (mL (tr3 S i k u)) u ((mQ S).2 i)), 1) else (tr3 S i k u, 0)
def tr1 (S : maS) (i k : Nat) : maS × Nat := if ((mQ S).2 i).2.2.2 k = 1 then tr4 S i k (((mQ S).2 i).2.2.1 k).toNatClampNeg else (S, 0)
def trS (S : maS) (i : Nat) : Nat → maS × Nat
  | 0 => (S, 0)
  | k + 1 => ((tr1 (trS S i k).1 i k).1, (trS S i k).2 + (tr1 (trS S i k).1 i k).2)
/-- a message that is well formed; a state whose queue and routes are -/
def okM (m : jMsg) : Prop := (m.1 7 = 0 ∨ m.1 7 = 1) ∧ wad m.2.1 m.2.2.1 ∧ (m.1 2 = -1 ∨ ∃ u, u < 64 ∧ m.1 2 = nI u)
def WF (S : maS) : Prop := (∀ i, i < (mQ S).1 → okM ((mQ S).2 i)) ∧ wro (mR S)
theorem WF.b7 {S : maS} (h : WF S) : wb7 (mQ S).1 (mQ S).2 := fun i hi => (h.1 i hi).1
theorem WF.qi {S : maS} {i : Nat} {y : jMsg} (h : WF S) (hy : okM y) : WF (setQi S i y) := ⟨fun j hj => by
  show okM (va_up (mQ S).2 i y j)
  by_cases e : j = i
  · subst e; rw [va_up_self]; exact hy
  · rw [va_up_ne _ _ e]; exact h.1 j hj, h.2⟩
/-- what trying a recipient leaves as it was -/
theorem tr1_keep (S : maS) (i k : Nat) : (mQ (tr1 S i k).1).1 = (mQ S).1 ∧ mR (tr1 S i k).1 = mR S ∧ mh (tr1 S i k).1 = mh S ∧ (∀ j, j ≠ i → (mQ (tr1 S i k).1).2 j = (mQ S).2 j) ∧ ((mQ (tr1 S i k).1).2 i).1 = ((mQ S).2 i).1 ∧ ((mQ (tr1 S i k).1).2 i).2.1 = ((mQ S).2 i).2.1 ∧ ((mQ (tr1 S i k).1).2 i).2.2.1 = ((mQ S).2 i).2.2.1 := by
  have h2 : ∀ u, (mQ (tr3 S i k u)) = (mQ (tr2 S i k u)) ∧ mR (tr3 S i k u) = mR S ∧ mh (tr3 S i k u) = mh S := fun u => by unfold tr3; split <;> exact ⟨rfl, rfl, rfl⟩
  have h4 : ∀ u, (mQ (tr4 S i k u).1) = (mQ (tr2 S i k u)) ∧ mR (tr4 S i k u).1 = mR S ∧ mh (tr4 S i k u).1 = mh S := fun u => by unfold tr4; split <;> exact h2 u
  unfold tr1
  split
  · obtain ⟨e1, e2, e3⟩ := h4 (((mQ S).2 i).2.2.1 k).toNatClampNeg
    rw [e1, e2, e3]
    refine ⟨rfl, rfl, rfl, fun j hj => va_up_ne _ _ hj, ?_, ?_, ?_⟩
    · show (va_up _ i _ i : jMsg).1 = _; rw [va_up_self]
    · show (va_up _ i _ i : jMsg).2.1 = _; rw [va_up_self]
    · show (va_up _ i _ i : jMsg).2.2.1 = _; rw [va_up_self]
  · exact ⟨rfl, rfl, rfl, fun j hj => rfl, rfl, rfl, rfl⟩
theorem trS_keep (S : maS) (i : Nat) : ∀ k, (mQ (trS S i k).1).1 = (mQ S).1 ∧ mR (trS S i k).1 = mR S ∧ mh (trS S i k).1 = mh S ∧ (∀ j, j ≠ i → (mQ (trS S i k).1).2 j = (mQ S).2 j) ∧ ((mQ (trS S i k).1).2 i).1 = ((mQ S).2 i).1 ∧ ((mQ (trS S i k).1).2 i).2.1 = ((mQ S).2 i).2.1 ∧ ((mQ (trS S i k).1).2 i).2.2.1 = ((mQ S).2 i).2.2.1
  | 0 => ⟨rfl, rfl, rfl, fun _ _ => rfl, rfl, rfl, rfl⟩
  | k + 1 => by
    obtain ⟨a1, a2, a3, a4, a5, a6, a7⟩ := trS_keep S i k
    obtain ⟨b1, b2, b3, b4, b5, b6, b7⟩ := tr1_keep (trS S i k).1 i k
    exact ⟨b1.trans a1, b2.trans a2, b3.trans a3, fun j hj => (b4 j hj).trans (a4 j hj), b5.trans a5, b6.trans a6, b7.trans a7⟩
theorem trS_WF {S : maS} (h : WF S) (i k : Nat) : WF (trS S i k).1 := by
  obtain ⟨a1, a2, a3, a4, a5, a6, a7⟩ := trS_keep S i k
  refine ⟨fun j hj => ?_, by rw [a2]; exact h.2⟩
  rw [a1] at hj
  by_cases e : j = i
  · subst e
    have := h.1 j hj
    unfold okM at this ⊢
    rw [a5, a6, a7]
    exact this
  · rw [a4 j e]; exact h.1 j hj
theorem trS_n (S : maS) (i : Nat) : ∀ k, (trS S i k).2 ≤ k
  | 0 => Nat.le_refl 0
  | k + 1 => by
    have := trS_n S i k
    have h2 : (tr1 (trS S i k).1 i k).2 ≤ 1 := by
      unfold tr1
      split
      · unfold tr4
        split
        · exact Nat.le_refl 1
        · exact Nat.zero_le 1
      · exact Nat.zero_le 1
    show (trS S i k).2 + _ ≤ k + 1
    omega
set_option maxHeartbeats 4000000 in
set_option maxRecDepth 100000 in
theorem c_Ma_tryRecipients (l : Launch) (E : jE) {h : jH} {sz b : Nat} {S : maS} (m : isMA E h b S) {i a : Nat} {f : Nat → Option Nat} (hi : i < (mQ S).1) (hf : h (b + 33 + 1) = some (jQa E 2 6 f)) (ha : f i = some a) (hw : WF S) : jC l M_Ma_tryRecipients 1 E [.ref b, .ref a] h sz 0 0 (fun r h' sz' => r = some (.int (nI (trS S i ((mQ S).2 i).2.1).2)) ∧ isMA E h' b (trS S i ((mQ S).2 i).2.1).1 ∧ (∀ q, q < b ∨ b + 90 ≤ q → h' q = h q) ∧ h' (b + 33 + 1) = h (b + 33 + 1) ∧ sz' = sz) := by
  have h6 := m.qu.le
  obtain ⟨a', ha', ha1, ha2, hme, hup⟩ := m.qu.at hf (show i < 6 by omega)
  cases ha.symm.trans ha'
  obtain ⟨ea, er⟩ := hme
  have e0 := m.obj
  obtain ⟨r0, r1, r2, rn⟩ := er
  refine jC.of (by decide) (Nat.le_of_ble_eq_true rfl) ?_
  intro x C0 hx
  subst hx

  refine j_aload_n C0 d_Ma_tryRecipients_0 rfl (by rfl) ?_
  refine j_getf C0 d_Ma_tryRecipients_1 fl_Ma_199 (by (repeat (first | rw [jset_s] | rw [jset_n (by omega)] | rw [reH_0] | rw [reH_1] | rw [reH_2] | rw [reH_n (by omega)])) <;> first | rfl | assumption) (by rfl) ?_
  refine j_astore_n C0 d_Ma_tryRecipients_4 rfl (Nat.le_of_ble_eq_true rfl) ?_
  refine j_iconst C0 d_Ma_tryRecipients_5 (v := 0) (by decide) ?_
  refine j_istore_n C0 d_Ma_tryRecipients_6 rfl (Nat.le_of_ble_eq_true rfl) ?_
  refine j_iconst C0 d_Ma_tryRecipients_7 (v := 0) (by decide) ?_
  refine j_istore C0 d_Ma_tryRecipients_8 (Nat.le_of_ble_eq_true rfl) ?_
  refine j_lv (lv' := [(0, .ref b), (1, .ref a), (2, .ref (a + 1)), (3, .int (nI (trS S i 0).2)), (4, .int (nI 0))]) ⟨rfl, rfl, rfl, rfl, rfl, trivial⟩ ?_
  refine j_forR ((mQ S).2 i).2.1 (fun k hh => isMA E hh b (trS S i k).1 ∧ (∀ q, q < b ∨ b + 90 ≤ q → hh q = h q) ∧ hh (b + 33 + 1) = h (b + 33 + 1)) (fun _ => sz) (fun _ => 0) (fun _ => 0) (fun k => [(0, .ref b), (1, .ref a), (2, .ref (a + 1)), (3, .int (nI (trS S i k).2)), (4, .int (nI k))]) ?_ ?_ 0 h (Nat.zero_le _) ⟨m, fun q _ => rfl, rfl⟩
  · intro k hh hk hI ih
    obtain ⟨mk, g2, g3⟩ := hI
    obtain ⟨a1, a2, a3, a4, a5, a6, a7⟩ := trS_keep S i k
    have hik : i < (mQ (trS S i k).1).1 := by rw [a1]; exact hi
    have hfk : hh (b + 33 + 1) = some (jQa E 2 6 f) := by rw [g3]; exact hf
    obtain ⟨a', ha', -, -, hmek, hupk⟩ := mk.qu.at hfk (show i < 6 by omega)
    cases ha.symm.trans ha'
    obtain ⟨ek, erk⟩ := hmek
    rw [a6, a7] at erk
    obtain ⟨s0, s1, s2, sn⟩ := erk
    have hwk := trS_WF hw i k
    obtain ⟨u, hu, eu⟩ := (hw.1 i hi).2.1 k hk
    have hcu : (((mQ (trS S i k).1).2 i).2.2.1 k).toNatClampNeg = u := by rw [a7, eu]; exact nI_clamp (by omega)
    have hcn := trS_n S i k
    refine j_iload C0 d_Ma_tryRecipients_10 (by rfl) ?_
    refine j_aload_n C0 d_Ma_tryRecipients_12 rfl (by rfl) ?_
    refine j_getf C0 d_Ma_tryRecipients_13 fl_Ma_129 (by (repeat (first | rw [jset_s] | rw [jset_n (by omega)] | rw [reH_0] | rw [reH_1] | rw [reH_2] | rw [reH_n (by omega)])) <;> first | rfl | assumption) (by rfl) ?_
    refine j_icmp_ge C0 d_Ma_tryRecipients_16 (tgt := 97) (by decide) (fun c_16 => ?_) (fun c_16 => ?_)
    · exact absurd c_16 (nI_ge hk (by omega))
    · refine j_aload_n C0 d_Ma_tryRecipients_19 rfl (by rfl) ?_
      refine j_getf C0 d_Ma_tryRecipients_20 fl_Ma_226 (by (repeat (first | rw [jset_s] | rw [jset_n (by omega)] | rw [reH_0] | rw [reH_1] | rw [reH_2] | rw [reH_n (by omega)])) <;> first | rfl | assumption) (by rfl) ?_
      refine j_iload C0 d_Ma_tryRecipients_23 (by rfl) ?_
      refine j_iald C0 d_Ma_tryRecipients_25 (by (repeat (first | rw [jset_s] | rw [jset_n (by omega)] | rw [reH_0] | rw [reH_1] | rw [reH_2] | rw [reH_n (by omega)])) <;> first | rfl | assumption) rfl (by omega) (by decide) ?_
      refine j_iconst C0 d_Ma_tryRecipients_26 (v := 1) (by decide) ?_
      refine j_icmp_ne C0 d_Ma_tryRecipients_27 (tgt := 91) (by decide) (fun c_27 => ?_) (fun c_27 => ?_)
      · have eT : tr1 (trS S i k).1 i k = ((trS S i k).1, 0) := if_neg c_27
        have eC : (trS S i (k + 1)).2 = (trS S i k).2 := by show _ + (tr1 _ i k).2 = _; rw [eT]; rfl
        have mN : isMA E hh b (trS S i (k + 1)).1 ∧ (∀ q, q < b ∨ b + 90 ≤ q → hh q = h q) ∧ hh (b + 33 + 1) = h (b + 33 + 1) := ⟨by show isMA E hh b (tr1 _ i k).1; rw [eT]; exact mk, g2, g3⟩
        refine j_iinc C0 d_Ma_tryRecipients_91 (by rfl) (jinc _) (Nat.le_of_ble_eq_true rfl) ?_
        refine j_goto C0 d_Ma_tryRecipients_94 (tgt := 10) (by decide) ?_
        refine j_lv (lv' := [(0, .ref b), (1, .ref a), (2, .ref (a + 1)), (3, .int (nI (trS S i (k + 1)).2)), (4, .int (nI (k + 1)))]) ⟨rfl, rfl, rfl, by rw [eC]; rfl, rfl, trivial⟩ ?_
        exact ih _ mN
      · have eT : tr1 (trS S i k).1 i k = tr4 (trS S i k).1 i k u := by unfold tr1; rw [if_pos c_27, hcu]
        refine j_aload_n C0 d_Ma_tryRecipients_30 rfl (by rfl) ?_
        refine j_getf C0 d_Ma_tryRecipients_31 fl_Ma_229 (by (repeat (first | rw [jset_s] | rw [jset_n (by omega)] | rw [reH_0] | rw [reH_1] | rw [reH_2] | rw [reH_n (by omega)])) <;> first | rfl | assumption) (by rfl) ?_
        refine j_iload C0 d_Ma_tryRecipients_34 (by rfl) ?_
        refine j_iald C0 d_Ma_tryRecipients_36 (by (repeat (first | rw [jset_s] | rw [jset_n (by omega)] | rw [reH_0] | rw [reH_1] | rw [reH_2] | rw [reH_n (by omega)])) <;> first | rfl | assumption) rfl (by omega) (by decide) ?_
        rw [eu]
        refine j_istore C0 d_Ma_tryRecipients_37 (Nat.le_of_ble_eq_true rfl) ?_
        refine j_aload_n C0 d_Ma_tryRecipients_39 rfl (by rfl) ?_
        refine j_iload C0 d_Ma_tryRecipients_40 (by rfl) ?_
        refine j_callV C0 d_Ma_tryRecipients_42 cl_Ma_232 cl_Ma_232v (c_Ma_carry _ E mk hu hwk.2) mk.obj rfl rfl rfl ⟨by decide, by decide⟩ ⟨by omega, by omega⟩ (Nat.le_of_ble_eq_true rfl) (fun r_ h1 z_ hp_ => ?_)
        obtain ⟨rfl, m1, k1, rfl⟩ := hp_
        have e21 := m1.obj
        have f1 : h1 (b + 33 + 1) = some (jQa E 2 6 f) := by rw [k1 _ (by omega)]; exact hfk
        obtain ⟨a', ha', -, -, hme1, hup1⟩ := m1.qu.at f1 (show i < 6 by omega)
        cases ha.symm.trans ha'
        obtain ⟨ek1, erk1⟩ := hme1
        have erk1 : isRe E h1 (a + 1) ((mQ S).2 i).2.1 ((mQ S).2 i).2.2.1 ((mQ (trS S i k).1).2 i).2.2.2 := by
          have := erk1
          rw [← a6, ← a7]
          exact this
        obtain ⟨p0, p1, p2, pn⟩ := erk1
        refine j_istore C0 d_Ma_tryRecipients_45 (Nat.le_of_ble_eq_true rfl) ?_
        refine j_aload_n C0 d_Ma_tryRecipients_47 rfl (by rfl) ?_
        refine j_getf C0 d_Ma_tryRecipients_48 fl_Ma_226 (by (repeat (first | rw [jset_s] | rw [jset_n (by omega)] | rw [reH_0] | rw [reH_1] | rw [reH_2] | rw [reH_n (by omega)])) <;> first | rfl | assumption) (by rfl) ?_
        refine j_iload C0 d_Ma_tryRecipients_51 (by rfl) ?_
        refine j_iload C0 d_Ma_tryRecipients_53 (by rfl) ?_
        refine j_iast C0 d_Ma_tryRecipients_55 (by (repeat (first | rw [jset_s] | rw [jset_n (by omega)] | rw [reH_0] | rw [reH_1] | rw [reH_2] | rw [reH_n (by omega)])) <;> first | rfl | assumption) rfl (by omega) (by decide) ?_
        have m2 : isMA E (jset h1 (a + 1 + 2) _) b (tr2 (trS S i k).1 i k u) := m1.setQu (hup1 _ (((mQ (trS S i k).1).2 i).1, ((mQ (trS S i k).1).2 i).2.1, ((mQ (trS S i k).1).2 i).2.2.1, upd ((mQ (trS S i k).1).2 i).2.2.2 k (caF (trS S i k).1 u).1) ⟨by rw [jset_n (by omega)]; exact ek1, by rw [jset_n (by omega), a6]; exact p0, by rw [jset_n (by omega), a7]; exact p1, jset_s, by rw [a6]; exact pn⟩ (fun q hq => jset_n (by omega))) (fun q hq => jset_n (by omega))
        have e2 := m2.obj
        refine j_iload C0 d_Ma_tryRecipients_56 (by rfl) ?_
        refine j_iconst C0 d_Ma_tryRecipients_58 (v := 1) (by decide) ?_
        refine j_icmp_eq C0 d_Ma_tryRecipients_59 (tgt := 72) (by decide) (fun c_59 => ?_) (fun c_59 => ?_)
        · have e3 : tr3 (trS S i k).1 i k u = tr2 (trS S i k).1 i k u := if_pos c_59
          refine j_heap (fun h3 eh => ?_)
          have m3 : isMA E h3 b (tr3 (trS S i k).1 i k u) := by rw [eh, e3]; exact m2
          have k3 : ∀ q, q < b ∨ b + 90 ≤ q → h3 q = h q := fun q hq => by rw [eh, jset_n (by omega), k1 q (by omega)]; exact g2 q hq
          have q3 : h3 (b + 33 + 1) = h (b + 33 + 1) := by rw [eh, jset_n (by omega), k1 _ (by omega)]; exact g3
          refine j_iload C0 d_Ma_tryRecipients_72 (by rfl) ?_
          refine j_iconst C0 d_Ma_tryRecipients_74 (v := 2) (by decide) ?_
          refine j_icmp_ne C0 d_Ma_tryRecipients_75 (tgt := 91) (by decide) (fun c_75 => ?_) (fun c_75 => ?_)
          · have e4 : tr4 (trS S i k).1 i k u = (tr3 (trS S i k).1 i k u, 0) := if_neg c_75
            have eC : (trS S i (k + 1)).2 = (trS S i k).2 := by show _ + (tr1 _ i k).2 = _; rw [eT, e4]; rfl
            have mN : isMA E h3 b (trS S i (k + 1)).1 ∧ (∀ q, q < b ∨ b + 90 ≤ q → h3 q = h q) ∧ h3 (b + 33 + 1) = h (b + 33 + 1) := ⟨by show isMA E h3 b (tr1 _ i k).1; rw [eT, e4]; exact m3, k3, q3⟩
            refine j_iinc C0 d_Ma_tryRecipients_91 (by rfl) (jinc _) (Nat.le_of_ble_eq_true rfl) ?_
            refine j_goto C0 d_Ma_tryRecipients_94 (tgt := 10) (by decide) ?_
            refine j_lv (lv' := [(0, .ref b), (1, .ref a), (2, .ref (a + 1)), (3, .int (nI (trS S i (k + 1)).2)), (4, .int (nI (k + 1)))]) ⟨rfl, rfl, rfl, by rw [eC]; rfl, rfl, trivial⟩ ?_
            exact ih _ mN
          · have e4 : tr4 (trS S i k).1 i k u = (setL (tr3 (trS S i k).1 i k u) (noteL (mL (tr3 (trS S i k).1 i k u)) u ((mQ (trS S i k).1).2 i)), 1) := if_pos c_75
            have eC : (trS S i (k + 1)).2 = (trS S i k).2 + 1 := by show _ + (tr1 _ i k).2 = _; rw [eT, e4]
            have e5 := m3.obj
            have f3 : h3 (b + 33 + 1) = some (jQa E 2 6 f) := by rw [q3]; exact hf
            obtain ⟨a', ha', -, -, hme3, hup3⟩ := m3.qu.at f3 (show i < 6 by omega)
            cases ha.symm.trans ha'
            have eM : ((mQ (tr3 (trS S i k).1 i k u)).2 i).1 = ((mQ (trS S i k).1).2 i).1 := by
              unfold tr3
              split
              · show (va_up _ i _ i : jMsg).1 = _; rw [va_up_self]
              · show (va_up _ i _ i : jMsg).1 = _; rw [va_up_self]
            refine j_aload_n C0 d_Ma_tryRecipients_78 rfl (by rfl) ?_
            refine j_getf C0 d_Ma_tryRecipients_79 fl_Ma_61 (by (repeat (first | rw [jset_s] | rw [jset_n (by omega)] | rw [reH_0] | rw [reH_1] | rw [reH_2] | rw [reH_n (by omega)])) <;> first | rfl | assumption) (by rfl) ?_
            refine j_iload C0 d_Ma_tryRecipients_82 (by rfl) ?_
            refine j_aload_n C0 d_Ma_tryRecipients_84 rfl (by rfl) ?_
            refine j_callV C0 d_Ma_tryRecipients_85 cl_Ma_235 cl_Ma_235v (c_De_note _ E hu m3.de hme3 (by omega) (by rw [eM, a5]; exact (hw.1 i hi).1)) m3.de.1 rfl rfl rfl ⟨by decide, by decide⟩ ⟨by omega, by omega⟩ (Nat.le_of_ble_eq_true rfl) (fun r_ h4 z_ hp_ => ?_)
            obtain ⟨rfl, m4, k4, rfl⟩ := hp_
            rw [eM] at m4
            have mN : isMA E h4 b (trS S i (k + 1)).1 ∧ (∀ q, q < b ∨ b + 90 ≤ q → h4 q = h q) ∧ h4 (b + 33 + 1) = h (b + 33 + 1) := ⟨by show isMA E h4 b (tr1 _ i k).1; rw [eT, e4]; exact m3.setDe m4 (fun q hq => k4 q (by omega)), fun q hq => by rw [k4 q (by omega)]; exact k3 q hq, by rw [k4 _ (by omega)]; exact q3⟩
            refine j_iinc C0 d_Ma_tryRecipients_88 (by rfl) (jinc _) (Nat.le_of_ble_eq_true rfl) ?_
            refine j_iinc C0 d_Ma_tryRecipients_91 (by rfl) (jinc _) (Nat.le_of_ble_eq_true rfl) ?_
            refine j_goto C0 d_Ma_tryRecipients_94 (tgt := 10) (by decide) ?_
            refine j_lv (lv' := [(0, .ref b), (1, .ref a), (2, .ref (a + 1)), (3, .int (nI (trS S i (k + 1)).2)), (4, .int (nI (k + 1)))]) ⟨rfl, rfl, rfl, by rw [eC]; rfl, rfl, trivial⟩ ?_
            exact ih _ mN
        · have e3 : tr3 (trS S i k).1 i k u = (upd (mv (trS S i k).1) 12 (mv (trS S i k).1 12 + 1), (tr2 (trS S i k).1 i k u).2) := if_neg c_59
          refine j_aload_n C0 d_Ma_tryRecipients_62 rfl (by rfl) ?_
          refine j_dup C0 d_Ma_tryRecipients_63 rfl ?_
          refine j_getf C0 d_Ma_tryRecipients_64 fl_Ma_71 (by (repeat (first | rw [jset_s] | rw [jset_n (by omega)] | rw [reH_0] | rw [reH_1] | rw [reH_2] | rw [reH_n (by omega)])) <;> first | rfl | assumption) (by rfl) ?_
          refine j_iconst C0 d_Ma_tryRecipients_67 (v := 1) (by decide) ?_
          refine j_iadd C0 d_Ma_tryRecipients_68 ?_
          refine j_putf C0 d_Ma_tryRecipients_69 fp_Ma_71 (by (repeat (first | rw [jset_s] | rw [jset_n (by omega)] | rw [reH_0] | rw [reH_1] | rw [reH_2] | rw [reH_n (by omega)])) <;> first | rfl | assumption) (Nat.le_of_ble_eq_true rfl) (by rfl) (by rfl) ?_
          refine j_heap (fun h3 eh => ?_)
          have m3 : isMA E h3 b (tr3 (trS S i k).1 i k u) := by rw [eh, e3]; exact m2.setV (v := upd (mv (trS S i k).1) 12 (mv (trS S i k).1 12 + 1)) jset_s (fun q hq => jset_n (by omega))
          have k3 : ∀ q, q < b ∨ b + 90 ≤ q → h3 q = h q := fun q hq => by rw [eh, jset_n (by omega), jset_n (by omega), k1 q (by omega)]; exact g2 q hq
          have q3 : h3 (b + 33 + 1) = h (b + 33 + 1) := by rw [eh, jset_n (by omega), jset_n (by omega), k1 _ (by omega)]; exact g3
          refine j_iload C0 d_Ma_tryRecipients_72 (by rfl) ?_
          refine j_iconst C0 d_Ma_tryRecipients_74 (v := 2) (by decide) ?_
          refine j_icmp_ne C0 d_Ma_tryRecipients_75 (tgt := 91) (by decide) (fun c_75 => ?_) (fun c_75 => ?_)
          · have e4 : tr4 (trS S i k).1 i k u = (tr3 (trS S i k).1 i k u, 0) := if_neg c_75
            have eC : (trS S i (k + 1)).2 = (trS S i k).2 := by show _ + (tr1 _ i k).2 = _; rw [eT, e4]; rfl
            have mN : isMA E h3 b (trS S i (k + 1)).1 ∧ (∀ q, q < b ∨ b + 90 ≤ q → h3 q = h q) ∧ h3 (b + 33 + 1) = h (b + 33 + 1) := ⟨by show isMA E h3 b (tr1 _ i k).1; rw [eT, e4]; exact m3, k3, q3⟩
            refine j_iinc C0 d_Ma_tryRecipients_91 (by rfl) (jinc _) (Nat.le_of_ble_eq_true rfl) ?_
            refine j_goto C0 d_Ma_tryRecipients_94 (tgt := 10) (by decide) ?_
            refine j_lv (lv' := [(0, .ref b), (1, .ref a), (2, .ref (a + 1)), (3, .int (nI (trS S i (k + 1)).2)), (4, .int (nI (k + 1)))]) ⟨rfl, rfl, rfl, by rw [eC]; rfl, rfl, trivial⟩ ?_
            exact ih _ mN
          · have e4 : tr4 (trS S i k).1 i k u = (setL (tr3 (trS S i k).1 i k u) (noteL (mL (tr3 (trS S i k).1 i k u)) u ((mQ (trS S i k).1).2 i)), 1) := if_pos c_75
            have eC : (trS S i (k + 1)).2 = (trS S i k).2 + 1 := by show _ + (tr1 _ i k).2 = _; rw [eT, e4]
            have e5 := m3.obj
            have f3 : h3 (b + 33 + 1) = some (jQa E 2 6 f) := by rw [q3]; exact hf
            obtain ⟨a', ha', -, -, hme3, hup3⟩ := m3.qu.at f3 (show i < 6 by omega)
            cases ha.symm.trans ha'
            have eM : ((mQ (tr3 (trS S i k).1 i k u)).2 i).1 = ((mQ (trS S i k).1).2 i).1 := by
              unfold tr3
              split
              · show (va_up _ i _ i : jMsg).1 = _; rw [va_up_self]
              · show (va_up _ i _ i : jMsg).1 = _; rw [va_up_self]
            refine j_aload_n C0 d_Ma_tryRecipients_78 rfl (by rfl) ?_
            refine j_getf C0 d_Ma_tryRecipients_79 fl_Ma_61 (by (repeat (first | rw [jset_s] | rw [jset_n (by omega)] | rw [reH_0] | rw [reH_1] | rw [reH_2] | rw [reH_n (by omega)])) <;> first | rfl | assumption) (by rfl) ?_
            refine j_iload C0 d_Ma_tryRecipients_82 (by rfl) ?_
            refine j_aload_n C0 d_Ma_tryRecipients_84 rfl (by rfl) ?_
            refine j_callV C0 d_Ma_tryRecipients_85 cl_Ma_235 cl_Ma_235v (c_De_note _ E hu m3.de hme3 (by omega) (by rw [eM, a5]; exact (hw.1 i hi).1)) m3.de.1 rfl rfl rfl ⟨by decide, by decide⟩ ⟨by omega, by omega⟩ (Nat.le_of_ble_eq_true rfl) (fun r_ h4 z_ hp_ => ?_)
            obtain ⟨rfl, m4, k4, rfl⟩ := hp_
            rw [eM] at m4
            have mN : isMA E h4 b (trS S i (k + 1)).1 ∧ (∀ q, q < b ∨ b + 90 ≤ q → h4 q = h q) ∧ h4 (b + 33 + 1) = h (b + 33 + 1) := ⟨by show isMA E h4 b (tr1 _ i k).1; rw [eT, e4]; exact m3.setDe m4 (fun q hq => k4 q (by omega)), fun q hq => by rw [k4 q (by omega)]; exact k3 q hq, by rw [k4 _ (by omega)]; exact q3⟩
            refine j_iinc C0 d_Ma_tryRecipients_88 (by rfl) (jinc _) (Nat.le_of_ble_eq_true rfl) ?_
            refine j_iinc C0 d_Ma_tryRecipients_91 (by rfl) (jinc _) (Nat.le_of_ble_eq_true rfl) ?_
            refine j_goto C0 d_Ma_tryRecipients_94 (tgt := 10) (by decide) ?_
            refine j_lv (lv' := [(0, .ref b), (1, .ref a), (2, .ref (a + 1)), (3, .int (nI (trS S i (k + 1)).2)), (4, .int (nI (k + 1)))]) ⟨rfl, rfl, rfl, by rw [eC]; rfl, rfl, trivial⟩ ?_
            exact ih _ mN
  · intro hh hI
    obtain ⟨mk, g2, g3⟩ := hI
    obtain ⟨a1, a2, a3, a4, a5, a6, a7⟩ := trS_keep S i ((mQ S).2 i).2.1
    have hik : i < (mQ (trS S i ((mQ S).2 i).2.1).1).1 := by rw [a1]; exact hi
    have hfk : hh (b + 33 + 1) = some (jQa E 2 6 f) := by rw [g3]; exact hf
    obtain ⟨a', ha', -, -, hmek, hupk⟩ := mk.qu.at hfk (show i < 6 by omega)
    cases ha.symm.trans ha'
    obtain ⟨ek, erk⟩ := hmek
    rw [a6, a7] at erk
    obtain ⟨s0, s1, s2, sn⟩ := erk
    refine j_iload C0 d_Ma_tryRecipients_10 (by rfl) ?_
    refine j_aload_n C0 d_Ma_tryRecipients_12 rfl (by rfl) ?_
    refine j_getf C0 d_Ma_tryRecipients_13 fl_Ma_129 (by (repeat (first | rw [jset_s] | rw [jset_n (by omega)] | rw [reH_0] | rw [reH_1] | rw [reH_2] | rw [reH_n (by omega)])) <;> first | rfl | assumption) (by rfl) ?_
    refine j_icmp_ge C0 d_Ma_tryRecipients_16 (tgt := 97) (by decide) (fun c_16 => ?_) (fun c_16 => ?_)
    · refine j_iload_n C0 d_Ma_tryRecipients_97 rfl (by rfl) ?_
      exact j_iret C0 d_Ma_tryRecipients_98 rfl (by omega) (by omega) ⟨rfl, mk, g2, g3, rfl⟩
    · exact absurd (nI_le (Nat.le_refl _) (by omega)) c_16
