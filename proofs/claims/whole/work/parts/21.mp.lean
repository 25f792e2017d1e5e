/-- a message and sixteen cells of the reference from b on -/
def R16 (m : jMsg) (f : Nat → Int32) (b : Nat) : Prop := m.2.1 ≤ 4 ∧ f b = m.1 1 ∧ f (b + 1) = m.1 2 ∧ f (b + 2) = m.1 3 ∧ f (b + 3) = nI m.2.1 ∧ (∀ k, k < m.2.1 → f (b + 4 + k) = m.2.2.1 k) ∧ (∀ k, k < m.2.1 → f (b + 8 + k) = m.2.2.2 k) ∧ f (b + 12) = m.1 4 ∧ f (b + 13) = m.1 5 ∧ f (b + 14) = m.1 6 ∧ f (b + 15) = m.1 7
def RQ (n : Nat) (Q : Nat → jMsg) (f : Nat → Int32) : Prop := n ≤ 6 ∧ ∀ i, i < n → R16 (Q i) f (16 * i)
section R16s
variable {m : jMsg} {f : Nat → Int32} {b : Nat}
theorem R16.le (h : R16 m f b) : m.2.1 ≤ 4 := h.1
theorem R16.c0 (h : R16 m f b) : f b = m.1 1 := h.2.1
theorem R16.c1 (h : R16 m f b) : f (b + 1) = m.1 2 := h.2.2.1
theorem R16.c2 (h : R16 m f b) : f (b + 2) = m.1 3 := h.2.2.2.1
theorem R16.c3 (h : R16 m f b) : f (b + 3) = nI m.2.1 := h.2.2.2.2.1
theorem R16.ad (h : R16 m f b) : ∀ k, k < m.2.1 → f (b + 4 + k) = m.2.2.1 k := h.2.2.2.2.2.1
theorem R16.st (h : R16 m f b) : ∀ k, k < m.2.1 → f (b + 8 + k) = m.2.2.2 k := h.2.2.2.2.2.2.1
theorem R16.c12 (h : R16 m f b) : f (b + 12) = m.1 4 := h.2.2.2.2.2.2.2.1
theorem R16.c13 (h : R16 m f b) : f (b + 13) = m.1 5 := h.2.2.2.2.2.2.2.2.1
theorem R16.c14 (h : R16 m f b) : f (b + 14) = m.1 6 := h.2.2.2.2.2.2.2.2.2.1
theorem R16.c15 (h : R16 m f b) : f (b + 15) = m.1 7 := h.2.2.2.2.2.2.2.2.2.2
end R16s
theorem sG_case (f : Nat → Int32) (v : Int32) (n : Nat) : ((∀ g d, sG f g d v 0 n = d) ∧ ∀ j, j < n → ¬ f j = v) ∨ ∃ i, i < n ∧ f i = v ∧ ∀ g d, sG f g d v 0 n = g i := by
  have key : ∀ k i, i + k = n → ((∀ g d, sG f g d v i k = d) ∧ ∀ j, i ≤ j → j < n → ¬ f j = v) ∨ ∃ j, j < n ∧ f j = v ∧ ∀ g d, sG f g d v i k = g j := by
    intro k
    induction k with
    | zero => intro i hi; exact Or.inl ⟨fun g d => rfl, fun j h1 h2 => by omega⟩
    | succ k ih =>
      intro i hi
      by_cases h : f i = v
      · exact Or.inr ⟨i, by omega, h, fun g d => by simp [sG, h]⟩
      · rcases ih (i + 1) (by omega) with ⟨h1, h2⟩ | ⟨j, h1, h2, h3⟩
        · refine Or.inl ⟨fun g d => by simp only [sG, if_neg h]; exact h1 g d, fun j hj1 hj2 => ?_⟩
          by_cases e : j = i
          · rw [e]; exact h
          · exact h2 j (by omega) hj2
        · exact Or.inr ⟨j, h1, h2, fun g d => by simp only [sG, if_neg h]; exact h3 g d⟩
  rcases key n 0 (by omega) with ⟨h1, h2⟩ | h
  · exact Or.inl ⟨h1, fun j hj => h2 j (Nat.zero_le _) hj⟩
  · exact Or.inr h
def stA (A : moA) : moA := va_up A 7 (cp (A 7) (A 6) 96)
def stW (w : Nat → Int32) : Nat → Int32 := upd (upd w 14 (w 12)) 15 0
def clA (A : moA) (w : Nat → Int32) : moA := if 24 ≤ w 15 then stA A else A
def clW (w : Nat → Int32) : Nat → Int32 := if 24 ≤ w 15 then stW w else w
/-- the cells from b to k stand for those sixteen further -/
def shR (f : Nat → Int32) (b k : Nat) : Nat → Int32 := fun j => if b ≤ j ∧ j < k then f (j + 16) else f j
theorem shR_0 (f : Nat → Int32) (b : Nat) : shR f b b = f := by funext j; unfold shR; rw [if_neg (by omega)]
theorem shR_s (f : Nat → Int32) {b k : Nat} (hk : b ≤ k) : upd (shR f b k) k (shR f b k (k + 16)) = shR f b (k + 1) := by
  funext j
  unfold upd shR
  by_cases e : j = k
  · subst e; rw [if_pos rfl, if_neg (by omega), if_pos (by omega)]
  · rw [if_neg e]
    by_cases h : b ≤ j ∧ j < k
    · rw [if_pos h, if_pos (by omega)]
    · rw [if_neg h, if_neg (by omega)]
def rmA (A : moA) (b : Nat) : moA := va_up A 6 (shR (A 6) b 80)
def rmW (w : Nat → Int32) : Nat → Int32 := upd w 12 (w 12 - 1)
theorem cp_at (f g : Nat → Int32) (i : Nat) : cp f g i i = f i := by simp [cp]
theorem up_same {A : moA} {i : Nat} : va_up A i (A i) = A := by
  funext j
  by_cases e : j = i
  · rw [e, va_up_self]
  · rw [va_up_ne _ _ e]
theorem vv_up {A : moA} {i : Nat} {f g : Nat → Int32} : va_up (va_up A i f) i g = va_up A i g := by
  funext j
  by_cases e : j = i
  · rw [e, va_up_self, va_up_self]
  · rw [va_up_ne _ _ e, va_up_ne _ _ e, va_up_ne _ _ e]
set_option maxHeartbeats 4000000 in
set_option maxRecDepth 100000 in
theorem c_Mo_named (l : Launch) (E : jE) {h0 : jH} {sz c : Nat} {A : moA} {w : Nat → Int32} (v : Int32) {n : Nat} (hn : w 19 = nI n) (n4 : n ≤ 4) : jC l M_Mo_named 0 E [.ref c, .int v] (moH E h0 c A w) sz 0 0 (fun r h' sz' => r = some (.int (jb (¬ cnt (A 8) v n = 0))) ∧ h' = moH E h0 c A w ∧ sz' = sz) := by
  refine jC.of (by decide) (Nat.le_of_ble_eq_true rfl) ?_
  intro x C0 hx
  subst hx

  refine j_iconst C0 d_Mo_named_0 (v := 0) (by decide) ?_
  refine j_istore_n C0 d_Mo_named_1 rfl (Nat.le_of_ble_eq_true rfl) ?_
  refine j_lv (lv' := [(0, .ref c), (1, .int v), (2, .int (nI 0))]) ⟨rfl, rfl, rfl, trivial⟩ ?_
  refine j_forI n (fun i => cnt (A 8) v i = 0) (fun _ => moH E h0 c A w) (fun i => [(0, .ref c), (1, .int v), (2, .int (nI i))]) ?_ ?_ 0 (Nat.zero_le n) rfl
  · intro i hi hI ih
    refine j_iload_n C0 d_Mo_named_2 rfl (by rfl) ?_
    refine j_aload_n C0 d_Mo_named_3 rfl (by rfl) ?_
    refine mo_get C0 d_Mo_named_4 fl_Mo_74 (by rfl) ?_
    rw [hn]
    refine j_icmp_ge C0 d_Mo_named_7 (tgt := 28) (by decide) (fun c_7 => ?_) (fun c_7 => ?_)
    · exact absurd c_7 (nI_ge hi (by omega))
    · refine j_aload_n C0 d_Mo_named_10 rfl (by rfl) ?_
      refine mo_get C0 d_Mo_named_11 fl_Mo_34 (by rfl) ?_
      refine j_iload_n C0 d_Mo_named_14 rfl (by rfl) ?_
      refine mo_ld C0 (i := 8) (k := i) d_Mo_named_15 rfl (by show _ < 4; omega) (by decide) ?_
      refine j_iload_n C0 d_Mo_named_16 rfl (by rfl) ?_
      refine j_icmp_ne C0 d_Mo_named_17 (tgt := 22) (by decide) (fun c_17 => ?_) (fun c_17 => ?_)
      · refine j_iinc C0 d_Mo_named_22 (by rfl) (jinc _) (Nat.le_of_ble_eq_true rfl) ?_
        refine j_goto C0 d_Mo_named_25 (tgt := 2) (by decide) ?_
        exact j_to (ih (by rw [cnt_n c_17]; exact hI)) rfl ⟨rfl, rfl, rfl, trivial⟩
      · refine j_iconst C0 d_Mo_named_20 (v := 1) (by decide) ?_
        exact j_zret C0 d_Mo_named_21 rfl (by rfl) (by omega) (by omega) (by have h1 := cnt_y (f := A 8) c_17; have h2 := cnt_mono (A 8) v (show i + 1 ≤ n by omega); rw [jb, if_pos (by omega)]; exact ⟨rfl, rfl, rfl⟩)
  · intro hI
    refine j_iload_n C0 d_Mo_named_2 rfl (by rfl) ?_
    refine j_aload_n C0 d_Mo_named_3 rfl (by rfl) ?_
    refine mo_get C0 d_Mo_named_4 fl_Mo_74 (by rfl) ?_
    rw [hn]
    refine j_icmp_ge C0 d_Mo_named_7 (tgt := 28) (by decide) (fun c_7 => ?_) (fun c_7 => ?_)
    · refine j_iconst C0 d_Mo_named_28 (v := 0) (by decide) ?_
      exact j_zret C0 d_Mo_named_29 rfl (by rfl) (by omega) (by omega) (⟨by rw [jb_n (not_not_intro hI)], rfl, rfl⟩)
    · exact absurd (nI_le (Nat.le_refl _) (by omega)) c_7
set_option maxHeartbeats 4000000 in
set_option maxRecDepth 100000 in
theorem c_Mo_costs (l : Launch) (E : jE) {h0 : jH} {sz c : Nat} {A : moA} {w : Nat → Int32} {n : Nat} {Q : Nat → jMsg} (hn : w 12 = nI n) (hq : RQ n Q (A 6)) : jC l M_Mo_costs 0 E [.ref c] (moH E h0 c A w) sz 0 0 (fun r h' sz' => r = some (.int (csQ Q n)) ∧ h' = moH E h0 c A w ∧ sz' = sz) := by
  have h6 := hq.1
  refine jC.of (by decide) (Nat.le_of_ble_eq_true rfl) ?_
  intro x C0 hx
  subst hx

  refine j_iconst C0 d_Mo_costs_0 (v := 0) (by decide) ?_
  refine j_istore_n C0 d_Mo_costs_1 rfl (Nat.le_of_ble_eq_true rfl) ?_
  refine j_iconst C0 d_Mo_costs_2 (v := 0) (by decide) ?_
  refine j_istore_n C0 d_Mo_costs_3 rfl (Nat.le_of_ble_eq_true rfl) ?_
  refine j_lv (lv' := [(0, .ref c), (1, .int (csQ Q 0)), (2, .int (nI 0))]) ⟨rfl, rfl, rfl, trivial⟩ ?_
  refine j_for n (fun _ => moH E h0 c A w) (fun i => [(0, .ref c), (1, .int (csQ Q i)), (2, .int (nI i))]) ?_ ?_ 0 (Nat.zero_le n)
  · intro i hi ih
    have hr := hq.2 i hi
    refine j_iload_n C0 d_Mo_costs_4 rfl (by rfl) ?_
    refine j_aload_n C0 d_Mo_costs_5 rfl (by rfl) ?_
    refine mo_get C0 d_Mo_costs_6 fl_Mo_85 (by rfl) ?_
    rw [hn]
    refine j_icmp_ge C0 d_Mo_costs_9 (tgt := 46) (by decide) (fun c_9 => ?_) (fun c_9 => ?_)
    · exact absurd c_9 (nI_ge hi (by omega))
    · refine j_iload_n C0 d_Mo_costs_12 rfl (by rfl) ?_
      refine j_aload_n C0 d_Mo_costs_13 rfl (by rfl) ?_
      refine mo_get C0 d_Mo_costs_14 fl_Mo_28 (by rfl) ?_
      refine j_bipush C0 d_Mo_costs_17 (v := 16) (by decide) ?_
      refine j_iload_n C0 d_Mo_costs_19 rfl (by rfl) ?_
      refine j_imul C0 d_Mo_costs_20 ?_
      refine j_iconst C0 d_Mo_costs_21 (v := 2) (by decide) ?_
      refine j_iadd C0 d_Mo_costs_22 ?_
      refine mo_ld C0 (i := 6) (k := 16 * i + 2) d_Mo_costs_23 (by simp only [jn0, jn1, jn2, jn3, jn4, jn8, jn12, jn13, jn14, jn15, jn16, pk_mul, nI_add]) (by show _ < 96; omega) (by decide) ?_
      rw [hr.c2]
      refine j_aload_n C0 d_Mo_costs_24 rfl (by rfl) ?_
      refine mo_get C0 d_Mo_costs_25 fl_Mo_28 (by rfl) ?_
      refine j_bipush C0 d_Mo_costs_28 (v := 16) (by decide) ?_
      refine j_iload_n C0 d_Mo_costs_30 rfl (by rfl) ?_
      refine j_imul C0 d_Mo_costs_31 ?_
      refine j_iconst C0 d_Mo_costs_32 (v := 3) (by decide) ?_
      refine j_iadd C0 d_Mo_costs_33 ?_
      refine mo_ld C0 (i := 6) (k := 16 * i + 3) d_Mo_costs_34 (by simp only [jn0, jn1, jn2, jn3, jn4, jn8, jn12, jn13, jn14, jn15, jn16, pk_mul, nI_add]) (by show _ < 96; omega) (by decide) ?_
      rw [hr.c3]
      refine j_iadd C0 d_Mo_costs_35 ?_
      refine j_iconst C0 d_Mo_costs_36 (v := 1) (by decide) ?_
      refine j_iadd C0 d_Mo_costs_37 ?_
      refine j_iadd C0 d_Mo_costs_38 ?_
      refine j_istore_n C0 d_Mo_costs_39 rfl (Nat.le_of_ble_eq_true rfl) ?_
      refine j_iinc C0 d_Mo_costs_40 (by rfl) (jinc _) (Nat.le_of_ble_eq_true rfl) ?_
      refine j_goto C0 d_Mo_costs_43 (tgt := 4) (by decide) ?_
      exact j_to ih rfl ⟨rfl, rfl, rfl, trivial⟩
  · refine j_iload_n C0 d_Mo_costs_4 rfl (by rfl) ?_
    refine j_aload_n C0 d_Mo_costs_5 rfl (by rfl) ?_
    refine mo_get C0 d_Mo_costs_6 fl_Mo_85 (by rfl) ?_
    rw [hn]
    refine j_icmp_ge C0 d_Mo_costs_9 (tgt := 46) (by decide) (fun c_9 => ?_) (fun c_9 => ?_)
    · refine j_iload_n C0 d_Mo_costs_46 rfl (by rfl) ?_
      exact j_iret C0 d_Mo_costs_47 rfl (by omega) (by omega) (⟨rfl, rfl, rfl⟩)
    · exact absurd (nI_le (Nat.le_refl _) (by omega)) c_9
set_option maxHeartbeats 4000000 in
set_option maxRecDepth 100000 in
theorem c_Mo_settle (l : Launch) (E : jE) {h0 : jH} {sz c : Nat} {A : moA} {w : Nat → Int32}  : jC l M_Mo_settle 0 E [.ref c] (moH E h0 c A w) sz 0 0 (fun r h' sz' => r = some (.int (w 15)) ∧ h' = moH E h0 c (stA A) (stW w) ∧ sz' = sz) := by
  refine jC.of (by decide) (Nat.le_of_ble_eq_true rfl) ?_
  intro x C0 hx
  subst hx

  refine j_aload_n C0 d_Mo_settle_0 rfl (by rfl) ?_
  refine mo_get C0 d_Mo_settle_1 fl_Mo_88 (by rfl) ?_
  refine j_istore_n C0 d_Mo_settle_4 rfl (Nat.le_of_ble_eq_true rfl) ?_
  refine j_iconst C0 d_Mo_settle_5 (v := 0) (by decide) ?_
  refine j_istore_n C0 d_Mo_settle_6 rfl (Nat.le_of_ble_eq_true rfl) ?_
  refine mo_A (A' := (va_up A 7 (cp (A 7) (A 6) 0))) (by rw [cp_0, up_same]) ?_
  refine j_lv (lv' := [(0, .ref c), (1, .int (w 15)), (2, .int (nI 0))]) ⟨rfl, rfl, rfl, trivial⟩ ?_
  refine j_for 96 (fun i => moH E h0 c (va_up A 7 (cp (A 7) (A 6) i)) w) (fun i => [(0, .ref c), (1, .int (w 15)), (2, .int (nI i))]) ?_ ?_ 0 (by decide)
  · intro i hi ih
    refine j_iload_n C0 d_Mo_settle_7 rfl (by rfl) ?_
    refine j_bipush C0 d_Mo_settle_8 (v := 96) (by decide) ?_
    refine j_icmp_ge C0 d_Mo_settle_10 (tgt := 31) (by decide) (fun c_10 => ?_) (fun c_10 => ?_)
    · exact absurd c_10 (nI_ge (b := 96) hi (by decide))
    · refine j_aload_n C0 d_Mo_settle_13 rfl (by rfl) ?_
      refine mo_get C0 d_Mo_settle_14 fl_Mo_31 (by rfl) ?_
      refine j_iload_n C0 d_Mo_settle_17 rfl (by rfl) ?_
      refine j_aload_n C0 d_Mo_settle_18 rfl (by rfl) ?_
      refine mo_get C0 d_Mo_settle_19 fl_Mo_28 (by rfl) ?_
      refine j_iload_n C0 d_Mo_settle_22 rfl (by rfl) ?_
      refine mo_ld C0 (i := 6) (k := i) d_Mo_settle_23 rfl (by show _ < 96; omega) (by decide) ?_
      refine mo_st C0 (i := 7) (k := i) d_Mo_settle_24 rfl (by show _ < 96; omega) (by decide) ?_
      refine mo_A (A' := (va_up A 7 (cp (A 7) (A 6) (i + 1)))) (by rw [vv_up, va_up_self]; exact congrArg (va_up A 7) (cp_s (A 7) (A 6) i)) ?_
      refine j_iinc C0 d_Mo_settle_25 (by rfl) (jinc _) (Nat.le_of_ble_eq_true rfl) ?_
      refine j_goto C0 d_Mo_settle_28 (tgt := 7) (by decide) ?_
      exact j_to ih rfl ⟨rfl, rfl, rfl, trivial⟩
  · refine j_iload_n C0 d_Mo_settle_7 rfl (by rfl) ?_
    refine j_bipush C0 d_Mo_settle_8 (v := 96) (by decide) ?_
    refine j_icmp_ge C0 d_Mo_settle_10 (tgt := 31) (by decide) (fun c_10 => ?_) (fun c_10 => ?_)
    · refine j_aload_n C0 d_Mo_settle_31 rfl (by rfl) ?_
      refine j_aload_n C0 d_Mo_settle_32 rfl (by rfl) ?_
      refine mo_get C0 d_Mo_settle_33 fl_Mo_85 (by rfl) ?_
      refine mo_put C0 d_Mo_settle_36 fp_Mo_91 (by decide) rfl (by rfl) (by rfl) ?_
      refine j_aload_n C0 d_Mo_settle_39 rfl (by rfl) ?_
      refine j_iconst C0 d_Mo_settle_40 (v := 0) (by decide) ?_
      refine mo_put C0 d_Mo_settle_41 fp_Mo_88 (by decide) rfl (by rfl) (by rfl) ?_
      refine j_iload_n C0 d_Mo_settle_44 rfl (by rfl) ?_
      exact j_iret C0 d_Mo_settle_45 rfl (by omega) (by omega) (⟨rfl, rfl, rfl⟩)
    · exact absurd (nI_le (a := 96) (b := 96) (by decide) (by decide)) c_10
set_option maxHeartbeats 4000000 in
set_option maxRecDepth 100000 in
theorem c_Mo_states (l : Launch) (E : jE) {h0 : jH} {sz c : Nat} {A : moA} {w : Nat → Int32} {b : Nat} {m : jMsg} (hb : b ≤ 80) (hr : R16 m (A 6) b) (v : Int32) : jC l M_Mo_states 0 E [.ref c, .int (nI b), .int v] (moH E h0 c A w) sz 0 0 (fun r h' sz' => r = some (.int (nI (cnt m.2.2.2 v m.2.1))) ∧ h' = moH E h0 c A w ∧ sz' = sz) := by
  have h4 := hr.le
  refine jC.of (by decide) (Nat.le_of_ble_eq_true rfl) ?_
  intro x C0 hx
  subst hx

  refine j_iconst C0 d_Mo_states_0 (v := 0) (by decide) ?_
  refine j_istore_n C0 d_Mo_states_1 rfl (Nat.le_of_ble_eq_true rfl) ?_
  refine j_iconst C0 d_Mo_states_2 (v := 0) (by decide) ?_
  refine j_istore C0 d_Mo_states_3 (Nat.le_of_ble_eq_true rfl) ?_
  refine j_lv (lv' := [(0, .ref c), (1, .int (nI b)), (2, .int v), (3, .int (nI (cnt m.2.2.2 v 0))), (4, .int (nI 0))]) ⟨rfl, rfl, rfl, rfl, rfl, trivial⟩ ?_
  refine j_for m.2.1 (fun _ => moH E h0 c A w) (fun i => [(0, .ref c), (1, .int (nI b)), (2, .int v), (3, .int (nI (cnt m.2.2.2 v i))), (4, .int (nI i))]) ?_ ?_ 0 (Nat.zero_le _)
  · intro i hi ih
    refine j_iload C0 d_Mo_states_5 (by rfl) ?_
    refine j_aload_n C0 d_Mo_states_7 rfl (by rfl) ?_
    refine mo_get C0 d_Mo_states_8 fl_Mo_28 (by rfl) ?_
    refine j_iload_n C0 d_Mo_states_11 rfl (by rfl) ?_
    refine j_iconst C0 d_Mo_states_12 (v := 3) (by decide) ?_
    refine j_iadd C0 d_Mo_states_13 ?_
    refine mo_ld C0 (i := 6) (k := b + 3) d_Mo_states_14 (by simp only [jn0, jn1, jn2, jn3, jn4, jn8, jn12, jn13, jn14, jn15, jn16, pk_mul, nI_add]) (by show _ < 96; omega) (by decide) ?_
    rw [hr.c3]
    refine j_icmp_ge C0 d_Mo_states_15 (tgt := 43) (by decide) (fun c_15 => ?_) (fun c_15 => ?_)
    · exact absurd c_15 (nI_ge hi (by omega))
    · refine j_aload_n C0 d_Mo_states_18 rfl (by rfl) ?_
      refine mo_get C0 d_Mo_states_19 fl_Mo_28 (by rfl) ?_
      refine j_iload_n C0 d_Mo_states_22 rfl (by rfl) ?_
      refine j_bipush C0 d_Mo_states_23 (v := 8) (by decide) ?_
      refine j_iadd C0 d_Mo_states_25 ?_
      refine j_iload C0 d_Mo_states_26 (by rfl) ?_
      refine j_iadd C0 d_Mo_states_28 ?_
      refine mo_ld C0 (i := 6) (k := b + 8 + i) d_Mo_states_29 (by simp only [jn0, jn1, jn2, jn3, jn4, jn8, jn12, jn13, jn14, jn15, jn16, pk_mul, nI_add]) (by show _ < 96; omega) (by decide) ?_
      rw [hr.st i hi]
      refine j_iload_n C0 d_Mo_states_30 rfl (by rfl) ?_
      refine j_icmp_ne C0 d_Mo_states_31 (tgt := 37) (by decide) (fun c_31 => ?_) (fun c_31 => ?_)
      · refine j_iinc C0 d_Mo_states_37 (by rfl) (jinc _) (Nat.le_of_ble_eq_true rfl) ?_
        refine j_goto C0 d_Mo_states_40 (tgt := 5) (by decide) ?_
        first
          | exact j_to ih rfl ⟨rfl, rfl, rfl, by rw [cnt_y c_31]; rfl, rfl, trivial⟩
          | exact j_to ih rfl ⟨rfl, rfl, rfl, by rw [cnt_n c_31]; rfl, rfl, trivial⟩
      · refine j_iinc C0 d_Mo_states_34 (by rfl) (jinc _) (Nat.le_of_ble_eq_true rfl) ?_
        refine j_iinc C0 d_Mo_states_37 (by rfl) (jinc _) (Nat.le_of_ble_eq_true rfl) ?_
        refine j_goto C0 d_Mo_states_40 (tgt := 5) (by decide) ?_
        first
          | exact j_to ih rfl ⟨rfl, rfl, rfl, by rw [cnt_y c_31]; rfl, rfl, trivial⟩
          | exact j_to ih rfl ⟨rfl, rfl, rfl, by rw [cnt_n c_31]; rfl, rfl, trivial⟩
  · refine j_iload C0 d_Mo_states_5 (by rfl) ?_
    refine j_aload_n C0 d_Mo_states_7 rfl (by rfl) ?_
    refine mo_get C0 d_Mo_states_8 fl_Mo_28 (by rfl) ?_
    refine j_iload_n C0 d_Mo_states_11 rfl (by rfl) ?_
    refine j_iconst C0 d_Mo_states_12 (v := 3) (by decide) ?_
    refine j_iadd C0 d_Mo_states_13 ?_
    refine mo_ld C0 (i := 6) (k := b + 3) d_Mo_states_14 (by simp only [jn0, jn1, jn2, jn3, jn4, jn8, jn12, jn13, jn14, jn15, jn16, pk_mul, nI_add]) (by show _ < 96; omega) (by decide) ?_
    rw [hr.c3]
    refine j_icmp_ge C0 d_Mo_states_15 (tgt := 43) (by decide) (fun c_15 => ?_) (fun c_15 => ?_)
    · refine j_iload_n C0 d_Mo_states_43 rfl (by rfl) ?_
      exact j_iret C0 d_Mo_states_44 rfl (by omega) (by omega) (⟨rfl, rfl, rfl⟩)
    · exact absurd (nI_le (Nat.le_refl _) (by omega)) c_15
set_option maxHeartbeats 4000000 in
set_option maxRecDepth 100000 in
theorem c_Mo_mark (l : Launch) (E : jE) {h0 : jH} {sz c : Nat} {A : moA} {w : Nat → Int32} {k : Nat} (hk : k < 96) (v : Int32) : jC l M_Mo_mark 0 E [.ref c, .int (nI k), .int v] (moH E h0 c A w) sz 0 0 (fun r h' sz' => r = none ∧ h' = moH E h0 c (va_up A 6 (upd (A 6) k v)) (upd w 15 (w 15 + 1)) ∧ sz' = sz) := by
  refine jC.of (by decide) (Nat.le_of_ble_eq_true rfl) ?_
  intro x C0 hx
  subst hx

  refine j_aload_n C0 d_Mo_mark_0 rfl (by rfl) ?_
  refine mo_get C0 d_Mo_mark_1 fl_Mo_28 (by rfl) ?_
  refine j_iload_n C0 d_Mo_mark_4 rfl (by rfl) ?_
  refine j_iload_n C0 d_Mo_mark_5 rfl (by rfl) ?_
  refine mo_st C0 (i := 6) (k := k) d_Mo_mark_6 rfl (by show _ < 96; omega) (by decide) ?_
  refine j_aload_n C0 d_Mo_mark_7 rfl (by rfl) ?_
  refine j_dup C0 d_Mo_mark_8 rfl ?_
  refine mo_get C0 d_Mo_mark_9 fl_Mo_88 (by rfl) ?_
  refine j_iconst C0 d_Mo_mark_12 (v := 1) (by decide) ?_
  refine j_iadd C0 d_Mo_mark_13 ?_
  refine mo_put C0 d_Mo_mark_14 fp_Mo_88 (by decide) rfl (by rfl) (by rfl) ?_
  exact j_vret C0 d_Mo_mark_17 rfl (by omega) (by omega) (⟨rfl, rfl, rfl⟩)
set_option maxHeartbeats 4000000 in
set_option maxRecDepth 100000 in
theorem c_Mo_deliver (l : Launch) (E : jE) {h0 : jH} {sz c : Nat} {A : moA} {w : Nat → Int32} {b u : Nat} (hb : b ≤ 80) (hu : u < 64) : jC l M_Mo_deliver 0 E [.ref c, .int (nI b), .int (nI u)] (moH E h0 c A w) sz 0 0 (fun r h' sz' => r = none ∧ h' = moH E h0 c (if A 6 (b + 15) = 1 then va_up (va_up A 10 (upd (A 10) u (A 10 u + 1))) 11 (upd (A 11) u (A 6 b)) else va_up (va_up A 9 (upd (A 9) u (A 9 u + 1))) 11 (upd (A 11) u (A 6 b))) w ∧ sz' = sz) := by
  refine jC.of (by decide) (Nat.le_of_ble_eq_true rfl) ?_
  intro x C0 hx
  subst hx

  refine j_aload_n C0 d_Mo_deliver_0 rfl (by rfl) ?_
  refine mo_get C0 d_Mo_deliver_1 fl_Mo_28 (by rfl) ?_
  refine j_iload_n C0 d_Mo_deliver_4 rfl (by rfl) ?_
  refine j_bipush C0 d_Mo_deliver_5 (v := 15) (by decide) ?_
  refine j_iadd C0 d_Mo_deliver_7 ?_
  refine mo_ld C0 (i := 6) (k := b + 15) d_Mo_deliver_8 (by simp only [jn0, jn1, jn2, jn3, jn4, jn8, jn12, jn13, jn14, jn15, jn16, pk_mul, nI_add]) (by show _ < 96; omega) (by decide) ?_
  refine j_iconst C0 d_Mo_deliver_9 (v := 1) (by decide) ?_
  refine j_icmp_ne C0 d_Mo_deliver_10 (tgt := 26) (by decide) (fun c_10 => ?_) (fun c_10 => ?_)
  · refine j_aload_n C0 d_Mo_deliver_26 rfl (by rfl) ?_
    refine mo_get C0 d_Mo_deliver_27 fl_Mo_37 (by rfl) ?_
    refine j_iload_n C0 d_Mo_deliver_30 rfl (by rfl) ?_
    refine j_dup2_11 C0 d_Mo_deliver_31 rfl rfl ?_
    refine mo_ld C0 (i := 9) (k := u) d_Mo_deliver_32 rfl (by show _ < 64; omega) (by decide) ?_
    refine j_iconst C0 d_Mo_deliver_33 (v := 1) (by decide) ?_
    refine j_iadd C0 d_Mo_deliver_34 ?_
    refine mo_st C0 (i := 9) (k := u) d_Mo_deliver_35 rfl (by show _ < 64; omega) (by decide) ?_
    refine j_aload_n C0 d_Mo_deliver_36 rfl (by rfl) ?_
    refine mo_get C0 d_Mo_deliver_37 fl_Mo_43 (by rfl) ?_
    refine j_iload_n C0 d_Mo_deliver_40 rfl (by rfl) ?_
    refine j_aload_n C0 d_Mo_deliver_41 rfl (by rfl) ?_
    refine mo_get C0 d_Mo_deliver_42 fl_Mo_28 (by rfl) ?_
    refine j_iload_n C0 d_Mo_deliver_45 rfl (by rfl) ?_
    refine mo_ld C0 (i := 6) (k := b) d_Mo_deliver_46 rfl (by show _ < 96; omega) (by decide) ?_
    refine mo_st C0 (i := 11) (k := u) d_Mo_deliver_47 rfl (by show _ < 64; omega) (by decide) ?_
    exact j_vret C0 d_Mo_deliver_48 rfl (by omega) (by omega) (⟨rfl, by first | (rw [if_pos c_10]; rfl) | (rw [if_neg c_10]; rfl), rfl⟩)
  · refine j_aload_n C0 d_Mo_deliver_13 rfl (by rfl) ?_
    refine mo_get C0 d_Mo_deliver_14 fl_Mo_40 (by rfl) ?_
    refine j_iload_n C0 d_Mo_deliver_17 rfl (by rfl) ?_
    refine j_dup2_11 C0 d_Mo_deliver_18 rfl rfl ?_
    refine mo_ld C0 (i := 10) (k := u) d_Mo_deliver_19 rfl (by show _ < 64; omega) (by decide) ?_
    refine j_iconst C0 d_Mo_deliver_20 (v := 1) (by decide) ?_
    refine j_iadd C0 d_Mo_deliver_21 ?_
    refine mo_st C0 (i := 10) (k := u) d_Mo_deliver_22 rfl (by show _ < 64; omega) (by decide) ?_
    refine j_goto C0 d_Mo_deliver_23 (tgt := 36) (by decide) ?_
    refine j_aload_n C0 d_Mo_deliver_36 rfl (by rfl) ?_
    refine mo_get C0 d_Mo_deliver_37 fl_Mo_43 (by rfl) ?_
    refine j_iload_n C0 d_Mo_deliver_40 rfl (by rfl) ?_
    refine j_aload_n C0 d_Mo_deliver_41 rfl (by rfl) ?_
    refine mo_get C0 d_Mo_deliver_42 fl_Mo_28 (by rfl) ?_
    refine j_iload_n C0 d_Mo_deliver_45 rfl (by rfl) ?_
    refine mo_ld C0 (i := 6) (k := b) d_Mo_deliver_46 rfl (by show _ < 96; omega) (by decide) ?_
    refine mo_st C0 (i := 11) (k := u) d_Mo_deliver_47 rfl (by show _ < 64; omega) (by decide) ?_
    exact j_vret C0 d_Mo_deliver_48 rfl (by omega) (by omega) (⟨rfl, by first | (rw [if_pos c_10]; rfl) | (rw [if_neg c_10]; rfl), rfl⟩)
set_option maxHeartbeats 4000000 in
set_option maxRecDepth 100000 in
theorem c_Mo_remove (l : Launch) (E : jE) {h0 : jH} {sz c : Nat} {A : moA} {w : Nat → Int32} {b : Nat} (hb : b ≤ 80) : jC l M_Mo_remove 0 E [.ref c, .int (nI b)] (moH E h0 c A w) sz 0 0 (fun r h' sz' => r = none ∧ h' = moH E h0 c (rmA A b) (rmW w) ∧ sz' = sz) := by
  refine jC.of (by decide) (Nat.le_of_ble_eq_true rfl) ?_
  intro x C0 hx
  subst hx

  refine j_iload_n C0 d_Mo_remove_0 rfl (by rfl) ?_
  refine j_istore_n C0 d_Mo_remove_1 rfl (Nat.le_of_ble_eq_true rfl) ?_
  refine mo_A (A' := (va_up A 6 (shR (A 6) b (b + 0)))) (by rw [Nat.add_zero, shR_0, up_same]) ?_
  refine j_lv (lv' := [(0, .ref c), (1, .int (nI b)), (2, .int (nI (b + 0)))]) ⟨rfl, rfl, rfl, trivial⟩ ?_
  refine j_for (80 - b) (fun i => moH E h0 c (va_up A 6 (shR (A 6) b (b + i))) w) (fun i => [(0, .ref c), (1, .int (nI b)), (2, .int (nI (b + i)))]) ?_ ?_ 0 (Nat.zero_le _)
  · intro i hi ih
    refine j_iload_n C0 d_Mo_remove_2 rfl (by rfl) ?_
    refine j_bipush C0 d_Mo_remove_3 (v := 80) (by decide) ?_
    refine j_icmp_ge C0 d_Mo_remove_5 (tgt := 29) (by decide) (fun c_5 => ?_) (fun c_5 => ?_)
    · exact absurd c_5 (nI_ge (a := b + i) (b := 80) (by omega) (by decide))
    · refine j_aload_n C0 d_Mo_remove_8 rfl (by rfl) ?_
      refine mo_get C0 d_Mo_remove_9 fl_Mo_28 (by rfl) ?_
      refine j_iload_n C0 d_Mo_remove_12 rfl (by rfl) ?_
      refine j_aload_n C0 d_Mo_remove_13 rfl (by rfl) ?_
      refine mo_get C0 d_Mo_remove_14 fl_Mo_28 (by rfl) ?_
      refine j_iload_n C0 d_Mo_remove_17 rfl (by rfl) ?_
      refine j_bipush C0 d_Mo_remove_18 (v := 16) (by decide) ?_
      refine j_iadd C0 d_Mo_remove_20 ?_
      refine mo_ld C0 (i := 6) (k := b + i + 16) d_Mo_remove_21 (by simp only [jn0, jn1, jn2, jn3, jn4, jn8, jn12, jn13, jn14, jn15, jn16, pk_mul, nI_add]) (by show _ < 96; omega) (by decide) ?_
      refine mo_st C0 (i := 6) (k := b + i) d_Mo_remove_22 (by simp only [jn0, jn1, jn2, jn3, jn4, jn8, jn12, jn13, jn14, jn15, jn16, pk_mul, nI_add]) (by show _ < 96; omega) (by decide) ?_
      refine mo_A (A' := (va_up A 6 (shR (A 6) b (b + (i + 1))))) (by rw [vv_up, va_up_self]; exact congrArg (va_up A 6) (shR_s (A 6) (k := b + i) (by omega))) ?_
      refine j_iinc C0 d_Mo_remove_23 (by rfl) (jinc _) (Nat.le_of_ble_eq_true rfl) ?_
      refine j_goto C0 d_Mo_remove_26 (tgt := 2) (by decide) ?_
      exact j_to ih rfl ⟨rfl, rfl, rfl, trivial⟩
  · rw [show b + (80 - b) = 80 by omega]
    refine j_iload_n C0 d_Mo_remove_2 rfl (by rfl) ?_
    refine j_bipush C0 d_Mo_remove_3 (v := 80) (by decide) ?_
    refine j_icmp_ge C0 d_Mo_remove_5 (tgt := 29) (by decide) (fun c_5 => ?_) (fun c_5 => ?_)
    · refine j_aload_n C0 d_Mo_remove_29 rfl (by rfl) ?_
      refine j_dup C0 d_Mo_remove_30 rfl ?_
      refine mo_get C0 d_Mo_remove_31 fl_Mo_85 (by rfl) ?_
      refine j_iconst C0 d_Mo_remove_34 (v := 1) (by decide) ?_
      refine j_isub C0 d_Mo_remove_35 ?_
      refine mo_put C0 d_Mo_remove_36 fp_Mo_85 (by decide) rfl (by rfl) (by rfl) ?_
      exact j_vret C0 d_Mo_remove_39 rfl (by omega) (by omega) (⟨rfl, rfl, rfl⟩)
    · exact absurd (nI_le (a := 80) (b := 80) (by decide) (by decide)) c_5
set_option maxHeartbeats 4000000 in
set_option maxRecDepth 100000 in
theorem c_Mo_close (l : Launch) (E : jE) {h0 : jH} {sz c : Nat} {A : moA} {w : Nat → Int32}  : jC l M_Mo_close 1 E [.ref c] (moH E h0 c A w) sz 0 0 (fun r h' sz' => r = none ∧ h' = moH E h0 c (clA A w) (clW w) ∧ sz' = sz) := by
  refine jC.of (by decide) (Nat.le_of_ble_eq_true rfl) ?_
  intro x C0 hx
  subst hx

  refine j_aload_n C0 d_Mo_close_0 rfl (by rfl) ?_
  refine mo_get C0 d_Mo_close_1 fl_Mo_88 (by rfl) ?_
  refine j_bipush C0 d_Mo_close_4 (v := 24) (by decide) ?_
  refine j_icmp_lt C0 d_Mo_close_6 (tgt := 14) (by decide) (fun c_6 => ?_) (fun c_6 => ?_)
  · have g : ¬ 24 ≤ w 15 := Int32.not_le.mpr c_6
    exact j_vret C0 d_Mo_close_14 rfl (by omega) (by omega) (⟨rfl, by unfold clA clW; first | (rw [if_pos g, if_pos g]; done) | (rw [if_neg g, if_neg g]; done), rfl⟩)
  · have g : 24 ≤ w 15 := Int32.not_lt.mp c_6
    refine j_aload_n C0 d_Mo_close_9 rfl (by rfl) ?_
    refine j_callV C0 d_Mo_close_10 cl_Mo_104 cl_Mo_104v (c_Mo_settle _ E) mo_this rfl rfl rfl ⟨by decide, by decide⟩ ⟨by omega, by omega⟩ (Nat.le_of_ble_eq_true rfl) (fun r_ h_ z_ hp_ => ?_)
    obtain ⟨rfl, rfl, rfl⟩ := hp_
    refine j_pop C0 d_Mo_close_13 rfl ?_
    exact j_vret C0 d_Mo_close_14 rfl (by omega) (by omega) (⟨rfl, by unfold clA clW; first | (rw [if_pos g, if_pos g]; done) | (rw [if_neg g, if_neg g]; done), rfl⟩)
set_option maxHeartbeats 4000000 in
set_option maxRecDepth 100000 in
theorem c_Mo_sync (l : Launch) (E : jE) {h0 : jH} {sz c : Nat} {A : moA} {w : Nat → Int32}  : jC l M_Mo_sync 1 E [.ref c] (moH E h0 c A w) sz 0 0 (fun r h' sz' => r = some (.int (w 15)) ∧ h' = moH E h0 c (stA A) (stW w) ∧ sz' = sz) := by
  refine jC.of (by decide) (Nat.le_of_ble_eq_true rfl) ?_
  intro x C0 hx
  subst hx

  refine j_aload_n C0 d_Mo_sync_0 rfl (by rfl) ?_
  refine j_callV C0 d_Mo_sync_1 cl_Mo_104 cl_Mo_104v (c_Mo_settle _ E) mo_this rfl rfl rfl ⟨by decide, by decide⟩ ⟨by omega, by omega⟩ (Nat.le_of_ble_eq_true rfl) (fun r_ h_ z_ hp_ => ?_)
  obtain ⟨rfl, rfl, rfl⟩ := hp_
  exact j_iret C0 d_Mo_sync_4 rfl (by omega) (by omega) (⟨rfl, rfl, rfl⟩)
set_option maxHeartbeats 4000000 in
set_option maxRecDepth 100000 in
theorem c_Mo_crash (l : Launch) (E : jE) {h0 : jH} {sz c : Nat} {A : moA} {w : Nat → Int32}  : jC l M_Mo_crash 0 E [.ref c] (moH E h0 c A w) sz 0 0 (fun r h' sz' => r = some (.int (w 15)) ∧ h' = moH E h0 c (va_up A 6 (cp (A 6) (A 7) 96)) (upd (upd (upd w 12 (w 14)) 16 0) 15 0) ∧ sz' = sz) := by
  refine jC.of (by decide) (Nat.le_of_ble_eq_true rfl) ?_
  intro x C0 hx
  subst hx

  refine j_iconst C0 d_Mo_crash_0 (v := 0) (by decide) ?_
  refine j_istore_n C0 d_Mo_crash_1 rfl (Nat.le_of_ble_eq_true rfl) ?_
  refine mo_A (A' := (va_up A 6 (cp (A 6) (A 7) 0))) (by rw [cp_0, up_same]) ?_
  refine j_lv (lv' := [(0, .ref c), (1, .int (nI 0))]) ⟨rfl, rfl, trivial⟩ ?_
  refine j_for 96 (fun i => moH E h0 c (va_up A 6 (cp (A 6) (A 7) i)) w) (fun i => [(0, .ref c), (1, .int (nI i))]) ?_ ?_ 0 (by decide)
  · intro i hi ih
    refine j_iload_n C0 d_Mo_crash_2 rfl (by rfl) ?_
    refine j_bipush C0 d_Mo_crash_3 (v := 96) (by decide) ?_
    refine j_icmp_ge C0 d_Mo_crash_5 (tgt := 26) (by decide) (fun c_5 => ?_) (fun c_5 => ?_)
    · exact absurd c_5 (nI_ge (b := 96) hi (by decide))
    · refine j_aload_n C0 d_Mo_crash_8 rfl (by rfl) ?_
      refine mo_get C0 d_Mo_crash_9 fl_Mo_28 (by rfl) ?_
      refine j_iload_n C0 d_Mo_crash_12 rfl (by rfl) ?_
      refine j_aload_n C0 d_Mo_crash_13 rfl (by rfl) ?_
      refine mo_get C0 d_Mo_crash_14 fl_Mo_31 (by rfl) ?_
      refine j_iload_n C0 d_Mo_crash_17 rfl (by rfl) ?_
      refine mo_ld C0 (i := 7) (k := i) d_Mo_crash_18 rfl (by show _ < 96; omega) (by decide) ?_
      refine mo_st C0 (i := 6) (k := i) d_Mo_crash_19 rfl (by show _ < 96; omega) (by decide) ?_
      refine mo_A (A' := (va_up A 6 (cp (A 6) (A 7) (i + 1)))) (by rw [vv_up, va_up_self]; exact congrArg (va_up A 6) (cp_s (A 6) (A 7) i)) ?_
      refine j_iinc C0 d_Mo_crash_20 (by rfl) (jinc _) (Nat.le_of_ble_eq_true rfl) ?_
      refine j_goto C0 d_Mo_crash_23 (tgt := 2) (by decide) ?_
      exact j_to ih rfl ⟨rfl, rfl, trivial⟩
  · refine j_iload_n C0 d_Mo_crash_2 rfl (by rfl) ?_
    refine j_bipush C0 d_Mo_crash_3 (v := 96) (by decide) ?_
    refine j_icmp_ge C0 d_Mo_crash_5 (tgt := 26) (by decide) (fun c_5 => ?_) (fun c_5 => ?_)
    · refine j_aload_n C0 d_Mo_crash_26 rfl (by rfl) ?_
      refine j_aload_n C0 d_Mo_crash_27 rfl (by rfl) ?_
      refine mo_get C0 d_Mo_crash_28 fl_Mo_91 (by rfl) ?_
      refine mo_put C0 d_Mo_crash_31 fp_Mo_85 (by decide) rfl (by rfl) (by rfl) ?_
      refine j_aload_n C0 d_Mo_crash_34 rfl (by rfl) ?_
      refine j_iconst C0 d_Mo_crash_35 (v := 0) (by decide) ?_
      refine mo_put C0 d_Mo_crash_36 fp_Mo_67 (by decide) rfl (by rfl) (by rfl) ?_
      refine j_aload_n C0 d_Mo_crash_39 rfl (by rfl) ?_
      refine mo_get C0 d_Mo_crash_40 fl_Mo_88 (by rfl) ?_
      refine j_istore_n C0 d_Mo_crash_43 rfl (Nat.le_of_ble_eq_true rfl) ?_
      refine j_aload_n C0 d_Mo_crash_44 rfl (by rfl) ?_
      refine j_iconst C0 d_Mo_crash_45 (v := 0) (by decide) ?_
      refine mo_put C0 d_Mo_crash_46 fp_Mo_88 (by decide) rfl (by rfl) (by rfl) ?_
      refine j_iload_n C0 d_Mo_crash_49 rfl (by rfl) ?_
      exact j_iret C0 d_Mo_crash_50 rfl (by omega) (by omega) (⟨rfl, rfl, rfl⟩)
    · exact absurd (nI_le (a := 96) (b := 96) (by decide) (by decide)) c_5
set_option maxHeartbeats 4000000 in
set_option maxRecDepth 100000 in
theorem c_Mo_find (l : Launch) (E : jE) {h0 : jH} {sz c : Nat} {A : moA} {w : Nat → Int32} {n : Nat} {Q : Nat → jMsg} (hn : w 12 = nI n) (hq : RQ n Q (A 6)) (v : Int32) : jC l M_Mo_find 0 E [.ref c, .int v] (moH E h0 c A w) sz 0 0 (fun r h' sz' => r = some (.int (sG (fun j => (Q j).1 1) (fun j => nI (16 * j)) (-1) v 0 n)) ∧ h' = moH E h0 c A w ∧ sz' = sz) := by
  have h6 := hq.1
  refine jC.of (by decide) (Nat.le_of_ble_eq_true rfl) ?_
  intro x C0 hx
  subst hx

  refine j_iconst C0 d_Mo_find_0 (v := 0) (by decide) ?_
  refine j_istore_n C0 d_Mo_find_1 rfl (Nat.le_of_ble_eq_true rfl) ?_
  refine j_lv (lv' := [(0, .ref c), (1, .int v), (2, .int (nI 0))]) ⟨rfl, rfl, rfl, trivial⟩ ?_
  refine j_forI n (fun i => sG (fun j => (Q j).1 1) (fun j => nI (16 * j)) (-1) v 0 n = sG (fun j => (Q j).1 1) (fun j => nI (16 * j)) (-1) v i (n - i)) (fun _ => moH E h0 c A w) (fun i => [(0, .ref c), (1, .int v), (2, .int (nI i))]) ?_ ?_ 0 (Nat.zero_le n) rfl
  · intro i hi hI ih
    have hr := hq.2 i hi
    refine j_iload_n C0 d_Mo_find_2 rfl (by rfl) ?_
    refine j_aload_n C0 d_Mo_find_3 rfl (by rfl) ?_
    refine mo_get C0 d_Mo_find_4 fl_Mo_85 (by rfl) ?_
    rw [hn]
    refine j_icmp_ge C0 d_Mo_find_7 (tgt := 34) (by decide) (fun c_7 => ?_) (fun c_7 => ?_)
    · exact absurd c_7 (nI_ge hi (by omega))
    · refine j_aload_n C0 d_Mo_find_10 rfl (by rfl) ?_
      refine mo_get C0 d_Mo_find_11 fl_Mo_28 (by rfl) ?_
      refine j_bipush C0 d_Mo_find_14 (v := 16) (by decide) ?_
      refine j_iload_n C0 d_Mo_find_16 rfl (by rfl) ?_
      refine j_imul C0 d_Mo_find_17 ?_
      refine mo_ld C0 (i := 6) (k := 16 * i) d_Mo_find_18 (by simp only [jn0, jn1, jn2, jn3, jn4, jn8, jn12, jn13, jn14, jn15, jn16, pk_mul, nI_add]) (by show _ < 96; omega) (by decide) ?_
      rw [hr.c0]
      refine j_iload_n C0 d_Mo_find_19 rfl (by rfl) ?_
      refine j_icmp_ne C0 d_Mo_find_20 (tgt := 28) (by decide) (fun c_20 => ?_) (fun c_20 => ?_)
      · refine j_iinc C0 d_Mo_find_28 (by rfl) (jinc _) (Nat.le_of_ble_eq_true rfl) ?_
        refine j_goto C0 d_Mo_find_31 (tgt := 2) (by decide) ?_
        exact j_to (ih (hI.trans (sG_n hi c_20))) rfl ⟨rfl, rfl, rfl, trivial⟩
      · refine j_bipush C0 d_Mo_find_23 (v := 16) (by decide) ?_
        refine j_iload_n C0 d_Mo_find_25 rfl (by rfl) ?_
        refine j_imul C0 d_Mo_find_26 ?_
        exact j_iret C0 d_Mo_find_27 rfl (by omega) (by omega) (⟨by rw [hI, sG_y hi c_20]; simp only [jn16, pk_mul], rfl, rfl⟩)
  · intro hI
    refine j_iload_n C0 d_Mo_find_2 rfl (by rfl) ?_
    refine j_aload_n C0 d_Mo_find_3 rfl (by rfl) ?_
    refine mo_get C0 d_Mo_find_4 fl_Mo_85 (by rfl) ?_
    rw [hn]
    refine j_icmp_ge C0 d_Mo_find_7 (tgt := 34) (by decide) (fun c_7 => ?_) (fun c_7 => ?_)
    · refine j_iconst C0 d_Mo_find_34 (v := -1) (by decide) ?_
      exact j_iret C0 d_Mo_find_35 rfl (by omega) (by omega) (⟨by rw [hI, Nat.sub_self]; rfl, rfl, rfl⟩)
    · exact absurd (nI_le (Nat.le_refl _) (by omega)) c_7
