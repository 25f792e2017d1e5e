section JLoop2
variable {x : jX} {M : jM} {E : jE} {Q : State → Prop} {pc : Nat} {st : List Value}
theorem j_forR (n : Nat) (I : Nat → jH → Prop) (sf cf lf : Nat → Nat) (lv : Nat → List (Nat × Value)) (step : ∀ i h, i < n → I i h → (∀ h', I (i + 1) h' → jJ x M E Q h' (sf (i + 1)) (cf (i + 1)) (lf (i + 1)) (lv (i + 1)) pc st) → jJ x M E Q h (sf i) (cf i) (lf i) (lv i) pc st) (done : ∀ h, I n h → jJ x M E Q h (sf n) (cf n) (lf n) (lv n) pc st) : ∀ i h, i ≤ n → I i h → jJ x M E Q h (sf i) (cf i) (lf i) (lv i) pc st := by
  intro i h hi
  obtain ⟨k, rfl⟩ : ∃ k, n = i + k := ⟨n - i, by omega⟩
  induction k generalizing i h with
  | zero => exact done h
  | succ k ih =>
    intro hI
    refine step i h (by omega) hI (fun h' hI' => ?_)
    have e : i + (k + 1) = (i + 1) + k := by omega
    exact ih (i + 1) h' (fun j h hj hI hk => step j h (by omega) hI hk) (by rw [e] at done; exact done) (by omega) hI'
end JLoop2
theorem jset_self {h : jH} {a : Nat} {e : va_E} (he : h a = some e) : jset h a e = h := by
  funext q
  unfold jset
  by_cases h0 : q = a
  · subst h0; rw [if_pos rfl, he]
  · rw [if_neg h0]
abbrev quO (a n : Nat) : va_E := jO 3 [.ref (a + 1), .int (nI n)]
/-- a queue at a: messages by place, the spare ones behind -/
def isQu (E : jE) (h : jH) (a qn : Nat) (Q : Nat → jMsg) : Prop := ∃ (pm : Nat → Nat) (f : Nat → Option Nat), (∀ i, i < 6 → pm i < 6) ∧ (∀ i j, i < 6 → j < 6 → pm i = pm j → i = j) ∧ h a = some (quO a qn) ∧ h (a + 1) = some (jQa E 2 6 f) ∧ (∀ i, i < 6 → f i = some (a + 2 + 4 * pm i)) ∧ (∀ i, i < 6 → isMe E h (a + 2 + 4 * pm i) (Q i)) ∧ qn ≤ 6
theorem isQu.obj {E : jE} {h : jH} {a qn : Nat} {Q : Nat → jMsg} (hq : isQu E h a qn Q) : h a = some (quO a qn) := by obtain ⟨pm, f, -, -, h3, -⟩ := hq; exact h3
theorem isQu.arr {E : jE} {h : jH} {a qn : Nat} {Q : Nat → jMsg} (hq : isQu E h a qn Q) : ∃ f, h (a + 1) = some (jQa E 2 6 f) := by obtain ⟨pm, f, -, -, -, h4, -⟩ := hq; exact ⟨_, h4⟩
theorem isQu.le {E : jE} {h : jH} {a qn : Nat} {Q : Nat → jMsg} (hq : isQu E h a qn Q) : qn ≤ 6 := by obtain ⟨pm, f, -, -, -, -, -, -, h6⟩ := hq; exact h6
theorem isQu.keep {E : jE} {h h' : jH} {a qn : Nat} {Q : Nat → jMsg} (hq : isQu E h a qn Q) (hk : ∀ q, a ≤ q → q < a + 26 → h' q = h q) : isQu E h' a qn Q := by
  obtain ⟨pm, f, h1, h2, h3, h4, h7, h5, h6⟩ := hq
  refine ⟨pm, f, h1, h2, by rw [hk a (by omega) (by omega)]; exact h3, by rw [hk (a + 1) (by omega) (by omega)]; exact h4, h7, fun i hi => (h5 i hi).keep (fun q g1 g2 => hk q (by omega) (by have := h1 i hi; omega)), h6⟩
theorem isQu.at {E : jE} {h : jH} {a qn : Nat} {Q : Nat → jMsg} (hq : isQu E h a qn Q) {f : Nat → Option Nat} (hf : h (a + 1) = some (jQa E 2 6 f)) {i : Nat} (hi : i < 6) : ∃ m, f i = some m ∧ a + 2 ≤ m ∧ m + 4 ≤ a + 26 ∧ isMe E h m (Q i) ∧ ∀ (h' : jH) (y : jMsg), isMe E h' m y → (∀ q, q < m ∨ m + 4 ≤ q → h' q = h q) → isQu E h' a qn (va_up Q i y) := by
  obtain ⟨pm, f', h1, h2, h3, h4, h7, h5, h6⟩ := hq
  have e := hf.symm.trans h4
  cases e
  refine ⟨a + 2 + 4 * pm i, h7 i hi, by omega, by have := h1 i hi; omega, h5 i hi, fun h' y hy hk => ⟨pm, f, h1, h2, by rw [hk a (by omega)]; exact h3, by rw [hk (a + 1) (by omega)]; exact h4, h7, fun j hj => ?_, h6⟩⟩
  by_cases hji : j = i
  · subst hji
    rw [va_up_self]
    exact hy
  · rw [va_up_ne _ _ hji]
    have hne : pm j ≠ pm i := fun e => hji (h2 j i hj hi e)
    exact (h5 j hj).keep (fun q g1 g2 => hk q (by omega))
theorem isQu.size {E : jE} {h : jH} {a qn n : Nat} {Q : Nat → jMsg} (hq : isQu E h a qn Q) (hn : n ≤ 6) : isQu E (jset h a (quO a n)) a n Q := by
  obtain ⟨pm, f, h1, h2, h3, h4, h7, h5, h6⟩ := hq
  exact ⟨pm, f, h1, h2, jset_s, by rw [jset_n (by omega)]; exact h4, h7, fun i hi => (h5 i hi).keep (fun q g1 g2 => jset_n (by omega)), hn⟩
abbrev mz : jMsg := (fun _ => 0, 0, fun _ => 0, fun _ => 0)
/-- the first i below n with f i = v: g i, else d -/
def sG (f g : Nat → Int32) (d v : Int32) : Nat → Nat → Int32
  | _, 0 => d
  | i, k + 1 => if f i = v then g i else sG f g d v (i + 1) k
theorem sG_y {f g : Nat → Int32} {d v : Int32} {i n : Nat} (hi : i < n) (h : f i = v) : sG f g d v i (n - i) = g i := by
  rw [show n - i = (n - (i + 1)) + 1 by omega]
  simp [sG, h]
theorem sG_n {f g : Nat → Int32} {d v : Int32} {i n : Nat} (hi : i < n) (h : ¬ f i = v) : sG f g d v i (n - i) = sG f g d v (i + 1) (n - (i + 1)) := by
  rw [show n - i = (n - (i + 1)) + 1 by omega]
  simp [sG, h]
def csQ (Q : Nat → jMsg) : Nat → Int32
  | 0 => 0
  | i + 1 => csQ Q i + ((Q i).1 3 + nI (Q i).2.1 + 1)
def wtQ (Q : Nat → jMsg) : Nat → Int32
  | 0 => 0
  | i + 1 => wtQ Q i + nI (cnt (Q i).2.2.2 1 (Q i).2.1)
def rho (k n i : Nat) : Nat := if i < k then i else if i + 1 < n then i + 1 else if i + 1 = n then k else i
def cpQ (Q Q2 : Nat → jMsg) (n i : Nat) : jMsg := if i < n then ((Q2 i).1, (Q2 i).2.1, cp (Q i).2.2.1 (Q2 i).2.2.1 (Q2 i).2.1, cp (Q i).2.2.2 (Q2 i).2.2.2 (Q2 i).2.1) else Q i
theorem cpQ_s (Q Q2 : Nat → jMsg) (i : Nat) : va_up (cpQ Q Q2 i) i ((Q2 i).1, (Q2 i).2.1, cp (Q i).2.2.1 (Q2 i).2.2.1 (Q2 i).2.1, cp (Q i).2.2.2 (Q2 i).2.2.2 (Q2 i).2.1) = cpQ Q Q2 (i + 1) := by
  funext j
  by_cases hj : j = i
  · subst hj; rw [va_up_self]; simp [cpQ]
  · rw [va_up_ne _ _ hj]
    unfold cpQ
    by_cases hl : j < i
    · simp [hl, show j < i + 1 by omega]
    · simp [hl, show ¬ j < i + 1 by omega]
set_option maxHeartbeats 4000000 in
set_option maxRecDepth 100000 in
theorem c_Qu_init (l : Launch) (E : jE) {h : jH} {sz a : Nat} (e0 : h a = some (jO 3 [.null, .int 0])) (hz : sz = a + 1) : jC l M_Qu_init 3 E [.ref a] h sz 25 120 (fun r h' sz' => r = none ∧ isQu E h' a 0 (fun _ => mz) ∧ (∀ q, q < a → h' q = h q) ∧ sz' = a + 26) := by
  subst hz
  refine jC.of (by decide) (Nat.le_of_ble_eq_true rfl) ?_
  intro x C0 hx
  subst hx

  refine j_aload_n C0 d_Qu_init_0 rfl (by rfl) ?_
  refine j_obj C0 d_Qu_init_1 w_1_107 w_1_18 w_1_19 (by omega) (Nat.le_of_ble_eq_true rfl) ?_
  refine j_aload_n C0 d_Qu_init_4 rfl (by rfl) ?_
  refine j_bipush C0 d_Qu_init_5 (v := 6) (by decide) ?_
  refine j_newq C0 (N := 6) (t := 2) d_Qu_init_7 w_1_108 (by decide) rfl rfl (by decide) (by omega) (by omega) ?_
  refine j_putF C0 d_Qu_init_10 fp_Qu_11 (by (repeat (first | rw [jset_s] | rw [jset_n (by omega)] | rw [reH_0] | rw [reH_1] | rw [reH_2] | rw [reH_n (by omega)])) <;> first | rfl | assumption) (Nat.le_of_ble_eq_true rfl) (by rfl) (by rfl) rfl ?_
  refine j_aload_n C0 d_Qu_init_13 rfl (by rfl) ?_
  refine j_iconst C0 d_Qu_init_14 (v := 0) (by decide) ?_
  refine j_putf C0 d_Qu_init_15 fp_Qu_17 (by (repeat (first | rw [jset_s] | rw [jset_n (by omega)] | rw [reH_0] | rw [reH_1] | rw [reH_2] | rw [reH_n (by omega)])) <;> first | rfl | assumption) (Nat.le_of_ble_eq_true rfl) (by rfl) (by rfl) ?_
  refine j_iconst C0 d_Qu_init_18 (v := 0) (by decide) ?_
  refine j_istore_n C0 d_Qu_init_19 rfl (Nat.le_of_ble_eq_true rfl) ?_
  refine j_lv (lv' := [(0, .ref a), (1, .int (nI 0))]) ⟨rfl, rfl, trivial⟩ ?_
  refine j_forR 6 (fun i hh => hh a = some (quO a 0) ∧ hh (a + 1) = some (jQa E 2 6 (fun k => if k < i then some (a + 2 + 4 * k) else none)) ∧ (∀ k, k < i → isMe E hh (a + 2 + 4 * k) mz) ∧ ∀ q, q < a → hh q = h q) (fun i => a + 2 + 4 * i) (fun i => 1 + 4 * i) (fun i => 6 + 19 * i) (fun i => [(0, .ref a), (1, .int (nI i))]) ?_ ?_ 0 _ (by decide) ⟨by rw [jset_s]; rfl, by rw [jset_n (by omega), jset_n (by omega), jset_s]; rfl, fun k hk => absurd hk (by omega), fun q hq => by rw [jset_n (by omega), jset_n (by omega), jset_n (by omega)]⟩
  · intro i hh hi hI ih
    obtain ⟨g0, g1, g2, g3⟩ := hI
    refine j_iload_n C0 d_Qu_init_20 rfl (by rfl) ?_
    refine j_bipush C0 d_Qu_init_21 (v := 6) (by decide) ?_
    refine j_icmp_ge C0 d_Qu_init_23 (tgt := 45) (by decide) (fun c_23 => ?_) (fun c_23 => ?_)
    · exact absurd c_23 (nI_ge (b := 6) hi (by decide))
    · refine j_aload_n C0 d_Qu_init_26 rfl (by rfl) ?_
      refine j_getf C0 d_Qu_init_27 fl_Qu_11 (by (repeat (first | rw [jset_s] | rw [jset_n (by omega)] | rw [reH_0] | rw [reH_1] | rw [reH_2] | rw [reH_n (by omega)])) <;> first | rfl | assumption) (by rfl) ?_
      refine j_iload_n C0 d_Qu_init_30 rfl (by rfl) ?_
      refine j_new C0 d_Qu_init_31 nw_Qu_9 (by omega) (by omega) ?_
      refine j_dup C0 d_Qu_init_34 rfl ?_
      refine j_callIN C0 d_Qu_init_35 cn_Qu_21 cn_Qu_21v rfl rfl (c_Me_init _ E jset_s rfl) rfl rfl ⟨by decide, by decide⟩ ⟨by omega, by omega⟩ (Nat.le_of_ble_eq_true rfl) (fun r_ h_ z_ hp_ => ?_)
      obtain ⟨rfl, rfl, rfl⟩ := hp_
      refine j_aast C0 d_Qu_init_38 (by rw [meH_n (by omega), jset_n (by omega)]; exact g1) (meH_is (by show 0 ≤ 4; omega)).1 rfl rfl rfl (by omega) (by decide) ?_
      refine j_iinc C0 d_Qu_init_39 (by rfl) (jinc _) (Nat.le_of_ble_eq_true rfl) ?_
      refine j_goto C0 d_Qu_init_42 (tgt := 20) (by decide) ?_
      refine j_lv (lv' := [(0, .ref a), (1, .int (nI (i + 1)))]) ⟨rfl, rfl, trivial⟩ ?_
      refine j_eq (ih _ ?_) rfl (by omega) (by omega) (by omega) rfl rfl rfl
      refine ⟨by rw [jset_n (by omega), meH_n (by omega), jset_n (by omega)]; exact g0, ?_, fun k hk => ?_, fun q hq => by rw [jset_n (by omega), meH_n (by omega), jset_n (by omega)]; exact g3 q hq⟩
      · rw [jset_s]
        congr 6
        funext k
        unfold va_up
        by_cases hk : k = i
        · subst hk; simp
        · by_cases hl : k < i
          · simp [hk, hl, show k < i + 1 by omega]
          · simp [hk, hl, show ¬ k < i + 1 by omega]
      · by_cases hki : k = i
        · subst hki
          exact (meH_is (m := mz) (by show 0 ≤ 4; omega)).keep (fun q h1 h2 => jset_n (by omega))
        · exact (g2 k (by omega)).keep (fun q h1 h2 => by rw [jset_n (by omega), meH_n (by omega), jset_n (by omega)])
  · intro hh hI
    obtain ⟨g0, g1, g2, g3⟩ := hI
    refine j_iload_n C0 d_Qu_init_20 rfl (by rfl) ?_
    refine j_bipush C0 d_Qu_init_21 (v := 6) (by decide) ?_
    refine j_icmp_ge C0 d_Qu_init_23 (tgt := 45) (by decide) (fun c_23 => ?_) (fun c_23 => ?_)
    · exact j_vret C0 d_Qu_init_45 rfl (by omega) (by omega) ⟨rfl, ⟨fun i => i, _, fun i hi => hi, fun i j _ _ e => e, g0, g1, fun i hi => if_pos hi, g2, by decide⟩, g3, rfl⟩
    · exact absurd (nI_le (Nat.le_refl 6) (by decide)) c_23
set_option maxHeartbeats 4000000 in
set_option maxRecDepth 100000 in
theorem c_Qu_addSpare (l : Launch) (E : jE) {h : jH} {sz a qn : Nat} {Q : Nat → jMsg} (hq : isQu E h a qn Q) (hn : qn < 6) : jC l M_Qu_addSpare 0 E [.ref a] h sz 0 0 (fun r h' sz' => ∃ f m, h (a + 1) = some (jQa E 2 6 f) ∧ f qn = some m ∧ r = some (.ref m) ∧ h' = jset h a (quO a (qn + 1)) ∧ sz' = sz) := by
  have e0 := hq.obj
  obtain ⟨f, e1⟩ := hq.arr
  have h6 := hq.le
  obtain ⟨m, hm, -⟩ := hq.at e1 hn
  refine jC.of (by decide) (Nat.le_of_ble_eq_true rfl) ?_
  intro x C0 hx
  subst hx

  refine j_aload_n C0 d_Qu_addSpare_0 rfl (by rfl) ?_
  refine j_getf C0 d_Qu_addSpare_1 fl_Qu_11 (by (repeat (first | rw [jset_s] | rw [jset_n (by omega)] | rw [reH_0] | rw [reH_1] | rw [reH_2] | rw [reH_n (by omega)])) <;> first | rfl | assumption) (by rfl) ?_
  refine j_aload_n C0 d_Qu_addSpare_4 rfl (by rfl) ?_
  refine j_getf C0 d_Qu_addSpare_5 fl_Qu_17 (by (repeat (first | rw [jset_s] | rw [jset_n (by omega)] | rw [reH_0] | rw [reH_1] | rw [reH_2] | rw [reH_n (by omega)])) <;> first | rfl | assumption) (by rfl) ?_
  refine j_aald C0 d_Qu_addSpare_8 (by (repeat (first | rw [jset_s] | rw [jset_n (by omega)] | rw [reH_0] | rw [reH_1] | rw [reH_2] | rw [reH_n (by omega)])) <;> first | rfl | assumption) rfl rfl (by omega) (by decide) hm ?_
  refine j_astore_n C0 d_Qu_addSpare_9 rfl (Nat.le_of_ble_eq_true rfl) ?_
  refine j_aload_n C0 d_Qu_addSpare_10 rfl (by rfl) ?_
  refine j_dup C0 d_Qu_addSpare_11 rfl ?_
  refine j_getf C0 d_Qu_addSpare_12 fl_Qu_17 (by (repeat (first | rw [jset_s] | rw [jset_n (by omega)] | rw [reH_0] | rw [reH_1] | rw [reH_2] | rw [reH_n (by omega)])) <;> first | rfl | assumption) (by rfl) ?_
  refine j_iconst C0 d_Qu_addSpare_15 (v := 1) (by decide) ?_
  refine j_iadd C0 d_Qu_addSpare_16 ?_
  refine j_putf C0 d_Qu_addSpare_17 fp_Qu_17 (by (repeat (first | rw [jset_s] | rw [jset_n (by omega)] | rw [reH_0] | rw [reH_1] | rw [reH_2] | rw [reH_n (by omega)])) <;> first | rfl | assumption) (Nat.le_of_ble_eq_true rfl) (by rfl) (by rfl) ?_
  refine j_aload_n C0 d_Qu_addSpare_20 rfl (by rfl) ?_
  exact j_aret C0 d_Qu_addSpare_21 rfl (by omega) (by omega) ⟨f, m, e1, hm, rfl, by show jset _ _ (jO 3 [_, .int (nI qn + 1)]) = _; rw [nI_1], rfl⟩
theorem isQu.rem {E : jE} {h h' : jH} {a qn k : Nat} {Q : Nat → jMsg} {f g : Nat → Option Nat} (hq : isQu E h a qn Q) (hk : k < qn) (hf : h (a + 1) = some (jQa E 2 6 f)) (h0 : h' a = some (quO a (qn - 1))) (h1 : h' (a + 1) = some (jQa E 2 6 g)) (hg : ∀ i, i < 6 → g i = f (rho k qn i)) (hk2 : ∀ q, a + 2 ≤ q → q < a + 26 → h' q = h q) : isQu E h' a (qn - 1) (fun i => Q (rho k qn i)) := by
  obtain ⟨pm, f', p1, p2, p3, p4, p7, p5, p6⟩ := hq
  have e := hf.symm.trans p4
  cases e
  have hr : ∀ i, i < 6 → rho k qn i < 6 := fun i hi => by unfold rho; (repeat' split) <;> omega
  have hi : ∀ i j, i < 6 → j < 6 → rho k qn i = rho k qn j → i = j := fun i j hi hj e => by unfold rho at e; (repeat' (split at e)) <;> omega
  refine ⟨fun i => pm (rho k qn i), g, fun i h => p1 _ (hr i h), fun i j h1 h2 e => hi i j h1 h2 (p2 _ _ (hr i h1) (hr j h2) e), h0, h1, fun i h => by rw [hg i h]; exact p7 _ (hr i h), fun i h => (p5 _ (hr i h)).keep (fun q g1 g2 => hk2 q (by omega) (by have := p1 _ (hr i h); omega)), by omega⟩
set_option maxHeartbeats 4000000 in
set_option maxRecDepth 100000 in
theorem c_Qu_removeAt (l : Launch) (E : jE) {h : jH} {sz a qn : Nat} {Q : Nat → jMsg} {k : Nat} (hq : isQu E h a qn Q) (hk : k < qn) : jC l M_Qu_removeAt 0 E [.ref a, .int (nI k)] h sz 0 0 (fun r h' sz' => r = none ∧ isQu E h' a (qn - 1) (fun i => Q (rho k qn i)) ∧ (∀ q, q < a ∨ a + 26 ≤ q → h' q = h q) ∧ sz' = sz) := by
  have e0 := hq.obj
  obtain ⟨f, e1⟩ := hq.arr
  have h6 := hq.le
  obtain ⟨m, hm, hm1, hm2, hm3, -⟩ := hq.at e1 (show k < 6 by omega)
  refine jC.of (by decide) (Nat.le_of_ble_eq_true rfl) ?_
  intro x C0 hx
  subst hx

  refine j_aload_n C0 d_Qu_removeAt_0 rfl (by rfl) ?_
  refine j_getf C0 d_Qu_removeAt_1 fl_Qu_11 (by (repeat (first | rw [jset_s] | rw [jset_n (by omega)] | rw [reH_0] | rw [reH_1] | rw [reH_2] | rw [reH_n (by omega)])) <;> first | rfl | assumption) (by rfl) ?_
  refine j_iload_n C0 d_Qu_removeAt_4 rfl (by rfl) ?_
  refine j_aald C0 d_Qu_removeAt_5 (by (repeat (first | rw [jset_s] | rw [jset_n (by omega)] | rw [reH_0] | rw [reH_1] | rw [reH_2] | rw [reH_n (by omega)])) <;> first | rfl | assumption) rfl rfl (by omega) (by decide) hm ?_
  refine j_astore_n C0 d_Qu_removeAt_6 rfl (Nat.le_of_ble_eq_true rfl) ?_
  refine j_iload_n C0 d_Qu_removeAt_7 rfl (by rfl) ?_
  refine j_istore_n C0 d_Qu_removeAt_8 rfl (Nat.le_of_ble_eq_true rfl) ?_
  have ef : (fun j => if k ≤ j ∧ j < k + 0 then f (j + 1) else f j) = f := by funext j; rw [if_neg (by omega)]
  refine j_to (h' := jset h (a + 1) (jQa E 2 6 (fun j => if k ≤ j ∧ j < k + 0 then f (j + 1) else f j))) (lv' := [(0, .ref a), (1, .int (nI k)), (2, .ref m), (3, .int (nI (k + 0)))]) ?_ (by rw [ef, jset_self e1]) ⟨rfl, rfl, rfl, rfl, trivial⟩
  refine j_for (qn - 1 - k) (fun i => jset h (a + 1) (jQa E 2 6 (fun j => if k ≤ j ∧ j < k + i then f (j + 1) else f j))) (fun i => [(0, .ref a), (1, .int (nI k)), (2, .ref m), (3, .int (nI (k + i)))]) ?_ ?_ 0 (Nat.zero_le _)
  · intro i hi ih
    obtain ⟨m1, hx1, hy1, hy2, hx3, -⟩ := hq.at e1 (show k + i + 1 < 6 by omega)
    have es : nI qn - 1 = nI (qn - 1) := by obtain ⟨n', rfl⟩ : ∃ n', qn = n' + 1 := ⟨qn - 1, by omega⟩; exact nI_pred n'
    have ea : nI (k + i) + 1 = nI (k + i + 1) := nI_1 _
    refine j_iload_n C0 d_Qu_removeAt_9 rfl (by rfl) ?_
    refine j_aload_n C0 d_Qu_removeAt_10 rfl (by rfl) ?_
    refine j_getf C0 d_Qu_removeAt_11 fl_Qu_17 (by (repeat (first | rw [jset_s] | rw [jset_n (by omega)] | rw [reH_0] | rw [reH_1] | rw [reH_2] | rw [reH_n (by omega)])) <;> first | rfl | assumption) (by rfl) ?_
    refine j_iconst C0 d_Qu_removeAt_14 (v := 1) (by decide) ?_
    refine j_isub C0 d_Qu_removeAt_15 ?_
    rw [es]
    refine j_icmp_ge C0 d_Qu_removeAt_16 (tgt := 39) (by decide) (fun c_16 => ?_) (fun c_16 => ?_)
    · exact absurd c_16 (nI_ge (show k + i < qn - 1 by omega) (by omega))
    · refine j_aload_n C0 d_Qu_removeAt_19 rfl (by rfl) ?_
      refine j_getf C0 d_Qu_removeAt_20 fl_Qu_11 (by (repeat (first | rw [jset_s] | rw [jset_n (by omega)] | rw [reH_0] | rw [reH_1] | rw [reH_2] | rw [reH_n (by omega)])) <;> first | rfl | assumption) (by rfl) ?_
      refine j_iload_n C0 d_Qu_removeAt_23 rfl (by rfl) ?_
      refine j_aload_n C0 d_Qu_removeAt_24 rfl (by rfl) ?_
      refine j_getf C0 d_Qu_removeAt_25 fl_Qu_11 (by (repeat (first | rw [jset_s] | rw [jset_n (by omega)] | rw [reH_0] | rw [reH_1] | rw [reH_2] | rw [reH_n (by omega)])) <;> first | rfl | assumption) (by rfl) ?_
      refine j_iload_n C0 d_Qu_removeAt_28 rfl (by rfl) ?_
      refine j_iconst C0 d_Qu_removeAt_29 (v := 1) (by decide) ?_
      refine j_iadd C0 d_Qu_removeAt_30 ?_
      rw [ea]
      refine j_aald C0 d_Qu_removeAt_31 (by (repeat (first | rw [jset_s] | rw [jset_n (by omega)] | rw [reH_0] | rw [reH_1] | rw [reH_2] | rw [reH_n (by omega)])) <;> first | rfl | assumption) rfl rfl (by omega) (by decide) (by show (if _ then _ else _) = _; rw [if_neg (by omega)]; exact hx1) ?_
      refine j_aast C0 d_Qu_removeAt_32 (by (repeat (first | rw [jset_s] | rw [jset_n (by omega)] | rw [reH_0] | rw [reH_1] | rw [reH_2] | rw [reH_n (by omega)])) <;> first | rfl | assumption) (by rw [jset_n (by omega)]; exact hx3.1) rfl rfl rfl (by omega) (by decide) ?_
      rw [jset_ss]
      refine j_iinc C0 d_Qu_removeAt_33 (by rfl) (jinc _) (Nat.le_of_ble_eq_true rfl) ?_
      refine j_goto C0 d_Qu_removeAt_36 (tgt := 9) (by decide) ?_
      refine j_to ih ?_ ⟨rfl, rfl, rfl, rfl, trivial⟩
      congr 8
      funext j
      unfold va_up
      by_cases hj : j = k + i
      · subst hj
        rw [if_pos rfl, if_pos (by omega)]
        exact hx1.symm
      · rw [if_neg hj]
        dsimp only
        by_cases hl : k ≤ j ∧ j < k + i
        · rw [if_pos hl, if_pos (by omega)]
        · rw [if_neg hl, if_neg (by omega)]
  · have es : nI qn - 1 = nI (qn - 1) := by obtain ⟨n', rfl⟩ : ∃ n', qn = n' + 1 := ⟨qn - 1, by omega⟩; exact nI_pred n'
    have ek : k + (qn - 1 - k) = qn - 1 := by omega
    refine j_iload_n C0 d_Qu_removeAt_9 rfl (by rfl) ?_
    refine j_aload_n C0 d_Qu_removeAt_10 rfl (by rfl) ?_
    refine j_getf C0 d_Qu_removeAt_11 fl_Qu_17 (by (repeat (first | rw [jset_s] | rw [jset_n (by omega)] | rw [reH_0] | rw [reH_1] | rw [reH_2] | rw [reH_n (by omega)])) <;> first | rfl | assumption) (by rfl) ?_
    refine j_iconst C0 d_Qu_removeAt_14 (v := 1) (by decide) ?_
    refine j_isub C0 d_Qu_removeAt_15 ?_
    rw [es, ek]
    refine j_icmp_ge C0 d_Qu_removeAt_16 (tgt := 39) (by decide) (fun c_16 => ?_) (fun c_16 => ?_)
    · refine j_aload_n C0 d_Qu_removeAt_39 rfl (by rfl) ?_
      refine j_dup C0 d_Qu_removeAt_40 rfl ?_
      refine j_getf C0 d_Qu_removeAt_41 fl_Qu_17 (by (repeat (first | rw [jset_s] | rw [jset_n (by omega)] | rw [reH_0] | rw [reH_1] | rw [reH_2] | rw [reH_n (by omega)])) <;> first | rfl | assumption) (by rfl) ?_
      refine j_iconst C0 d_Qu_removeAt_44 (v := 1) (by decide) ?_
      refine j_isub C0 d_Qu_removeAt_45 ?_
      rw [es]
      refine j_putf C0 d_Qu_removeAt_46 fp_Qu_17 (by (repeat (first | rw [jset_s] | rw [jset_n (by omega)] | rw [reH_0] | rw [reH_1] | rw [reH_2] | rw [reH_n (by omega)])) <;> first | rfl | assumption) (Nat.le_of_ble_eq_true rfl) (by rfl) (by rfl) ?_
      refine j_aload_n C0 d_Qu_removeAt_49 rfl (by rfl) ?_
      refine j_getf C0 d_Qu_removeAt_50 fl_Qu_11 (by (repeat (first | rw [jset_s] | rw [jset_n (by omega)] | rw [reH_0] | rw [reH_1] | rw [reH_2] | rw [reH_n (by omega)])) <;> first | rfl | assumption) (by rfl) ?_
      refine j_aload_n C0 d_Qu_removeAt_53 rfl (by rfl) ?_
      refine j_getf C0 d_Qu_removeAt_54 fl_Qu_17 (by (repeat (first | rw [jset_s] | rw [jset_n (by omega)] | rw [reH_0] | rw [reH_1] | rw [reH_2] | rw [reH_n (by omega)])) <;> first | rfl | assumption) (by rfl) ?_
      refine j_aload_n C0 d_Qu_removeAt_57 rfl (by rfl) ?_
      refine j_aast C0 d_Qu_removeAt_58 (by (repeat (first | rw [jset_s] | rw [jset_n (by omega)] | rw [reH_0] | rw [reH_1] | rw [reH_2] | rw [reH_n (by omega)])) <;> first | rfl | assumption) (by rw [jset_n (by omega), jset_n (by omega)]; exact hm3.1) rfl rfl rfl (by omega) (by decide) ?_
      exact j_vret C0 d_Qu_removeAt_59 rfl (by omega) (by omega) ⟨rfl, hq.rem (k := k) hk e1 (by rw [jset_n (by omega), jset_s]; rfl) jset_s (fun i hi => by
              unfold va_up rho
              dsimp only
              by_cases h0 : i = qn - 1
              · rw [if_pos h0, if_neg (by omega), if_neg (by omega), if_pos (by omega), hm]
              · rw [if_neg h0]
                by_cases h1 : i < k
                · rw [if_neg (by omega), if_pos h1]
                · by_cases h2 : i + 1 < qn
                  · rw [if_pos (by omega), if_neg h1, if_pos h2]
                  · rw [if_neg (by omega), if_neg h1, if_neg h2, if_neg (by omega)]) (fun q h1 h2 => by rw [jset_n (by omega), jset_n (by omega), jset_n (by omega)]), fun q hq => by rw [jset_n (by omega), jset_n (by omega), jset_n (by omega)], rfl⟩
    · exact absurd (nI_le (Nat.le_refl _) (by omega)) c_16
set_option maxHeartbeats 4000000 in
set_option maxRecDepth 100000 in
theorem c_Qu_indexOf (l : Launch) (E : jE) {h : jH} {sz a qn : Nat} {Q : Nat → jMsg} (v : Int32) (hq : isQu E h a qn Q) : jC l M_Qu_indexOf 0 E [.ref a, .int v] h sz 0 0 (fun r h' sz' => r = some (.int (sG (fun j => (Q j).1 1) nI (-1) v 0 qn)) ∧ h' = h ∧ sz' = sz) := by
  have e0 := hq.obj
  obtain ⟨f, e1⟩ := hq.arr
  have h6 := hq.le
  refine jC.of (by decide) (Nat.le_of_ble_eq_true rfl) ?_
  intro x C0 hx
  subst hx

  refine j_iconst C0 d_Qu_indexOf_0 (v := 0) (by decide) ?_
  refine j_istore_n C0 d_Qu_indexOf_1 rfl (Nat.le_of_ble_eq_true rfl) ?_
  refine j_lv (lv' := [(0, .ref a), (1, .int v), (2, .int (nI 0))]) ⟨rfl, rfl, rfl, trivial⟩ ?_
  refine j_forI qn (fun i => sG (fun j => (Q j).1 1) nI (-1) v 0 qn = sG (fun j => (Q j).1 1) nI (-1) v i (qn - i)) (fun _ => h) (fun i => [(0, .ref a), (1, .int v), (2, .int (nI i))]) ?_ ?_ 0 (Nat.zero_le qn) rfl
  · intro i hi hI ih
    obtain ⟨m, hm, hm1, hm2, ⟨hm3, -⟩, -⟩ := hq.at e1 (show i < 6 by omega)
    refine j_iload_n C0 d_Qu_indexOf_2 rfl (by rfl) ?_
    refine j_aload_n C0 d_Qu_indexOf_3 rfl (by rfl) ?_
    refine j_getf C0 d_Qu_indexOf_4 fl_Qu_17 (by (repeat (first | rw [jset_s] | rw [jset_n (by omega)] | rw [reH_0] | rw [reH_1] | rw [reH_2] | rw [reH_n (by omega)])) <;> first | rfl | assumption) (by rfl) ?_
    refine j_icmp_ge C0 d_Qu_indexOf_7 (tgt := 31) (by decide) (fun c_7 => ?_) (fun c_7 => ?_)
    · exact absurd c_7 (nI_ge hi (by omega))
    · refine j_aload_n C0 d_Qu_indexOf_10 rfl (by rfl) ?_
      refine j_getf C0 d_Qu_indexOf_11 fl_Qu_11 (by (repeat (first | rw [jset_s] | rw [jset_n (by omega)] | rw [reH_0] | rw [reH_1] | rw [reH_2] | rw [reH_n (by omega)])) <;> first | rfl | assumption) (by rfl) ?_
      refine j_iload_n C0 d_Qu_indexOf_14 rfl (by rfl) ?_
      refine j_aald C0 d_Qu_indexOf_15 (by (repeat (first | rw [jset_s] | rw [jset_n (by omega)] | rw [reH_0] | rw [reH_1] | rw [reH_2] | rw [reH_n (by omega)])) <;> first | rfl | assumption) rfl rfl (by omega) (by decide) hm ?_
      refine j_getf C0 d_Qu_indexOf_16 fl_Qu_22 (by (repeat (first | rw [jset_s] | rw [jset_n (by omega)] | rw [reH_0] | rw [reH_1] | rw [reH_2] | rw [reH_n (by omega)])) <;> first | rfl | assumption) (by rfl) ?_
      refine j_iload_n C0 d_Qu_indexOf_19 rfl (by rfl) ?_
      refine j_icmp_ne C0 d_Qu_indexOf_20 (tgt := 25) (by decide) (fun c_20 => ?_) (fun c_20 => ?_)
      · refine j_iinc C0 d_Qu_indexOf_25 (by rfl) (jinc _) (Nat.le_of_ble_eq_true rfl) ?_
        refine j_goto C0 d_Qu_indexOf_28 (tgt := 2) (by decide) ?_
        exact j_to (ih (by rw [hI, sG_n hi c_20])) rfl ⟨rfl, rfl, rfl, trivial⟩
      · refine j_iload_n C0 d_Qu_indexOf_23 rfl (by rfl) ?_
        exact j_iret C0 d_Qu_indexOf_24 rfl (by omega) (by omega) ⟨by rw [hI, sG_y hi c_20], rfl, rfl⟩
  · intro hI
    refine j_iload_n C0 d_Qu_indexOf_2 rfl (by rfl) ?_
    refine j_aload_n C0 d_Qu_indexOf_3 rfl (by rfl) ?_
    refine j_getf C0 d_Qu_indexOf_4 fl_Qu_17 (by (repeat (first | rw [jset_s] | rw [jset_n (by omega)] | rw [reH_0] | rw [reH_1] | rw [reH_2] | rw [reH_n (by omega)])) <;> first | rfl | assumption) (by rfl) ?_
    refine j_icmp_ge C0 d_Qu_indexOf_7 (tgt := 31) (by decide) (fun c_7 => ?_) (fun c_7 => ?_)
    · refine j_iconst C0 d_Qu_indexOf_31 (v := -1) (by decide) ?_
      exact j_iret C0 d_Qu_indexOf_32 rfl (by omega) (by omega) ⟨by rw [hI, Nat.sub_self]; rfl, rfl, rfl⟩
    · exact absurd (nI_le (Nat.le_refl _) (by omega)) c_7
set_option maxHeartbeats 4000000 in
set_option maxRecDepth 100000 in
theorem c_Qu_costs (l : Launch) (E : jE) {h : jH} {sz a qn : Nat} {Q : Nat → jMsg} (hq : isQu E h a qn Q) : jC l M_Qu_costs 1 E [.ref a] h sz 0 0 (fun r h' sz' => r = some (.int (csQ Q qn)) ∧ h' = h ∧ sz' = sz) := by
  have e0 := hq.obj
  obtain ⟨f, e1⟩ := hq.arr
  have h6 := hq.le
  refine jC.of (by decide) (Nat.le_of_ble_eq_true rfl) ?_
  intro x C0 hx
  subst hx

  refine j_iconst C0 d_Qu_costs_0 (v := 0) (by decide) ?_
  refine j_istore_n C0 d_Qu_costs_1 rfl (Nat.le_of_ble_eq_true rfl) ?_
  refine j_iconst C0 d_Qu_costs_2 (v := 0) (by decide) ?_
  refine j_istore_n C0 d_Qu_costs_3 rfl (Nat.le_of_ble_eq_true rfl) ?_
  refine j_lv (lv' := [(0, .ref a), (1, .int (csQ Q 0)), (2, .int (nI 0))]) ⟨rfl, rfl, rfl, trivial⟩ ?_
  refine j_for qn (fun _ => h) (fun i => [(0, .ref a), (1, .int (csQ Q i)), (2, .int (nI i))]) ?_ ?_ 0 (Nat.zero_le qn)
  · intro i hi ih
    obtain ⟨m, hm, hm1, hm2, ⟨hm3, hm4, hm5⟩, -⟩ := hq.at e1 (show i < 6 by omega)
    refine j_iload_n C0 d_Qu_costs_4 rfl (by rfl) ?_
    refine j_aload_n C0 d_Qu_costs_5 rfl (by rfl) ?_
    refine j_getf C0 d_Qu_costs_6 fl_Qu_17 (by (repeat (first | rw [jset_s] | rw [jset_n (by omega)] | rw [reH_0] | rw [reH_1] | rw [reH_2] | rw [reH_n (by omega)])) <;> first | rfl | assumption) (by rfl) ?_
    refine j_icmp_ge C0 d_Qu_costs_9 (tgt := 45) (by decide) (fun c_9 => ?_) (fun c_9 => ?_)
    · exact absurd c_9 (nI_ge hi (by omega))
    · refine j_iload_n C0 d_Qu_costs_12 rfl (by rfl) ?_
      refine j_aload_n C0 d_Qu_costs_13 rfl (by rfl) ?_
      refine j_getf C0 d_Qu_costs_14 fl_Qu_11 (by (repeat (first | rw [jset_s] | rw [jset_n (by omega)] | rw [reH_0] | rw [reH_1] | rw [reH_2] | rw [reH_n (by omega)])) <;> first | rfl | assumption) (by rfl) ?_
      refine j_iload_n C0 d_Qu_costs_17 rfl (by rfl) ?_
      refine j_aald C0 d_Qu_costs_18 (by (repeat (first | rw [jset_s] | rw [jset_n (by omega)] | rw [reH_0] | rw [reH_1] | rw [reH_2] | rw [reH_n (by omega)])) <;> first | rfl | assumption) rfl rfl (by omega) (by decide) hm ?_
      refine j_getf C0 d_Qu_costs_19 fl_Qu_25 (by (repeat (first | rw [jset_s] | rw [jset_n (by omega)] | rw [reH_0] | rw [reH_1] | rw [reH_2] | rw [reH_n (by omega)])) <;> first | rfl | assumption) (by rfl) ?_
      refine j_aload_n C0 d_Qu_costs_22 rfl (by rfl) ?_
      refine j_getf C0 d_Qu_costs_23 fl_Qu_11 (by (repeat (first | rw [jset_s] | rw [jset_n (by omega)] | rw [reH_0] | rw [reH_1] | rw [reH_2] | rw [reH_n (by omega)])) <;> first | rfl | assumption) (by rfl) ?_
      refine j_iload_n C0 d_Qu_costs_26 rfl (by rfl) ?_
      refine j_aald C0 d_Qu_costs_27 (by (repeat (first | rw [jset_s] | rw [jset_n (by omega)] | rw [reH_0] | rw [reH_1] | rw [reH_2] | rw [reH_n (by omega)])) <;> first | rfl | assumption) rfl rfl (by omega) (by decide) hm ?_
      refine j_getf C0 d_Qu_costs_28 fl_Qu_26 (by (repeat (first | rw [jset_s] | rw [jset_n (by omega)] | rw [reH_0] | rw [reH_1] | rw [reH_2] | rw [reH_n (by omega)])) <;> first | rfl | assumption) (by rfl) ?_
      refine j_getf C0 d_Qu_costs_31 fl_Qu_30 (by (repeat (first | rw [jset_s] | rw [jset_n (by omega)] | rw [reH_0] | rw [reH_1] | rw [reH_2] | rw [reH_n (by omega)])) <;> first | rfl | assumption) (by rfl) ?_
      refine j_callSN C0 d_Qu_costs_34 cn_Qu_33 cn_Qu_33v (c_Ma_costOf _ E _ _) rfl rfl ⟨by decide, by decide⟩ ⟨by omega, by omega⟩ (Nat.le_of_ble_eq_true rfl) (fun r_ h_ z_ hp_ => ?_)
      obtain ⟨rfl, rfl, rfl⟩ := hp_
      refine j_iadd C0 d_Qu_costs_37 ?_
      refine j_istore_n C0 d_Qu_costs_38 rfl (Nat.le_of_ble_eq_true rfl) ?_
      refine j_iinc C0 d_Qu_costs_39 (by rfl) (jinc _) (Nat.le_of_ble_eq_true rfl) ?_
      refine j_goto C0 d_Qu_costs_42 (tgt := 4) (by decide) ?_
      exact j_to ih rfl ⟨rfl, rfl, rfl, trivial⟩
  · refine j_iload_n C0 d_Qu_costs_4 rfl (by rfl) ?_
    refine j_aload_n C0 d_Qu_costs_5 rfl (by rfl) ?_
    refine j_getf C0 d_Qu_costs_6 fl_Qu_17 (by (repeat (first | rw [jset_s] | rw [jset_n (by omega)] | rw [reH_0] | rw [reH_1] | rw [reH_2] | rw [reH_n (by omega)])) <;> first | rfl | assumption) (by rfl) ?_
    refine j_icmp_ge C0 d_Qu_costs_9 (tgt := 45) (by decide) (fun c_9 => ?_) (fun c_9 => ?_)
    · refine j_iload_n C0 d_Qu_costs_45 rfl (by rfl) ?_
      exact j_iret C0 d_Qu_costs_46 rfl (by omega) (by omega) ⟨rfl, rfl, rfl⟩
    · exact absurd (nI_le (Nat.le_refl _) (by omega)) c_9
set_option maxHeartbeats 4000000 in
set_option maxRecDepth 100000 in
theorem c_Qu_waitingRecipients (l : Launch) (E : jE) {h : jH} {sz a qn : Nat} {Q : Nat → jMsg} (hq : isQu E h a qn Q) : jC l M_Qu_waitingRecipients 1 E [.ref a] h sz 0 0 (fun r h' sz' => r = some (.int (wtQ Q qn)) ∧ h' = h ∧ sz' = sz) := by
  have e0 := hq.obj
  obtain ⟨f, e1⟩ := hq.arr
  have h6 := hq.le
  refine jC.of (by decide) (Nat.le_of_ble_eq_true rfl) ?_
  intro x C0 hx
  subst hx

  refine j_iconst C0 d_Qu_waitingRecipients_0 (v := 0) (by decide) ?_
  refine j_istore_n C0 d_Qu_waitingRecipients_1 rfl (Nat.le_of_ble_eq_true rfl) ?_
  refine j_iconst C0 d_Qu_waitingRecipients_2 (v := 0) (by decide) ?_
  refine j_istore_n C0 d_Qu_waitingRecipients_3 rfl (Nat.le_of_ble_eq_true rfl) ?_
  refine j_lv (lv' := [(0, .ref a), (1, .int (wtQ Q 0)), (2, .int (nI 0))]) ⟨rfl, rfl, rfl, trivial⟩ ?_
  refine j_for qn (fun _ => h) (fun i => [(0, .ref a), (1, .int (wtQ Q i)), (2, .int (nI i))]) ?_ ?_ 0 (Nat.zero_le qn)
  · intro i hi ih
    obtain ⟨m, hm, hm1, hm2, ⟨hm3, hm4⟩, -⟩ := hq.at e1 (show i < 6 by omega)
    refine j_iload_n C0 d_Qu_waitingRecipients_4 rfl (by rfl) ?_
    refine j_aload_n C0 d_Qu_waitingRecipients_5 rfl (by rfl) ?_
    refine j_getf C0 d_Qu_waitingRecipients_6 fl_Qu_17 (by (repeat (first | rw [jset_s] | rw [jset_n (by omega)] | rw [reH_0] | rw [reH_1] | rw [reH_2] | rw [reH_n (by omega)])) <;> first | rfl | assumption) (by rfl) ?_
    refine j_icmp_ge C0 d_Qu_waitingRecipients_9 (tgt := 34) (by decide) (fun c_9 => ?_) (fun c_9 => ?_)
    · exact absurd c_9 (nI_ge hi (by omega))
    · refine j_iload_n C0 d_Qu_waitingRecipients_12 rfl (by rfl) ?_
      refine j_aload_n C0 d_Qu_waitingRecipients_13 rfl (by rfl) ?_
      refine j_getf C0 d_Qu_waitingRecipients_14 fl_Qu_11 (by (repeat (first | rw [jset_s] | rw [jset_n (by omega)] | rw [reH_0] | rw [reH_1] | rw [reH_2] | rw [reH_n (by omega)])) <;> first | rfl | assumption) (by rfl) ?_
      refine j_iload_n C0 d_Qu_waitingRecipients_17 rfl (by rfl) ?_
      refine j_aald C0 d_Qu_waitingRecipients_18 (by (repeat (first | rw [jset_s] | rw [jset_n (by omega)] | rw [reH_0] | rw [reH_1] | rw [reH_2] | rw [reH_n (by omega)])) <;> first | rfl | assumption) rfl rfl (by omega) (by decide) hm ?_
      refine j_getf C0 d_Qu_waitingRecipients_19 fl_Qu_26 (by (repeat (first | rw [jset_s] | rw [jset_n (by omega)] | rw [reH_0] | rw [reH_1] | rw [reH_2] | rw [reH_n (by omega)])) <;> first | rfl | assumption) (by rfl) ?_
      refine j_iconst C0 d_Qu_waitingRecipients_22 (v := 1) (by decide) ?_
      refine j_callV C0 d_Qu_waitingRecipients_23 cl_Qu_37 cl_Qu_37v (c_Re_inState _ E 1 hm4) hm4.1 rfl rfl rfl ⟨by decide, by decide⟩ ⟨by omega, by omega⟩ (Nat.le_of_ble_eq_true rfl) (fun r_ h_ z_ hp_ => ?_)
      obtain ⟨rfl, rfl, rfl⟩ := hp_
      refine j_iadd C0 d_Qu_waitingRecipients_26 ?_
      refine j_istore_n C0 d_Qu_waitingRecipients_27 rfl (Nat.le_of_ble_eq_true rfl) ?_
      refine j_iinc C0 d_Qu_waitingRecipients_28 (by rfl) (jinc _) (Nat.le_of_ble_eq_true rfl) ?_
      refine j_goto C0 d_Qu_waitingRecipients_31 (tgt := 4) (by decide) ?_
      exact j_to ih rfl ⟨rfl, rfl, rfl, trivial⟩
  · refine j_iload_n C0 d_Qu_waitingRecipients_4 rfl (by rfl) ?_
    refine j_aload_n C0 d_Qu_waitingRecipients_5 rfl (by rfl) ?_
    refine j_getf C0 d_Qu_waitingRecipients_6 fl_Qu_17 (by (repeat (first | rw [jset_s] | rw [jset_n (by omega)] | rw [reH_0] | rw [reH_1] | rw [reH_2] | rw [reH_n (by omega)])) <;> first | rfl | assumption) (by rfl) ?_
    refine j_icmp_ge C0 d_Qu_waitingRecipients_9 (tgt := 34) (by decide) (fun c_9 => ?_) (fun c_9 => ?_)
    · refine j_iload_n C0 d_Qu_waitingRecipients_34 rfl (by rfl) ?_
      exact j_iret C0 d_Qu_waitingRecipients_35 rfl (by omega) (by omega) ⟨rfl, rfl, rfl⟩
    · exact absurd (nI_le (Nat.le_refl _) (by omega)) c_9
set_option maxHeartbeats 4000000 in
set_option maxRecDepth 100000 in
theorem c_Qu_copyFrom (l : Launch) (E : jE) {h : jH} {sz a qn : Nat} {Q : Nat → jMsg} {b n2 : Nat} {Q2 : Nat → jMsg} (hq : isQu E h a qn Q) (hq2 : isQu E h b n2 Q2) (hab : a + 26 ≤ b ∨ b + 26 ≤ a) (hb : ∀ i, i < n2 → (Q2 i).1 7 = 0 ∨ (Q2 i).1 7 = 1) : jC l M_Qu_copyFrom 2 E [.ref a, .ref b] h sz 0 0 (fun r h' sz' => r = none ∧ isQu E h' a n2 (cpQ Q Q2 n2) ∧ (∀ q, q < a ∨ a + 26 ≤ q → h' q = h q) ∧ sz' = sz) := by
  have h6 := hq2.le
  refine jC.of (by decide) (Nat.le_of_ble_eq_true rfl) ?_
  intro x C0 hx
  subst hx

  refine j_iconst C0 d_Qu_copyFrom_0 (v := 0) (by decide) ?_
  refine j_istore_n C0 d_Qu_copyFrom_1 rfl (Nat.le_of_ble_eq_true rfl) ?_
  refine j_lv (lv' := [(0, .ref a), (1, .ref b), (2, .int (nI 0))]) ⟨rfl, rfl, rfl, trivial⟩ ?_
  refine j_forR n2 (fun i hh => isQu E hh a qn (cpQ Q Q2 i) ∧ ∀ q, q < a ∨ a + 26 ≤ q → hh q = h q) (fun _ => sz) (fun _ => 0) (fun _ => 0) (fun i => [(0, .ref a), (1, .ref b), (2, .int (nI i))]) ?_ ?_ 0 h (Nat.zero_le n2) ⟨hq, fun q _ => rfl⟩
  · intro i hh hi hI ih
    obtain ⟨g1, g2⟩ := hI
    have k1 := hq2.keep (h' := hh) (fun q h1 h2 => g2 q (by omega))
    have e0 := k1.obj
    have e1 := g1.obj
    obtain ⟨f, e2⟩ := g1.arr
    obtain ⟨f2, e3⟩ := k1.arr
    obtain ⟨m, hm, hm1, hm2, hm3, hm4⟩ := g1.at e2 (show i < 6 by omega)
    obtain ⟨m2, hn, hn1, hn2, hn3, -⟩ := k1.at e3 (show i < 6 by omega)
    have eq : cpQ Q Q2 i i = Q i := by simp [cpQ]
    rw [eq] at hm3
    refine j_iload_n C0 d_Qu_copyFrom_2 rfl (by rfl) ?_
    refine j_aload_n C0 d_Qu_copyFrom_3 rfl (by rfl) ?_
    refine j_getf C0 d_Qu_copyFrom_4 fl_Qu_17 (by (repeat (first | rw [jset_s] | rw [jset_n (by omega)] | rw [reH_0] | rw [reH_1] | rw [reH_2] | rw [reH_n (by omega)])) <;> first | rfl | assumption) (by rfl) ?_
    refine j_icmp_ge C0 d_Qu_copyFrom_7 (tgt := 31) (by decide) (fun c_7 => ?_) (fun c_7 => ?_)
    · exact absurd c_7 (nI_ge hi (by omega))
    · refine j_aload_n C0 d_Qu_copyFrom_10 rfl (by rfl) ?_
      refine j_getf C0 d_Qu_copyFrom_11 fl_Qu_11 (by (repeat (first | rw [jset_s] | rw [jset_n (by omega)] | rw [reH_0] | rw [reH_1] | rw [reH_2] | rw [reH_n (by omega)])) <;> first | rfl | assumption) (by rfl) ?_
      refine j_iload_n C0 d_Qu_copyFrom_14 rfl (by rfl) ?_
      refine j_aald C0 d_Qu_copyFrom_15 (by (repeat (first | rw [jset_s] | rw [jset_n (by omega)] | rw [reH_0] | rw [reH_1] | rw [reH_2] | rw [reH_n (by omega)])) <;> first | rfl | assumption) rfl rfl (by omega) (by decide) hm ?_
      refine j_aload_n C0 d_Qu_copyFrom_16 rfl (by rfl) ?_
      refine j_getf C0 d_Qu_copyFrom_17 fl_Qu_11 (by (repeat (first | rw [jset_s] | rw [jset_n (by omega)] | rw [reH_0] | rw [reH_1] | rw [reH_2] | rw [reH_n (by omega)])) <;> first | rfl | assumption) (by rfl) ?_
      refine j_iload_n C0 d_Qu_copyFrom_20 rfl (by rfl) ?_
      refine j_aald C0 d_Qu_copyFrom_21 (by (repeat (first | rw [jset_s] | rw [jset_n (by omega)] | rw [reH_0] | rw [reH_1] | rw [reH_2] | rw [reH_n (by omega)])) <;> first | rfl | assumption) rfl rfl (by omega) (by decide) hn ?_
      refine j_callV C0 d_Qu_copyFrom_22 cl_Qu_41 cl_Qu_41v (c_Me_copyFrom _ E hm3 hn3 (by omega) (hb i hi)) hm3.1 rfl rfl rfl ⟨by decide, by decide⟩ ⟨by omega, by omega⟩ (Nat.le_of_ble_eq_true rfl) (fun r_ h_ z_ hp_ => ?_)
      obtain ⟨rfl, rfl, rfl⟩ := hp_
      refine j_iinc C0 d_Qu_copyFrom_25 (by rfl) (jinc _) (Nat.le_of_ble_eq_true rfl) ?_
      refine j_goto C0 d_Qu_copyFrom_28 (tgt := 2) (by decide) ?_
      refine j_lv (lv' := [(0, .ref a), (1, .ref b), (2, .int (nI (i + 1)))]) ⟨rfl, rfl, rfl, trivial⟩ ?_
      refine ih _ ⟨?_, fun q hq => by rw [meH_n (by omega)]; exact g2 q hq⟩
      rw [← cpQ_s]
      exact hm4 _ _ (meH_is hn3.2.2.2.2) (fun q hq => meH_n hq)
  · intro hh hI
    obtain ⟨g1, g2⟩ := hI
    have k1 := hq2.keep (h' := hh) (fun q h1 h2 => g2 q (by omega))
    have e0 := k1.obj
    have e1 := g1.obj
    refine j_iload_n C0 d_Qu_copyFrom_2 rfl (by rfl) ?_
    refine j_aload_n C0 d_Qu_copyFrom_3 rfl (by rfl) ?_
    refine j_getf C0 d_Qu_copyFrom_4 fl_Qu_17 (by (repeat (first | rw [jset_s] | rw [jset_n (by omega)] | rw [reH_0] | rw [reH_1] | rw [reH_2] | rw [reH_n (by omega)])) <;> first | rfl | assumption) (by rfl) ?_
    refine j_icmp_ge C0 d_Qu_copyFrom_7 (tgt := 31) (by decide) (fun c_7 => ?_) (fun c_7 => ?_)
    · refine j_aload_n C0 d_Qu_copyFrom_31 rfl (by rfl) ?_
      refine j_aload_n C0 d_Qu_copyFrom_32 rfl (by rfl) ?_
      refine j_getf C0 d_Qu_copyFrom_33 fl_Qu_17 (by (repeat (first | rw [jset_s] | rw [jset_n (by omega)] | rw [reH_0] | rw [reH_1] | rw [reH_2] | rw [reH_n (by omega)])) <;> first | rfl | assumption) (by rfl) ?_
      refine j_putf C0 d_Qu_copyFrom_36 fp_Qu_17 (by (repeat (first | rw [jset_s] | rw [jset_n (by omega)] | rw [reH_0] | rw [reH_1] | rw [reH_2] | rw [reH_n (by omega)])) <;> first | rfl | assumption) (Nat.le_of_ble_eq_true rfl) (by rfl) (by rfl) ?_
      exact j_vret C0 d_Qu_copyFrom_39 rfl (by omega) (by omega) ⟨rfl, g1.size h6, fun q hq => by rw [jset_n (by omega)]; exact g2 q hq, rfl⟩
    · exact absurd (nI_le (Nat.le_refl _) (by omega)) c_7
