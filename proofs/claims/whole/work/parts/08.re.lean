theorem jinc (a : Nat) : nI a + Int32.ofInt 1 = nI (a + 1) := nI_1 a
section JLoop
variable {x : jX} {M : jM} {E : jE} {Q : State → Prop} {sz ce sl pc : Nat} {st : List Value}
theorem j_to {h h' : jH} {lv lv' : List (Nat × Value)} (kk : jJ x M E Q h' sz ce sl lv' pc st) (e : h = h') (hs : jSub lv lv') : jJ x M E Q h sz ce sl lv pc st := by
  subst e
  exact j_lv hs kk
theorem j_for (n : Nat) (h : Nat → jH) (lv : Nat → List (Nat × Value)) (step : ∀ i, i < n → jJ x M E Q (h (i + 1)) sz ce sl (lv (i + 1)) pc st → jJ x M E Q (h i) sz ce sl (lv i) pc st) (done : jJ x M E Q (h n) sz ce sl (lv n) pc st) : ∀ i, i ≤ n → jJ x M E Q (h i) sz ce sl (lv i) pc st := by
  intro i hi
  obtain ⟨k, rfl⟩ : ∃ k, n = i + k := ⟨n - i, by omega⟩
  induction k generalizing i with
  | zero => exact done
  | succ k ih =>
    refine step i (by omega) ?_
    have e : i + (k + 1) = (i + 1) + k := by omega
    exact ih (i + 1) (fun j hj hk => step j (by omega) hk) (by rw [e] at done; exact done) (by omega)
theorem j_forI (n : Nat) (I : Nat → Prop) (h : Nat → jH) (lv : Nat → List (Nat × Value)) (step : ∀ i, i < n → I i → (I (i + 1) → jJ x M E Q (h (i + 1)) sz ce sl (lv (i + 1)) pc st) → jJ x M E Q (h i) sz ce sl (lv i) pc st) (done : I n → jJ x M E Q (h n) sz ce sl (lv n) pc st) : ∀ i, i ≤ n → I i → jJ x M E Q (h i) sz ce sl (lv i) pc st := by
  intro i hi
  obtain ⟨k, rfl⟩ : ∃ k, n = i + k := ⟨n - i, by omega⟩
  induction k generalizing i with
  | zero => exact done
  | succ k ih =>
    intro hI
    refine step i (by omega) hI ?_
    have e : i + (k + 1) = (i + 1) + k := by omega
    exact ih (i + 1) (fun j hj hI hk => step j (by omega) hI hk) (by rw [e] at done; exact done) (by omega)
end JLoop
/-- how many of the first n places of f hold v -/
def cnt (f : Nat → Int32) (v : Int32) : Nat → Nat
  | 0 => 0
  | n + 1 => cnt f v n + (if f n = v then 1 else 0)
theorem cnt_y {f : Nat → Int32} {v : Int32} {i : Nat} (h : f i = v) : cnt f v (i + 1) = cnt f v i + 1 := by simp [cnt, h]
theorem cnt_n {f : Nat → Int32} {v : Int32} {i : Nat} (h : ¬ f i = v) : cnt f v (i + 1) = cnt f v i := by simp [cnt, h]
theorem cnt_le (f : Nat → Int32) (v : Int32) : ∀ n, cnt f v n ≤ n
  | 0 => Nat.le_refl 0
  | n + 1 => by
    have := cnt_le f v n
    simp only [cnt]
    split <;> omega
/-- Recipients at a: its object, its two arrays -/
def isRe (E : jE) (h : jH) (a n : Nat) (ad st : Nat → Int32) : Prop := h a = some (jO 4 [.ref (a + 1), .ref (a + 2), .int (nI n)]) ∧ h (a + 1) = some (jI E 4 ad) ∧ h (a + 2) = some (jI E 4 st) ∧ n ≤ 4
def reH (E : jE) (h : jH) (a n : Nat) (ad st : Nat → Int32) : jH := fun q => if q = a then some (jO 4 [.ref (a + 1), .ref (a + 2), .int (nI n)]) else if q = a + 1 then some (jI E 4 ad) else if q = a + 2 then some (jI E 4 st) else h q
theorem reH_0 {E : jE} {h : jH} {a n : Nat} {ad st : Nat → Int32} : reH E h a n ad st a = some (jO 4 [.ref (a + 1), .ref (a + 2), .int (nI n)]) := if_pos rfl
theorem reH_1 {E : jE} {h : jH} {a n : Nat} {ad st : Nat → Int32} : reH E h a n ad st (a + 1) = some (jI E 4 ad) := by simp [reH]
theorem reH_2 {E : jE} {h : jH} {a n : Nat} {ad st : Nat → Int32} : reH E h a n ad st (a + 2) = some (jI E 4 st) := by simp [reH]
theorem reH_n {E : jE} {h : jH} {a n q : Nat} {ad st : Nat → Int32} (hq : q < a ∨ a + 3 ≤ q) : reH E h a n ad st q = h q := by
  unfold reH
  rw [if_neg (by omega), if_neg (by omega), if_neg (by omega)]
theorem reH_is {E : jE} {h : jH} {a n : Nat} {ad st : Nat → Int32} (hn : n ≤ 4) : isRe E (reH E h a n ad st) a n ad st := ⟨reH_0, reH_1, reH_2, hn⟩
theorem isRe.eq {E : jE} {h : jH} {a n : Nat} {ad st : Nat → Int32} (hr : isRe E h a n ad st) : h = reH E h a n ad st := by
  funext q
  unfold reH
  by_cases h0 : q = a
  · subst h0; rw [if_pos rfl]; exact hr.1
  · rw [if_neg h0]
    by_cases h1 : q = a + 1
    · subst h1; rw [if_pos rfl]; exact hr.2.1
    · rw [if_neg h1]
      by_cases h2 : q = a + 2
      · subst h2; rw [if_pos rfl]; exact hr.2.2.1
      · rw [if_neg h2]
theorem reH_s0 {E : jE} {h : jH} {a n m : Nat} {ad st : Nat → Int32} : jset (reH E h a n ad st) a (jO 4 [.ref (a + 1), .ref (a + 2), .int (nI m)]) = reH E h a m ad st := by
  funext q
  unfold jset reH
  by_cases h0 : q = a <;> simp [h0]
theorem reH_s1 {E : jE} {h : jH} {a n : Nat} {ad st f : Nat → Int32} : jset (reH E h a n ad st) (a + 1) (jI E 4 f) = reH E h a n f st := by
  funext q
  unfold jset reH
  by_cases h0 : q = a + 1 <;> simp [h0]
theorem reH_s2 {E : jE} {h : jH} {a n : Nat} {ad st f : Nat → Int32} : jset (reH E h a n ad st) (a + 2) (jI E 4 f) = reH E h a n ad f := by
  funext q
  unfold jset reH
  by_cases h0 : q = a + 2 <;> simp [h0]
set_option maxHeartbeats 4000000 in
set_option maxRecDepth 100000 in
theorem c_Re_inState (l : Launch) (E : jE) {h : jH} {sz a n : Nat} {ad st : Nat → Int32} (v : Int32) (hr : isRe E h a n ad st) : jC l M_Re_inState 0 E [.ref a, .int v] h sz 0 0 (fun r h' sz' => r = some (.int (nI (cnt st v n))) ∧ h' = h ∧ sz' = sz) := by
  obtain ⟨e0, e1, e2, hn⟩ := hr
  refine jC.of (by decide) (Nat.le_of_ble_eq_true rfl) ?_
  intro x C0 hx
  subst hx

  refine j_iconst C0 d_Re_inState_0 (v := 0) (by decide) ?_
  refine j_istore_n C0 d_Re_inState_1 rfl (Nat.le_of_ble_eq_true rfl) ?_
  refine j_iconst C0 d_Re_inState_2 (v := 0) (by decide) ?_
  refine j_istore_n C0 d_Re_inState_3 rfl (Nat.le_of_ble_eq_true rfl) ?_
  refine j_lv (lv' := [(0, .ref a), (1, .int v), (2, .int (nI (cnt st v 0))), (3, .int (nI 0))]) ⟨rfl, rfl, rfl, rfl, trivial⟩ ?_
  refine j_for n (fun _ => h) (fun i => [(0, .ref a), (1, .int v), (2, .int (nI (cnt st v i))), (3, .int (nI i))]) ?_ ?_ 0 (Nat.zero_le n)
  · intro i hi ih
    refine j_iload_n C0 d_Re_inState_4 rfl (by rfl) ?_
    refine j_aload_n C0 d_Re_inState_5 rfl (by rfl) ?_
    refine j_getf C0 d_Re_inState_6 fl_Re_18 (by (repeat (first | rw [jset_s] | rw [jset_n (by omega)] | rw [reH_0] | rw [reH_1] | rw [reH_2] | rw [reH_n (by omega)])) <;> first | rfl | assumption) (by rfl) ?_
    refine j_icmp_ge C0 d_Re_inState_9 (tgt := 31) (by decide) (fun c_9 => ?_) (fun c_9 => ?_)
    · exact absurd c_9 (nI_ge hi (by omega))
    · refine j_aload_n C0 d_Re_inState_12 rfl (by rfl) ?_
      refine j_getf C0 d_Re_inState_13 fl_Re_15 (by (repeat (first | rw [jset_s] | rw [jset_n (by omega)] | rw [reH_0] | rw [reH_1] | rw [reH_2] | rw [reH_n (by omega)])) <;> first | rfl | assumption) (by rfl) ?_
      refine j_iload_n C0 d_Re_inState_16 rfl (by rfl) ?_
      refine j_iald C0 d_Re_inState_17 (by (repeat (first | rw [jset_s] | rw [jset_n (by omega)] | rw [reH_0] | rw [reH_1] | rw [reH_2] | rw [reH_n (by omega)])) <;> first | rfl | assumption) rfl (by omega) (by decide) ?_
      refine j_iload_n C0 d_Re_inState_18 rfl (by rfl) ?_
      refine j_icmp_ne C0 d_Re_inState_19 (tgt := 25) (by decide) (fun c_19 => ?_) (fun c_19 => ?_)
      · refine j_iinc C0 d_Re_inState_25 (by rfl) (jinc _) (Nat.le_of_ble_eq_true rfl) ?_
        refine j_goto C0 d_Re_inState_28 (tgt := 4) (by decide) ?_
        first | exact j_to ih rfl ⟨rfl, rfl, by rw [cnt_n c_19]; rfl, rfl, trivial⟩ | exact j_to ih rfl ⟨rfl, rfl, by rw [cnt_y c_19]; rfl, rfl, trivial⟩
      · refine j_iinc C0 d_Re_inState_22 (by rfl) (jinc _) (Nat.le_of_ble_eq_true rfl) ?_
        refine j_iinc C0 d_Re_inState_25 (by rfl) (jinc _) (Nat.le_of_ble_eq_true rfl) ?_
        refine j_goto C0 d_Re_inState_28 (tgt := 4) (by decide) ?_
        first | exact j_to ih rfl ⟨rfl, rfl, by rw [cnt_n c_19]; rfl, rfl, trivial⟩ | exact j_to ih rfl ⟨rfl, rfl, by rw [cnt_y c_19]; rfl, rfl, trivial⟩
  · refine j_iload_n C0 d_Re_inState_4 rfl (by rfl) ?_
    refine j_aload_n C0 d_Re_inState_5 rfl (by rfl) ?_
    refine j_getf C0 d_Re_inState_6 fl_Re_18 (by (repeat (first | rw [jset_s] | rw [jset_n (by omega)] | rw [reH_0] | rw [reH_1] | rw [reH_2] | rw [reH_n (by omega)])) <;> first | rfl | assumption) (by rfl) ?_
    refine j_icmp_ge C0 d_Re_inState_9 (tgt := 31) (by decide) (fun c_9 => ?_) (fun c_9 => ?_)
    · refine j_iload_n C0 d_Re_inState_31 rfl (by rfl) ?_
      exact j_iret C0 d_Re_inState_32 rfl (by omega) (by omega) ⟨rfl, rfl, rfl⟩
    · exact absurd (nI_le (Nat.le_refl _) (by omega)) c_9
/-- what failWaiting, copyFrom, stateOf, asBits, addRising compute -/
def fw (st : Nat → Int32) (i : Nat) : Nat → Int32 := fun j => if j < i ∧ st j = 1 then 3 else st j
theorem fw_0 (st : Nat → Int32) : fw st 0 = st := by funext j; simp [fw]
theorem fw_i (st : Nat → Int32) (i : Nat) : fw st i i = st i := by simp [fw]
theorem fw_y {st : Nat → Int32} {i : Nat} (h : st i = 1) : upd (fw st i) i 3 = fw st (i + 1) := by
  funext j
  unfold upd fw
  by_cases hj : j = i
  · subst hj; simp [h]
  · rw [if_neg hj]
    by_cases hl : j < i
    · simp [hl, show j < i + 1 by omega]
    · simp [hl, show ¬ j < i + 1 by omega]
theorem fw_n {st : Nat → Int32} {i : Nat} (h : ¬ st i = 1) : fw st i = fw st (i + 1) := by
  funext j
  unfold fw
  by_cases hj : j = i
  · subst hj; simp [h]
  · by_cases hl : j < i
    · simp [hl, show j < i + 1 by omega]
    · simp [hl, show ¬ j < i + 1 by omega]
def cp (f g : Nat → Int32) (i : Nat) : Nat → Int32 := fun j => if j < i then g j else f j
theorem cp_0 (f g : Nat → Int32) : cp f g 0 = f := by funext j; simp [cp]
theorem cp_s (f g : Nat → Int32) (i : Nat) : upd (cp f g i) i (g i) = cp f g (i + 1) := by
  funext j
  unfold upd cp
  by_cases hj : j = i
  · subst hj; simp
  · rw [if_neg hj]
    by_cases hl : j < i
    · simp [hl, show j < i + 1 by omega]
    · simp [hl, show ¬ j < i + 1 by omega]
def sF (ad st : Nat → Int32) (v : Int32) : Nat → Nat → Int32
  | _, 0 => 0
  | i, k + 1 => if ad i = v then st i else sF ad st v (i + 1) k
theorem sF_y {ad st : Nat → Int32} {v : Int32} {i n : Nat} (hi : i < n) (h : ad i = v) : sF ad st v i (n - i) = st i := by
  rw [show n - i = (n - (i + 1)) + 1 by omega]
  simp [sF, h]
theorem sF_n {ad st : Nat → Int32} {v : Int32} {i n : Nat} (hi : i < n) (h : ¬ ad i = v) : sF ad st v i (n - i) = sF ad st v (i + 1) (n - (i + 1)) := by
  rw [show n - i = (n - (i + 1)) + 1 by omega]
  simp [sF, h]
def bm (ad : Nat → Int32) : Nat → Nat
  | 0 => 0
  | n + 1 => bm ad n ||| 2 ^ (ad n).toNatClampNeg
theorem bm_lt {ad : Nat → Int32} : ∀ n, (∀ i, i < n → (ad i).toNatClampNeg < 64) → bm ad n < 2 ^ 64
  | 0, _ => by show 0 < 2 ^ 64; decide
  | n + 1, h => Nat.or_lt_two_pow (bm_lt n (fun i hi => h i (by omega))) (Nat.pow_lt_pow_right (by decide) (h n (by omega)))
/-- places taken by those below i that P names, from place n on -/
def cP (P : Nat → Bool) : Nat → Nat
  | 0 => 0
  | i + 1 => cP P i + (if P i then 1 else 0)
def aP (P : Nat → Bool) (n : Nat) (f : Nat → Int32) (g : Nat → Int32) : Nat → Nat → Int32
  | 0 => f
  | i + 1 => if P i then upd (aP P n f g i) (n + cP P i) (g i) else aP P n f g i
theorem cP_le (P : Nat → Bool) : ∀ {i j : Nat}, i ≤ j → cP P i ≤ cP P j := by
  intro i j h
  induction j with
  | zero => rw [show i = 0 by omega]; exact Nat.le_refl _
  | succ j ih =>
    by_cases hij : i = j + 1
    · rw [hij]; exact Nat.le_refl _
    · have := ih (by omega)
      simp only [cP]
      omega
theorem cP_lt {P : Nat → Bool} {i j : Nat} (hi : i < j) (hp : P i = true) : cP P i + 1 ≤ cP P j := by
  have := cP_le P (show i + 1 ≤ j from hi)
  simp only [cP, hp, if_true] at this
  exact this
theorem reH_reH {E : jE} {h : jH} {a n n' : Nat} {ad st ad' st' : Nat → Int32} : reH E (reH E h a n ad st) a n' ad' st' = reH E h a n' ad' st' := by
  funext q
  unfold reH
  by_cases h0 : q = a
  · simp [h0]
  · by_cases h1 : q = a + 1
    · simp [h1]
    · by_cases h2 : q = a + 2
      · simp [h2]
      · simp [h0, h1, h2]
theorem jshl1 {k : Nat} (hk : k < 64) : (1 : Int64) <<< ((nI k).toInt64 &&& 63) = lN (2 ^ k) := by
  have := wb_shl 1 hk
  rw [Nat.one_mul] at this
  exact this
theorem lN_z {m : Nat} (h : m < 2 ^ 64) : lN m = 0 ↔ m = 0 := by
  constructor
  · intro e
    have := wb_tn h
    rw [e] at this
    exact this.symm
  · intro e; subst e; rfl
theorem lcmp_z {x : Int64} : lg_cmp x 0 = 0 ↔ x = 0 := by
  unfold lg_cmp
  constructor
  · intro h
    split at h
    · exact absurd h (by decide)
    · split at h
      · assumption
      · exact absurd h (by decide)
  · intro h
    subst h
    rw [if_neg (by decide), if_pos rfl]
theorem bit_z {m k : Nat} : m &&& 2 ^ k = 0 ↔ m.testBit k = false := by
  constructor
  · intro h
    have := congrArg (fun n => n.testBit k) h
    simpa [Nat.testBit_and, Nat.testBit_two_pow] using this
  · intro h
    apply Nat.eq_of_testBit_eq
    intro i
    rw [Nat.testBit_and, Nat.testBit_two_pow, Nat.zero_testBit]
    by_cases hi : k = i
    · subst hi; simp [h]
    · simp [hi]
theorem jbit {m k : Nat} (hm : m < 2 ^ 64) (hk : k < 64) : lg_cmp (lN m &&& lN (2 ^ k)) 0 = 0 ↔ m.testBit k = false := by
  rw [lcmp_z, wb_and hm (Nat.pow_lt_pow_right (by decide) hk), lN_z (Nat.and_lt_two_pow _ (Nat.pow_lt_pow_right (by decide) hk)), bit_z]
set_option maxHeartbeats 4000000 in
set_option maxRecDepth 100000 in
theorem c_Re_init (l : Launch) (E : jE) {h : jH} {sz a : Nat} (e0 : h a = some (jO 4 [.null, .null, .int 0])) (hz : sz = a + 1) : jC l M_Re_init 1 E [.ref a] h sz 2 8 (fun r h' sz' => r = none ∧ h' = reH E h a 0 (fun _ => 0) (fun _ => 0) ∧ sz' = a + 3) := by
  subst hz
  refine jC.of (by decide) (Nat.le_of_ble_eq_true rfl) ?_
  intro x C0 hx
  subst hx

  refine j_aload_n C0 d_Re_init_0 rfl (by rfl) ?_
  refine j_obj C0 d_Re_init_1 w_1_71 w_1_18 w_1_19 (by omega) (Nat.le_of_ble_eq_true rfl) ?_
  refine j_aload_n C0 d_Re_init_4 rfl (by rfl) ?_
  refine j_iconst C0 d_Re_init_5 (v := 4) (by decide) ?_
  refine j_newi C0 (N := 4) d_Re_init_6 w_1_59 rfl (by decide) (by omega) (by omega) ?_
  refine j_putF C0 d_Re_init_8 fp_Re_9 (by (repeat (first | rw [jset_s] | rw [jset_n (by omega)] | rw [reH_0] | rw [reH_1] | rw [reH_2] | rw [reH_n (by omega)])) <;> first | rfl | assumption) (Nat.le_of_ble_eq_true rfl) (by rfl) (by rfl) rfl ?_
  refine j_aload_n C0 d_Re_init_11 rfl (by rfl) ?_
  refine j_iconst C0 d_Re_init_12 (v := 4) (by decide) ?_
  refine j_newi C0 (N := 4) d_Re_init_13 w_1_59 rfl (by decide) (by omega) (by omega) ?_
  refine j_putF C0 d_Re_init_15 fp_Re_15 (by (repeat (first | rw [jset_s] | rw [jset_n (by omega)] | rw [reH_0] | rw [reH_1] | rw [reH_2] | rw [reH_n (by omega)])) <;> first | rfl | assumption) (Nat.le_of_ble_eq_true rfl) (by rfl) (by rfl) rfl ?_
  refine j_aload_n C0 d_Re_init_18 rfl (by rfl) ?_
  refine j_iconst C0 d_Re_init_19 (v := 0) (by decide) ?_
  refine j_putf C0 d_Re_init_20 fp_Re_18 (by (repeat (first | rw [jset_s] | rw [jset_n (by omega)] | rw [reH_0] | rw [reH_1] | rw [reH_2] | rw [reH_n (by omega)])) <;> first | rfl | assumption) (Nat.le_of_ble_eq_true rfl) (by rfl) (by rfl) ?_
  exact j_vret C0 d_Re_init_23 rfl (by omega) (by omega) ⟨rfl, by
      funext q
      unfold jset reH
      by_cases h0 : q = a
      · simp [h0]; rfl
      · by_cases h1 : q = a + 1
        · simp [h1]
        · by_cases h2 : q = a + 2
          · simp [h2]
          · simp [h0, h1, h2], rfl⟩
set_option maxHeartbeats 4000000 in
set_option maxRecDepth 100000 in
theorem c_Re_add (l : Launch) (E : jE) {h : jH} {sz a n : Nat} {ad st : Nat → Int32} (v : Int32) (hr : isRe E h a n ad st) (h4 : n < 4) : jC l M_Re_add 0 E [.ref a, .int v] h sz 0 0 (fun r h' sz' => r = none ∧ h' = reH E h a (n + 1) (upd ad n v) (upd st n 1) ∧ sz' = sz) := by
  refine jC.of (by decide) (Nat.le_of_ble_eq_true rfl) ?_
  intro x C0 hx
  subst hx

  refine j_to (h' := reH E h a n ad st) (lv' := [(0, .ref a), (1, .int v)]) ?_ hr.eq ⟨rfl, rfl, trivial⟩
  refine j_aload_n C0 d_Re_add_0 rfl (by rfl) ?_
  refine j_getf C0 d_Re_add_1 fl_Re_18 (by (repeat (first | rw [jset_s] | rw [jset_n (by omega)] | rw [reH_0] | rw [reH_1] | rw [reH_2] | rw [reH_n (by omega)])) <;> first | rfl | assumption) (by rfl) ?_
  refine j_iconst C0 d_Re_add_4 (v := 4) (by decide) ?_
  refine j_icmp_ge C0 d_Re_add_5 (tgt := 38) (by decide) (fun c_5 => ?_) (fun c_5 => ?_)
  · exact absurd c_5 (nI_ge (b := 4) h4 (by decide))
  · refine j_aload_n C0 d_Re_add_8 rfl (by rfl) ?_
    refine j_getf C0 d_Re_add_9 fl_Re_9 (by (repeat (first | rw [jset_s] | rw [jset_n (by omega)] | rw [reH_0] | rw [reH_1] | rw [reH_2] | rw [reH_n (by omega)])) <;> first | rfl | assumption) (by rfl) ?_
    refine j_aload_n C0 d_Re_add_12 rfl (by rfl) ?_
    refine j_getf C0 d_Re_add_13 fl_Re_18 (by (repeat (first | rw [jset_s] | rw [jset_n (by omega)] | rw [reH_0] | rw [reH_1] | rw [reH_2] | rw [reH_n (by omega)])) <;> first | rfl | assumption) (by rfl) ?_
    refine j_iload_n C0 d_Re_add_16 rfl (by rfl) ?_
    refine j_iast C0 d_Re_add_17 (by (repeat (first | rw [jset_s] | rw [jset_n (by omega)] | rw [reH_0] | rw [reH_1] | rw [reH_2] | rw [reH_n (by omega)])) <;> first | rfl | assumption) rfl (by omega) (by decide) ?_
    rw [reH_s1]
    refine j_aload_n C0 d_Re_add_18 rfl (by rfl) ?_
    refine j_getf C0 d_Re_add_19 fl_Re_15 (by (repeat (first | rw [jset_s] | rw [jset_n (by omega)] | rw [reH_0] | rw [reH_1] | rw [reH_2] | rw [reH_n (by omega)])) <;> first | rfl | assumption) (by rfl) ?_
    refine j_aload_n C0 d_Re_add_22 rfl (by rfl) ?_
    refine j_getf C0 d_Re_add_23 fl_Re_18 (by (repeat (first | rw [jset_s] | rw [jset_n (by omega)] | rw [reH_0] | rw [reH_1] | rw [reH_2] | rw [reH_n (by omega)])) <;> first | rfl | assumption) (by rfl) ?_
    refine j_iconst C0 d_Re_add_26 (v := 1) (by decide) ?_
    refine j_iast C0 d_Re_add_27 (by (repeat (first | rw [jset_s] | rw [jset_n (by omega)] | rw [reH_0] | rw [reH_1] | rw [reH_2] | rw [reH_n (by omega)])) <;> first | rfl | assumption) rfl (by omega) (by decide) ?_
    rw [reH_s2]
    refine j_aload_n C0 d_Re_add_28 rfl (by rfl) ?_
    refine j_dup C0 d_Re_add_29 rfl ?_
    refine j_getf C0 d_Re_add_30 fl_Re_18 (by (repeat (first | rw [jset_s] | rw [jset_n (by omega)] | rw [reH_0] | rw [reH_1] | rw [reH_2] | rw [reH_n (by omega)])) <;> first | rfl | assumption) (by rfl) ?_
    refine j_iconst C0 d_Re_add_33 (v := 1) (by decide) ?_
    refine j_iadd C0 d_Re_add_34 ?_
    refine j_putf C0 d_Re_add_35 fp_Re_18 (by (repeat (first | rw [jset_s] | rw [jset_n (by omega)] | rw [reH_0] | rw [reH_1] | rw [reH_2] | rw [reH_n (by omega)])) <;> first | rfl | assumption) (Nat.le_of_ble_eq_true rfl) (by rfl) (by rfl) ?_
    exact j_vret C0 d_Re_add_38 rfl (by omega) (by omega) ⟨rfl, by
        show jset _ _ (jO 4 [_, _, .int (nI n + 1)]) = _
        rw [nI_1, reH_s0], rfl⟩
set_option maxHeartbeats 4000000 in
set_option maxRecDepth 100000 in
theorem c_Re_failWaiting (l : Launch) (E : jE) {h : jH} {sz a n : Nat} {ad st : Nat → Int32} (hr : isRe E h a n ad st) : jC l M_Re_failWaiting 0 E [.ref a] h sz 0 0 (fun r h' sz' => r = some (.int (nI (cnt st 1 n))) ∧ h' = reH E h a n ad (fw st n) ∧ sz' = sz) := by
  refine jC.of (by decide) (Nat.le_of_ble_eq_true rfl) ?_
  intro x C0 hx
  subst hx

  refine j_iconst C0 d_Re_failWaiting_0 (v := 0) (by decide) ?_
  refine j_istore_n C0 d_Re_failWaiting_1 rfl (Nat.le_of_ble_eq_true rfl) ?_
  refine j_iconst C0 d_Re_failWaiting_2 (v := 0) (by decide) ?_
  refine j_istore_n C0 d_Re_failWaiting_3 rfl (Nat.le_of_ble_eq_true rfl) ?_
  have hn := hr.2.2.2
  refine j_to (h' := reH E h a n ad (fw st 0)) (lv' := [(0, .ref a), (1, .int (nI (cnt st 1 0))), (2, .int (nI 0))]) ?_ (by rw [fw_0]; exact hr.eq) ⟨rfl, rfl, rfl, trivial⟩
  refine j_for n (fun i => reH E h a n ad (fw st i)) (fun i => [(0, .ref a), (1, .int (nI (cnt st 1 i))), (2, .int (nI i))]) ?_ ?_ 0 (Nat.zero_le n)
  · intro i hi ih
    refine j_iload_n C0 d_Re_failWaiting_4 rfl (by rfl) ?_
    refine j_aload_n C0 d_Re_failWaiting_5 rfl (by rfl) ?_
    refine j_getf C0 d_Re_failWaiting_6 fl_Re_18 (by (repeat (first | rw [jset_s] | rw [jset_n (by omega)] | rw [reH_0] | rw [reH_1] | rw [reH_2] | rw [reH_n (by omega)])) <;> first | rfl | assumption) (by rfl) ?_
    refine j_icmp_ge C0 d_Re_failWaiting_9 (tgt := 38) (by decide) (fun c_9 => ?_) (fun c_9 => ?_)
    · exact absurd c_9 (nI_ge hi (by omega))
    · refine j_aload_n C0 d_Re_failWaiting_12 rfl (by rfl) ?_
      refine j_getf C0 d_Re_failWaiting_13 fl_Re_15 (by (repeat (first | rw [jset_s] | rw [jset_n (by omega)] | rw [reH_0] | rw [reH_1] | rw [reH_2] | rw [reH_n (by omega)])) <;> first | rfl | assumption) (by rfl) ?_
      refine j_iload_n C0 d_Re_failWaiting_16 rfl (by rfl) ?_
      refine j_iald C0 d_Re_failWaiting_17 (by (repeat (first | rw [jset_s] | rw [jset_n (by omega)] | rw [reH_0] | rw [reH_1] | rw [reH_2] | rw [reH_n (by omega)])) <;> first | rfl | assumption) rfl (by omega) (by decide) ?_
      rw [fw_i]
      refine j_iconst C0 d_Re_failWaiting_18 (v := 1) (by decide) ?_
      refine j_icmp_ne C0 d_Re_failWaiting_19 (tgt := 32) (by decide) (fun c_19 => ?_) (fun c_19 => ?_)
      · refine j_iinc C0 d_Re_failWaiting_32 (by rfl) (jinc _) (Nat.le_of_ble_eq_true rfl) ?_
        refine j_goto C0 d_Re_failWaiting_35 (tgt := 4) (by decide) ?_
        first | exact j_to ih (by rw [fw_n c_19]) ⟨rfl, by rw [cnt_n c_19]; rfl, rfl, trivial⟩ | exact j_to ih rfl ⟨rfl, by rw [cnt_y c_19]; rfl, rfl, trivial⟩
      · refine j_aload_n C0 d_Re_failWaiting_22 rfl (by rfl) ?_
        refine j_getf C0 d_Re_failWaiting_23 fl_Re_15 (by (repeat (first | rw [jset_s] | rw [jset_n (by omega)] | rw [reH_0] | rw [reH_1] | rw [reH_2] | rw [reH_n (by omega)])) <;> first | rfl | assumption) (by rfl) ?_
        refine j_iload_n C0 d_Re_failWaiting_26 rfl (by rfl) ?_
        refine j_iconst C0 d_Re_failWaiting_27 (v := 3) (by decide) ?_
        refine j_iast C0 d_Re_failWaiting_28 (by (repeat (first | rw [jset_s] | rw [jset_n (by omega)] | rw [reH_0] | rw [reH_1] | rw [reH_2] | rw [reH_n (by omega)])) <;> first | rfl | assumption) rfl (by omega) (by decide) ?_
        rw [reH_s2, fw_y c_19]
        refine j_iinc C0 d_Re_failWaiting_29 (by rfl) (jinc _) (Nat.le_of_ble_eq_true rfl) ?_
        refine j_iinc C0 d_Re_failWaiting_32 (by rfl) (jinc _) (Nat.le_of_ble_eq_true rfl) ?_
        refine j_goto C0 d_Re_failWaiting_35 (tgt := 4) (by decide) ?_
        first | exact j_to ih (by rw [fw_n c_19]) ⟨rfl, by rw [cnt_n c_19]; rfl, rfl, trivial⟩ | exact j_to ih rfl ⟨rfl, by rw [cnt_y c_19]; rfl, rfl, trivial⟩
  · refine j_iload_n C0 d_Re_failWaiting_4 rfl (by rfl) ?_
    refine j_aload_n C0 d_Re_failWaiting_5 rfl (by rfl) ?_
    refine j_getf C0 d_Re_failWaiting_6 fl_Re_18 (by (repeat (first | rw [jset_s] | rw [jset_n (by omega)] | rw [reH_0] | rw [reH_1] | rw [reH_2] | rw [reH_n (by omega)])) <;> first | rfl | assumption) (by rfl) ?_
    refine j_icmp_ge C0 d_Re_failWaiting_9 (tgt := 38) (by decide) (fun c_9 => ?_) (fun c_9 => ?_)
    · refine j_iload_n C0 d_Re_failWaiting_38 rfl (by rfl) ?_
      exact j_iret C0 d_Re_failWaiting_39 rfl (by omega) (by omega) ⟨rfl, rfl, rfl⟩
    · exact absurd (nI_le (Nat.le_refl _) (by omega)) c_9
set_option maxHeartbeats 4000000 in
set_option maxRecDepth 100000 in
theorem c_Re_stateOf (l : Launch) (E : jE) {h : jH} {sz a n : Nat} {ad st : Nat → Int32} (v : Int32) (hr : isRe E h a n ad st) : jC l M_Re_stateOf 0 E [.ref a, .int v] h sz 0 0 (fun r h' sz' => r = some (.int (sF ad st v 0 n)) ∧ h' = h ∧ sz' = sz) := by
  obtain ⟨e0, e1, e2, hn⟩ := hr
  refine jC.of (by decide) (Nat.le_of_ble_eq_true rfl) ?_
  intro x C0 hx
  subst hx

  refine j_iconst C0 d_Re_stateOf_0 (v := 0) (by decide) ?_
  refine j_istore_n C0 d_Re_stateOf_1 rfl (Nat.le_of_ble_eq_true rfl) ?_
  refine j_lv (lv' := [(0, .ref a), (1, .int v), (2, .int (nI 0))]) ⟨rfl, rfl, rfl, trivial⟩ ?_
  refine j_forI n (fun i => sF ad st v 0 n = sF ad st v i (n - i)) (fun _ => h) (fun i => [(0, .ref a), (1, .int v), (2, .int (nI i))]) ?_ ?_ 0 (Nat.zero_le n) rfl
  · intro i hi hI ih
    refine j_iload_n C0 d_Re_stateOf_2 rfl (by rfl) ?_
    refine j_aload_n C0 d_Re_stateOf_3 rfl (by rfl) ?_
    refine j_getf C0 d_Re_stateOf_4 fl_Re_18 (by (repeat (first | rw [jset_s] | rw [jset_n (by omega)] | rw [reH_0] | rw [reH_1] | rw [reH_2] | rw [reH_n (by omega)])) <;> first | rfl | assumption) (by rfl) ?_
    refine j_icmp_ge C0 d_Re_stateOf_7 (tgt := 33) (by decide) (fun c_7 => ?_) (fun c_7 => ?_)
    · exact absurd c_7 (nI_ge hi (by omega))
    · refine j_aload_n C0 d_Re_stateOf_10 rfl (by rfl) ?_
      refine j_getf C0 d_Re_stateOf_11 fl_Re_9 (by (repeat (first | rw [jset_s] | rw [jset_n (by omega)] | rw [reH_0] | rw [reH_1] | rw [reH_2] | rw [reH_n (by omega)])) <;> first | rfl | assumption) (by rfl) ?_
      refine j_iload_n C0 d_Re_stateOf_14 rfl (by rfl) ?_
      refine j_iald C0 d_Re_stateOf_15 (by (repeat (first | rw [jset_s] | rw [jset_n (by omega)] | rw [reH_0] | rw [reH_1] | rw [reH_2] | rw [reH_n (by omega)])) <;> first | rfl | assumption) rfl (by omega) (by decide) ?_
      refine j_iload_n C0 d_Re_stateOf_16 rfl (by rfl) ?_
      refine j_icmp_ne C0 d_Re_stateOf_17 (tgt := 27) (by decide) (fun c_17 => ?_) (fun c_17 => ?_)
      · refine j_iinc C0 d_Re_stateOf_27 (by rfl) (jinc _) (Nat.le_of_ble_eq_true rfl) ?_
        refine j_goto C0 d_Re_stateOf_30 (tgt := 2) (by decide) ?_
        exact j_to (ih (by rw [hI, sF_n hi c_17])) rfl ⟨rfl, rfl, rfl, trivial⟩
      · refine j_aload_n C0 d_Re_stateOf_20 rfl (by rfl) ?_
        refine j_getf C0 d_Re_stateOf_21 fl_Re_15 (by (repeat (first | rw [jset_s] | rw [jset_n (by omega)] | rw [reH_0] | rw [reH_1] | rw [reH_2] | rw [reH_n (by omega)])) <;> first | rfl | assumption) (by rfl) ?_
        refine j_iload_n C0 d_Re_stateOf_24 rfl (by rfl) ?_
        refine j_iald C0 d_Re_stateOf_25 (by (repeat (first | rw [jset_s] | rw [jset_n (by omega)] | rw [reH_0] | rw [reH_1] | rw [reH_2] | rw [reH_n (by omega)])) <;> first | rfl | assumption) rfl (by omega) (by decide) ?_
        exact j_iret C0 d_Re_stateOf_26 rfl (by omega) (by omega) ⟨by rw [hI, sF_y hi c_17], rfl, rfl⟩
  · intro hI
    refine j_iload_n C0 d_Re_stateOf_2 rfl (by rfl) ?_
    refine j_aload_n C0 d_Re_stateOf_3 rfl (by rfl) ?_
    refine j_getf C0 d_Re_stateOf_4 fl_Re_18 (by (repeat (first | rw [jset_s] | rw [jset_n (by omega)] | rw [reH_0] | rw [reH_1] | rw [reH_2] | rw [reH_n (by omega)])) <;> first | rfl | assumption) (by rfl) ?_
    refine j_icmp_ge C0 d_Re_stateOf_7 (tgt := 33) (by decide) (fun c_7 => ?_) (fun c_7 => ?_)
    · refine j_iconst C0 d_Re_stateOf_33 (v := 0) (by decide) ?_
      exact j_iret C0 d_Re_stateOf_34 rfl (by omega) (by omega) ⟨by rw [hI, Nat.sub_self]; rfl, rfl, rfl⟩
    · exact absurd (nI_le (Nat.le_refl _) (by omega)) c_7
set_option maxHeartbeats 4000000 in
set_option maxRecDepth 100000 in
theorem c_Re_asBits (l : Launch) (E : jE) {h : jH} {sz a n : Nat} {ad st : Nat → Int32} (hr : isRe E h a n ad st) (ha : ∀ i, i < n → ∃ k, k < 64 ∧ ad i = nI k) : jC l M_Re_asBits 0 E [.ref a] h sz 0 0 (fun r h' sz' => r = some (.long (lN (bm ad n))) ∧ h' = h ∧ sz' = sz) := by
  obtain ⟨e0, e1, e2, hn⟩ := hr
  refine jC.of (by decide) (Nat.le_of_ble_eq_true rfl) ?_
  intro x C0 hx
  subst hx

  refine j_lconst C0 d_Re_asBits_0 (v := 0) (by decide) ?_
  refine j_lstore_n C0 d_Re_asBits_1 rfl (Nat.le_of_ble_eq_true rfl) ?_
  refine j_iconst C0 d_Re_asBits_2 (v := 0) (by decide) ?_
  refine j_istore_n C0 d_Re_asBits_3 rfl (Nat.le_of_ble_eq_true rfl) ?_
  refine j_lv (lv' := [(0, .ref a), (1, .long (lN (bm ad 0))), (3, .int (nI 0))]) ⟨rfl, rfl, rfl, trivial⟩ ?_
  refine j_for n (fun _ => h) (fun i => [(0, .ref a), (1, .long (lN (bm ad i))), (3, .int (nI i))]) ?_ ?_ 0 (Nat.zero_le n)
  · intro i hi ih
    obtain ⟨k, hk, ek⟩ := ha i hi
    have hc : (ad i).toNatClampNeg = k := by rw [ek]; exact nI_clamp (by omega)
    have hb : bm ad i < 2 ^ 64 := bm_lt i (fun j hj => by obtain ⟨k, hk, ek⟩ := ha j (by omega); rw [ek, nI_clamp (by omega)]; exact hk)
    have e : lN (bm ad i) ||| lN (2 ^ k) = lN (bm ad (i + 1)) := by rw [wb_or hb (Nat.pow_lt_pow_right (by decide) hk)]; show _ = lN (bm ad i ||| 2 ^ (ad i).toNatClampNeg); rw [hc]
    refine j_iload_n C0 d_Re_asBits_4 rfl (by rfl) ?_
    refine j_aload_n C0 d_Re_asBits_5 rfl (by rfl) ?_
    refine j_getf C0 d_Re_asBits_6 fl_Re_18 (by (repeat (first | rw [jset_s] | rw [jset_n (by omega)] | rw [reH_0] | rw [reH_1] | rw [reH_2] | rw [reH_n (by omega)])) <;> first | rfl | assumption) (by rfl) ?_
    refine j_icmp_ge C0 d_Re_asBits_9 (tgt := 29) (by decide) (fun c_9 => ?_) (fun c_9 => ?_)
    · exact absurd c_9 (nI_ge hi (by omega))
    · refine j_lload_n C0 d_Re_asBits_12 rfl (by rfl) ?_
      refine j_lconst C0 d_Re_asBits_13 (v := 1) (by decide) ?_
      refine j_aload_n C0 d_Re_asBits_14 rfl (by rfl) ?_
      refine j_getf C0 d_Re_asBits_15 fl_Re_9 (by (repeat (first | rw [jset_s] | rw [jset_n (by omega)] | rw [reH_0] | rw [reH_1] | rw [reH_2] | rw [reH_n (by omega)])) <;> first | rfl | assumption) (by rfl) ?_
      refine j_iload_n C0 d_Re_asBits_18 rfl (by rfl) ?_
      refine j_iald C0 d_Re_asBits_19 (by (repeat (first | rw [jset_s] | rw [jset_n (by omega)] | rw [reH_0] | rw [reH_1] | rw [reH_2] | rw [reH_n (by omega)])) <;> first | rfl | assumption) rfl (by omega) (by decide) ?_
      rw [ek]
      refine j_lshl C0 d_Re_asBits_20 (jshl1 hk) ?_
      refine j_lor C0 d_Re_asBits_21 ?_
      rw [e]
      refine j_lstore_n C0 d_Re_asBits_22 rfl (Nat.le_of_ble_eq_true rfl) ?_
      refine j_iinc C0 d_Re_asBits_23 (by rfl) (jinc _) (Nat.le_of_ble_eq_true rfl) ?_
      refine j_goto C0 d_Re_asBits_26 (tgt := 4) (by decide) ?_
      exact j_to ih rfl ⟨rfl, rfl, rfl, trivial⟩
  · refine j_iload_n C0 d_Re_asBits_4 rfl (by rfl) ?_
    refine j_aload_n C0 d_Re_asBits_5 rfl (by rfl) ?_
    refine j_getf C0 d_Re_asBits_6 fl_Re_18 (by (repeat (first | rw [jset_s] | rw [jset_n (by omega)] | rw [reH_0] | rw [reH_1] | rw [reH_2] | rw [reH_n (by omega)])) <;> first | rfl | assumption) (by rfl) ?_
    refine j_icmp_ge C0 d_Re_asBits_9 (tgt := 29) (by decide) (fun c_9 => ?_) (fun c_9 => ?_)
    · refine j_lload_n C0 d_Re_asBits_29 rfl (by rfl) ?_
      exact j_lret C0 d_Re_asBits_30 rfl (by omega) (by omega) ⟨rfl, rfl, rfl⟩
    · exact absurd (nI_le (Nat.le_refl _) (by omega)) c_9
set_option maxHeartbeats 4000000 in
set_option maxRecDepth 100000 in
theorem c_Re_addRising (l : Launch) (E : jE) {h : jH} {sz a n m : Nat} {ad st : Nat → Int32} (hr : isRe E h a n ad st) (hm : m < 2 ^ 64) (h4 : n + cP (fun i => m.testBit i) 64 ≤ 4) : jC l M_Re_addRising 1 E [.ref a, .long (lN m)] h sz 0 0 (fun r h' sz' => r = none ∧ h' = reH E h a (n + cP (fun i => m.testBit i) 64) (aP (fun i => m.testBit i) n ad nI 64) (aP (fun i => m.testBit i) n st (fun _ => 1) 64) ∧ sz' = sz) := by
  refine jC.of (by decide) (Nat.le_of_ble_eq_true rfl) ?_
  intro x C0 hx
  subst hx

  refine j_iconst C0 d_Re_addRising_0 (v := 0) (by decide) ?_
  refine j_istore_n C0 d_Re_addRising_1 rfl (Nat.le_of_ble_eq_true rfl) ?_
  refine j_to (h' := reH E h a (n + cP (fun i => m.testBit i) 0) (aP (fun i => m.testBit i) n ad nI 0) (aP (fun i => m.testBit i) n st (fun _ => 1) 0)) (lv' := [(0, .ref a), (1, .long (lN m)), (3, .int (nI 0))]) ?_ hr.eq ⟨rfl, rfl, rfl, trivial⟩
  refine j_for 64 (fun i => reH E h a (n + cP (fun i => m.testBit i) i) (aP (fun i => m.testBit i) n ad nI i) (aP (fun i => m.testBit i) n st (fun _ => 1) i)) (fun i => [(0, .ref a), (1, .long (lN m)), (3, .int (nI i))]) ?_ ?_ 0 (by decide)
  · intro i hi ih
    have hle := cP_le (fun i => m.testBit i) (show i + 1 ≤ 64 by omega)
    refine j_iload_n C0 d_Re_addRising_2 rfl (by rfl) ?_
    refine j_bipush C0 d_Re_addRising_3 (v := 64) (by decide) ?_
    refine j_icmp_ge C0 d_Re_addRising_5 (tgt := 29) (by decide) (fun c_5 => ?_) (fun c_5 => ?_)
    · exact absurd c_5 (nI_ge (b := 64) hi (by decide))
    · refine j_lload_n C0 d_Re_addRising_8 rfl (by rfl) ?_
      refine j_lconst C0 d_Re_addRising_9 (v := 1) (by decide) ?_
      refine j_iload_n C0 d_Re_addRising_10 rfl (by rfl) ?_
      refine j_lshl C0 d_Re_addRising_11 (jshl1 hi) ?_
      refine j_land C0 d_Re_addRising_12 ?_
      refine j_lconst C0 d_Re_addRising_13 (v := 0) (by decide) ?_
      refine j_lcmp C0 d_Re_addRising_14 ?_
      refine j_if_eq C0 d_Re_addRising_15 (tgt := 23) (by decide) (fun c_15 => ?_) (fun c_15 => ?_)
      · have hf := (jbit hm hi).mp c_15
        refine j_iinc C0 d_Re_addRising_23 (by rfl) (jinc _) (Nat.le_of_ble_eq_true rfl) ?_
        refine j_goto C0 d_Re_addRising_26 (tgt := 2) (by decide) ?_
        exact j_to ih (by simp only [cP, aP, hf]; simp [Nat.add_assoc]) ⟨rfl, rfl, rfl, trivial⟩
      · have hf : m.testBit i = true := by
          cases hh : m.testBit i with
          | false => exact absurd ((jbit hm hi).mpr hh) c_15
          | true => rfl
        have hle2 : n + cP (fun i => m.testBit i) i < 4 := by have := cP_lt (P := (fun i => m.testBit i)) hi hf; omega
        refine j_aload_n C0 d_Re_addRising_18 rfl (by rfl) ?_
        refine j_iload_n C0 d_Re_addRising_19 rfl (by rfl) ?_
        refine j_callV C0 d_Re_addRising_20 cl_Re_22 cl_Re_22v (c_Re_add _ E (nI i) (reH_is (by omega)) hle2) (by (repeat (first | rw [jset_s] | rw [jset_n (by omega)] | rw [reH_0] | rw [reH_1] | rw [reH_2] | rw [reH_n (by omega)])) <;> first | rfl | assumption) rfl rfl rfl ⟨by decide, by decide⟩ ⟨by omega, by omega⟩ (Nat.le_of_ble_eq_true rfl) (fun r_ h_ z_ hp_ => ?_)
        obtain ⟨rfl, rfl, rfl⟩ := hp_
        rw [reH_reH]
        refine j_iinc C0 d_Re_addRising_23 (by rfl) (jinc _) (Nat.le_of_ble_eq_true rfl) ?_
        refine j_goto C0 d_Re_addRising_26 (tgt := 2) (by decide) ?_
        exact j_to ih (by simp only [cP, aP, hf]; simp [Nat.add_assoc]) ⟨rfl, rfl, rfl, trivial⟩
  · refine j_iload_n C0 d_Re_addRising_2 rfl (by rfl) ?_
    refine j_bipush C0 d_Re_addRising_3 (v := 64) (by decide) ?_
    refine j_icmp_ge C0 d_Re_addRising_5 (tgt := 29) (by decide) (fun c_5 => ?_) (fun c_5 => ?_)
    · exact j_vret C0 d_Re_addRising_29 rfl (by omega) (by omega) ⟨rfl, rfl, rfl⟩
    · exact absurd (nI_le (Nat.le_refl 64) (by decide)) c_5
set_option maxHeartbeats 4000000 in
set_option maxRecDepth 100000 in
theorem c_Re_copyFrom (l : Launch) (E : jE) {h : jH} {sz a n b n2 : Nat} {ad st ad2 st2 : Nat → Int32} (hr : isRe E h a n ad st) (hr2 : isRe E h b n2 ad2 st2) (hab : a + 3 ≤ b ∨ b + 3 ≤ a) : jC l M_Re_copyFrom 0 E [.ref a, .ref b] h sz 0 0 (fun r h' sz' => r = none ∧ h' = reH E h a n2 (cp ad ad2 n2) (cp st st2 n2) ∧ sz' = sz) := by
  obtain ⟨e0, e1, e2, hn⟩ := hr2
  refine jC.of (by decide) (Nat.le_of_ble_eq_true rfl) ?_
  intro x C0 hx
  subst hx

  refine j_iconst C0 d_Re_copyFrom_0 (v := 0) (by decide) ?_
  refine j_istore_n C0 d_Re_copyFrom_1 rfl (Nat.le_of_ble_eq_true rfl) ?_
  refine j_to (h' := reH E h a n (cp ad ad2 0) (cp st st2 0)) (lv' := [(0, .ref a), (1, .ref b), (2, .int (nI 0))]) ?_ (by rw [cp_0, cp_0]; exact hr.eq) ⟨rfl, rfl, rfl, trivial⟩
  refine j_for n2 (fun i => reH E h a n (cp ad ad2 i) (cp st st2 i)) (fun i => [(0, .ref a), (1, .ref b), (2, .int (nI i))]) ?_ ?_ 0 (Nat.zero_le n2)
  · intro i hi ih
    refine j_iload_n C0 d_Re_copyFrom_2 rfl (by rfl) ?_
    refine j_aload_n C0 d_Re_copyFrom_3 rfl (by rfl) ?_
    refine j_getf C0 d_Re_copyFrom_4 fl_Re_18 (by (repeat (first | rw [jset_s] | rw [jset_n (by omega)] | rw [reH_0] | rw [reH_1] | rw [reH_2] | rw [reH_n (by omega)])) <;> first | rfl | assumption) (by rfl) ?_
    refine j_icmp_ge C0 d_Re_copyFrom_7 (tgt := 40) (by decide) (fun c_7 => ?_) (fun c_7 => ?_)
    · exact absurd c_7 (nI_ge hi (by omega))
    · refine j_aload_n C0 d_Re_copyFrom_10 rfl (by rfl) ?_
      refine j_getf C0 d_Re_copyFrom_11 fl_Re_9 (by (repeat (first | rw [jset_s] | rw [jset_n (by omega)] | rw [reH_0] | rw [reH_1] | rw [reH_2] | rw [reH_n (by omega)])) <;> first | rfl | assumption) (by rfl) ?_
      refine j_iload_n C0 d_Re_copyFrom_14 rfl (by rfl) ?_
      refine j_aload_n C0 d_Re_copyFrom_15 rfl (by rfl) ?_
      refine j_getf C0 d_Re_copyFrom_16 fl_Re_9 (by (repeat (first | rw [jset_s] | rw [jset_n (by omega)] | rw [reH_0] | rw [reH_1] | rw [reH_2] | rw [reH_n (by omega)])) <;> first | rfl | assumption) (by rfl) ?_
      refine j_iload_n C0 d_Re_copyFrom_19 rfl (by rfl) ?_
      refine j_iald C0 d_Re_copyFrom_20 (by (repeat (first | rw [jset_s] | rw [jset_n (by omega)] | rw [reH_0] | rw [reH_1] | rw [reH_2] | rw [reH_n (by omega)])) <;> first | rfl | assumption) rfl (by omega) (by decide) ?_
      refine j_iast C0 d_Re_copyFrom_21 (by (repeat (first | rw [jset_s] | rw [jset_n (by omega)] | rw [reH_0] | rw [reH_1] | rw [reH_2] | rw [reH_n (by omega)])) <;> first | rfl | assumption) rfl (by omega) (by decide) ?_
      rw [reH_s1, cp_s]
      refine j_aload_n C0 d_Re_copyFrom_22 rfl (by rfl) ?_
      refine j_getf C0 d_Re_copyFrom_23 fl_Re_15 (by (repeat (first | rw [jset_s] | rw [jset_n (by omega)] | rw [reH_0] | rw [reH_1] | rw [reH_2] | rw [reH_n (by omega)])) <;> first | rfl | assumption) (by rfl) ?_
      refine j_iload_n C0 d_Re_copyFrom_26 rfl (by rfl) ?_
      refine j_aload_n C0 d_Re_copyFrom_27 rfl (by rfl) ?_
      refine j_getf C0 d_Re_copyFrom_28 fl_Re_15 (by (repeat (first | rw [jset_s] | rw [jset_n (by omega)] | rw [reH_0] | rw [reH_1] | rw [reH_2] | rw [reH_n (by omega)])) <;> first | rfl | assumption) (by rfl) ?_
      refine j_iload_n C0 d_Re_copyFrom_31 rfl (by rfl) ?_
      refine j_iald C0 d_Re_copyFrom_32 (by (repeat (first | rw [jset_s] | rw [jset_n (by omega)] | rw [reH_0] | rw [reH_1] | rw [reH_2] | rw [reH_n (by omega)])) <;> first | rfl | assumption) rfl (by omega) (by decide) ?_
      refine j_iast C0 d_Re_copyFrom_33 (by (repeat (first | rw [jset_s] | rw [jset_n (by omega)] | rw [reH_0] | rw [reH_1] | rw [reH_2] | rw [reH_n (by omega)])) <;> first | rfl | assumption) rfl (by omega) (by decide) ?_
      rw [reH_s2, cp_s]
      refine j_iinc C0 d_Re_copyFrom_34 (by rfl) (jinc _) (Nat.le_of_ble_eq_true rfl) ?_
      refine j_goto C0 d_Re_copyFrom_37 (tgt := 2) (by decide) ?_
      exact j_to ih rfl ⟨rfl, rfl, rfl, trivial⟩
  · refine j_iload_n C0 d_Re_copyFrom_2 rfl (by rfl) ?_
    refine j_aload_n C0 d_Re_copyFrom_3 rfl (by rfl) ?_
    refine j_getf C0 d_Re_copyFrom_4 fl_Re_18 (by (repeat (first | rw [jset_s] | rw [jset_n (by omega)] | rw [reH_0] | rw [reH_1] | rw [reH_2] | rw [reH_n (by omega)])) <;> first | rfl | assumption) (by rfl) ?_
    refine j_icmp_ge C0 d_Re_copyFrom_7 (tgt := 40) (by decide) (fun c_7 => ?_) (fun c_7 => ?_)
    · refine j_aload_n C0 d_Re_copyFrom_40 rfl (by rfl) ?_
      refine j_aload_n C0 d_Re_copyFrom_41 rfl (by rfl) ?_
      refine j_getf C0 d_Re_copyFrom_42 fl_Re_18 (by (repeat (first | rw [jset_s] | rw [jset_n (by omega)] | rw [reH_0] | rw [reH_1] | rw [reH_2] | rw [reH_n (by omega)])) <;> first | rfl | assumption) (by rfl) ?_
      refine j_putf C0 d_Re_copyFrom_45 fp_Re_18 (by (repeat (first | rw [jset_s] | rw [jset_n (by omega)] | rw [reH_0] | rw [reH_1] | rw [reH_2] | rw [reH_n (by omega)])) <;> first | rfl | assumption) (Nat.le_of_ble_eq_true rfl) (by rfl) (by rfl) ?_
      exact j_vret C0 d_Re_copyFrom_48 rfl (by omega) (by omega) ⟨rfl, by exact reH_s0, rfl⟩
    · exact absurd (nI_le (Nat.le_refl _) (by omega)) c_7
