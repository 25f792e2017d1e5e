section JLoop3
variable {x : jX} {M : jM} {E : jE} {Q : State → Prop} {sz ce sl pc : Nat} {st : List Value}
theorem j_down (I : Nat → Prop) (h : Nat → jH) (lv : Nat → List (Nat × Value)) (zero : I 0 → jJ x M E Q (h 0) sz ce sl (lv 0) pc st) (succ : ∀ p, I (p + 1) → (I p → jJ x M E Q (h p) sz ce sl (lv p) pc st) → jJ x M E Q (h (p + 1)) sz ce sl (lv (p + 1)) pc st) : ∀ p, I p → jJ x M E Q (h p) sz ce sl (lv p) pc st := by
  intro p
  induction p with
  | zero => exact zero
  | succ p ih => exact fun hI => succ p hI ih
end JLoop3
/-- Aliases at a: masks by local -/
def isAl (E : jE) (h : jH) (a : Nat) (g : Nat → Nat) : Prop := h a = some (jO 0 [.ref (a + 1)]) ∧ h (a + 1) = some (jL E 8 (fun i => lN (g i))) ∧ ∀ i, g i < 2 ^ 64
theorem up_lN (g : Nat → Nat) (k m : Nat) : vp_updL (fun i => lN (g i)) k (lN m) = fun i => lN (va_up g k m i) := by
  funext i
  unfold vp_updL va_up
  by_cases h : i = k <;> simp [h]
theorem up_lt {g : Nat → Nat} {k m : Nat} (hg : ∀ i, g i < 2 ^ 64) (hm : m < 2 ^ 64) : ∀ i, va_up g k m i < 2 ^ 64 := by
  intro i
  unfold va_up
  split
  · exact hm
  · exact hg i
theorem p64 {k : Nat} (hk : k < 64) : 2 ^ k < 2 ^ 64 := Nat.pow_lt_pow_right (by decide) hk
def rIn (g : Nat → Nat) (s : Nat) : Nat → Nat
  | 0 => s
  | i + 1 => if (rIn g s i).testBit i then rIn g s i ||| g i else rIn g s i
def rOut (g : Nat → Nat) (s : Nat) : Nat → Nat
  | 0 => s
  | r + 1 => rIn g (rOut g s r) 8
theorem rIn_lt {g : Nat → Nat} {s : Nat} (hg : ∀ i, g i < 2 ^ 64) (hs : s < 2 ^ 64) : ∀ i, rIn g s i < 2 ^ 64
  | 0 => hs
  | i + 1 => by
    unfold rIn
    split
    · exact Nat.or_lt_two_pow (rIn_lt hg hs i) (hg i)
    · exact rIn_lt hg hs i
theorem rOut_lt {g : Nat → Nat} {s : Nat} (hg : ∀ i, g i < 2 ^ 64) (hs : s < 2 ^ 64) : ∀ r, rOut g s r < 2 ^ 64
  | 0 => hs
  | r + 1 => rIn_lt hg (rOut_lt hg hs r) 8
def fin8 (g : Nat → Nat) (s : Nat) : Nat → Nat
  | 0 => s
  | i + 1 => if g i = 0 then fin8 g s i else fin8 g s i &&& (2 ^ i ^^^ (2 ^ 64 - 1))
theorem fin8_lt {g : Nat → Nat} {s : Nat} (hs : s < 2 ^ 64) : ∀ i, fin8 g s i < 2 ^ 64
  | 0 => hs
  | i + 1 => by
    unfold fin8
    split
    · exact fin8_lt hs i
    · exact Nat.lt_of_le_of_lt Nat.and_le_left (fin8_lt hs i)
theorem x64 {a : Nat} (ha : a < 2 ^ 64) : a ^^^ (2 ^ 64 - 1) < 2 ^ 64 := Nat.xor_lt_two_pow ha (by decide)
set_option maxHeartbeats 4000000 in
set_option maxRecDepth 100000 in
theorem c_Al_init (l : Launch) (E : jE) {h : jH} {sz a : Nat} (e0 : h a = some (jO 0 [.null])) (hz : sz = a + 1) : jC l M_Al_init 1 E [.ref a] h sz 1 8 (fun r h' sz' => r = none ∧ isAl E h' a (fun _ => 0) ∧ (∀ q, q < a → h' q = h q) ∧ sz' = a + 2) := by
  subst hz
  refine jC.of (by decide) (Nat.le_of_ble_eq_true rfl) ?_
  intro x C0 hx
  subst hx

  refine j_aload_n C0 d_Al_init_0 rfl (by rfl) ?_
  refine j_obj C0 d_Al_init_1 w_1_34 w_1_18 w_1_19 (by omega) (Nat.le_of_ble_eq_true rfl) ?_
  refine j_aload_n C0 d_Al_init_4 rfl (by rfl) ?_
  refine j_bipush C0 d_Al_init_5 (v := 8) (by decide) ?_
  refine j_newl C0 (N := 8) d_Al_init_7 w_1_39 rfl (by decide) (by omega) (by omega) ?_
  refine j_putF C0 d_Al_init_9 fp_Al_9 (by (repeat (first | rw [jset_s] | rw [jset_n (by omega)] | rw [reH_0] | rw [reH_1] | rw [reH_2] | rw [reH_n (by omega)])) <;> first | rfl | assumption) (Nat.le_of_ble_eq_true rfl) (by rfl) (by rfl) rfl ?_
  exact j_vret C0 d_Al_init_12 rfl (by omega) (by omega) ⟨rfl, ⟨by rw [jset_s]; rfl, by rw [jset_n (by omega), jset_s]; rfl, fun _ => by show 0 < 2 ^ 64; decide⟩, fun q hq => by rw [jset_n (by omega), jset_n (by omega)], rfl⟩
theorem pp_le (n : Nat) : ∀ k, pp_c n k ≤ k
  | 0 => Nat.le_refl 0
  | k + 1 => by
    have := pp_le n k
    simp only [pp_c]
    omega
set_option maxHeartbeats 4000000 in
set_option maxRecDepth 100000 in
theorem c_Al_hasRoomFor (l : Launch) (E : jE) {h : jH} {sz a k : Nat} {g : Nat → Nat} (hk : k < 8) {u : Nat} (hu : u < 64) (ha : isAl E h a g) : jC l M_Al_hasRoomFor 1 E [.ref a, .int (nI k), .int (nI u)] h sz 0 0 (fun r h' sz' => r = some (.int (jb (pp_c (g k) 64 < 4 ∧ (g k).testBit u = false))) ∧ h' = h ∧ sz' = sz) := by
  obtain ⟨e0, e1, hg⟩ := ha
  refine jC.of (by decide) (Nat.le_of_ble_eq_true rfl) ?_
  intro x C0 hx
  subst hx

  refine j_aload_n C0 d_Al_hasRoomFor_0 rfl (by rfl) ?_
  refine j_getf C0 d_Al_hasRoomFor_1 fl_Al_9 (by (repeat (first | rw [jset_s] | rw [jset_n (by omega)] | rw [reH_0] | rw [reH_1] | rw [reH_2] | rw [reH_n (by omega)])) <;> first | rfl | assumption) (by rfl) ?_
  refine j_iload_n C0 d_Al_hasRoomFor_4 rfl (by rfl) ?_
  refine j_lald C0 d_Al_hasRoomFor_5 (by (repeat (first | rw [jset_s] | rw [jset_n (by omega)] | rw [reH_0] | rw [reH_1] | rw [reH_2] | rw [reH_n (by omega)])) <;> first | rfl | assumption) rfl (by omega) (by decide) ?_
  refine j_callS C0 d_Al_hasRoomFor_6 cl_Al_15 cl_Al_15v (c_Lo_bitCount _ E (hg k)) rfl rfl ⟨by decide, by decide⟩ ⟨by omega, by omega⟩ (Nat.le_of_ble_eq_true rfl) (fun r_ h_ z_ hp_ => ?_)
  obtain ⟨rfl, rfl, rfl⟩ := hp_
  refine j_iconst C0 d_Al_hasRoomFor_9 (v := 4) (by decide) ?_
  refine j_icmp_ge C0 d_Al_hasRoomFor_10 (tgt := 32) (by decide) (fun c_10 => ?_) (fun c_10 => ?_)
  · have hA : ¬ (pp_c (g k) 64 < 4) := fun hh => nI_ge (b := 4) hh (by decide) c_10
    refine j_iconst C0 d_Al_hasRoomFor_32 (v := 0) (by decide) ?_
    exact j_zret C0 d_Al_hasRoomFor_33 rfl (by rfl) (by omega) (by omega) ⟨by first | (simp [jb, hA]; done) | (simp [jb, hA, hT]; done), rfl, rfl⟩
  · have hA : pp_c (g k) 64 < 4 := Nat.lt_of_not_le (fun hh => c_10 (nI_le (a := 4) hh (Nat.lt_of_le_of_lt (pp_le _ 64) (by decide))))
    refine j_aload_n C0 d_Al_hasRoomFor_13 rfl (by rfl) ?_
    refine j_getf C0 d_Al_hasRoomFor_14 fl_Al_9 (by (repeat (first | rw [jset_s] | rw [jset_n (by omega)] | rw [reH_0] | rw [reH_1] | rw [reH_2] | rw [reH_n (by omega)])) <;> first | rfl | assumption) (by rfl) ?_
    refine j_iload_n C0 d_Al_hasRoomFor_17 rfl (by rfl) ?_
    refine j_lald C0 d_Al_hasRoomFor_18 (by (repeat (first | rw [jset_s] | rw [jset_n (by omega)] | rw [reH_0] | rw [reH_1] | rw [reH_2] | rw [reH_n (by omega)])) <;> first | rfl | assumption) rfl (by omega) (by decide) ?_
    refine j_lconst C0 d_Al_hasRoomFor_19 (v := 1) (by decide) ?_
    refine j_iload_n C0 d_Al_hasRoomFor_20 rfl (by rfl) ?_
    refine j_lshl C0 d_Al_hasRoomFor_21 (jshl1 hu) ?_
    refine j_land C0 d_Al_hasRoomFor_22 ?_
    refine j_lconst C0 d_Al_hasRoomFor_23 (v := 0) (by decide) ?_
    refine j_lcmp C0 d_Al_hasRoomFor_24 ?_
    refine j_if_ne C0 d_Al_hasRoomFor_25 (tgt := 32) (by decide) (fun c_25 => ?_) (fun c_25 => ?_)
    · have hT : ¬ (g k).testBit u = false := fun hh => c_25 ((jbit (hg k) hu).mpr hh)
      refine j_iconst C0 d_Al_hasRoomFor_32 (v := 0) (by decide) ?_
      exact j_zret C0 d_Al_hasRoomFor_33 rfl (by rfl) (by omega) (by omega) ⟨by first | (simp [jb, hA]; done) | (simp [jb, hA, hT]; done), rfl, rfl⟩
    · have hT : (g k).testBit u = false := (jbit (hg k) hu).mp c_25
      refine j_iconst C0 d_Al_hasRoomFor_28 (v := 1) (by decide) ?_
      refine j_goto C0 d_Al_hasRoomFor_29 (tgt := 33) (by decide) ?_
      exact j_zret C0 d_Al_hasRoomFor_33 rfl (by rfl) (by omega) (by omega) ⟨by first | (simp [jb, hA]; done) | (simp [jb, hA, hT]; done), rfl, rfl⟩
set_option maxHeartbeats 4000000 in
set_option maxRecDepth 100000 in
theorem c_Al_add (l : Launch) (E : jE) {h : jH} {sz a k : Nat} {g : Nat → Nat} (hk : k < 8) {u : Nat} (hu : u < 64) (ha : isAl E h a g) : jC l M_Al_add 1 E [.ref a, .int (nI k), .int (nI u)] h sz 0 0 (fun r h' sz' => r = some (.int (nI (pp_c (g k ||| 2 ^ u) 64))) ∧ isAl E h' a (va_up g k (g k ||| 2 ^ u)) ∧ (∀ q, q < a ∨ a + 2 ≤ q → h' q = h q) ∧ sz' = sz) := by
  obtain ⟨e0, e1, hg⟩ := ha
  have hb := Nat.or_lt_two_pow (hg k) (p64 hu)
  refine jC.of (by decide) (Nat.le_of_ble_eq_true rfl) ?_
  intro x C0 hx
  subst hx

  refine j_aload_n C0 d_Al_add_0 rfl (by rfl) ?_
  refine j_getf C0 d_Al_add_1 fl_Al_9 (by (repeat (first | rw [jset_s] | rw [jset_n (by omega)] | rw [reH_0] | rw [reH_1] | rw [reH_2] | rw [reH_n (by omega)])) <;> first | rfl | assumption) (by rfl) ?_
  refine j_iload_n C0 d_Al_add_4 rfl (by rfl) ?_
  refine j_dup2_11 C0 d_Al_add_5 rfl rfl ?_
  refine j_lald C0 d_Al_add_6 (by (repeat (first | rw [jset_s] | rw [jset_n (by omega)] | rw [reH_0] | rw [reH_1] | rw [reH_2] | rw [reH_n (by omega)])) <;> first | rfl | assumption) rfl (by omega) (by decide) ?_
  refine j_lconst C0 d_Al_add_7 (v := 1) (by decide) ?_
  refine j_iload_n C0 d_Al_add_8 rfl (by rfl) ?_
  refine j_lshl C0 d_Al_add_9 (jshl1 hu) ?_
  refine j_lor C0 d_Al_add_10 ?_
  rw [wb_or (hg k) (p64 hu)]
  refine j_last C0 d_Al_add_11 (by (repeat (first | rw [jset_s] | rw [jset_n (by omega)] | rw [reH_0] | rw [reH_1] | rw [reH_2] | rw [reH_n (by omega)])) <;> first | rfl | assumption) rfl (by omega) (by decide) ?_
  rw [up_lN]
  refine j_aload_n C0 d_Al_add_12 rfl (by rfl) ?_
  refine j_getf C0 d_Al_add_13 fl_Al_9 (by (repeat (first | rw [jset_s] | rw [jset_n (by omega)] | rw [reH_0] | rw [reH_1] | rw [reH_2] | rw [reH_n (by omega)])) <;> first | rfl | assumption) (by rfl) ?_
  refine j_iload_n C0 d_Al_add_16 rfl (by rfl) ?_
  refine j_lald C0 d_Al_add_17 (by (repeat (first | rw [jset_s] | rw [jset_n (by omega)] | rw [reH_0] | rw [reH_1] | rw [reH_2] | rw [reH_n (by omega)])) <;> first | rfl | assumption) rfl (by omega) (by decide) ?_
  rw [va_up_self]
  refine j_callS C0 d_Al_add_18 cl_Al_15 cl_Al_15v (c_Lo_bitCount _ E hb) rfl rfl ⟨by decide, by decide⟩ ⟨by omega, by omega⟩ (Nat.le_of_ble_eq_true rfl) (fun r_ h_ z_ hp_ => ?_)
  obtain ⟨rfl, rfl, rfl⟩ := hp_
  exact j_iret C0 d_Al_add_21 rfl (by omega) (by omega) ⟨rfl, ⟨by rw [jset_n (by omega)]; exact e0, jset_s, up_lt hg hb⟩, fun q hq => by rw [jset_n (by omega)], rfl⟩
set_option maxHeartbeats 4000000 in
set_option maxRecDepth 100000 in
theorem c_Al_clear (l : Launch) (E : jE) {h : jH} {sz a k : Nat} {g : Nat → Nat} (hk : k < 8) (ha : isAl E h a g) : jC l M_Al_clear 1 E [.ref a, .int (nI k)] h sz 0 0 (fun r h' sz' => r = some (.int (nI (pp_c (g k) 64))) ∧ isAl E h' a (va_up g k 0) ∧ (∀ q, q < a ∨ a + 2 ≤ q → h' q = h q) ∧ sz' = sz) := by
  obtain ⟨e0, e1, hg⟩ := ha
  refine jC.of (by decide) (Nat.le_of_ble_eq_true rfl) ?_
  intro x C0 hx
  subst hx

  refine j_aload_n C0 d_Al_clear_0 rfl (by rfl) ?_
  refine j_getf C0 d_Al_clear_1 fl_Al_9 (by (repeat (first | rw [jset_s] | rw [jset_n (by omega)] | rw [reH_0] | rw [reH_1] | rw [reH_2] | rw [reH_n (by omega)])) <;> first | rfl | assumption) (by rfl) ?_
  refine j_iload_n C0 d_Al_clear_4 rfl (by rfl) ?_
  refine j_lald C0 d_Al_clear_5 (by (repeat (first | rw [jset_s] | rw [jset_n (by omega)] | rw [reH_0] | rw [reH_1] | rw [reH_2] | rw [reH_n (by omega)])) <;> first | rfl | assumption) rfl (by omega) (by decide) ?_
  refine j_callS C0 d_Al_clear_6 cl_Al_15 cl_Al_15v (c_Lo_bitCount _ E (hg k)) rfl rfl ⟨by decide, by decide⟩ ⟨by omega, by omega⟩ (Nat.le_of_ble_eq_true rfl) (fun r_ h_ z_ hp_ => ?_)
  obtain ⟨rfl, rfl, rfl⟩ := hp_
  refine j_istore_n C0 d_Al_clear_9 rfl (Nat.le_of_ble_eq_true rfl) ?_
  refine j_aload_n C0 d_Al_clear_10 rfl (by rfl) ?_
  refine j_getf C0 d_Al_clear_11 fl_Al_9 (by (repeat (first | rw [jset_s] | rw [jset_n (by omega)] | rw [reH_0] | rw [reH_1] | rw [reH_2] | rw [reH_n (by omega)])) <;> first | rfl | assumption) (by rfl) ?_
  refine j_iload_n C0 d_Al_clear_14 rfl (by rfl) ?_
  refine j_lconst C0 d_Al_clear_15 (v := 0) (by decide) ?_
  refine j_last C0 d_Al_clear_16 (by (repeat (first | rw [jset_s] | rw [jset_n (by omega)] | rw [reH_0] | rw [reH_1] | rw [reH_2] | rw [reH_n (by omega)])) <;> first | rfl | assumption) rfl (by omega) (by decide) ?_
  rw [show (0 : Int64) = lN 0 from rfl, up_lN]
  refine j_iload_n C0 d_Al_clear_17 rfl (by rfl) ?_
  exact j_iret C0 d_Al_clear_18 rfl (by omega) (by omega) ⟨rfl, ⟨by rw [jset_n (by omega)]; exact e0, jset_s, up_lt hg (by decide)⟩, fun q hq => by rw [jset_n (by omega)], rfl⟩
set_option maxHeartbeats 4000000 in
set_option maxRecDepth 100000 in
theorem c_Al_reachedFrom (l : Launch) (E : jE) {h : jH} {sz a u : Nat} {g : Nat → Nat} (hu : u < 64) (ha : isAl E h a g) : jC l M_Al_reachedFrom 0 E [.ref a, .int (nI u)] h sz 0 0 (fun r h' sz' => r = some (.long (lN (rOut g (2 ^ u) 8))) ∧ h' = h ∧ sz' = sz) := by
  obtain ⟨e0, e1, hg⟩ := ha
  refine jC.of (by decide) (Nat.le_of_ble_eq_true rfl) ?_
  intro x C0 hx
  subst hx

  refine j_lconst C0 d_Al_reachedFrom_0 (v := 1) (by decide) ?_
  refine j_iload_n C0 d_Al_reachedFrom_1 rfl (by rfl) ?_
  refine j_lshl C0 d_Al_reachedFrom_2 (jshl1 hu) ?_
  refine j_lstore_n C0 d_Al_reachedFrom_3 rfl (Nat.le_of_ble_eq_true rfl) ?_
  refine j_iconst C0 d_Al_reachedFrom_4 (v := 0) (by decide) ?_
  refine j_istore C0 d_Al_reachedFrom_5 (Nat.le_of_ble_eq_true rfl) ?_
  refine j_lv (lv' := [(0, .ref a), (1, .int (nI u)), (2, .long (lN (rOut g (2 ^ u) 0))), (4, .int (nI 0))]) ⟨rfl, rfl, rfl, rfl, trivial⟩ ?_
  refine j_for 8 (fun _ => h) (fun r => [(0, .ref a), (1, .int (nI u)), (2, .long (lN (rOut g (2 ^ u) r))), (4, .int (nI r))]) ?_ ?_ 0 (by decide)
  · intro r hr ihr
    have hs := rOut_lt hg (p64 hu) r
    refine j_iload C0 d_Al_reachedFrom_7 (by rfl) ?_
    refine j_bipush C0 d_Al_reachedFrom_9 (v := 8) (by decide) ?_
    refine j_icmp_ge C0 d_Al_reachedFrom_11 (tgt := 57) (by decide) (fun c_11 => ?_) (fun c_11 => ?_)
    · exact absurd c_11 (nI_ge (b := 8) hr (by decide))
    · refine j_iconst C0 d_Al_reachedFrom_14 (v := 0) (by decide) ?_
      refine j_istore C0 d_Al_reachedFrom_15 (Nat.le_of_ble_eq_true rfl) ?_
      refine j_lv (lv' := [(0, .ref a), (1, .int (nI u)), (2, .long (lN (rIn g (rOut g (2 ^ u) r) 0))), (4, .int (nI r)), (5, .int (nI 0))]) ⟨rfl, rfl, rfl, rfl, rfl, trivial⟩ ?_
      refine j_for 8 (fun _ => h) (fun i => [(0, .ref a), (1, .int (nI u)), (2, .long (lN (rIn g (rOut g (2 ^ u) r) i))), (4, .int (nI r)), (5, .int (nI i))]) ?_ ?_ 0 (by decide)
      · intro i hi ih
        have hb := rIn_lt hg hs i
        refine j_iload C0 d_Al_reachedFrom_17 (by rfl) ?_
        refine j_bipush C0 d_Al_reachedFrom_19 (v := 8) (by decide) ?_
        refine j_icmp_ge C0 d_Al_reachedFrom_21 (tgt := 51) (by decide) (fun c_21 => ?_) (fun c_21 => ?_)
        · exact absurd c_21 (nI_ge (b := 8) hi (by decide))
        · refine j_lload_n C0 d_Al_reachedFrom_24 rfl (by rfl) ?_
          refine j_lconst C0 d_Al_reachedFrom_25 (v := 1) (by decide) ?_
          refine j_iload C0 d_Al_reachedFrom_26 (by rfl) ?_
          refine j_lshl C0 d_Al_reachedFrom_28 (jshl1 (by omega)) ?_
          refine j_land C0 d_Al_reachedFrom_29 ?_
          refine j_lconst C0 d_Al_reachedFrom_30 (v := 0) (by decide) ?_
          refine j_lcmp C0 d_Al_reachedFrom_31 ?_
          refine j_if_eq C0 d_Al_reachedFrom_32 (tgt := 45) (by decide) (fun c_32 => ?_) (fun c_32 => ?_)
          · have hT := (jbit hb (by omega)).mp c_32
            have eT : rIn g (rOut g (2 ^ u) r) (i + 1) = rIn g (rOut g (2 ^ u) r) i := by show (if _ then _ else _) = _; rw [hT]; rfl
            rw [eT] at ih
            refine j_iinc C0 d_Al_reachedFrom_45 (by rfl) (jinc _) (Nat.le_of_ble_eq_true rfl) ?_
            refine j_goto C0 d_Al_reachedFrom_48 (tgt := 17) (by decide) ?_
            exact j_to ih rfl ⟨rfl, rfl, rfl, rfl, rfl, trivial⟩
          · have hT : (rIn g (rOut g (2 ^ u) r) i).testBit i = true := by
              cases hh : (rIn g (rOut g (2 ^ u) r) i).testBit i with
              | false => exact absurd ((jbit hb (by omega)).mpr hh) c_32
              | true => rfl
            have eT : rIn g (rOut g (2 ^ u) r) (i + 1) = rIn g (rOut g (2 ^ u) r) i ||| g i := by show (if _ then _ else _) = _; rw [hT]; rfl
            rw [eT] at ih
            refine j_lload_n C0 d_Al_reachedFrom_35 rfl (by rfl) ?_
            refine j_aload_n C0 d_Al_reachedFrom_36 rfl (by rfl) ?_
            refine j_getf C0 d_Al_reachedFrom_37 fl_Al_9 (by (repeat (first | rw [jset_s] | rw [jset_n (by omega)] | rw [reH_0] | rw [reH_1] | rw [reH_2] | rw [reH_n (by omega)])) <;> first | rfl | assumption) (by rfl) ?_
            refine j_iload C0 d_Al_reachedFrom_40 (by rfl) ?_
            refine j_lald C0 d_Al_reachedFrom_42 (by (repeat (first | rw [jset_s] | rw [jset_n (by omega)] | rw [reH_0] | rw [reH_1] | rw [reH_2] | rw [reH_n (by omega)])) <;> first | rfl | assumption) rfl (by omega) (by decide) ?_
            refine j_lor C0 d_Al_reachedFrom_43 ?_
            rw [wb_or hb (hg i)]
            refine j_lstore_n C0 d_Al_reachedFrom_44 rfl (Nat.le_of_ble_eq_true rfl) ?_
            refine j_iinc C0 d_Al_reachedFrom_45 (by rfl) (jinc _) (Nat.le_of_ble_eq_true rfl) ?_
            refine j_goto C0 d_Al_reachedFrom_48 (tgt := 17) (by decide) ?_
            exact j_to ih rfl ⟨rfl, rfl, rfl, rfl, rfl, trivial⟩
      · refine j_iload C0 d_Al_reachedFrom_17 (by rfl) ?_
        refine j_bipush C0 d_Al_reachedFrom_19 (v := 8) (by decide) ?_
        refine j_icmp_ge C0 d_Al_reachedFrom_21 (tgt := 51) (by decide) (fun c_21 => ?_) (fun c_21 => ?_)
        · refine j_iinc C0 d_Al_reachedFrom_51 (by rfl) (jinc _) (Nat.le_of_ble_eq_true rfl) ?_
          refine j_goto C0 d_Al_reachedFrom_54 (tgt := 7) (by decide) ?_
          exact j_to ihr rfl ⟨rfl, rfl, rfl, rfl, trivial⟩
        · exact absurd (nI_le (Nat.le_refl 8) (by decide)) c_21
  · refine j_iload C0 d_Al_reachedFrom_7 (by rfl) ?_
    refine j_bipush C0 d_Al_reachedFrom_9 (v := 8) (by decide) ?_
    refine j_icmp_ge C0 d_Al_reachedFrom_11 (tgt := 57) (by decide) (fun c_11 => ?_) (fun c_11 => ?_)
    · refine j_lload_n C0 d_Al_reachedFrom_57 rfl (by rfl) ?_
      exact j_lret C0 d_Al_reachedFrom_58 rfl (by omega) (by omega) ⟨rfl, rfl, rfl⟩
    · exact absurd (nI_le (Nat.le_refl 8) (by decide)) c_11
set_option maxHeartbeats 4000000 in
set_option maxRecDepth 100000 in
theorem c_Al_finalsOf (l : Launch) (E : jE) {h : jH} {sz a u : Nat} {g : Nat → Nat} (hu : u < 64) (ha : isAl E h a g) : jC l M_Al_finalsOf 1 E [.ref a, .int (nI u)] h sz 0 0 (fun r h' sz' => r = some (.long (lN (fin8 g (rOut g (2 ^ u) 8) 8))) ∧ h' = h ∧ sz' = sz) := by
  have ha0 := ha
  obtain ⟨e0, e1, hg⟩ := ha
  have hs := rOut_lt hg (p64 hu) 8
  refine jC.of (by decide) (Nat.le_of_ble_eq_true rfl) ?_
  intro x C0 hx
  subst hx

  refine j_aload_n C0 d_Al_finalsOf_0 rfl (by rfl) ?_
  refine j_iload_n C0 d_Al_finalsOf_1 rfl (by rfl) ?_
  refine j_callV C0 d_Al_finalsOf_2 cl_Al_21 cl_Al_21v (c_Al_reachedFrom _ E hu ha0) (by (repeat (first | rw [jset_s] | rw [jset_n (by omega)] | rw [reH_0] | rw [reH_1] | rw [reH_2] | rw [reH_n (by omega)])) <;> first | rfl | assumption) rfl rfl rfl ⟨by decide, by decide⟩ ⟨by omega, by omega⟩ (Nat.le_of_ble_eq_true rfl) (fun r_ h_ z_ hp_ => ?_)
  obtain ⟨rfl, rfl, rfl⟩ := hp_
  refine j_lstore_n C0 d_Al_finalsOf_5 rfl (Nat.le_of_ble_eq_true rfl) ?_
  refine j_iconst C0 d_Al_finalsOf_6 (v := 0) (by decide) ?_
  refine j_istore C0 d_Al_finalsOf_7 (Nat.le_of_ble_eq_true rfl) ?_
  refine j_lv (lv' := [(0, .ref a), (1, .int (nI u)), (2, .long (lN (fin8 g (rOut g (2 ^ u) 8) 0))), (4, .int (nI 0))]) ⟨rfl, rfl, rfl, rfl, trivial⟩ ?_
  refine j_for 8 (fun _ => _) (fun i => [(0, .ref a), (1, .int (nI u)), (2, .long (lN (fin8 g (rOut g (2 ^ u) 8) i))), (4, .int (nI i))]) ?_ ?_ 0 (by decide)
  · intro i hi ih
    have hb := fin8_lt (g := g) hs i
    refine j_iload C0 d_Al_finalsOf_9 (by rfl) ?_
    refine j_bipush C0 d_Al_finalsOf_11 (v := 8) (by decide) ?_
    refine j_icmp_ge C0 d_Al_finalsOf_13 (tgt := 45) (by decide) (fun c_13 => ?_) (fun c_13 => ?_)
    · exact absurd c_13 (nI_ge (b := 8) hi (by decide))
    · refine j_aload_n C0 d_Al_finalsOf_16 rfl (by rfl) ?_
      refine j_getf C0 d_Al_finalsOf_17 fl_Al_9 (by (repeat (first | rw [jset_s] | rw [jset_n (by omega)] | rw [reH_0] | rw [reH_1] | rw [reH_2] | rw [reH_n (by omega)])) <;> first | rfl | assumption) (by rfl) ?_
      refine j_iload C0 d_Al_finalsOf_20 (by rfl) ?_
      refine j_lald C0 d_Al_finalsOf_22 (by (repeat (first | rw [jset_s] | rw [jset_n (by omega)] | rw [reH_0] | rw [reH_1] | rw [reH_2] | rw [reH_n (by omega)])) <;> first | rfl | assumption) rfl (by omega) (by decide) ?_
      refine j_lconst C0 d_Al_finalsOf_23 (v := 0) (by decide) ?_
      refine j_lcmp C0 d_Al_finalsOf_24 ?_
      refine j_if_eq C0 d_Al_finalsOf_25 (tgt := 39) (by decide) (fun c_25 => ?_) (fun c_25 => ?_)
      · have hZ : g i = 0 := (lN_z (hg i)).mp (lcmp_z.mp c_25)
        have eT : fin8 g (rOut g (2 ^ u) 8) (i + 1) = fin8 g (rOut g (2 ^ u) 8) i := by show (if _ then _ else _) = _; rw [if_pos hZ]
        rw [eT] at ih
        refine j_iinc C0 d_Al_finalsOf_39 (by rfl) (jinc _) (Nat.le_of_ble_eq_true rfl) ?_
        refine j_goto C0 d_Al_finalsOf_42 (tgt := 9) (by decide) ?_
        exact j_to ih rfl ⟨rfl, rfl, rfl, rfl, trivial⟩
      · have hZ : ¬ g i = 0 := fun hh => c_25 (lcmp_z.mpr ((lN_z (hg i)).mpr hh))
        have eT : fin8 g (rOut g (2 ^ u) 8) (i + 1) = fin8 g (rOut g (2 ^ u) 8) i &&& (2 ^ i ^^^ (2 ^ 64 - 1)) := by show (if _ then _ else _) = _; rw [if_neg hZ]
        rw [eT] at ih
        refine j_lload_n C0 d_Al_finalsOf_28 rfl (by rfl) ?_
        refine j_lconst C0 d_Al_finalsOf_29 (v := 1) (by decide) ?_
        refine j_iload C0 d_Al_finalsOf_30 (by rfl) ?_
        refine j_lshl C0 d_Al_finalsOf_32 (jshl1 (by omega)) ?_
        refine j_ldc2 C0 d_Al_finalsOf_33 w_2_60 ?_
        refine j_lxor C0 d_Al_finalsOf_36 ?_
        rw [show (-1 : Int64) = lN (2 ^ 64 - 1) from rfl, lN_xor]
        refine j_land C0 d_Al_finalsOf_37 ?_
        rw [wb_and hb (x64 (p64 (by omega)))]
        refine j_lstore_n C0 d_Al_finalsOf_38 rfl (Nat.le_of_ble_eq_true rfl) ?_
        refine j_iinc C0 d_Al_finalsOf_39 (by rfl) (jinc _) (Nat.le_of_ble_eq_true rfl) ?_
        refine j_goto C0 d_Al_finalsOf_42 (tgt := 9) (by decide) ?_
        exact j_to ih rfl ⟨rfl, rfl, rfl, rfl, trivial⟩
  · refine j_iload C0 d_Al_finalsOf_9 (by rfl) ?_
    refine j_bipush C0 d_Al_finalsOf_11 (v := 8) (by decide) ?_
    refine j_icmp_ge C0 d_Al_finalsOf_13 (tgt := 45) (by decide) (fun c_13 => ?_) (fun c_13 => ?_)
    · refine j_lload_n C0 d_Al_finalsOf_45 rfl (by rfl) ?_
      exact j_lret C0 d_Al_finalsOf_46 rfl (by omega) (by omega) ⟨rfl, rfl, rfl⟩
    · exact absurd (nI_le (Nat.le_refl 8) (by decide)) c_13
abbrev roO (a n : Nat) : va_E := jO 5 [.ref (a + 1), .ref (a + 2), .int (nI n)]
def isRo (E : jE) (h : jH) (a n : Nat) (hs pr : Nat → Int32) : Prop := h a = some (roO a n) ∧ h (a + 1) = some (jI E 3 hs) ∧ h (a + 2) = some (jI E 3 pr) ∧ n ≤ 3
theorem isRo.keep {E : jE} {h h' : jH} {a n : Nat} {hs pr : Nat → Int32} (hm : isRo E h a n hs pr) (hk : ∀ q, a ≤ q → q < a + 3 → h' q = h q) : isRo E h' a n hs pr :=
  ⟨by rw [hk a (by omega) (by omega)]; exact hm.1, by rw [hk (a + 1) (by omega) (by omega)]; exact hm.2.1, by rw [hk (a + 2) (by omega) (by omega)]; exact hm.2.2.1, hm.2.2.2⟩
def insP (pr : Nat → Int32) (v : Int32) : Nat → Nat
  | 0 => 0
  | p + 1 => if v < pr p then insP pr v p else p + 1
theorem insP_le (pr : Nat → Int32) (v : Int32) : ∀ n, insP pr v n ≤ n
  | 0 => Nat.le_refl 0
  | n + 1 => by
    unfold insP
    split
    · have := insP_le pr v n; omega
    · exact Nat.le_refl _
def insF (f : Nat → Int32) (p n : Nat) (v : Int32) : Nat → Int32 := fun j => if j < p then f j else if j = p then v else if j ≤ n then f (j - 1) else f j
def shF (f : Nat → Int32) (p n : Nat) : Nat → Int32 := fun j => if p < j ∧ j ≤ n then f (j - 1) else f j
theorem shF_n (f : Nat → Int32) (n : Nat) : shF f n n = f := by funext j; unfold shF; rw [if_neg (by omega)]
theorem shF_s (f : Nat → Int32) {p n : Nat} (hp : p + 1 ≤ n) : upd (shF f (p + 1) n) (p + 1) (shF f (p + 1) n p) = shF f p n := by
  funext j
  unfold upd shF
  by_cases h0 : j = p + 1
  · subst h0; rw [if_pos rfl, if_neg (by omega), if_pos (by omega)]; rfl
  · rw [if_neg h0]
    by_cases h1 : p + 1 < j ∧ j ≤ n
    · rw [if_pos h1, if_pos (by omega)]
    · rw [if_neg h1, if_neg (by omega)]
theorem shF_f (f : Nat → Int32) (v : Int32) {p n : Nat} (hp : p ≤ n) : upd (shF f p n) p v = insF f p n v := by
  funext j
  unfold upd shF insF
  by_cases h0 : j = p
  · subst h0; rw [if_pos rfl, if_neg (by omega), if_pos rfl]
  · rw [if_neg h0]
    by_cases h1 : j < p
    · rw [if_neg (by omega), if_pos h1]
    · rw [if_neg h1, if_neg h0]
      by_cases h2 : j ≤ n
      · rw [if_pos (by omega), if_pos h2]
      · rw [if_neg (by omega), if_neg h2]
set_option maxHeartbeats 4000000 in
set_option maxRecDepth 100000 in
theorem c_Ro_init (l : Launch) (E : jE) {h : jH} {sz a : Nat} (e0 : h a = some (jO 5 [.null, .null, .int 0])) (hz : sz = a + 1) : jC l M_Ro_init 1 E [.ref a] h sz 2 6 (fun r h' sz' => r = none ∧ isRo E h' a 0 (fun _ => 0) (fun _ => 0) ∧ (∀ q, q < a → h' q = h q) ∧ sz' = a + 3) := by
  subst hz
  refine jC.of (by decide) (Nat.le_of_ble_eq_true rfl) ?_
  intro x C0 hx
  subst hx

  refine j_aload_n C0 d_Ro_init_0 rfl (by rfl) ?_
  refine j_obj C0 d_Ro_init_1 w_1_46 w_1_18 w_1_19 (by omega) (Nat.le_of_ble_eq_true rfl) ?_
  refine j_aload_n C0 d_Ro_init_4 rfl (by rfl) ?_
  refine j_iconst C0 d_Ro_init_5 (v := 3) (by decide) ?_
  refine j_newi C0 (N := 3) d_Ro_init_6 w_1_59 rfl (by decide) (by omega) (by omega) ?_
  refine j_putF C0 d_Ro_init_8 fp_Ro_9 (by (repeat (first | rw [jset_s] | rw [jset_n (by omega)] | rw [reH_0] | rw [reH_1] | rw [reH_2] | rw [reH_n (by omega)])) <;> first | rfl | assumption) (Nat.le_of_ble_eq_true rfl) (by rfl) (by rfl) rfl ?_
  refine j_aload_n C0 d_Ro_init_11 rfl (by rfl) ?_
  refine j_iconst C0 d_Ro_init_12 (v := 3) (by decide) ?_
  refine j_newi C0 (N := 3) d_Ro_init_13 w_1_59 rfl (by decide) (by omega) (by omega) ?_
  refine j_putF C0 d_Ro_init_15 fp_Ro_15 (by (repeat (first | rw [jset_s] | rw [jset_n (by omega)] | rw [reH_0] | rw [reH_1] | rw [reH_2] | rw [reH_n (by omega)])) <;> first | rfl | assumption) (Nat.le_of_ble_eq_true rfl) (by rfl) (by rfl) rfl ?_
  refine j_aload_n C0 d_Ro_init_18 rfl (by rfl) ?_
  refine j_iconst C0 d_Ro_init_19 (v := 0) (by decide) ?_
  refine j_putf C0 d_Ro_init_20 fp_Ro_18 (by (repeat (first | rw [jset_s] | rw [jset_n (by omega)] | rw [reH_0] | rw [reH_1] | rw [reH_2] | rw [reH_n (by omega)])) <;> first | rfl | assumption) (Nat.le_of_ble_eq_true rfl) (by rfl) (by rfl) ?_
  exact j_vret C0 d_Ro_init_23 rfl (by omega) (by omega) ⟨rfl, ⟨by rw [jset_s]; rfl, by repeat (first | rw [jset_s] | rw [jset_n (by omega)]), by repeat (first | rw [jset_s] | rw [jset_n (by omega)]), by decide⟩, fun q hq => by (repeat rw [jset_n (by omega)]), rfl⟩
set_option maxHeartbeats 4000000 in
set_option maxRecDepth 100000 in
theorem c_Ro_clear (l : Launch) (E : jE) {h : jH} {sz a n : Nat} {hs pr : Nat → Int32} (hr : isRo E h a n hs pr) : jC l M_Ro_clear 0 E [.ref a] h sz 0 0 (fun r h' sz' => r = some (.int (nI n)) ∧ isRo E h' a 0 hs pr ∧ (∀ q, q < a ∨ a + 3 ≤ q → h' q = h q) ∧ sz' = sz) := by
  obtain ⟨e0, e1, e2, hn⟩ := hr
  refine jC.of (by decide) (Nat.le_of_ble_eq_true rfl) ?_
  intro x C0 hx
  subst hx

  refine j_aload_n C0 d_Ro_clear_0 rfl (by rfl) ?_
  refine j_getf C0 d_Ro_clear_1 fl_Ro_18 (by (repeat (first | rw [jset_s] | rw [jset_n (by omega)] | rw [reH_0] | rw [reH_1] | rw [reH_2] | rw [reH_n (by omega)])) <;> first | rfl | assumption) (by rfl) ?_
  refine j_istore_n C0 d_Ro_clear_4 rfl (Nat.le_of_ble_eq_true rfl) ?_
  refine j_aload_n C0 d_Ro_clear_5 rfl (by rfl) ?_
  refine j_iconst C0 d_Ro_clear_6 (v := 0) (by decide) ?_
  refine j_putf C0 d_Ro_clear_7 fp_Ro_18 (by (repeat (first | rw [jset_s] | rw [jset_n (by omega)] | rw [reH_0] | rw [reH_1] | rw [reH_2] | rw [reH_n (by omega)])) <;> first | rfl | assumption) (Nat.le_of_ble_eq_true rfl) (by rfl) (by rfl) ?_
  refine j_iload_n C0 d_Ro_clear_10 rfl (by rfl) ?_
  exact j_iret C0 d_Ro_clear_11 rfl (by omega) (by omega) ⟨rfl, ⟨by rw [jset_s]; rfl, by rw [jset_n (by omega)]; exact e1, by rw [jset_n (by omega)]; exact e2, by decide⟩, fun q hq => by rw [jset_n (by omega)], rfl⟩
theorem cnt_mono (f : Nat → Int32) (v : Int32) : ∀ {i j : Nat}, i ≤ j → cnt f v i ≤ cnt f v j := by
  intro i j h
  induction j with
  | zero => rw [show i = 0 by omega]; exact Nat.le_refl _
  | succ j ih =>
    by_cases hij : i = j + 1
    · rw [hij]; exact Nat.le_refl _
    · have := ih (by omega)
      simp only [cnt]
      omega
set_option maxHeartbeats 4000000 in
set_option maxRecDepth 100000 in
theorem c_Ro_hasRoomFor (l : Launch) (E : jE) {h : jH} {sz a n : Nat} {hs pr : Nat → Int32} (v : Int32) (hr : isRo E h a n hs pr) : jC l M_Ro_hasRoomFor 0 E [.ref a, .int v] h sz 0 0 (fun r h' sz' => r = some (.int (jb (cnt hs v n = 0 ∧ n < 3))) ∧ h' = h ∧ sz' = sz) := by
  obtain ⟨e0, e1, e2, hn⟩ := hr
  refine jC.of (by decide) (Nat.le_of_ble_eq_true rfl) ?_
  intro x C0 hx
  subst hx

  refine j_iconst C0 d_Ro_hasRoomFor_0 (v := 0) (by decide) ?_
  refine j_istore_n C0 d_Ro_hasRoomFor_1 rfl (Nat.le_of_ble_eq_true rfl) ?_
  refine j_lv (lv' := [(0, .ref a), (1, .int v), (2, .int (nI 0))]) ⟨rfl, rfl, rfl, trivial⟩ ?_
  refine j_forI n (fun i => cnt hs v i = 0) (fun _ => h) (fun i => [(0, .ref a), (1, .int v), (2, .int (nI i))]) ?_ ?_ 0 (Nat.zero_le n) rfl
  · intro i hi hI ih
    refine j_iload_n C0 d_Ro_hasRoomFor_2 rfl (by rfl) ?_
    refine j_aload_n C0 d_Ro_hasRoomFor_3 rfl (by rfl) ?_
    refine j_getf C0 d_Ro_hasRoomFor_4 fl_Ro_18 (by (repeat (first | rw [jset_s] | rw [jset_n (by omega)] | rw [reH_0] | rw [reH_1] | rw [reH_2] | rw [reH_n (by omega)])) <;> first | rfl | assumption) (by rfl) ?_
    refine j_icmp_ge C0 d_Ro_hasRoomFor_7 (tgt := 28) (by decide) (fun c_7 => ?_) (fun c_7 => ?_)
    · exact absurd c_7 (nI_ge hi (by omega))
    · refine j_aload_n C0 d_Ro_hasRoomFor_10 rfl (by rfl) ?_
      refine j_getf C0 d_Ro_hasRoomFor_11 fl_Ro_9 (by (repeat (first | rw [jset_s] | rw [jset_n (by omega)] | rw [reH_0] | rw [reH_1] | rw [reH_2] | rw [reH_n (by omega)])) <;> first | rfl | assumption) (by rfl) ?_
      refine j_iload_n C0 d_Ro_hasRoomFor_14 rfl (by rfl) ?_
      refine j_iald C0 d_Ro_hasRoomFor_15 (by (repeat (first | rw [jset_s] | rw [jset_n (by omega)] | rw [reH_0] | rw [reH_1] | rw [reH_2] | rw [reH_n (by omega)])) <;> first | rfl | assumption) rfl (by omega) (by decide) ?_
      refine j_iload_n C0 d_Ro_hasRoomFor_16 rfl (by rfl) ?_
      refine j_icmp_ne C0 d_Ro_hasRoomFor_17 (tgt := 22) (by decide) (fun c_17 => ?_) (fun c_17 => ?_)
      · refine j_iinc C0 d_Ro_hasRoomFor_22 (by rfl) (jinc _) (Nat.le_of_ble_eq_true rfl) ?_
        refine j_goto C0 d_Ro_hasRoomFor_25 (tgt := 2) (by decide) ?_
        exact j_to (ih (by rw [cnt_n c_17]; exact hI)) rfl ⟨rfl, rfl, rfl, trivial⟩
      · refine j_iconst C0 d_Ro_hasRoomFor_20 (v := 0) (by decide) ?_
        exact j_zret C0 d_Ro_hasRoomFor_21 rfl (by rfl) (by omega) (by omega) ⟨by have h1 := cnt_y (f := hs) c_17; have h2 := cnt_mono hs v (show i + 1 ≤ n by omega); rw [jb, if_neg (by omega)], rfl, rfl⟩
  · intro hI
    refine j_iload_n C0 d_Ro_hasRoomFor_2 rfl (by rfl) ?_
    refine j_aload_n C0 d_Ro_hasRoomFor_3 rfl (by rfl) ?_
    refine j_getf C0 d_Ro_hasRoomFor_4 fl_Ro_18 (by (repeat (first | rw [jset_s] | rw [jset_n (by omega)] | rw [reH_0] | rw [reH_1] | rw [reH_2] | rw [reH_n (by omega)])) <;> first | rfl | assumption) (by rfl) ?_
    refine j_icmp_ge C0 d_Ro_hasRoomFor_7 (tgt := 28) (by decide) (fun c_7 => ?_) (fun c_7 => ?_)
    · refine j_aload_n C0 d_Ro_hasRoomFor_28 rfl (by rfl) ?_
      refine j_getf C0 d_Ro_hasRoomFor_29 fl_Ro_18 (by (repeat (first | rw [jset_s] | rw [jset_n (by omega)] | rw [reH_0] | rw [reH_1] | rw [reH_2] | rw [reH_n (by omega)])) <;> first | rfl | assumption) (by rfl) ?_
      refine j_iconst C0 d_Ro_hasRoomFor_32 (v := 3) (by decide) ?_
      refine j_icmp_ge C0 d_Ro_hasRoomFor_33 (tgt := 40) (by decide) (fun c_33 => ?_) (fun c_33 => ?_)
      · have hA : ¬ n < 3 := fun hh => nI_ge (b := 3) hh (by decide) c_33
        refine j_iconst C0 d_Ro_hasRoomFor_40 (v := 0) (by decide) ?_
        exact j_zret C0 d_Ro_hasRoomFor_41 rfl (by rfl) (by omega) (by omega) ⟨by simp [jb, hI, hA], rfl, rfl⟩
      · have hA : n < 3 := Nat.lt_of_not_le (fun hh => c_33 (nI_le (a := 3) hh (by omega)))
        refine j_iconst C0 d_Ro_hasRoomFor_36 (v := 1) (by decide) ?_
        refine j_goto C0 d_Ro_hasRoomFor_37 (tgt := 41) (by decide) ?_
        exact j_zret C0 d_Ro_hasRoomFor_41 rfl (by rfl) (by omega) (by omega) ⟨by simp [jb, hI, hA], rfl, rfl⟩
    · exact absurd (nI_le (Nat.le_refl _) (by omega)) c_7
set_option maxHeartbeats 4000000 in
set_option maxRecDepth 100000 in
theorem c_Ro_add (l : Launch) (E : jE) {h : jH} {sz a n : Nat} {hs pr : Nat → Int32} (u v : Int32) (hr : isRo E h a n hs pr) (h3 : n < 3) : jC l M_Ro_add 0 E [.ref a, .int u, .int v] h sz 0 0 (fun r h' sz' => r = some (.int (nI (n + 1))) ∧ isRo E h' a (n + 1) (insF hs (insP pr v n) n u) (insF pr (insP pr v n) n v) ∧ (∀ q, q < a ∨ a + 3 ≤ q → h' q = h q) ∧ sz' = sz) := by
  obtain ⟨e0, e1, e2, hn⟩ := hr
  refine jC.of (by decide) (Nat.le_of_ble_eq_true rfl) ?_
  intro x C0 hx
  subst hx

  refine j_aload_n C0 d_Ro_add_0 rfl (by rfl) ?_
  refine j_getf C0 d_Ro_add_1 fl_Ro_18 (by (repeat (first | rw [jset_s] | rw [jset_n (by omega)] | rw [reH_0] | rw [reH_1] | rw [reH_2] | rw [reH_n (by omega)])) <;> first | rfl | assumption) (by rfl) ?_
  refine j_istore_n C0 d_Ro_add_4 rfl (Nat.le_of_ble_eq_true rfl) ?_
  refine j_to (h' := jset (jset h (a + 1) (jI E 3 (shF hs n n))) (a + 2) (jI E 3 (shF pr n n))) (lv' := [(0, .ref a), (1, .int u), (2, .int v), (3, .int (nI n))]) ?_ (by rw [shF_n, shF_n, jset_self e1, jset_self e2]) ⟨rfl, rfl, rfl, rfl, trivial⟩
  refine j_down (fun p => p ≤ n ∧ insP pr v n = insP pr v p) (fun p => jset (jset h (a + 1) (jI E 3 (shF hs p n))) (a + 2) (jI E 3 (shF pr p n))) (fun p => [(0, .ref a), (1, .int u), (2, .int v), (3, .int (nI p))]) ?_ ?_ n ⟨Nat.le_refl n, rfl⟩
  · intro hI
    obtain ⟨hI1, hI2⟩ := hI
    have hI2 : insP pr v n = 0 := hI2
    refine j_iload_n C0 d_Ro_add_5 rfl (by rfl) ?_
    refine j_if_le C0 d_Ro_add_6 (tgt := 55) (by decide) (fun c_6 => ?_) (fun c_6 => ?_)
    · refine j_aload_n C0 d_Ro_add_55 rfl (by rfl) ?_
      refine j_getf C0 d_Ro_add_56 fl_Ro_9 (by (repeat (first | rw [jset_s] | rw [jset_n (by omega)] | rw [reH_0] | rw [reH_1] | rw [reH_2] | rw [reH_n (by omega)])) <;> first | rfl | assumption) (by rfl) ?_
      refine j_iload_n C0 d_Ro_add_59 rfl (by rfl) ?_
      refine j_iload_n C0 d_Ro_add_60 rfl (by rfl) ?_
      refine j_iast C0 d_Ro_add_61 (by (repeat (first | rw [jset_s] | rw [jset_n (by omega)] | rw [reH_0] | rw [reH_1] | rw [reH_2] | rw [reH_n (by omega)])) <;> first | rfl | assumption) rfl (by omega) (by decide) ?_
      rw [show jset (jset (jset h (a + 1) (jI E 3 (shF hs 0 n))) (a + 2) (jI E 3 (shF pr 0 n))) (a + 1) (jI E 3 (upd (shF hs 0 n) 0 u)) = jset (jset h (a + 1) (jI E 3 (insF hs 0 n u))) (a + 2) (jI E 3 (shF pr 0 n)) by rw [shF_f _ _ (by omega)]; funext q; unfold jset; by_cases h1 : q = a + 1 <;> simp [h1]]
      refine j_aload_n C0 d_Ro_add_62 rfl (by rfl) ?_
      refine j_getf C0 d_Ro_add_63 fl_Ro_15 (by (repeat (first | rw [jset_s] | rw [jset_n (by omega)] | rw [reH_0] | rw [reH_1] | rw [reH_2] | rw [reH_n (by omega)])) <;> first | rfl | assumption) (by rfl) ?_
      refine j_iload_n C0 d_Ro_add_66 rfl (by rfl) ?_
      refine j_iload_n C0 d_Ro_add_67 rfl (by rfl) ?_
      refine j_iast C0 d_Ro_add_68 (by (repeat (first | rw [jset_s] | rw [jset_n (by omega)] | rw [reH_0] | rw [reH_1] | rw [reH_2] | rw [reH_n (by omega)])) <;> first | rfl | assumption) rfl (by omega) (by decide) ?_
      rw [jset_ss, shF_f _ _ (by omega)]
      refine j_aload_n C0 d_Ro_add_69 rfl (by rfl) ?_
      refine j_dup C0 d_Ro_add_70 rfl ?_
      refine j_getf C0 d_Ro_add_71 fl_Ro_18 (by (repeat (first | rw [jset_s] | rw [jset_n (by omega)] | rw [reH_0] | rw [reH_1] | rw [reH_2] | rw [reH_n (by omega)])) <;> first | rfl | assumption) (by rfl) ?_
      refine j_iconst C0 d_Ro_add_74 (v := 1) (by decide) ?_
      refine j_iadd C0 d_Ro_add_75 ?_
      rw [nI_1]
      refine j_putf C0 d_Ro_add_76 fp_Ro_18 (by (repeat (first | rw [jset_s] | rw [jset_n (by omega)] | rw [reH_0] | rw [reH_1] | rw [reH_2] | rw [reH_n (by omega)])) <;> first | rfl | assumption) (Nat.le_of_ble_eq_true rfl) (by rfl) (by rfl) ?_
      refine j_aload_n C0 d_Ro_add_79 rfl (by rfl) ?_
      refine j_getf C0 d_Ro_add_80 fl_Ro_18 (by (repeat (first | rw [jset_s] | rw [jset_n (by omega)] | rw [reH_0] | rw [reH_1] | rw [reH_2] | rw [reH_n (by omega)])) <;> first | rfl | assumption) (by rfl) ?_
      exact j_iret C0 d_Ro_add_83 rfl (by omega) (by omega) ⟨rfl, ⟨by rw [jset_s]; rfl, by rw [hI2]; repeat (first | rw [jset_s] | rw [jset_n (by omega)]), by rw [hI2]; repeat (first | rw [jset_s] | rw [jset_n (by omega)]), by omega⟩, fun q hq => by (repeat rw [jset_n (by omega)]), rfl⟩
    · exact absurd (show nI 0 ≤ 0 by decide) c_6
  · intro p hI ih
    obtain ⟨hI1, hI2⟩ := hI
    have es : nI (p + 1) - 1 = nI p := nI_pred p
    have ep : shF pr (p + 1) n p = pr p := by unfold shF; rw [if_neg (by omega)]
    refine j_iload_n C0 d_Ro_add_5 rfl (by rfl) ?_
    refine j_if_le C0 d_Ro_add_6 (tgt := 55) (by decide) (fun c_6 => ?_) (fun c_6 => ?_)
    · exact absurd c_6 (nI_nle (by omega) (by omega))
    · refine j_aload_n C0 d_Ro_add_9 rfl (by rfl) ?_
      refine j_getf C0 d_Ro_add_10 fl_Ro_15 (by (repeat (first | rw [jset_s] | rw [jset_n (by omega)] | rw [reH_0] | rw [reH_1] | rw [reH_2] | rw [reH_n (by omega)])) <;> first | rfl | assumption) (by rfl) ?_
      refine j_iload_n C0 d_Ro_add_13 rfl (by rfl) ?_
      refine j_iconst C0 d_Ro_add_14 (v := 1) (by decide) ?_
      refine j_isub C0 d_Ro_add_15 ?_
      rw [es]
      refine j_iald C0 d_Ro_add_16 (by (repeat (first | rw [jset_s] | rw [jset_n (by omega)] | rw [reH_0] | rw [reH_1] | rw [reH_2] | rw [reH_n (by omega)])) <;> first | rfl | assumption) rfl (by omega) (by decide) ?_
      refine j_iload_n C0 d_Ro_add_17 rfl (by rfl) ?_
      rw [ep]
      refine j_icmp_le C0 d_Ro_add_18 (tgt := 55) (by decide) (fun c_18 => ?_) (fun c_18 => ?_)
      · have hI2 : insP pr v n = p + 1 := by rw [hI2]; show (if _ then _ else _) = _; rw [if_neg (Int32.not_lt.mpr c_18)]
        refine j_aload_n C0 d_Ro_add_55 rfl (by rfl) ?_
        refine j_getf C0 d_Ro_add_56 fl_Ro_9 (by (repeat (first | rw [jset_s] | rw [jset_n (by omega)] | rw [reH_0] | rw [reH_1] | rw [reH_2] | rw [reH_n (by omega)])) <;> first | rfl | assumption) (by rfl) ?_
        refine j_iload_n C0 d_Ro_add_59 rfl (by rfl) ?_
        refine j_iload_n C0 d_Ro_add_60 rfl (by rfl) ?_
        refine j_iast C0 d_Ro_add_61 (by (repeat (first | rw [jset_s] | rw [jset_n (by omega)] | rw [reH_0] | rw [reH_1] | rw [reH_2] | rw [reH_n (by omega)])) <;> first | rfl | assumption) rfl (by omega) (by decide) ?_
        rw [show jset (jset (jset h (a + 1) (jI E 3 (shF hs (p + 1) n))) (a + 2) (jI E 3 (shF pr (p + 1) n))) (a + 1) (jI E 3 (upd (shF hs (p + 1) n) (p + 1) u)) = jset (jset h (a + 1) (jI E 3 (insF hs (p + 1) n u))) (a + 2) (jI E 3 (shF pr (p + 1) n)) by rw [shF_f _ _ (by omega)]; funext q; unfold jset; by_cases h1 : q = a + 1 <;> simp [h1]]
        refine j_aload_n C0 d_Ro_add_62 rfl (by rfl) ?_
        refine j_getf C0 d_Ro_add_63 fl_Ro_15 (by (repeat (first | rw [jset_s] | rw [jset_n (by omega)] | rw [reH_0] | rw [reH_1] | rw [reH_2] | rw [reH_n (by omega)])) <;> first | rfl | assumption) (by rfl) ?_
        refine j_iload_n C0 d_Ro_add_66 rfl (by rfl) ?_
        refine j_iload_n C0 d_Ro_add_67 rfl (by rfl) ?_
        refine j_iast C0 d_Ro_add_68 (by (repeat (first | rw [jset_s] | rw [jset_n (by omega)] | rw [reH_0] | rw [reH_1] | rw [reH_2] | rw [reH_n (by omega)])) <;> first | rfl | assumption) rfl (by omega) (by decide) ?_
        rw [jset_ss, shF_f _ _ (by omega)]
        refine j_aload_n C0 d_Ro_add_69 rfl (by rfl) ?_
        refine j_dup C0 d_Ro_add_70 rfl ?_
        refine j_getf C0 d_Ro_add_71 fl_Ro_18 (by (repeat (first | rw [jset_s] | rw [jset_n (by omega)] | rw [reH_0] | rw [reH_1] | rw [reH_2] | rw [reH_n (by omega)])) <;> first | rfl | assumption) (by rfl) ?_
        refine j_iconst C0 d_Ro_add_74 (v := 1) (by decide) ?_
        refine j_iadd C0 d_Ro_add_75 ?_
        rw [nI_1]
        refine j_putf C0 d_Ro_add_76 fp_Ro_18 (by (repeat (first | rw [jset_s] | rw [jset_n (by omega)] | rw [reH_0] | rw [reH_1] | rw [reH_2] | rw [reH_n (by omega)])) <;> first | rfl | assumption) (Nat.le_of_ble_eq_true rfl) (by rfl) (by rfl) ?_
        refine j_aload_n C0 d_Ro_add_79 rfl (by rfl) ?_
        refine j_getf C0 d_Ro_add_80 fl_Ro_18 (by (repeat (first | rw [jset_s] | rw [jset_n (by omega)] | rw [reH_0] | rw [reH_1] | rw [reH_2] | rw [reH_n (by omega)])) <;> first | rfl | assumption) (by rfl) ?_
        exact j_iret C0 d_Ro_add_83 rfl (by omega) (by omega) ⟨rfl, ⟨by rw [jset_s]; rfl, by rw [hI2]; repeat (first | rw [jset_s] | rw [jset_n (by omega)]), by rw [hI2]; repeat (first | rw [jset_s] | rw [jset_n (by omega)]), by omega⟩, fun q hq => by (repeat rw [jset_n (by omega)]), rfl⟩
      · have hI3 : insP pr v n = insP pr v p := by rw [hI2]; show (if _ then _ else _) = _; rw [if_pos (Int32.not_le.mp c_18)]
        refine j_aload_n C0 d_Ro_add_21 rfl (by rfl) ?_
        refine j_getf C0 d_Ro_add_22 fl_Ro_9 (by (repeat (first | rw [jset_s] | rw [jset_n (by omega)] | rw [reH_0] | rw [reH_1] | rw [reH_2] | rw [reH_n (by omega)])) <;> first | rfl | assumption) (by rfl) ?_
        refine j_iload_n C0 d_Ro_add_25 rfl (by rfl) ?_
        refine j_aload_n C0 d_Ro_add_26 rfl (by rfl) ?_
        refine j_getf C0 d_Ro_add_27 fl_Ro_9 (by (repeat (first | rw [jset_s] | rw [jset_n (by omega)] | rw [reH_0] | rw [reH_1] | rw [reH_2] | rw [reH_n (by omega)])) <;> first | rfl | assumption) (by rfl) ?_
        refine j_iload_n C0 d_Ro_add_30 rfl (by rfl) ?_
        refine j_iconst C0 d_Ro_add_31 (v := 1) (by decide) ?_
        refine j_isub C0 d_Ro_add_32 ?_
        rw [es]
        refine j_iald C0 d_Ro_add_33 (by (repeat (first | rw [jset_s] | rw [jset_n (by omega)] | rw [reH_0] | rw [reH_1] | rw [reH_2] | rw [reH_n (by omega)])) <;> first | rfl | assumption) rfl (by omega) (by decide) ?_
        refine j_iast C0 d_Ro_add_34 (by (repeat (first | rw [jset_s] | rw [jset_n (by omega)] | rw [reH_0] | rw [reH_1] | rw [reH_2] | rw [reH_n (by omega)])) <;> first | rfl | assumption) rfl (by omega) (by decide) ?_
        rw [show jset (jset (jset h (a + 1) (jI E 3 (shF hs (p + 1) n))) (a + 2) (jI E 3 (shF pr (p + 1) n))) (a + 1) (jI E 3 (upd (shF hs (p + 1) n) (p + 1) (shF hs (p + 1) n p))) = jset (jset h (a + 1) (jI E 3 (shF hs p n))) (a + 2) (jI E 3 (shF pr (p + 1) n)) by rw [shF_s _ hI1]; funext q; unfold jset; by_cases h1 : q = a + 1 <;> simp [h1]]
        refine j_aload_n C0 d_Ro_add_35 rfl (by rfl) ?_
        refine j_getf C0 d_Ro_add_36 fl_Ro_15 (by (repeat (first | rw [jset_s] | rw [jset_n (by omega)] | rw [reH_0] | rw [reH_1] | rw [reH_2] | rw [reH_n (by omega)])) <;> first | rfl | assumption) (by rfl) ?_
        refine j_iload_n C0 d_Ro_add_39 rfl (by rfl) ?_
        refine j_aload_n C0 d_Ro_add_40 rfl (by rfl) ?_
        refine j_getf C0 d_Ro_add_41 fl_Ro_15 (by (repeat (first | rw [jset_s] | rw [jset_n (by omega)] | rw [reH_0] | rw [reH_1] | rw [reH_2] | rw [reH_n (by omega)])) <;> first | rfl | assumption) (by rfl) ?_
        refine j_iload_n C0 d_Ro_add_44 rfl (by rfl) ?_
        refine j_iconst C0 d_Ro_add_45 (v := 1) (by decide) ?_
        refine j_isub C0 d_Ro_add_46 ?_
        rw [es]
        refine j_iald C0 d_Ro_add_47 (by (repeat (first | rw [jset_s] | rw [jset_n (by omega)] | rw [reH_0] | rw [reH_1] | rw [reH_2] | rw [reH_n (by omega)])) <;> first | rfl | assumption) rfl (by omega) (by decide) ?_
        refine j_iast C0 d_Ro_add_48 (by (repeat (first | rw [jset_s] | rw [jset_n (by omega)] | rw [reH_0] | rw [reH_1] | rw [reH_2] | rw [reH_n (by omega)])) <;> first | rfl | assumption) rfl (by omega) (by decide) ?_
        rw [jset_ss, shF_s _ hI1]
        refine j_iinc C0 d_Ro_add_49 (by rfl) (show nI (p + 1) + Int32.ofInt (-1) = nI p from pk_m1 p) (Nat.le_of_ble_eq_true rfl) ?_
        refine j_goto C0 d_Ro_add_52 (tgt := 5) (by decide) ?_
        exact j_to (ih ⟨by omega, hI3⟩) rfl ⟨rfl, rfl, rfl, rfl, trivial⟩
