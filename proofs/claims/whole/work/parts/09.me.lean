theorem jset_ss {h : jH} {a : Nat} {e e' : va_E} : jset (jset h a e) a e' = jset h a e' := by
  funext q
  unfold jset
  by_cases h0 : q = a <;> simp [h0]
theorem jset_reH {E : jE} {h : jH} {a n q : Nat} {ad st : Nat → Int32} {e : va_E} (hq : q < a ∨ a + 3 ≤ q) : jset (reH E h a n ad st) q e = reH E (jset h q e) a n ad st := by
  funext p
  unfold jset reH
  by_cases h0 : p = q
  · subst h0
    simp [show ¬ p = a by omega, show ¬ p = a + 1 by omega, show ¬ p = a + 2 by omega]
  · simp [h0]
theorem reH_j0 {E : jE} {h : jH} {a n : Nat} {ad st : Nat → Int32} {e : va_E} : reH E (jset h a e) a n ad st = reH E h a n ad st := by
  funext p
  unfold jset reH
  by_cases h0 : p = a <;> simp [h0]
abbrev jmin (x y : Int32) : Int32 := if y < x then y else x
abbrev jmax (x y : Int32) : Int32 := if x < y then y else x
abbrev jb (p : Prop) [Decidable p] : Int32 := if p then 1 else 0
/-- a message: its numbers by field, how many recipients, their addresses, their states -/
abbrev jMsg : Type := (Nat → Int32) × Nat × (Nat → Int32) × (Nat → Int32)
abbrev meO (a : Nat) (μ : Nat → Int32) : va_E := jO 2 [.ref (a + 1), .int (μ 1), .int (μ 2), .int (μ 3), .int (μ 4), .int (μ 5), .int (μ 6), .int (μ 7)]
def isMe (E : jE) (h : jH) (a : Nat) (m : jMsg) : Prop := h a = some (meO a m.1) ∧ isRe E h (a + 1) m.2.1 m.2.2.1 m.2.2.2
def meH (E : jE) (h : jH) (a : Nat) (m : jMsg) : jH := reH E (jset h a (meO a m.1)) (a + 1) m.2.1 m.2.2.1 m.2.2.2
theorem meH_is {E : jE} {h : jH} {a : Nat} {m : jMsg} (hn : m.2.1 ≤ 4) : isMe E (meH E h a m) a m := ⟨by unfold meH; rw [reH_n (by omega), jset_s], reH_is hn⟩
theorem meH_n {E : jE} {h : jH} {a q : Nat} {m : jMsg} (hq : q < a ∨ a + 4 ≤ q) : meH E h a m q = h q := by
  unfold meH
  rw [reH_n (by omega), jset_n (by omega)]
theorem isMe.keep {E : jE} {h h' : jH} {a : Nat} {m : jMsg} (hm : isMe E h a m) (hk : ∀ q, a ≤ q → q < a + 4 → h' q = h q) : isMe E h' a m :=
  ⟨by rw [hk a (by omega) (by omega)]; exact hm.1, by rw [hk (a + 1) (by omega) (by omega)]; exact hm.2.1, by rw [hk (a + 1 + 1) (by omega) (by omega)]; exact hm.2.2.1, by rw [hk (a + 1 + 2) (by omega) (by omega)]; exact hm.2.2.2.1, hm.2.2.2.2⟩
theorem isRe.keep {E : jE} {h h' : jH} {a n : Nat} {ad st : Nat → Int32} (hm : isRe E h a n ad st) (hk : ∀ q, a ≤ q → q < a + 3 → h' q = h q) : isRe E h' a n ad st :=
  ⟨by rw [hk a (by omega) (by omega)]; exact hm.1, by rw [hk (a + 1) (by omega) (by omega)]; exact hm.2.1, by rw [hk (a + 2) (by omega) (by omega)]; exact hm.2.2.1, hm.2.2.2⟩
abbrev trO (a : Nat) (op snd : Int32) : va_E := jO 6 [.ref (a + 1), .int op, .int snd]
def isTr (E : jE) (h : jH) (a : Nat) (op snd : Int32) (n : Nat) (ad st : Nat → Int32) : Prop := h a = some (trO a op snd) ∧ isRe E h (a + 1) n ad st
set_option maxHeartbeats 4000000 in
set_option maxRecDepth 100000 in
theorem c_Ma_clamp (l : Launch) (E : jE) {h : jH} {sz : Nat} (v lo hi : Int32) : jC l M_Ma_clamp 1 E [.int v, .int lo, .int hi] h sz 0 0 (fun r h' sz' => r = some (.int (jmax lo (jmin v hi))) ∧ h' = h ∧ sz' = sz) := by
  refine jC.of (by decide) (Nat.le_of_ble_eq_true rfl) ?_
  intro x C0 hx
  subst hx

  refine j_iload_n C0 d_Ma_clamp_0 rfl (by rfl) ?_
  refine j_iload_n C0 d_Ma_clamp_1 rfl (by rfl) ?_
  refine j_iload_n C0 d_Ma_clamp_2 rfl (by rfl) ?_
  refine j_mmin C0 d_Ma_clamp_3 cl_Ma_218.1 cl_Ma_218v cl_Ma_218.2.1 cl_Ma_218.2.2.1 (by omega) (Nat.le_of_ble_eq_true rfl) (by omega) (by omega) ?_
  refine j_mmax C0 d_Ma_clamp_6 cl_Ma_223.1 cl_Ma_223v cl_Ma_223.2.1 cl_Ma_223.2.2.1 (by omega) (Nat.le_of_ble_eq_true rfl) (by omega) (by omega) ?_
  exact j_iret C0 d_Ma_clamp_9 rfl (by omega) (by omega) ⟨rfl, rfl, rfl⟩
set_option maxHeartbeats 4000000 in
set_option maxRecDepth 100000 in
theorem c_Ma_isBelow (l : Launch) (E : jE) {h : jH} {sz : Nat} (v b : Int32) : jC l M_Ma_isBelow 0 E [.int v, .int b] h sz 0 0 (fun r h' sz' => r = some (.int (jb (¬ v < 0 ∧ ¬ b ≤ v))) ∧ h' = h ∧ sz' = sz) := by
  refine jC.of (by decide) (Nat.le_of_ble_eq_true rfl) ?_
  intro x C0 hx
  subst hx

  refine j_iload_n C0 d_Ma_isBelow_0 rfl (by rfl) ?_
  refine j_if_lt C0 d_Ma_isBelow_1 (tgt := 13) (by decide) (fun c_1 => ?_) (fun c_1 => ?_)
  · refine j_iconst C0 d_Ma_isBelow_13 (v := 0) (by decide) ?_
    exact j_zret C0 d_Ma_isBelow_14 rfl (by rfl) (by omega) (by omega) ⟨by first | (simp [jb, c_1]; done) | (simp [jb, c_1, c_6]; done), rfl, rfl⟩
  · refine j_iload_n C0 d_Ma_isBelow_4 rfl (by rfl) ?_
    refine j_iload_n C0 d_Ma_isBelow_5 rfl (by rfl) ?_
    refine j_icmp_ge C0 d_Ma_isBelow_6 (tgt := 13) (by decide) (fun c_6 => ?_) (fun c_6 => ?_)
    · refine j_iconst C0 d_Ma_isBelow_13 (v := 0) (by decide) ?_
      exact j_zret C0 d_Ma_isBelow_14 rfl (by rfl) (by omega) (by omega) ⟨by first | (simp [jb, c_1]; done) | (simp [jb, c_1, c_6]; done), rfl, rfl⟩
    · refine j_iconst C0 d_Ma_isBelow_9 (v := 1) (by decide) ?_
      refine j_goto C0 d_Ma_isBelow_10 (tgt := 14) (by decide) ?_
      exact j_zret C0 d_Ma_isBelow_14 rfl (by rfl) (by omega) (by omega) ⟨by first | (simp [jb, c_1]; done) | (simp [jb, c_1, c_6]; done), rfl, rfl⟩
set_option maxHeartbeats 4000000 in
set_option maxRecDepth 100000 in
theorem c_Ma_isForeign (l : Launch) (E : jE) {h : jH} {sz : Nat} (v : Int32) : jC l M_Ma_isForeign 1 E [.int v] h sz 0 0 (fun r h' sz' => r = some (.int (jb (¬ v = 0 ∧ ¬ v < 0 ∧ ¬ 8 ≤ v))) ∧ h' = h ∧ sz' = sz) := by
  refine jC.of (by decide) (Nat.le_of_ble_eq_true rfl) ?_
  intro x C0 hx
  subst hx

  refine j_iload_n C0 d_Ma_isForeign_0 rfl (by rfl) ?_
  refine j_if_eq C0 d_Ma_isForeign_1 (tgt := 17) (by decide) (fun c_1 => ?_) (fun c_1 => ?_)
  · refine j_iconst C0 d_Ma_isForeign_17 (v := 0) (by decide) ?_
    exact j_zret C0 d_Ma_isForeign_18 rfl (by rfl) (by omega) (by omega) ⟨by first | (rw [jb, if_neg (fun hh => hh.1 c_1)]; done) | (rw [jb, if_neg (fun hh => hB hh.2)]; done) | (rw [jb, if_pos ⟨c_1, hB⟩]; done), rfl, rfl⟩
  · refine j_iload_n C0 d_Ma_isForeign_4 rfl (by rfl) ?_
    refine j_bipush C0 d_Ma_isForeign_5 (v := 8) (by decide) ?_
    refine j_callS C0 d_Ma_isForeign_7 cl_Ma_74 cl_Ma_74v (c_Ma_isBelow _ E v 8) rfl rfl ⟨by decide, by decide⟩ ⟨by omega, by omega⟩ (Nat.le_of_ble_eq_true rfl) (fun r_ h_ z_ hp_ => ?_)
    obtain ⟨rfl, rfl, rfl⟩ := hp_
    refine j_if_eq C0 d_Ma_isForeign_10 (tgt := 17) (by decide) (fun c_10 => ?_) (fun c_10 => ?_)
    · have hB : ¬ (¬ v < 0 ∧ ¬ (8 : Int32) ≤ v) := fun hB => by rw [show jb (¬ v < 0 ∧ ¬ (8 : Int32) ≤ v) = 1 from if_pos hB] at c_10; exact absurd c_10 (by decide)
      refine j_iconst C0 d_Ma_isForeign_17 (v := 0) (by decide) ?_
      exact j_zret C0 d_Ma_isForeign_18 rfl (by rfl) (by omega) (by omega) ⟨by first | (rw [jb, if_neg (fun hh => hh.1 c_1)]; done) | (rw [jb, if_neg (fun hh => hB hh.2)]; done) | (rw [jb, if_pos ⟨c_1, hB⟩]; done), rfl, rfl⟩
    · have hB : ¬ v < 0 ∧ ¬ (8 : Int32) ≤ v := Decidable.byContradiction fun hB => c_10 (if_neg hB)
      refine j_iconst C0 d_Ma_isForeign_13 (v := 1) (by decide) ?_
      refine j_goto C0 d_Ma_isForeign_14 (tgt := 18) (by decide) ?_
      exact j_zret C0 d_Ma_isForeign_18 rfl (by rfl) (by omega) (by omega) ⟨by first | (rw [jb, if_neg (fun hh => hh.1 c_1)]; done) | (rw [jb, if_neg (fun hh => hB hh.2)]; done) | (rw [jb, if_pos ⟨c_1, hB⟩]; done), rfl, rfl⟩
set_option maxHeartbeats 4000000 in
set_option maxRecDepth 100000 in
theorem c_Ma_costOf (l : Launch) (E : jE) {h : jH} {sz : Nat} (v w : Int32) : jC l M_Ma_costOf 0 E [.int v, .int w] h sz 0 0 (fun r h' sz' => r = some (.int (v + w + 1)) ∧ h' = h ∧ sz' = sz) := by
  refine jC.of (by decide) (Nat.le_of_ble_eq_true rfl) ?_
  intro x C0 hx
  subst hx

  refine j_iload_n C0 d_Ma_costOf_0 rfl (by rfl) ?_
  refine j_iload_n C0 d_Ma_costOf_1 rfl (by rfl) ?_
  refine j_iadd C0 d_Ma_costOf_2 ?_
  refine j_iconst C0 d_Ma_costOf_3 (v := 1) (by decide) ?_
  refine j_iadd C0 d_Ma_costOf_4 ?_
  exact j_iret C0 d_Ma_costOf_5 rfl (by omega) (by omega) ⟨rfl, rfl, rfl⟩
set_option maxHeartbeats 4000000 in
set_option maxRecDepth 100000 in
theorem c_Lo_bitCount (l : Launch) (E : jE) {h : jH} {sz m : Nat} (hm : m < 2 ^ 64) : jC l M_Lo_bitCount 0 E [.long (lN m)] h sz 0 0 (fun r h' sz' => r = some (.int (nI (pp_c m 64))) ∧ h' = h ∧ sz' = sz) := by
  refine jC.of (by decide) (Nat.le_of_ble_eq_true rfl) ?_
  intro x C0 hx
  subst hx

  refine j_lload_n C0 d_Lo_bitCount_0 rfl (by rfl) ?_
  refine j_lload_n C0 d_Lo_bitCount_1 rfl (by rfl) ?_
  refine j_iconst C0 d_Lo_bitCount_2 (v := 1) (by decide) ?_
  refine j_lushr C0 d_Lo_bitCount_3 rfl ?_
  refine j_ldc2 C0 d_Lo_bitCount_4 w_1_238 ?_
  refine j_land C0 d_Lo_bitCount_7 ?_
  refine j_lsub C0 d_Lo_bitCount_8 ?_
  refine j_lstore_n C0 d_Lo_bitCount_9 rfl (Nat.le_of_ble_eq_true rfl) ?_
  refine j_lload_n C0 d_Lo_bitCount_10 rfl (by rfl) ?_
  refine j_ldc2 C0 d_Lo_bitCount_11 w_1_239 ?_
  refine j_land C0 d_Lo_bitCount_14 ?_
  refine j_lload_n C0 d_Lo_bitCount_15 rfl (by rfl) ?_
  refine j_iconst C0 d_Lo_bitCount_16 (v := 2) (by decide) ?_
  refine j_lushr C0 d_Lo_bitCount_17 rfl ?_
  refine j_ldc2 C0 d_Lo_bitCount_18 w_1_239 ?_
  refine j_land C0 d_Lo_bitCount_21 ?_
  refine j_ladd C0 d_Lo_bitCount_22 ?_
  refine j_lstore_n C0 d_Lo_bitCount_23 rfl (Nat.le_of_ble_eq_true rfl) ?_
  refine j_lload_n C0 d_Lo_bitCount_24 rfl (by rfl) ?_
  refine j_lload_n C0 d_Lo_bitCount_25 rfl (by rfl) ?_
  refine j_iconst C0 d_Lo_bitCount_26 (v := 4) (by decide) ?_
  refine j_lushr C0 d_Lo_bitCount_27 rfl ?_
  refine j_ladd C0 d_Lo_bitCount_28 ?_
  refine j_ldc2 C0 d_Lo_bitCount_29 w_2_0 ?_
  refine j_land C0 d_Lo_bitCount_32 ?_
  refine j_lstore_n C0 d_Lo_bitCount_33 rfl (Nat.le_of_ble_eq_true rfl) ?_
  refine j_lload_n C0 d_Lo_bitCount_34 rfl (by rfl) ?_
  refine j_lload_n C0 d_Lo_bitCount_35 rfl (by rfl) ?_
  refine j_bipush C0 d_Lo_bitCount_36 (v := 8) (by decide) ?_
  refine j_lushr C0 d_Lo_bitCount_38 rfl ?_
  refine j_ladd C0 d_Lo_bitCount_39 ?_
  refine j_lstore_n C0 d_Lo_bitCount_40 rfl (Nat.le_of_ble_eq_true rfl) ?_
  refine j_lload_n C0 d_Lo_bitCount_41 rfl (by rfl) ?_
  refine j_lload_n C0 d_Lo_bitCount_42 rfl (by rfl) ?_
  refine j_bipush C0 d_Lo_bitCount_43 (v := 16) (by decide) ?_
  refine j_lushr C0 d_Lo_bitCount_45 rfl ?_
  refine j_ladd C0 d_Lo_bitCount_46 ?_
  refine j_lstore_n C0 d_Lo_bitCount_47 rfl (Nat.le_of_ble_eq_true rfl) ?_
  refine j_lload_n C0 d_Lo_bitCount_48 rfl (by rfl) ?_
  refine j_lload_n C0 d_Lo_bitCount_49 rfl (by rfl) ?_
  refine j_bipush C0 d_Lo_bitCount_50 (v := 32) (by decide) ?_
  refine j_lushr C0 d_Lo_bitCount_52 rfl ?_
  refine j_ladd C0 d_Lo_bitCount_53 ?_
  refine j_lstore_n C0 d_Lo_bitCount_54 rfl (Nat.le_of_ble_eq_true rfl) ?_
  refine j_lload_n C0 d_Lo_bitCount_55 rfl (by rfl) ?_
  refine j_l2i C0 d_Lo_bitCount_56 rfl ?_
  refine j_bipush C0 d_Lo_bitCount_57 (v := 127) (by decide) ?_
  refine j_iand C0 d_Lo_bitCount_59 ?_
  exact j_iret C0 d_Lo_bitCount_60 rfl (by omega) (by omega) ⟨congrArg (fun z => some (Value.int z)) (bc_all m hm rfl rfl rfl rfl rfl rfl), rfl, rfl⟩
set_option maxHeartbeats 4000000 in
set_option maxRecDepth 100000 in
theorem c_Me_init (l : Launch) (E : jE) {h : jH} {sz a : Nat} (e0 : h a = some (jO 2 [.null, .int 0, .int 0, .int 0, .int 0, .int 0, .int 0, .int 0])) (hz : sz = a + 1) : jC l M_Me_init 2 E [.ref a] h sz 3 11 (fun r h' sz' => r = none ∧ h' = meH E h a (fun _ => 0, 0, fun _ => 0, fun _ => 0) ∧ sz' = a + 4) := by
  subst hz
  refine jC.of (by decide) (Nat.le_of_ble_eq_true rfl) ?_
  intro x C0 hx
  subst hx

  refine j_aload_n C0 d_Me_init_0 rfl (by rfl) ?_
  refine j_obj C0 d_Me_init_1 w_1_114 w_1_18 w_1_19 (by omega) (Nat.le_of_ble_eq_true rfl) ?_
  refine j_aload_n C0 d_Me_init_4 rfl (by rfl) ?_
  refine j_new C0 d_Me_init_5 nw_Me_9 (by omega) (by omega) ?_
  refine j_dup C0 d_Me_init_8 rfl ?_
  refine j_callIN C0 d_Me_init_9 cn_Me_11 cn_Me_11v rfl rfl (c_Re_init _ E jset_s rfl) rfl rfl ⟨by decide, by decide⟩ ⟨by omega, by omega⟩ (Nat.le_of_ble_eq_true rfl) (fun r_ h_ z_ hp_ => ?_)
  obtain ⟨rfl, rfl, rfl⟩ := hp_
  refine j_putF C0 d_Me_init_12 fp_Me_12 (by (repeat (first | rw [jset_s] | rw [jset_n (by omega)] | rw [reH_0] | rw [reH_1] | rw [reH_2] | rw [reH_n (by omega)])) <;> first | rfl | assumption) (Nat.le_of_ble_eq_true rfl) (by rfl) (by rfl) rfl ?_
  exact j_vret C0 d_Me_init_15 rfl (by omega) (by omega) ⟨rfl, by unfold meH; rw [reH_j0, jset_reH (by omega)]; rfl, rfl⟩
set_option maxHeartbeats 4000000 in
set_option maxRecDepth 100000 in
theorem c_Me_schedule (l : Launch) (E : jE) {h : jH} {sz a : Nat} {m : jMsg} (c g : Int32) (hm : isMe E h a m) : jC l M_Me_schedule 0 E [.ref a, .int c, .int g] h sz 0 0 (fun r h' sz' => r = none ∧ h' = jset h a (meO a (upd (upd (upd m.1 4 c) 5 c) 6 g)) ∧ sz' = sz) := by
  obtain ⟨e0, e1, e2, e3, hn⟩ := hm
  refine jC.of (by decide) (Nat.le_of_ble_eq_true rfl) ?_
  intro x C0 hx
  subst hx

  refine j_aload_n C0 d_Me_schedule_0 rfl (by rfl) ?_
  refine j_iload_n C0 d_Me_schedule_1 rfl (by rfl) ?_
  refine j_putf C0 d_Me_schedule_2 fp_Me_40 (by (repeat (first | rw [jset_s] | rw [jset_n (by omega)] | rw [reH_0] | rw [reH_1] | rw [reH_2] | rw [reH_n (by omega)])) <;> first | rfl | assumption) (Nat.le_of_ble_eq_true rfl) (by rfl) (by rfl) ?_
  refine j_aload_n C0 d_Me_schedule_5 rfl (by rfl) ?_
  refine j_iload_n C0 d_Me_schedule_6 rfl (by rfl) ?_
  refine j_putf C0 d_Me_schedule_7 fp_Me_43 (by (repeat (first | rw [jset_s] | rw [jset_n (by omega)] | rw [reH_0] | rw [reH_1] | rw [reH_2] | rw [reH_n (by omega)])) <;> first | rfl | assumption) (Nat.le_of_ble_eq_true rfl) (by rfl) (by rfl) ?_
  refine j_aload_n C0 d_Me_schedule_10 rfl (by rfl) ?_
  refine j_iload_n C0 d_Me_schedule_11 rfl (by rfl) ?_
  refine j_putf C0 d_Me_schedule_12 fp_Me_46 (by (repeat (first | rw [jset_s] | rw [jset_n (by omega)] | rw [reH_0] | rw [reH_1] | rw [reH_2] | rw [reH_n (by omega)])) <;> first | rfl | assumption) (Nat.le_of_ble_eq_true rfl) (by rfl) (by rfl) ?_
  exact j_vret C0 d_Me_schedule_15 rfl (by omega) (by omega) ⟨rfl, by rw [jset_ss, jset_ss]; rfl, rfl⟩
set_option maxHeartbeats 4000000 in
set_option maxRecDepth 100000 in
theorem c_Me_putOff (l : Launch) (E : jE) {h : jH} {sz a : Nat} {m : jMsg} (c g : Int32) (hm : isMe E h a m) : jC l M_Me_putOff 1 E [.ref a, .int c, .int g] h sz 0 0 (fun r h' sz' => r = none ∧ h' = jset h a (meO a (upd (upd m.1 5 (c + m.1 6)) 6 (jmin (m.1 6 * 2) g))) ∧ sz' = sz) := by
  obtain ⟨e0, e1, e2, e3, hn⟩ := hm
  refine jC.of (by decide) (Nat.le_of_ble_eq_true rfl) ?_
  intro x C0 hx
  subst hx

  refine j_aload_n C0 d_Me_putOff_0 rfl (by rfl) ?_
  refine j_iload_n C0 d_Me_putOff_1 rfl (by rfl) ?_
  refine j_aload_n C0 d_Me_putOff_2 rfl (by rfl) ?_
  refine j_getf C0 d_Me_putOff_3 fl_Me_46 (by (repeat (first | rw [jset_s] | rw [jset_n (by omega)] | rw [reH_0] | rw [reH_1] | rw [reH_2] | rw [reH_n (by omega)])) <;> first | rfl | assumption) (by rfl) ?_
  refine j_iadd C0 d_Me_putOff_6 ?_
  refine j_putf C0 d_Me_putOff_7 fp_Me_43 (by (repeat (first | rw [jset_s] | rw [jset_n (by omega)] | rw [reH_0] | rw [reH_1] | rw [reH_2] | rw [reH_n (by omega)])) <;> first | rfl | assumption) (Nat.le_of_ble_eq_true rfl) (by rfl) (by rfl) ?_
  refine j_aload_n C0 d_Me_putOff_10 rfl (by rfl) ?_
  refine j_aload_n C0 d_Me_putOff_11 rfl (by rfl) ?_
  refine j_getf C0 d_Me_putOff_12 fl_Me_46 (by (repeat (first | rw [jset_s] | rw [jset_n (by omega)] | rw [reH_0] | rw [reH_1] | rw [reH_2] | rw [reH_n (by omega)])) <;> first | rfl | assumption) (by rfl) ?_
  refine j_iconst C0 d_Me_putOff_15 (v := 2) (by decide) ?_
  refine j_imul C0 d_Me_putOff_16 ?_
  refine j_iload_n C0 d_Me_putOff_17 rfl (by rfl) ?_
  refine j_mmin C0 d_Me_putOff_18 cl_Me_49.1 cl_Me_49v cl_Me_49.2.1 cl_Me_49.2.2.1 (by omega) (Nat.le_of_ble_eq_true rfl) (by omega) (by omega) ?_
  refine j_putf C0 d_Me_putOff_21 fp_Me_46 (by (repeat (first | rw [jset_s] | rw [jset_n (by omega)] | rw [reH_0] | rw [reH_1] | rw [reH_2] | rw [reH_n (by omega)])) <;> first | rfl | assumption) (Nat.le_of_ble_eq_true rfl) (by rfl) (by rfl) ?_
  exact j_vret C0 d_Me_putOff_24 rfl (by omega) (by omega) ⟨rfl, by rw [jset_ss]; rfl, rfl⟩
set_option maxHeartbeats 4000000 in
set_option maxRecDepth 100000 in
theorem c_Me_becomeReport (l : Launch) (E : jE) {h : jH} {sz a : Nat} {m : jMsg} (hm : isMe E h a m) : jC l M_Me_becomeReport 1 E [.ref a] h sz 0 0 (fun r h' sz' => r = none ∧ h' = meH E h a (upd (upd (upd m.1 2 (-1)) 3 0) 7 1, 1, upd m.2.2.1 0 (m.1 2), upd m.2.2.2 0 1) ∧ sz' = sz) := by
  obtain ⟨e0, e1, e2, e3, hn⟩ := hm
  refine jC.of (by decide) (Nat.le_of_ble_eq_true rfl) ?_
  intro x C0 hx
  subst hx

  refine j_aload_n C0 d_Me_becomeReport_0 rfl (by rfl) ?_
  refine j_getf C0 d_Me_becomeReport_1 fl_Me_12 (by (repeat (first | rw [jset_s] | rw [jset_n (by omega)] | rw [reH_0] | rw [reH_1] | rw [reH_2] | rw [reH_n (by omega)])) <;> first | rfl | assumption) (by rfl) ?_
  refine j_iconst C0 d_Me_becomeReport_4 (v := 0) (by decide) ?_
  refine j_putf C0 d_Me_becomeReport_5 fp_Me_55 (by (repeat (first | rw [jset_s] | rw [jset_n (by omega)] | rw [reH_0] | rw [reH_1] | rw [reH_2] | rw [reH_n (by omega)])) <;> first | rfl | assumption) (Nat.le_of_ble_eq_true rfl) (by rfl) (by rfl) ?_
  refine j_aload_n C0 d_Me_becomeReport_8 rfl (by rfl) ?_
  refine j_getf C0 d_Me_becomeReport_9 fl_Me_12 (by (repeat (first | rw [jset_s] | rw [jset_n (by omega)] | rw [reH_0] | rw [reH_1] | rw [reH_2] | rw [reH_n (by omega)])) <;> first | rfl | assumption) (by rfl) ?_
  refine j_aload_n C0 d_Me_becomeReport_12 rfl (by rfl) ?_
  refine j_getf C0 d_Me_becomeReport_13 fl_Me_27 (by (repeat (first | rw [jset_s] | rw [jset_n (by omega)] | rw [reH_0] | rw [reH_1] | rw [reH_2] | rw [reH_n (by omega)])) <;> first | rfl | assumption) (by rfl) ?_
  refine j_callV C0 d_Me_becomeReport_16 cl_Me_56 cl_Me_56v (c_Re_add _ E (n := 0) (ad := m.2.2.1) (st := m.2.2.2) (m.1 2) ⟨jset_s, by rw [jset_n (by omega)]; exact e2, by rw [jset_n (by omega)]; exact e3, by omega⟩ (by decide)) (by (repeat (first | rw [jset_s] | rw [jset_n (by omega)] | rw [reH_0] | rw [reH_1] | rw [reH_2] | rw [reH_n (by omega)])) <;> first | rfl | assumption) rfl rfl rfl ⟨by decide, by decide⟩ ⟨by omega, by omega⟩ (Nat.le_of_ble_eq_true rfl) (fun r_ h_ z_ hp_ => ?_)
  obtain ⟨rfl, rfl, rfl⟩ := hp_
  rw [reH_j0]
  refine j_aload_n C0 d_Me_becomeReport_19 rfl (by rfl) ?_
  refine j_iconst C0 d_Me_becomeReport_20 (v := -1) (by decide) ?_
  refine j_putf C0 d_Me_becomeReport_21 fp_Me_27 (by (repeat (first | rw [jset_s] | rw [jset_n (by omega)] | rw [reH_0] | rw [reH_1] | rw [reH_2] | rw [reH_n (by omega)])) <;> first | rfl | assumption) (Nat.le_of_ble_eq_true rfl) (by rfl) (by rfl) ?_
  refine j_aload_n C0 d_Me_becomeReport_24 rfl (by rfl) ?_
  refine j_iconst C0 d_Me_becomeReport_25 (v := 0) (by decide) ?_
  refine j_putf C0 d_Me_becomeReport_26 fp_Me_28 (by (repeat (first | rw [jset_s] | rw [jset_n (by omega)] | rw [reH_0] | rw [reH_1] | rw [reH_2] | rw [reH_n (by omega)])) <;> first | rfl | assumption) (Nat.le_of_ble_eq_true rfl) (by rfl) (by rfl) ?_
  refine j_aload_n C0 d_Me_becomeReport_29 rfl (by rfl) ?_
  refine j_iconst C0 d_Me_becomeReport_30 (v := 1) (by decide) ?_
  refine j_putf C0 d_Me_becomeReport_31 fp_Me_31 (by (repeat (first | rw [jset_s] | rw [jset_n (by omega)] | rw [reH_0] | rw [reH_1] | rw [reH_2] | rw [reH_n (by omega)])) <;> first | rfl | assumption) (Nat.le_of_ble_eq_true rfl) (by rfl) (by rfl) ?_
  exact j_vret C0 d_Me_becomeReport_34 rfl (by omega) (by omega) ⟨rfl, by unfold meH; rw [jset_ss, jset_ss, jset_reH (by omega)]; rfl, rfl⟩
set_option maxHeartbeats 4000000 in
set_option maxRecDepth 100000 in
theorem c_Me_accept (l : Launch) (E : jE) {h : jH} {sz a t n : Nat} {m : jMsg} {op snd : Int32} {ad st : Nat → Int32} (num size : Int32) (hm : isMe E h a m) (ht : isTr E h t op snd n ad st) (hat : a + 4 ≤ t ∨ t + 4 ≤ a) : jC l M_Me_accept 1 E [.ref a, .int num, .int size, .ref t] h sz 0 0 (fun r h' sz' => r = none ∧ h' = meH E h a (upd (upd (upd (upd m.1 1 num) 2 snd) 3 size) 7 0, n, cp m.2.2.1 ad n, cp m.2.2.2 st n) ∧ sz' = sz) := by
  obtain ⟨e0, e1, e2, e3, hn⟩ := hm
  obtain ⟨f0, f1, f2, f3, fn⟩ := ht
  refine jC.of (by decide) (Nat.le_of_ble_eq_true rfl) ?_
  intro x C0 hx
  subst hx

  refine j_aload_n C0 d_Me_accept_0 rfl (by rfl) ?_
  refine j_iload_n C0 d_Me_accept_1 rfl (by rfl) ?_
  refine j_putf C0 d_Me_accept_2 fp_Me_18 (by (repeat (first | rw [jset_s] | rw [jset_n (by omega)] | rw [reH_0] | rw [reH_1] | rw [reH_2] | rw [reH_n (by omega)])) <;> first | rfl | assumption) (Nat.le_of_ble_eq_true rfl) (by rfl) (by rfl) ?_
  refine j_aload_n C0 d_Me_accept_5 rfl (by rfl) ?_
  refine j_aload_n C0 d_Me_accept_6 rfl (by rfl) ?_
  refine j_getf C0 d_Me_accept_7 fl_Me_22 (by (repeat (first | rw [jset_s] | rw [jset_n (by omega)] | rw [reH_0] | rw [reH_1] | rw [reH_2] | rw [reH_n (by omega)])) <;> first | rfl | assumption) (by rfl) ?_
  refine j_putf C0 d_Me_accept_10 fp_Me_27 (by (repeat (first | rw [jset_s] | rw [jset_n (by omega)] | rw [reH_0] | rw [reH_1] | rw [reH_2] | rw [reH_n (by omega)])) <;> first | rfl | assumption) (Nat.le_of_ble_eq_true rfl) (by rfl) (by rfl) ?_
  refine j_aload_n C0 d_Me_accept_13 rfl (by rfl) ?_
  refine j_iload_n C0 d_Me_accept_14 rfl (by rfl) ?_
  refine j_putf C0 d_Me_accept_15 fp_Me_28 (by (repeat (first | rw [jset_s] | rw [jset_n (by omega)] | rw [reH_0] | rw [reH_1] | rw [reH_2] | rw [reH_n (by omega)])) <;> first | rfl | assumption) (Nat.le_of_ble_eq_true rfl) (by rfl) (by rfl) ?_
  refine j_aload_n C0 d_Me_accept_18 rfl (by rfl) ?_
  refine j_iconst C0 d_Me_accept_19 (v := 0) (by decide) ?_
  refine j_putf C0 d_Me_accept_20 fp_Me_31 (by (repeat (first | rw [jset_s] | rw [jset_n (by omega)] | rw [reH_0] | rw [reH_1] | rw [reH_2] | rw [reH_n (by omega)])) <;> first | rfl | assumption) (Nat.le_of_ble_eq_true rfl) (by rfl) (by rfl) ?_
  refine j_aload_n C0 d_Me_accept_23 rfl (by rfl) ?_
  refine j_getf C0 d_Me_accept_24 fl_Me_12 (by (repeat (first | rw [jset_s] | rw [jset_n (by omega)] | rw [reH_0] | rw [reH_1] | rw [reH_2] | rw [reH_n (by omega)])) <;> first | rfl | assumption) (by rfl) ?_
  refine j_aload_n C0 d_Me_accept_27 rfl (by rfl) ?_
  refine j_getf C0 d_Me_accept_28 fl_Me_35 (by (repeat (first | rw [jset_s] | rw [jset_n (by omega)] | rw [reH_0] | rw [reH_1] | rw [reH_2] | rw [reH_n (by omega)])) <;> first | rfl | assumption) (by rfl) ?_
  refine j_callV C0 d_Me_accept_31 cl_Me_36 cl_Me_36v (c_Re_copyFrom _ E (n := m.2.1) (ad := m.2.2.1) (st := m.2.2.2) (n2 := n) (ad2 := ad) (st2 := st) (isRe.keep (h := h) ⟨e1, e2, e3, hn⟩ (fun q h1 h2 => by rw [jset_n (by omega), jset_n (by omega), jset_n (by omega), jset_n (by omega)])) (isRe.keep (h := h) ⟨f1, f2, f3, fn⟩ (fun q h1 h2 => by rw [jset_n (by omega), jset_n (by omega), jset_n (by omega), jset_n (by omega)])) (by omega)) (by (repeat (first | rw [jset_n (by omega)])) <;> exact e1) rfl rfl rfl ⟨by decide, by decide⟩ ⟨by omega, by omega⟩ (Nat.le_of_ble_eq_true rfl) (fun r_ h_ z_ hp_ => ?_)
  obtain ⟨rfl, rfl, rfl⟩ := hp_
  exact j_vret C0 d_Me_accept_34 rfl (by omega) (by omega) ⟨rfl, by unfold meH; rw [jset_ss, jset_ss, jset_ss]; rfl, rfl⟩
set_option maxHeartbeats 4000000 in
set_option maxRecDepth 100000 in
theorem c_Me_copyFrom (l : Launch) (E : jE) {h : jH} {sz a t : Nat} {m m2 : jMsg} (hm : isMe E h a m) (ht : isMe E h t m2) (hat : a + 4 ≤ t ∨ t + 4 ≤ a) (hb : m2.1 7 = 0 ∨ m2.1 7 = 1) : jC l M_Me_copyFrom 1 E [.ref a, .ref t] h sz 0 0 (fun r h' sz' => r = none ∧ h' = meH E h a (m2.1, m2.2.1, cp m.2.2.1 m2.2.2.1 m2.2.1, cp m.2.2.2 m2.2.2.2 m2.2.1) ∧ sz' = sz) := by
  obtain ⟨e0, e1, e2, e3, hn⟩ := hm
  obtain ⟨f0, f1, f2, f3, fn⟩ := ht
  refine jC.of (by decide) (Nat.le_of_ble_eq_true rfl) ?_
  intro x C0 hx
  subst hx

  refine j_aload_n C0 d_Me_copyFrom_0 rfl (by rfl) ?_
  refine j_aload_n C0 d_Me_copyFrom_1 rfl (by rfl) ?_
  refine j_getf C0 d_Me_copyFrom_2 fl_Me_18 (by (repeat (first | rw [jset_s] | rw [jset_n (by omega)] | rw [reH_0] | rw [reH_1] | rw [reH_2] | rw [reH_n (by omega)])) <;> first | rfl | assumption) (by rfl) ?_
  refine j_putf C0 d_Me_copyFrom_5 fp_Me_18 (by (repeat (first | rw [jset_s] | rw [jset_n (by omega)] | rw [reH_0] | rw [reH_1] | rw [reH_2] | rw [reH_n (by omega)])) <;> first | rfl | assumption) (Nat.le_of_ble_eq_true rfl) (by rfl) (by rfl) ?_
  refine j_aload_n C0 d_Me_copyFrom_8 rfl (by rfl) ?_
  refine j_aload_n C0 d_Me_copyFrom_9 rfl (by rfl) ?_
  refine j_getf C0 d_Me_copyFrom_10 fl_Me_27 (by (repeat (first | rw [jset_s] | rw [jset_n (by omega)] | rw [reH_0] | rw [reH_1] | rw [reH_2] | rw [reH_n (by omega)])) <;> first | rfl | assumption) (by rfl) ?_
  refine j_putf C0 d_Me_copyFrom_13 fp_Me_27 (by (repeat (first | rw [jset_s] | rw [jset_n (by omega)] | rw [reH_0] | rw [reH_1] | rw [reH_2] | rw [reH_n (by omega)])) <;> first | rfl | assumption) (Nat.le_of_ble_eq_true rfl) (by rfl) (by rfl) ?_
  refine j_aload_n C0 d_Me_copyFrom_16 rfl (by rfl) ?_
  refine j_aload_n C0 d_Me_copyFrom_17 rfl (by rfl) ?_
  refine j_getf C0 d_Me_copyFrom_18 fl_Me_28 (by (repeat (first | rw [jset_s] | rw [jset_n (by omega)] | rw [reH_0] | rw [reH_1] | rw [reH_2] | rw [reH_n (by omega)])) <;> first | rfl | assumption) (by rfl) ?_
  refine j_putf C0 d_Me_copyFrom_21 fp_Me_28 (by (repeat (first | rw [jset_s] | rw [jset_n (by omega)] | rw [reH_0] | rw [reH_1] | rw [reH_2] | rw [reH_n (by omega)])) <;> first | rfl | assumption) (Nat.le_of_ble_eq_true rfl) (by rfl) (by rfl) ?_
  refine j_aload_n C0 d_Me_copyFrom_24 rfl (by rfl) ?_
  refine j_aload_n C0 d_Me_copyFrom_25 rfl (by rfl) ?_
  refine j_getf C0 d_Me_copyFrom_26 fl_Me_40 (by (repeat (first | rw [jset_s] | rw [jset_n (by omega)] | rw [reH_0] | rw [reH_1] | rw [reH_2] | rw [reH_n (by omega)])) <;> first | rfl | assumption) (by rfl) ?_
  refine j_putf C0 d_Me_copyFrom_29 fp_Me_40 (by (repeat (first | rw [jset_s] | rw [jset_n (by omega)] | rw [reH_0] | rw [reH_1] | rw [reH_2] | rw [reH_n (by omega)])) <;> first | rfl | assumption) (Nat.le_of_ble_eq_true rfl) (by rfl) (by rfl) ?_
  refine j_aload_n C0 d_Me_copyFrom_32 rfl (by rfl) ?_
  refine j_aload_n C0 d_Me_copyFrom_33 rfl (by rfl) ?_
  refine j_getf C0 d_Me_copyFrom_34 fl_Me_43 (by (repeat (first | rw [jset_s] | rw [jset_n (by omega)] | rw [reH_0] | rw [reH_1] | rw [reH_2] | rw [reH_n (by omega)])) <;> first | rfl | assumption) (by rfl) ?_
  refine j_putf C0 d_Me_copyFrom_37 fp_Me_43 (by (repeat (first | rw [jset_s] | rw [jset_n (by omega)] | rw [reH_0] | rw [reH_1] | rw [reH_2] | rw [reH_n (by omega)])) <;> first | rfl | assumption) (Nat.le_of_ble_eq_true rfl) (by rfl) (by rfl) ?_
  refine j_aload_n C0 d_Me_copyFrom_40 rfl (by rfl) ?_
  refine j_aload_n C0 d_Me_copyFrom_41 rfl (by rfl) ?_
  refine j_getf C0 d_Me_copyFrom_42 fl_Me_46 (by (repeat (first | rw [jset_s] | rw [jset_n (by omega)] | rw [reH_0] | rw [reH_1] | rw [reH_2] | rw [reH_n (by omega)])) <;> first | rfl | assumption) (by rfl) ?_
  refine j_putf C0 d_Me_copyFrom_45 fp_Me_46 (by (repeat (first | rw [jset_s] | rw [jset_n (by omega)] | rw [reH_0] | rw [reH_1] | rw [reH_2] | rw [reH_n (by omega)])) <;> first | rfl | assumption) (Nat.le_of_ble_eq_true rfl) (by rfl) (by rfl) ?_
  refine j_aload_n C0 d_Me_copyFrom_48 rfl (by rfl) ?_
  refine j_aload_n C0 d_Me_copyFrom_49 rfl (by rfl) ?_
  refine j_getf C0 d_Me_copyFrom_50 fl_Me_31 (by (repeat (first | rw [jset_s] | rw [jset_n (by omega)] | rw [reH_0] | rw [reH_1] | rw [reH_2] | rw [reH_n (by omega)])) <;> first | rfl | assumption) (by rfl) ?_
  refine j_putf C0 d_Me_copyFrom_53 fp_Me_31 (by (repeat (first | rw [jset_s] | rw [jset_n (by omega)] | rw [reH_0] | rw [reH_1] | rw [reH_2] | rw [reH_n (by omega)])) <;> first | rfl | assumption) (Nat.le_of_ble_eq_true rfl) (by rcases hb with hb | hb <;> rw [hb] <;> rfl) (by rcases hb with hb | hb <;> rw [hb] <;> rfl) ?_
  refine j_aload_n C0 d_Me_copyFrom_56 rfl (by rfl) ?_
  refine j_getf C0 d_Me_copyFrom_57 fl_Me_12 (by (repeat (first | rw [jset_s] | rw [jset_n (by omega)] | rw [reH_0] | rw [reH_1] | rw [reH_2] | rw [reH_n (by omega)])) <;> first | rfl | assumption) (by rfl) ?_
  refine j_aload_n C0 d_Me_copyFrom_60 rfl (by rfl) ?_
  refine j_getf C0 d_Me_copyFrom_61 fl_Me_12 (by (repeat (first | rw [jset_s] | rw [jset_n (by omega)] | rw [reH_0] | rw [reH_1] | rw [reH_2] | rw [reH_n (by omega)])) <;> first | rfl | assumption) (by rfl) ?_
  refine j_callV C0 d_Me_copyFrom_64 cl_Me_36 cl_Me_36v (c_Re_copyFrom _ E (n := m.2.1) (ad := m.2.2.1) (st := m.2.2.2) (n2 := m2.2.1) (ad2 := m2.2.2.1) (st2 := m2.2.2.2) (isRe.keep (h := h) ⟨e1, e2, e3, hn⟩ (fun q h1 h2 => by rw [jset_n (by omega), jset_n (by omega), jset_n (by omega), jset_n (by omega), jset_n (by omega), jset_n (by omega), jset_n (by omega)])) (isRe.keep (h := h) ⟨f1, f2, f3, fn⟩ (fun q h1 h2 => by rw [jset_n (by omega), jset_n (by omega), jset_n (by omega), jset_n (by omega), jset_n (by omega), jset_n (by omega), jset_n (by omega)])) (by omega)) (by (repeat (first | rw [jset_n (by omega)])) <;> exact e1) rfl rfl rfl ⟨by decide, by decide⟩ ⟨by omega, by omega⟩ (Nat.le_of_ble_eq_true rfl) (fun r_ h_ z_ hp_ => ?_)
  obtain ⟨rfl, rfl, rfl⟩ := hp_
  exact j_vret C0 d_Me_copyFrom_67 rfl (by omega) (by omega) ⟨rfl, by unfold meH; rw [jset_ss, jset_ss, jset_ss, jset_ss, jset_ss, jset_ss]; rfl, rfl⟩
set_option maxHeartbeats 4000000 in
set_option maxRecDepth 100000 in
theorem c_Tr_init (l : Launch) (E : jE) {h : jH} {sz a : Nat} (e0 : h a = some (jO 6 [.null, .int 0, .int 0])) (hz : sz = a + 1) : jC l M_Tr_init 2 E [.ref a] h sz 3 11 (fun r h' sz' => r = none ∧ h' = reH E (jset h a (trO a 0 (-1))) (a + 1) 0 (fun _ => 0) (fun _ => 0) ∧ sz' = a + 4) := by
  subst hz
  refine jC.of (by decide) (Nat.le_of_ble_eq_true rfl) ?_
  intro x C0 hx
  subst hx

  refine j_aload_n C0 d_Tr_init_0 rfl (by rfl) ?_
  refine j_obj C0 d_Tr_init_1 w_1_65 w_1_18 w_1_19 (by omega) (Nat.le_of_ble_eq_true rfl) ?_
  refine j_aload_n C0 d_Tr_init_4 rfl (by rfl) ?_
  refine j_new C0 d_Tr_init_5 nw_Tr_9 (by omega) (by omega) ?_
  refine j_dup C0 d_Tr_init_8 rfl ?_
  refine j_callIN C0 d_Tr_init_9 cn_Tr_11 cn_Tr_11v rfl rfl (c_Re_init _ E jset_s rfl) rfl rfl ⟨by decide, by decide⟩ ⟨by omega, by omega⟩ (Nat.le_of_ble_eq_true rfl) (fun r_ h_ z_ hp_ => ?_)
  obtain ⟨rfl, rfl, rfl⟩ := hp_
  refine j_putF C0 d_Tr_init_12 fp_Tr_12 (by (repeat (first | rw [jset_s] | rw [jset_n (by omega)] | rw [reH_0] | rw [reH_1] | rw [reH_2] | rw [reH_n (by omega)])) <;> first | rfl | assumption) (Nat.le_of_ble_eq_true rfl) (by rfl) (by rfl) rfl ?_
  refine j_aload_n C0 d_Tr_init_15 rfl (by rfl) ?_
  refine j_iconst C0 d_Tr_init_16 (v := 0) (by decide) ?_
  refine j_putf C0 d_Tr_init_17 fp_Tr_18 (by (repeat (first | rw [jset_s] | rw [jset_n (by omega)] | rw [reH_0] | rw [reH_1] | rw [reH_2] | rw [reH_n (by omega)])) <;> first | rfl | assumption) (Nat.le_of_ble_eq_true rfl) (by rfl) (by rfl) ?_
  refine j_aload_n C0 d_Tr_init_20 rfl (by rfl) ?_
  refine j_iconst C0 d_Tr_init_21 (v := -1) (by decide) ?_
  refine j_putf C0 d_Tr_init_22 fp_Tr_22 (by (repeat (first | rw [jset_s] | rw [jset_n (by omega)] | rw [reH_0] | rw [reH_1] | rw [reH_2] | rw [reH_n (by omega)])) <;> first | rfl | assumption) (Nat.le_of_ble_eq_true rfl) (by rfl) (by rfl) ?_
  exact j_vret C0 d_Tr_init_25 rfl (by omega) (by omega) ⟨rfl, by rw [reH_j0, jset_ss, jset_ss, jset_reH (by omega)]; rfl, rfl⟩
set_option maxHeartbeats 4000000 in
set_option maxRecDepth 100000 in
theorem c_Tr_start (l : Launch) (E : jE) {h : jH} {sz a n : Nat} {op snd : Int32} {ad st : Nat → Int32} (v : Int32) (hm : isTr E h a op snd n ad st) : jC l M_Tr_start 0 E [.ref a, .int v] h sz 0 0 (fun r h' sz' => r = none ∧ isTr E h' a 1 v 0 ad st ∧ (∀ q, q < a ∨ a + 4 ≤ q → h' q = h q) ∧ sz' = sz) := by
  obtain ⟨e0, e1, e2, e3, hn⟩ := hm
  refine jC.of (by decide) (Nat.le_of_ble_eq_true rfl) ?_
  intro x C0 hx
  subst hx

  refine j_aload_n C0 d_Tr_start_0 rfl (by rfl) ?_
  refine j_iconst C0 d_Tr_start_1 (v := 1) (by decide) ?_
  refine j_putf C0 d_Tr_start_2 fp_Tr_18 (by (repeat (first | rw [jset_s] | rw [jset_n (by omega)] | rw [reH_0] | rw [reH_1] | rw [reH_2] | rw [reH_n (by omega)])) <;> first | rfl | assumption) (Nat.le_of_ble_eq_true rfl) (by rfl) (by rfl) ?_
  refine j_aload_n C0 d_Tr_start_5 rfl (by rfl) ?_
  refine j_iload_n C0 d_Tr_start_6 rfl (by rfl) ?_
  refine j_putf C0 d_Tr_start_7 fp_Tr_22 (by (repeat (first | rw [jset_s] | rw [jset_n (by omega)] | rw [reH_0] | rw [reH_1] | rw [reH_2] | rw [reH_n (by omega)])) <;> first | rfl | assumption) (Nat.le_of_ble_eq_true rfl) (by rfl) (by rfl) ?_
  refine j_aload_n C0 d_Tr_start_10 rfl (by rfl) ?_
  refine j_getf C0 d_Tr_start_11 fl_Tr_12 (by (repeat (first | rw [jset_s] | rw [jset_n (by omega)] | rw [reH_0] | rw [reH_1] | rw [reH_2] | rw [reH_n (by omega)])) <;> first | rfl | assumption) (by rfl) ?_
  refine j_iconst C0 d_Tr_start_14 (v := 0) (by decide) ?_
  refine j_putf C0 d_Tr_start_15 fp_Tr_26 (by (repeat (first | rw [jset_s] | rw [jset_n (by omega)] | rw [reH_0] | rw [reH_1] | rw [reH_2] | rw [reH_n (by omega)])) <;> first | rfl | assumption) (Nat.le_of_ble_eq_true rfl) (by rfl) (by rfl) ?_
  exact j_vret C0 d_Tr_start_18 rfl (by omega) (by omega) ⟨rfl, ⟨by rw [jset_n (by omega), jset_s]; rfl, by rw [jset_s]; rfl, by (repeat rw [jset_n (by omega)]); exact e2, by (repeat rw [jset_n (by omega)]); exact e3, by omega⟩, fun q hq => by (repeat rw [jset_n (by omega)]), rfl⟩
abbrev deO (a : Nat) : va_E := jO 1 [.ref (a + 1), .ref (a + 2), .ref (a + 3), .ref (a + 4)]
def isDe (E : jE) (h : jH) (a : Nat) (le re la ca : Nat → Int32) : Prop := h a = some (deO a) ∧ h (a + 1) = some (jI E 64 le) ∧ h (a + 2) = some (jI E 64 re) ∧ h (a + 3) = some (jI E 64 la) ∧ h (a + 4) = some (jI E 8 ca)
set_option maxHeartbeats 4000000 in
set_option maxRecDepth 100000 in
theorem c_De_init (l : Launch) (E : jE) {h : jH} {sz a : Nat} (e0 : h a = some (jO 1 [.null, .null, .null, .null])) (hz : sz = a + 1) : jC l M_De_init 1 E [.ref a] h sz 4 200 (fun r h' sz' => r = none ∧ isDe E h' a (fun _ => 0) (fun _ => 0) (fun _ => 0) (fun _ => 0) ∧ (∀ q, q < a → h' q = h q) ∧ sz' = a + 5) := by
  subst hz
  refine jC.of (by decide) (Nat.le_of_ble_eq_true rfl) ?_
  intro x C0 hx
  subst hx

  refine j_aload_n C0 d_De_init_0 rfl (by rfl) ?_
  refine j_obj C0 d_De_init_1 w_1_166 w_1_18 w_1_19 (by omega) (Nat.le_of_ble_eq_true rfl) ?_
  refine j_aload_n C0 d_De_init_4 rfl (by rfl) ?_
  refine j_bipush C0 d_De_init_5 (v := 64) (by decide) ?_
  refine j_newi C0 (N := 64) d_De_init_7 w_1_59 rfl (by decide) (by omega) (by omega) ?_
  refine j_putF C0 d_De_init_9 fp_De_9 (by (repeat (first | rw [jset_s] | rw [jset_n (by omega)] | rw [reH_0] | rw [reH_1] | rw [reH_2] | rw [reH_n (by omega)])) <;> first | rfl | assumption) (Nat.le_of_ble_eq_true rfl) (by rfl) (by rfl) rfl ?_
  refine j_aload_n C0 d_De_init_12 rfl (by rfl) ?_
  refine j_bipush C0 d_De_init_13 (v := 64) (by decide) ?_
  refine j_newi C0 (N := 64) d_De_init_15 w_1_59 rfl (by decide) (by omega) (by omega) ?_
  refine j_putF C0 d_De_init_17 fp_De_15 (by (repeat (first | rw [jset_s] | rw [jset_n (by omega)] | rw [reH_0] | rw [reH_1] | rw [reH_2] | rw [reH_n (by omega)])) <;> first | rfl | assumption) (Nat.le_of_ble_eq_true rfl) (by rfl) (by rfl) rfl ?_
  refine j_aload_n C0 d_De_init_20 rfl (by rfl) ?_
  refine j_bipush C0 d_De_init_21 (v := 64) (by decide) ?_
  refine j_newi C0 (N := 64) d_De_init_23 w_1_59 rfl (by decide) (by omega) (by omega) ?_
  refine j_putF C0 d_De_init_25 fp_De_18 (by (repeat (first | rw [jset_s] | rw [jset_n (by omega)] | rw [reH_0] | rw [reH_1] | rw [reH_2] | rw [reH_n (by omega)])) <;> first | rfl | assumption) (Nat.le_of_ble_eq_true rfl) (by rfl) (by rfl) rfl ?_
  refine j_aload_n C0 d_De_init_28 rfl (by rfl) ?_
  refine j_bipush C0 d_De_init_29 (v := 8) (by decide) ?_
  refine j_newi C0 (N := 8) d_De_init_31 w_1_59 rfl (by decide) (by omega) (by omega) ?_
  refine j_putF C0 d_De_init_33 fp_De_21 (by (repeat (first | rw [jset_s] | rw [jset_n (by omega)] | rw [reH_0] | rw [reH_1] | rw [reH_2] | rw [reH_n (by omega)])) <;> first | rfl | assumption) (Nat.le_of_ble_eq_true rfl) (by rfl) (by rfl) rfl ?_
  exact j_vret C0 d_De_init_36 rfl (by omega) (by omega) ⟨rfl, ⟨by rw [jset_s]; rfl, by repeat (first | rw [jset_s] | rw [jset_n (by omega)]), by repeat (first | rw [jset_s] | rw [jset_n (by omega)]), by repeat (first | rw [jset_s] | rw [jset_n (by omega)]), by repeat (first | rw [jset_s] | rw [jset_n (by omega)])⟩, fun q hq => by (repeat rw [jset_n (by omega)]), rfl⟩
set_option maxHeartbeats 4000000 in
set_option maxRecDepth 100000 in
theorem c_De_note (l : Launch) (E : jE) {h : jH} {sz a t k : Nat} {m : jMsg} {le re la ca : Nat → Int32} (hk : k < 64) (hd : isDe E h a le re la ca) (hm : isMe E h t m) (hat : a + 5 ≤ t ∨ t + 4 ≤ a) (hb : m.1 7 = 0 ∨ m.1 7 = 1) : jC l M_De_note 0 E [.ref a, .int (nI k), .ref t] h sz 0 0 (fun r h' sz' => r = none ∧ isDe E h' a (if m.1 7 = 1 then le else upd le k (le k + 1)) (if m.1 7 = 1 then upd re k (re k + 1) else re) (upd la k (m.1 1)) ca ∧ (∀ q, q < a ∨ a + 5 ≤ q → h' q = h q) ∧ sz' = sz) := by
  obtain ⟨e0, e1, e2, e3, e4⟩ := hd
  obtain ⟨f0, f1, f2, f3, fn⟩ := hm
  refine jC.of (by decide) (Nat.le_of_ble_eq_true rfl) ?_
  intro x C0 hx
  subst hx

  refine j_aload_n C0 d_De_note_0 rfl (by rfl) ?_
  refine j_getf C0 d_De_note_1 fl_De_24 (by (repeat (first | rw [jset_s] | rw [jset_n (by omega)] | rw [reH_0] | rw [reH_1] | rw [reH_2] | rw [reH_n (by omega)])) <;> first | rfl | assumption) (by rfl) ?_
  refine j_if_eq C0 d_De_note_4 (tgt := 20) (by decide) (fun c_4 => ?_) (fun c_4 => ?_)
  · have hB : ¬ m.1 7 = 1 := by rw [c_4]; decide
    refine j_aload_n C0 d_De_note_20 rfl (by rfl) ?_
    refine j_getf C0 d_De_note_21 fl_De_9 (by (repeat (first | rw [jset_s] | rw [jset_n (by omega)] | rw [reH_0] | rw [reH_1] | rw [reH_2] | rw [reH_n (by omega)])) <;> first | rfl | assumption) (by rfl) ?_
    refine j_iload_n C0 d_De_note_24 rfl (by rfl) ?_
    refine j_dup2_11 C0 d_De_note_25 rfl rfl ?_
    refine j_iald C0 d_De_note_26 (by (repeat (first | rw [jset_s] | rw [jset_n (by omega)] | rw [reH_0] | rw [reH_1] | rw [reH_2] | rw [reH_n (by omega)])) <;> first | rfl | assumption) rfl (by omega) (by decide) ?_
    refine j_iconst C0 d_De_note_27 (v := 1) (by decide) ?_
    refine j_iadd C0 d_De_note_28 ?_
    refine j_iast C0 d_De_note_29 (by (repeat (first | rw [jset_s] | rw [jset_n (by omega)] | rw [reH_0] | rw [reH_1] | rw [reH_2] | rw [reH_n (by omega)])) <;> first | rfl | assumption) rfl (by omega) (by decide) ?_
    refine j_aload_n C0 d_De_note_30 rfl (by rfl) ?_
    refine j_getf C0 d_De_note_31 fl_De_18 (by (repeat (first | rw [jset_s] | rw [jset_n (by omega)] | rw [reH_0] | rw [reH_1] | rw [reH_2] | rw [reH_n (by omega)])) <;> first | rfl | assumption) (by rfl) ?_
    refine j_iload_n C0 d_De_note_34 rfl (by rfl) ?_
    refine j_aload_n C0 d_De_note_35 rfl (by rfl) ?_
    refine j_getf C0 d_De_note_36 fl_De_30 (by (repeat (first | rw [jset_s] | rw [jset_n (by omega)] | rw [reH_0] | rw [reH_1] | rw [reH_2] | rw [reH_n (by omega)])) <;> first | rfl | assumption) (by rfl) ?_
    refine j_iast C0 d_De_note_39 (by (repeat (first | rw [jset_s] | rw [jset_n (by omega)] | rw [reH_0] | rw [reH_1] | rw [reH_2] | rw [reH_n (by omega)])) <;> first | rfl | assumption) rfl (by omega) (by decide) ?_
    exact j_vret C0 d_De_note_40 rfl (by omega) (by omega) ⟨rfl, ⟨by (repeat rw [jset_n (by omega)]); exact e0, by simp only [hB]; (repeat (first | rw [jset_s] | rw [jset_n (by omega)])) <;> simp <;> exact e1, by simp only [hB]; (repeat (first | rw [jset_s] | rw [jset_n (by omega)])) <;> simp <;> exact e2, by rw [jset_s], by (repeat rw [jset_n (by omega)]); exact e4⟩, fun q hq => by (repeat rw [jset_n (by omega)]), rfl⟩
  · have hB : m.1 7 = 1 := hb.resolve_left c_4
    refine j_aload_n C0 d_De_note_7 rfl (by rfl) ?_
    refine j_getf C0 d_De_note_8 fl_De_15 (by (repeat (first | rw [jset_s] | rw [jset_n (by omega)] | rw [reH_0] | rw [reH_1] | rw [reH_2] | rw [reH_n (by omega)])) <;> first | rfl | assumption) (by rfl) ?_
    refine j_iload_n C0 d_De_note_11 rfl (by rfl) ?_
    refine j_dup2_11 C0 d_De_note_12 rfl rfl ?_
    refine j_iald C0 d_De_note_13 (by (repeat (first | rw [jset_s] | rw [jset_n (by omega)] | rw [reH_0] | rw [reH_1] | rw [reH_2] | rw [reH_n (by omega)])) <;> first | rfl | assumption) rfl (by omega) (by decide) ?_
    refine j_iconst C0 d_De_note_14 (v := 1) (by decide) ?_
    refine j_iadd C0 d_De_note_15 ?_
    refine j_iast C0 d_De_note_16 (by (repeat (first | rw [jset_s] | rw [jset_n (by omega)] | rw [reH_0] | rw [reH_1] | rw [reH_2] | rw [reH_n (by omega)])) <;> first | rfl | assumption) rfl (by omega) (by decide) ?_
    refine j_goto C0 d_De_note_17 (tgt := 30) (by decide) ?_
    refine j_aload_n C0 d_De_note_30 rfl (by rfl) ?_
    refine j_getf C0 d_De_note_31 fl_De_18 (by (repeat (first | rw [jset_s] | rw [jset_n (by omega)] | rw [reH_0] | rw [reH_1] | rw [reH_2] | rw [reH_n (by omega)])) <;> first | rfl | assumption) (by rfl) ?_
    refine j_iload_n C0 d_De_note_34 rfl (by rfl) ?_
    refine j_aload_n C0 d_De_note_35 rfl (by rfl) ?_
    refine j_getf C0 d_De_note_36 fl_De_30 (by (repeat (first | rw [jset_s] | rw [jset_n (by omega)] | rw [reH_0] | rw [reH_1] | rw [reH_2] | rw [reH_n (by omega)])) <;> first | rfl | assumption) (by rfl) ?_
    refine j_iast C0 d_De_note_39 (by (repeat (first | rw [jset_s] | rw [jset_n (by omega)] | rw [reH_0] | rw [reH_1] | rw [reH_2] | rw [reH_n (by omega)])) <;> first | rfl | assumption) rfl (by omega) (by decide) ?_
    exact j_vret C0 d_De_note_40 rfl (by omega) (by omega) ⟨rfl, ⟨by (repeat rw [jset_n (by omega)]); exact e0, by simp only [hB]; (repeat (first | rw [jset_s] | rw [jset_n (by omega)])) <;> simp <;> exact e1, by simp only [hB]; (repeat (first | rw [jset_s] | rw [jset_n (by omega)])) <;> simp <;> exact e2, by rw [jset_s], by (repeat rw [jset_n (by omega)]); exact e4⟩, fun q hq => by (repeat rw [jset_n (by omega)]), rfl⟩
