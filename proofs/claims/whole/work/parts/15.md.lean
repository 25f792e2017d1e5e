def cyR (hosts hs : Nat → Int32) : Nat → Nat → Int32 × Option Nat
  | _, 0 => (1, none)
  | i, k + 1 => if hs (hosts i).toNatClampNeg = 0 then (2, some (hosts i).toNatClampNeg) else if hs (hosts i).toNatClampNeg = 2 then (3, none) else cyR hosts hs (i + 1) k
theorem cyR_s {hosts hs : Nat → Int32} {i n : Nat} (hi : i < n) : cyR hosts hs i (n - i) = if hs (hosts i).toNatClampNeg = 0 then (2, some (hosts i).toNatClampNeg) else if hs (hosts i).toNatClampNeg = 2 then (3, none) else cyR hosts hs (i + 1) (n - (i + 1)) := by
  rw [show n - i = (n - (i + 1)) + 1 by omega]
  rfl
def caF (S : maS) (u : Nat) : Int32 × Option Nat := if u / 8 = 0 then (2, none) else if (mR S (u / 8)).1 = 0 then (3, none) else cyR (mR S (u / 8)).2.1 (mh S) 0 (mR S (u / 8)).1
def caU (ca : Nat → Int32) : Option Nat → Nat → Int32
  | none => ca
  | some w => upd ca w (ca w + 1)
def setL (S : maS) (L : jDe) : maS := (S.1, S.2.1, S.2.2.1, S.2.2.2.1, S.2.2.2.2.1, S.2.2.2.2.2.1, S.2.2.2.2.2.2.1, L)
def caS (S : maS) (u : Nat) : maS := setL S ((mL S).1, (mL S).2.1, (mL S).2.2.1, caU (mL S).2.2.2 (caF S u).2)
abbrev wro (R : Nat → jRt) : Prop := ∀ d, d < 8 → ∀ i, i < (R d).1 → ∃ k, k < 8 ∧ (R d).2.1 i = nI k
theorem caS_none {S : maS} {u : Nat} (h : (caF S u).2 = none) : caS S u = S := by unfold caS; rw [h]; rfl
set_option maxHeartbeats 4000000 in
set_option maxRecDepth 100000 in
theorem c_Ma_carry (l : Launch) (E : jE) {h : jH} {sz b : Nat} {S : maS} (m : isMA E h b S) {u : Nat} (hu : u < 64) (hw : wro (mR S)) : jC l M_Ma_carry 0 E [.ref b, .int (nI u)] h sz 0 0 (fun r h' sz' => r = some (.int (caF S u).1) ∧ isMA E h' b (caS S u) ∧ (∀ q, q < b + 85 ∨ b + 90 ≤ q → h' q = h q) ∧ sz' = sz) := by
  have e0 := m.obj
  have hd : u / 8 < 8 := by omega
  obtain ⟨f, e1, hf⟩ := m.ra
  obtain ⟨r0, r1, r2, rn⟩ := m.ro _ hd
  have e2 := m.hs
  obtain ⟨d0, d1, d2, d3, d4⟩ := m.de
  have ed : nI u / 8 = nI (u / 8) := pk_div (d := 8) (by omega) (by decide) (by decide)
  refine jC.of (by decide) (Nat.le_of_ble_eq_true rfl) ?_
  intro x C0 hx
  subst hx

  refine j_iload_n C0 d_Ma_carry_0 rfl (by rfl) ?_
  refine j_bipush C0 d_Ma_carry_1 (v := 8) (by decide) ?_
  refine j_idiv C0 d_Ma_carry_3 (by decide) ?_
  rw [ed]
  refine j_istore_n C0 d_Ma_carry_4 rfl (Nat.le_of_ble_eq_true rfl) ?_
  refine j_iload_n C0 d_Ma_carry_5 rfl (by rfl) ?_
  refine j_if_ne C0 d_Ma_carry_6 (tgt := 11) (by decide) (fun c_6 => ?_) (fun c_6 => ?_)
  · have h0 : ¬ u / 8 = 0 := fun hh => c_6 (by rw [hh]; rfl)
    refine j_aload_n C0 d_Ma_carry_11 rfl (by rfl) ?_
    refine j_getf C0 d_Ma_carry_12 fl_Ma_32 (by (repeat (first | rw [jset_s] | rw [jset_n (by omega)] | rw [reH_0] | rw [reH_1] | rw [reH_2] | rw [reH_n (by omega)])) <;> first | rfl | assumption) (by rfl) ?_
    refine j_iload_n C0 d_Ma_carry_15 rfl (by rfl) ?_
    refine j_aald C0 d_Ma_carry_16 (by (repeat (first | rw [jset_s] | rw [jset_n (by omega)] | rw [reH_0] | rw [reH_1] | rw [reH_2] | rw [reH_n (by omega)])) <;> first | rfl | assumption) rfl rfl (by omega) (by decide) (hf _ hd) ?_
    refine j_astore_n C0 d_Ma_carry_17 rfl (Nat.le_of_ble_eq_true rfl) ?_
    refine j_aload_n C0 d_Ma_carry_18 rfl (by rfl) ?_
    refine j_getf C0 d_Ma_carry_19 fl_Ma_239 (by (repeat (first | rw [jset_s] | rw [jset_n (by omega)] | rw [reH_0] | rw [reH_1] | rw [reH_2] | rw [reH_n (by omega)])) <;> first | rfl | assumption) (by rfl) ?_
    refine j_if_ne C0 d_Ma_carry_22 (tgt := 27) (by decide) (fun c_22 => ?_) (fun c_22 => ?_)
    · have h1 : ¬ (mR S (u / 8)).1 = 0 := fun hh => c_22 (by rw [hh]; rfl)
      have ef : caF S u = cyR (mR S (u / 8)).2.1 (mh S) 0 (mR S (u / 8)).1 := by unfold caF; rw [if_neg h0, if_neg h1]
      refine j_iconst C0 d_Ma_carry_27 (v := 0) (by decide) ?_
      refine j_istore C0 d_Ma_carry_28 (Nat.le_of_ble_eq_true rfl) ?_
      refine j_lv (lv' := [(0, .ref b), (1, .int (nI u)), (2, .int (nI (u / 8))), (3, .ref (b + 4 + 3 * (u / 8))), (4, .int (nI 0))]) ⟨rfl, rfl, rfl, rfl, rfl, trivial⟩ ?_
      refine j_forI (mR S (u / 8)).1 (fun i => caF S u = cyR (mR S (u / 8)).2.1 (mh S) i ((mR S (u / 8)).1 - i)) (fun _ => h) (fun i => [(0, .ref b), (1, .int (nI u)), (2, .int (nI (u / 8))), (3, .ref (b + 4 + 3 * (u / 8))), (4, .int (nI i))]) ?_ ?_ 0 (Nat.zero_le _) ef
      · intro i hi hI ih
        obtain ⟨w, hw8, ew⟩ := hw _ hd i hi
        have hcw : ((mR S (u / 8)).2.1 i).toNatClampNeg = w := by rw [ew]; exact nI_clamp (by omega)
        rw [cyR_s hi, hcw] at hI
        refine j_iload C0 d_Ma_carry_30 (by rfl) ?_
        refine j_aload_n C0 d_Ma_carry_32 rfl (by rfl) ?_
        refine j_getf C0 d_Ma_carry_33 fl_Ma_239 (by (repeat (first | rw [jset_s] | rw [jset_n (by omega)] | rw [reH_0] | rw [reH_1] | rw [reH_2] | rw [reH_n (by omega)])) <;> first | rfl | assumption) (by rfl) ?_
        refine j_icmp_ge C0 d_Ma_carry_36 (tgt := 93) (by decide) (fun c_36 => ?_) (fun c_36 => ?_)
        · exact absurd c_36 (nI_ge hi (by omega))
        · refine j_aload_n C0 d_Ma_carry_39 rfl (by rfl) ?_
          refine j_getf C0 d_Ma_carry_40 fl_Ma_240 (by (repeat (first | rw [jset_s] | rw [jset_n (by omega)] | rw [reH_0] | rw [reH_1] | rw [reH_2] | rw [reH_n (by omega)])) <;> first | rfl | assumption) (by rfl) ?_
          refine j_iload C0 d_Ma_carry_43 (by rfl) ?_
          refine j_iald C0 d_Ma_carry_45 (by (repeat (first | rw [jset_s] | rw [jset_n (by omega)] | rw [reH_0] | rw [reH_1] | rw [reH_2] | rw [reH_n (by omega)])) <;> first | rfl | assumption) rfl (by omega) (by decide) ?_
          rw [ew]
          refine j_istore C0 d_Ma_carry_46 (Nat.le_of_ble_eq_true rfl) ?_
          refine j_aload_n C0 d_Ma_carry_48 rfl (by rfl) ?_
          refine j_getf C0 d_Ma_carry_49 fl_Ma_37 (by (repeat (first | rw [jset_s] | rw [jset_n (by omega)] | rw [reH_0] | rw [reH_1] | rw [reH_2] | rw [reH_n (by omega)])) <;> first | rfl | assumption) (by rfl) ?_
          refine j_iload C0 d_Ma_carry_52 (by rfl) ?_
          refine j_iald C0 d_Ma_carry_54 (by (repeat (first | rw [jset_s] | rw [jset_n (by omega)] | rw [reH_0] | rw [reH_1] | rw [reH_2] | rw [reH_n (by omega)])) <;> first | rfl | assumption) rfl (by omega) (by decide) ?_
          refine j_if_ne C0 d_Ma_carry_55 (tgt := 74) (by decide) (fun c_55 => ?_) (fun c_55 => ?_)
          · rw [if_neg c_55] at hI
            refine j_aload_n C0 d_Ma_carry_74 rfl (by rfl) ?_
            refine j_getf C0 d_Ma_carry_75 fl_Ma_37 (by (repeat (first | rw [jset_s] | rw [jset_n (by omega)] | rw [reH_0] | rw [reH_1] | rw [reH_2] | rw [reH_n (by omega)])) <;> first | rfl | assumption) (by rfl) ?_
            refine j_iload C0 d_Ma_carry_78 (by rfl) ?_
            refine j_iald C0 d_Ma_carry_80 (by (repeat (first | rw [jset_s] | rw [jset_n (by omega)] | rw [reH_0] | rw [reH_1] | rw [reH_2] | rw [reH_n (by omega)])) <;> first | rfl | assumption) rfl (by omega) (by decide) ?_
            refine j_iconst C0 d_Ma_carry_81 (v := 2) (by decide) ?_
            refine j_icmp_ne C0 d_Ma_carry_82 (tgt := 87) (by decide) (fun c_82 => ?_) (fun c_82 => ?_)
            · rw [if_neg c_82] at hI
              refine j_iinc C0 d_Ma_carry_87 (by rfl) (jinc _) (Nat.le_of_ble_eq_true rfl) ?_
              refine j_goto C0 d_Ma_carry_90 (tgt := 30) (by decide) ?_
              exact j_to (ih hI) rfl ⟨rfl, rfl, rfl, rfl, rfl, trivial⟩
            · rw [if_pos c_82] at hI
              refine j_iconst C0 d_Ma_carry_85 (v := 3) (by decide) ?_
              exact j_iret C0 d_Ma_carry_86 rfl (by omega) (by omega) ⟨by rw [hI], by rw [caS_none (by rw [hI])]; exact m, fun q _ => rfl, rfl⟩
          · rw [if_pos c_55] at hI
            refine j_aload_n C0 d_Ma_carry_58 rfl (by rfl) ?_
            refine j_getf C0 d_Ma_carry_59 fl_Ma_61 (by (repeat (first | rw [jset_s] | rw [jset_n (by omega)] | rw [reH_0] | rw [reH_1] | rw [reH_2] | rw [reH_n (by omega)])) <;> first | rfl | assumption) (by rfl) ?_
            refine j_getf C0 d_Ma_carry_62 fl_Ma_215 (by (repeat (first | rw [jset_s] | rw [jset_n (by omega)] | rw [reH_0] | rw [reH_1] | rw [reH_2] | rw [reH_n (by omega)])) <;> first | rfl | assumption) (by rfl) ?_
            refine j_iload C0 d_Ma_carry_65 (by rfl) ?_
            refine j_dup2_11 C0 d_Ma_carry_67 rfl rfl ?_
            refine j_iald C0 d_Ma_carry_68 (by (repeat (first | rw [jset_s] | rw [jset_n (by omega)] | rw [reH_0] | rw [reH_1] | rw [reH_2] | rw [reH_n (by omega)])) <;> first | rfl | assumption) rfl (by omega) (by decide) ?_
            refine j_iconst C0 d_Ma_carry_69 (v := 1) (by decide) ?_
            refine j_iadd C0 d_Ma_carry_70 ?_
            refine j_iast C0 d_Ma_carry_71 (by (repeat (first | rw [jset_s] | rw [jset_n (by omega)] | rw [reH_0] | rw [reH_1] | rw [reH_2] | rw [reH_n (by omega)])) <;> first | rfl | assumption) rfl (by omega) (by decide) ?_
            refine j_iconst C0 d_Ma_carry_72 (v := 2) (by decide) ?_
            exact j_iret C0 d_Ma_carry_73 rfl (by omega) (by omega) ⟨by rw [hI], by
              have hs : caS S u = setL S ((mL S).1, (mL S).2.1, (mL S).2.2.1, upd (mL S).2.2.2 w ((mL S).2.2.2 w + 1)) := by unfold caS; rw [hI]; rfl
              rw [hs]
              exact m.setDe ⟨by rw [jset_n (by omega)]; exact d0, by rw [jset_n (by omega)]; exact d1, by rw [jset_n (by omega)]; exact d2, by rw [jset_n (by omega)]; exact d3, jset_s⟩ (fun q hq => jset_n (by omega)), fun q hq => jset_n (by omega), rfl⟩
      · intro hI
        rw [Nat.sub_self] at hI
        have hI : caF S u = (1, none) := hI
        refine j_iload C0 d_Ma_carry_30 (by rfl) ?_
        refine j_aload_n C0 d_Ma_carry_32 rfl (by rfl) ?_
        refine j_getf C0 d_Ma_carry_33 fl_Ma_239 (by (repeat (first | rw [jset_s] | rw [jset_n (by omega)] | rw [reH_0] | rw [reH_1] | rw [reH_2] | rw [reH_n (by omega)])) <;> first | rfl | assumption) (by rfl) ?_
        refine j_icmp_ge C0 d_Ma_carry_36 (tgt := 93) (by decide) (fun c_36 => ?_) (fun c_36 => ?_)
        · refine j_iconst C0 d_Ma_carry_93 (v := 1) (by decide) ?_
          exact j_iret C0 d_Ma_carry_94 rfl (by omega) (by omega) ⟨by rw [hI], by rw [caS_none (by rw [hI])]; exact m, fun q _ => rfl, rfl⟩
        · exact absurd (nI_le (Nat.le_refl _) (by omega)) c_36
    · have h1 : (mR S (u / 8)).1 = 0 := (nI_eq (b := 0) (by omega) (by decide)).mp c_22
      have ef : caF S u = (3, none) := by unfold caF; rw [if_neg h0, if_pos h1]
      refine j_iconst C0 d_Ma_carry_25 (v := 3) (by decide) ?_
      exact j_iret C0 d_Ma_carry_26 rfl (by omega) (by omega) ⟨by rw [ef], by rw [caS_none (by rw [ef])]; exact m, fun q _ => rfl, rfl⟩
  · have h0 : u / 8 = 0 := (nI_eq (b := 0) (by omega) (by decide)).mp c_6
    have ef : caF S u = (2, none) := if_pos h0
    refine j_iconst C0 d_Ma_carry_9 (v := 2) (by decide) ?_
    exact j_iret C0 d_Ma_carry_10 rfl (by omega) (by omega) ⟨by rw [ef], by rw [caS_none (by rw [ef])]; exact m, fun q _ => rfl, rfl⟩
