theorem pp_cP (m : Nat) : ∀ k, pp_c m k = cP (fun i => m.testBit i) k
  | 0 => rfl
  | k + 1 => by
    rw [pp_bit, pp_cP m k]
    show _ = cP _ k + (if m.testBit k then 1 else 0)
    cases m.testBit k <;> rfl
theorem cP_max (P : Nat → Bool) : ∀ k, cP P k ≤ k
  | 0 => Nat.le_refl 0
  | k + 1 => by
    have := cP_max P k
    simp only [cP]
    split <;> omega
abbrev wad (n : Nat) (ad : Nat → Int32) : Prop := ∀ i, i < n → ∃ k, k < 64 ∧ ad i = nI k
abbrev fnl (S : maS) (u : Nat) : Nat := fin8 (mg S) (rOut (mg S) (2 ^ u) 8) 8
abbrev frs (S : maS) (u : Nat) : Nat := fnl S u &&& (bm (mT S).2.2.2.1 (mT S).2.2.1 ^^^ (2 ^ 64 - 1))
def toS (S : maS) (u : Nat) : maS := (S.1, S.2.1, S.2.2.1, S.2.2.2.1, ((mT S).1, (mT S).2.1, (mT S).2.2.1 + cP (fun i => (frs S u).testBit i) 64, aP (fun i => (frs S u).testBit i) (mT S).2.2.1 (mT S).2.2.2.1 nI 64, aP (fun i => (frs S u).testBit i) (mT S).2.2.1 (mT S).2.2.2.2 (fun _ => 1) 64), S.2.2.2.2.2)
set_option maxHeartbeats 4000000 in
set_option maxRecDepth 100000 in
theorem c_Ma_to_bad (l : Launch) (E : jE) {h : jH} {sz b : Nat} {S : maS} (m : isMA E h b S) (p : Int32) (hbad : ¬ (¬ p < 0 ∧ ¬ 64 ≤ p)) : jC l M_Ma_to 2 E [.ref b, .int p] h sz 0 0 (fun r h' sz' => r = some (.int (-501)) ∧ isMA E h' b S ∧ (∀ q, q < b ∨ b + 90 ≤ q → h' q = h q) ∧ sz' = sz) := by
  refine jC.of (by decide) (Nat.le_of_ble_eq_true rfl) ?_
  intro x C0 hx
  subst hx

  refine j_iload_n C0 d_Ma_to_0 rfl (by rfl) ?_
  refine j_bipush C0 d_Ma_to_1 (v := 64) (by decide) ?_
  refine j_callS C0 d_Ma_to_3 cl_Ma_74 cl_Ma_74v (c_Ma_isBelow _ E _ _) rfl rfl ⟨by decide, by decide⟩ ⟨by omega, by omega⟩ (Nat.le_of_ble_eq_true rfl) (fun r_ h_ z_ hp_ => ?_)
  obtain ⟨rfl, rfl, rfl⟩ := hp_
  rw [jb_n hbad]
  refine j_if_ne C0 d_Ma_to_6 (tgt := 13) (by decide) (fun c_6 => ?_) (fun c_6 => ?_)
  · exact absurd c_6 (by decide)
  · refine j_sipush C0 d_Ma_to_9 (v := -501) (by decide) ?_
    exact j_iret C0 d_Ma_to_12 rfl (by omega) (by omega) ⟨rfl, m, fun q _ => rfl, rfl⟩
set_option maxHeartbeats 4000000 in
set_option maxRecDepth 100000 in
theorem c_Ma_to_seq (l : Launch) (E : jE) {h : jH} {sz b : Nat} {S : maS} (m : isMA E h b S) {u : Nat} (hu : u < 64) (hop : (mT S).1 = 0) : jC l M_Ma_to 2 E [.ref b, .int (nI u)] h sz 0 0 (fun r h' sz' => r = some (.int (-503)) ∧ isMA E h' b S ∧ (∀ q, q < b ∨ b + 90 ≤ q → h' q = h q) ∧ sz' = sz) := by
  have e0 := m.obj
  obtain ⟨t0, t1⟩ := m.tr
  have t2 := t1.1
  have ea := m.al.1
  have hg := m.al.2.2
  refine jC.of (by decide) (Nat.le_of_ble_eq_true rfl) ?_
  intro x C0 hx
  subst hx

  refine j_iload_n C0 d_Ma_to_0 rfl (by rfl) ?_
  refine j_bipush C0 d_Ma_to_1 (v := 64) (by decide) ?_
  refine j_callS C0 d_Ma_to_3 cl_Ma_74 cl_Ma_74v (c_Ma_isBelow _ E _ _) rfl rfl ⟨by decide, by decide⟩ ⟨by omega, by omega⟩ (Nat.le_of_ble_eq_true rfl) (fun r_ h_ z_ hp_ => ?_)
  obtain ⟨rfl, rfl, rfl⟩ := hp_
  rw [jb_y (okR (N := 64) hu (by decide) rfl)]
  refine j_if_ne C0 d_Ma_to_6 (tgt := 13) (by decide) (fun c_6 => ?_) (fun c_6 => ?_)
  · refine j_aload_n C0 d_Ma_to_13 rfl (by rfl) ?_
    refine j_getf C0 d_Ma_to_14 fl_Ma_44 (by (repeat (first | rw [jset_s] | rw [jset_n (by omega)] | rw [reH_0] | rw [reH_1] | rw [reH_2] | rw [reH_n (by omega)])) <;> first | rfl | assumption) (by rfl) ?_
    refine j_getf C0 d_Ma_to_17 fl_Ma_103 (by (repeat (first | rw [jset_s] | rw [jset_n (by omega)] | rw [reH_0] | rw [reH_1] | rw [reH_2] | rw [reH_n (by omega)])) <;> first | rfl | assumption) (by rfl) ?_
    refine j_if_ne C0 d_Ma_to_20 (tgt := 27) (by decide) (fun c_20 => ?_) (fun c_20 => ?_)
    · exact absurd hop c_20
    · refine j_sipush C0 d_Ma_to_23 (v := -503) (by decide) ?_
      exact j_iret C0 d_Ma_to_26 rfl (by omega) (by omega) ⟨rfl, m, fun q _ => rfl, rfl⟩
  · exact absurd c_6 (by decide)
set_option maxHeartbeats 4000000 in
set_option maxRecDepth 100000 in
theorem c_Ma_to_unk (l : Launch) (E : jE) {h : jH} {sz b : Nat} {S : maS} (m : isMA E h b S) {u : Nat} (hu : u < 64) (hop : ¬ (mT S).1 = 0) (hz : fnl S u = 0) : jC l M_Ma_to 2 E [.ref b, .int (nI u)] h sz 0 0 (fun r h' sz' => r = some (.int (-550)) ∧ isMA E h' b S ∧ (∀ q, q < b ∨ b + 90 ≤ q → h' q = h q) ∧ sz' = sz) := by
  have e0 := m.obj
  obtain ⟨t0, t1⟩ := m.tr
  have t2 := t1.1
  have ea := m.al.1
  have hg := m.al.2.2
  have hF : fnl S u < 2 ^ 64 := fin8_lt (rOut_lt hg (p64 hu) 8) 8
  refine jC.of (by decide) (Nat.le_of_ble_eq_true rfl) ?_
  intro x C0 hx
  subst hx

  refine j_iload_n C0 d_Ma_to_0 rfl (by rfl) ?_
  refine j_bipush C0 d_Ma_to_1 (v := 64) (by decide) ?_
  refine j_callS C0 d_Ma_to_3 cl_Ma_74 cl_Ma_74v (c_Ma_isBelow _ E _ _) rfl rfl ⟨by decide, by decide⟩ ⟨by omega, by omega⟩ (Nat.le_of_ble_eq_true rfl) (fun r_ h_ z_ hp_ => ?_)
  obtain ⟨rfl, rfl, rfl⟩ := hp_
  rw [jb_y (okR (N := 64) hu (by decide) rfl)]
  refine j_if_ne C0 d_Ma_to_6 (tgt := 13) (by decide) (fun c_6 => ?_) (fun c_6 => ?_)
  · refine j_aload_n C0 d_Ma_to_13 rfl (by rfl) ?_
    refine j_getf C0 d_Ma_to_14 fl_Ma_44 (by (repeat (first | rw [jset_s] | rw [jset_n (by omega)] | rw [reH_0] | rw [reH_1] | rw [reH_2] | rw [reH_n (by omega)])) <;> first | rfl | assumption) (by rfl) ?_
    refine j_getf C0 d_Ma_to_17 fl_Ma_103 (by (repeat (first | rw [jset_s] | rw [jset_n (by omega)] | rw [reH_0] | rw [reH_1] | rw [reH_2] | rw [reH_n (by omega)])) <;> first | rfl | assumption) (by rfl) ?_
    refine j_if_ne C0 d_Ma_to_20 (tgt := 27) (by decide) (fun c_20 => ?_) (fun c_20 => ?_)
    · refine j_aload_n C0 d_Ma_to_27 rfl (by rfl) ?_
      refine j_getf C0 d_Ma_to_28 fl_Ma_26 (by (repeat (first | rw [jset_s] | rw [jset_n (by omega)] | rw [reH_0] | rw [reH_1] | rw [reH_2] | rw [reH_n (by omega)])) <;> first | rfl | assumption) (by rfl) ?_
      refine j_iload_n C0 d_Ma_to_31 rfl (by rfl) ?_
      refine j_callV C0 d_Ma_to_32 cl_Ma_107 cl_Ma_107v (c_Al_finalsOf _ E hu m.al) ea rfl rfl rfl ⟨by decide, by decide⟩ ⟨by omega, by omega⟩ (Nat.le_of_ble_eq_true rfl) (fun r_ h_ z_ hp_ => ?_)
      obtain ⟨rfl, rfl, rfl⟩ := hp_
      refine j_lstore_n C0 d_Ma_to_35 rfl (Nat.le_of_ble_eq_true rfl) ?_
      refine j_lload_n C0 d_Ma_to_36 rfl (by rfl) ?_
      refine j_lconst C0 d_Ma_to_37 (v := 0) (by decide) ?_
      refine j_lcmp C0 d_Ma_to_38 ?_
      refine j_if_ne C0 d_Ma_to_39 (tgt := 46) (by decide) (fun c_39 => ?_) (fun c_39 => ?_)
      · exact absurd (lcmp_z.mpr ((lN_z hF).mpr hz)) c_39
      · refine j_sipush C0 d_Ma_to_42 (v := -550) (by decide) ?_
        exact j_iret C0 d_Ma_to_45 rfl (by omega) (by omega) ⟨rfl, m, fun q _ => rfl, rfl⟩
    · exact absurd c_20 hop
  · exact absurd c_6 (by decide)
set_option maxHeartbeats 4000000 in
set_option maxRecDepth 100000 in
theorem c_Ma_to_full (l : Launch) (E : jE) {h : jH} {sz b : Nat} {S : maS} (m : isMA E h b S) {u : Nat} (hu : u < 64) (hop : ¬ (mT S).1 = 0) (hz : ¬ fnl S u = 0) (hw : wad (mT S).2.2.1 (mT S).2.2.2.1) (hov : 4 < (mT S).2.2.1 + cP (fun i => (frs S u).testBit i) 64) : jC l M_Ma_to 2 E [.ref b, .int (nI u)] h sz 0 0 (fun r h' sz' => r = some (.int (-452)) ∧ isMA E h' b S ∧ (∀ q, q < b ∨ b + 90 ≤ q → h' q = h q) ∧ sz' = sz) := by
  have e0 := m.obj
  obtain ⟨t0, t1⟩ := m.tr
  have t2 := t1.1
  have ea := m.al.1
  have hg := m.al.2.2
  have hF : fnl S u < 2 ^ 64 := fin8_lt (rOut_lt hg (p64 hu) 8) 8
  have hn4 : (mT S).2.2.1 ≤ 4 := t1.2.2.2
  have hbm : bm (mT S).2.2.2.1 (mT S).2.2.1 < 2 ^ 64 := bm_lt _ (fun i hi => by obtain ⟨k, hk, ek⟩ := hw i hi; rw [ek, nI_clamp (by omega)]; exact hk)
  have hA : frs S u < 2 ^ 64 := Nat.lt_of_le_of_lt Nat.and_le_left hF
  have hcm : pp_c (frs S u) 64 = cP (fun i => (frs S u).testBit i) 64 := pp_cP _ 64
  have hc64 := cP_max (fun i => (frs S u).testBit i) 64
  refine jC.of (by decide) (Nat.le_of_ble_eq_true rfl) ?_
  intro x C0 hx
  subst hx

  refine j_iload_n C0 d_Ma_to_0 rfl (by rfl) ?_
  refine j_bipush C0 d_Ma_to_1 (v := 64) (by decide) ?_
  refine j_callS C0 d_Ma_to_3 cl_Ma_74 cl_Ma_74v (c_Ma_isBelow _ E _ _) rfl rfl ⟨by decide, by decide⟩ ⟨by omega, by omega⟩ (Nat.le_of_ble_eq_true rfl) (fun r_ h_ z_ hp_ => ?_)
  obtain ⟨rfl, rfl, rfl⟩ := hp_
  rw [jb_y (okR (N := 64) hu (by decide) rfl)]
  refine j_if_ne C0 d_Ma_to_6 (tgt := 13) (by decide) (fun c_6 => ?_) (fun c_6 => ?_)
  · refine j_aload_n C0 d_Ma_to_13 rfl (by rfl) ?_
    refine j_getf C0 d_Ma_to_14 fl_Ma_44 (by (repeat (first | rw [jset_s] | rw [jset_n (by omega)] | rw [reH_0] | rw [reH_1] | rw [reH_2] | rw [reH_n (by omega)])) <;> first | rfl | assumption) (by rfl) ?_
    refine j_getf C0 d_Ma_to_17 fl_Ma_103 (by (repeat (first | rw [jset_s] | rw [jset_n (by omega)] | rw [reH_0] | rw [reH_1] | rw [reH_2] | rw [reH_n (by omega)])) <;> first | rfl | assumption) (by rfl) ?_
    refine j_if_ne C0 d_Ma_to_20 (tgt := 27) (by decide) (fun c_20 => ?_) (fun c_20 => ?_)
    · refine j_aload_n C0 d_Ma_to_27 rfl (by rfl) ?_
      refine j_getf C0 d_Ma_to_28 fl_Ma_26 (by (repeat (first | rw [jset_s] | rw [jset_n (by omega)] | rw [reH_0] | rw [reH_1] | rw [reH_2] | rw [reH_n (by omega)])) <;> first | rfl | assumption) (by rfl) ?_
      refine j_iload_n C0 d_Ma_to_31 rfl (by rfl) ?_
      refine j_callV C0 d_Ma_to_32 cl_Ma_107 cl_Ma_107v (c_Al_finalsOf _ E hu m.al) ea rfl rfl rfl ⟨by decide, by decide⟩ ⟨by omega, by omega⟩ (Nat.le_of_ble_eq_true rfl) (fun r_ h_ z_ hp_ => ?_)
      obtain ⟨rfl, rfl, rfl⟩ := hp_
      refine j_lstore_n C0 d_Ma_to_35 rfl (Nat.le_of_ble_eq_true rfl) ?_
      refine j_lload_n C0 d_Ma_to_36 rfl (by rfl) ?_
      refine j_lconst C0 d_Ma_to_37 (v := 0) (by decide) ?_
      refine j_lcmp C0 d_Ma_to_38 ?_
      refine j_if_ne C0 d_Ma_to_39 (tgt := 46) (by decide) (fun c_39 => ?_) (fun c_39 => ?_)
      · refine j_lload_n C0 d_Ma_to_46 rfl (by rfl) ?_
        refine j_aload_n C0 d_Ma_to_47 rfl (by rfl) ?_
        refine j_getf C0 d_Ma_to_48 fl_Ma_44 (by (repeat (first | rw [jset_s] | rw [jset_n (by omega)] | rw [reH_0] | rw [reH_1] | rw [reH_2] | rw [reH_n (by omega)])) <;> first | rfl | assumption) (by rfl) ?_
        refine j_getf C0 d_Ma_to_51 fl_Ma_111 (by (repeat (first | rw [jset_s] | rw [jset_n (by omega)] | rw [reH_0] | rw [reH_1] | rw [reH_2] | rw [reH_n (by omega)])) <;> first | rfl | assumption) (by rfl) ?_
        refine j_callV C0 d_Ma_to_54 cl_Ma_115 cl_Ma_115v (c_Re_asBits _ E t1 hw) t2 rfl rfl rfl ⟨by decide, by decide⟩ ⟨by omega, by omega⟩ (Nat.le_of_ble_eq_true rfl) (fun r_ h_ z_ hp_ => ?_)
        obtain ⟨rfl, rfl, rfl⟩ := hp_
        refine j_ldc2 C0 d_Ma_to_57 w_2_65 ?_
        refine j_lxor C0 d_Ma_to_60 ?_
        refine j_land C0 d_Ma_to_61 ?_
        rw [show (-1 : Int64) = lN (2 ^ 64 - 1) from rfl, lN_xor, wb_and hF (x64 hbm)]
        refine j_lstore C0 d_Ma_to_62 (Nat.le_of_ble_eq_true rfl) ?_
        refine j_lload C0 d_Ma_to_64 (by rfl) ?_
        refine j_callS C0 d_Ma_to_66 cl_Ma_123 cl_Ma_123v (c_Lo_bitCount _ E hA) rfl rfl ⟨by decide, by decide⟩ ⟨by omega, by omega⟩ (Nat.le_of_ble_eq_true rfl) (fun r_ h_ z_ hp_ => ?_)
        obtain ⟨rfl, rfl, rfl⟩ := hp_
        refine j_istore C0 d_Ma_to_69 (Nat.le_of_ble_eq_true rfl) ?_
        refine j_aload_n C0 d_Ma_to_71 rfl (by rfl) ?_
        refine j_getf C0 d_Ma_to_72 fl_Ma_44 (by (repeat (first | rw [jset_s] | rw [jset_n (by omega)] | rw [reH_0] | rw [reH_1] | rw [reH_2] | rw [reH_n (by omega)])) <;> first | rfl | assumption) (by rfl) ?_
        refine j_getf C0 d_Ma_to_75 fl_Ma_111 (by (repeat (first | rw [jset_s] | rw [jset_n (by omega)] | rw [reH_0] | rw [reH_1] | rw [reH_2] | rw [reH_n (by omega)])) <;> first | rfl | assumption) (by rfl) ?_
        refine j_getf C0 d_Ma_to_78 fl_Ma_129 (by (repeat (first | rw [jset_s] | rw [jset_n (by omega)] | rw [reH_0] | rw [reH_1] | rw [reH_2] | rw [reH_n (by omega)])) <;> first | rfl | assumption) (by rfl) ?_
        refine j_iload C0 d_Ma_to_81 (by rfl) ?_
        refine j_iadd C0 d_Ma_to_83 ?_
        refine j_iconst C0 d_Ma_to_84 (v := 4) (by decide) ?_
        rw [nI_add, hcm]
        refine j_icmp_le C0 d_Ma_to_85 (tgt := 92) (by decide) (fun c_85 => ?_) (fun c_85 => ?_)
        · exact absurd c_85 (nI_ge (a := 4) hov (by omega))
        · refine j_sipush C0 d_Ma_to_88 (v := -452) (by decide) ?_
          exact j_iret C0 d_Ma_to_91 rfl (by omega) (by omega) ⟨rfl, m, fun q _ => rfl, rfl⟩
      · exact absurd ((lN_z hF).mp (lcmp_z.mp c_39)) hz
    · exact absurd c_20 hop
  · exact absurd c_6 (by decide)
set_option maxHeartbeats 4000000 in
set_option maxRecDepth 100000 in
theorem c_Ma_to (l : Launch) (E : jE) {h : jH} {sz b : Nat} {S : maS} (m : isMA E h b S) {u : Nat} (hu : u < 64) (hop : ¬ (mT S).1 = 0) (hz : ¬ fnl S u = 0) (hw : wad (mT S).2.2.1 (mT S).2.2.2.1) (hov : (mT S).2.2.1 + cP (fun i => (frs S u).testBit i) 64 ≤ 4) : jC l M_Ma_to 2 E [.ref b, .int (nI u)] h sz 0 0 (fun r h' sz' => r = some (.int (nI (cP (fun i => (frs S u).testBit i) 64))) ∧ isMA E h' b (toS S u) ∧ (∀ q, q < b ∨ b + 90 ≤ q → h' q = h q) ∧ sz' = sz) := by
  have e0 := m.obj
  obtain ⟨t0, t1⟩ := m.tr
  have t2 := t1.1
  have ea := m.al.1
  have hg := m.al.2.2
  have hF : fnl S u < 2 ^ 64 := fin8_lt (rOut_lt hg (p64 hu) 8) 8
  have hn4 : (mT S).2.2.1 ≤ 4 := t1.2.2.2
  have hbm : bm (mT S).2.2.2.1 (mT S).2.2.1 < 2 ^ 64 := bm_lt _ (fun i hi => by obtain ⟨k, hk, ek⟩ := hw i hi; rw [ek, nI_clamp (by omega)]; exact hk)
  have hA : frs S u < 2 ^ 64 := Nat.lt_of_le_of_lt Nat.and_le_left hF
  have hcm : pp_c (frs S u) 64 = cP (fun i => (frs S u).testBit i) 64 := pp_cP _ 64
  have hc64 := cP_max (fun i => (frs S u).testBit i) 64
  refine jC.of (by decide) (Nat.le_of_ble_eq_true rfl) ?_
  intro x C0 hx
  subst hx

  refine j_iload_n C0 d_Ma_to_0 rfl (by rfl) ?_
  refine j_bipush C0 d_Ma_to_1 (v := 64) (by decide) ?_
  refine j_callS C0 d_Ma_to_3 cl_Ma_74 cl_Ma_74v (c_Ma_isBelow _ E _ _) rfl rfl ⟨by decide, by decide⟩ ⟨by omega, by omega⟩ (Nat.le_of_ble_eq_true rfl) (fun r_ h_ z_ hp_ => ?_)
  obtain ⟨rfl, rfl, rfl⟩ := hp_
  rw [jb_y (okR (N := 64) hu (by decide) rfl)]
  refine j_if_ne C0 d_Ma_to_6 (tgt := 13) (by decide) (fun c_6 => ?_) (fun c_6 => ?_)
  · refine j_aload_n C0 d_Ma_to_13 rfl (by rfl) ?_
    refine j_getf C0 d_Ma_to_14 fl_Ma_44 (by (repeat (first | rw [jset_s] | rw [jset_n (by omega)] | rw [reH_0] | rw [reH_1] | rw [reH_2] | rw [reH_n (by omega)])) <;> first | rfl | assumption) (by rfl) ?_
    refine j_getf C0 d_Ma_to_17 fl_Ma_103 (by (repeat (first | rw [jset_s] | rw [jset_n (by omega)] | rw [reH_0] | rw [reH_1] | rw [reH_2] | rw [reH_n (by omega)])) <;> first | rfl | assumption) (by rfl) ?_
    refine j_if_ne C0 d_Ma_to_20 (tgt := 27) (by decide) (fun c_20 => ?_) (fun c_20 => ?_)
    · refine j_aload_n C0 d_Ma_to_27 rfl (by rfl) ?_
      refine j_getf C0 d_Ma_to_28 fl_Ma_26 (by (repeat (first | rw [jset_s] | rw [jset_n (by omega)] | rw [reH_0] | rw [reH_1] | rw [reH_2] | rw [reH_n (by omega)])) <;> first | rfl | assumption) (by rfl) ?_
      refine j_iload_n C0 d_Ma_to_31 rfl (by rfl) ?_
      refine j_callV C0 d_Ma_to_32 cl_Ma_107 cl_Ma_107v (c_Al_finalsOf _ E hu m.al) ea rfl rfl rfl ⟨by decide, by decide⟩ ⟨by omega, by omega⟩ (Nat.le_of_ble_eq_true rfl) (fun r_ h_ z_ hp_ => ?_)
      obtain ⟨rfl, rfl, rfl⟩ := hp_
      refine j_lstore_n C0 d_Ma_to_35 rfl (Nat.le_of_ble_eq_true rfl) ?_
      refine j_lload_n C0 d_Ma_to_36 rfl (by rfl) ?_
      refine j_lconst C0 d_Ma_to_37 (v := 0) (by decide) ?_
      refine j_lcmp C0 d_Ma_to_38 ?_
      refine j_if_ne C0 d_Ma_to_39 (tgt := 46) (by decide) (fun c_39 => ?_) (fun c_39 => ?_)
      · refine j_lload_n C0 d_Ma_to_46 rfl (by rfl) ?_
        refine j_aload_n C0 d_Ma_to_47 rfl (by rfl) ?_
        refine j_getf C0 d_Ma_to_48 fl_Ma_44 (by (repeat (first | rw [jset_s] | rw [jset_n (by omega)] | rw [reH_0] | rw [reH_1] | rw [reH_2] | rw [reH_n (by omega)])) <;> first | rfl | assumption) (by rfl) ?_
        refine j_getf C0 d_Ma_to_51 fl_Ma_111 (by (repeat (first | rw [jset_s] | rw [jset_n (by omega)] | rw [reH_0] | rw [reH_1] | rw [reH_2] | rw [reH_n (by omega)])) <;> first | rfl | assumption) (by rfl) ?_
        refine j_callV C0 d_Ma_to_54 cl_Ma_115 cl_Ma_115v (c_Re_asBits _ E t1 hw) t2 rfl rfl rfl ⟨by decide, by decide⟩ ⟨by omega, by omega⟩ (Nat.le_of_ble_eq_true rfl) (fun r_ h_ z_ hp_ => ?_)
        obtain ⟨rfl, rfl, rfl⟩ := hp_
        refine j_ldc2 C0 d_Ma_to_57 w_2_65 ?_
        refine j_lxor C0 d_Ma_to_60 ?_
        refine j_land C0 d_Ma_to_61 ?_
        rw [show (-1 : Int64) = lN (2 ^ 64 - 1) from rfl, lN_xor, wb_and hF (x64 hbm)]
        refine j_lstore C0 d_Ma_to_62 (Nat.le_of_ble_eq_true rfl) ?_
        refine j_lload C0 d_Ma_to_64 (by rfl) ?_
        refine j_callS C0 d_Ma_to_66 cl_Ma_123 cl_Ma_123v (c_Lo_bitCount _ E hA) rfl rfl ⟨by decide, by decide⟩ ⟨by omega, by omega⟩ (Nat.le_of_ble_eq_true rfl) (fun r_ h_ z_ hp_ => ?_)
        obtain ⟨rfl, rfl, rfl⟩ := hp_
        refine j_istore C0 d_Ma_to_69 (Nat.le_of_ble_eq_true rfl) ?_
        refine j_aload_n C0 d_Ma_to_71 rfl (by rfl) ?_
        refine j_getf C0 d_Ma_to_72 fl_Ma_44 (by (repeat (first | rw [jset_s] | rw [jset_n (by omega)] | rw [reH_0] | rw [reH_1] | rw [reH_2] | rw [reH_n (by omega)])) <;> first | rfl | assumption) (by rfl) ?_
        refine j_getf C0 d_Ma_to_75 fl_Ma_111 (by (repeat (first | rw [jset_s] | rw [jset_n (by omega)] | rw [reH_0] | rw [reH_1] | rw [reH_2] | rw [reH_n (by omega)])) <;> first | rfl | assumption) (by rfl) ?_
        refine j_getf C0 d_Ma_to_78 fl_Ma_129 (by (repeat (first | rw [jset_s] | rw [jset_n (by omega)] | rw [reH_0] | rw [reH_1] | rw [reH_2] | rw [reH_n (by omega)])) <;> first | rfl | assumption) (by rfl) ?_
        refine j_iload C0 d_Ma_to_81 (by rfl) ?_
        refine j_iadd C0 d_Ma_to_83 ?_
        refine j_iconst C0 d_Ma_to_84 (v := 4) (by decide) ?_
        rw [nI_add, hcm]
        refine j_icmp_le C0 d_Ma_to_85 (tgt := 92) (by decide) (fun c_85 => ?_) (fun c_85 => ?_)
        · refine j_aload_n C0 d_Ma_to_92 rfl (by rfl) ?_
          refine j_getf C0 d_Ma_to_93 fl_Ma_44 (by (repeat (first | rw [jset_s] | rw [jset_n (by omega)] | rw [reH_0] | rw [reH_1] | rw [reH_2] | rw [reH_n (by omega)])) <;> first | rfl | assumption) (by rfl) ?_
          refine j_getf C0 d_Ma_to_96 fl_Ma_111 (by (repeat (first | rw [jset_s] | rw [jset_n (by omega)] | rw [reH_0] | rw [reH_1] | rw [reH_2] | rw [reH_n (by omega)])) <;> first | rfl | assumption) (by rfl) ?_
          refine j_lload C0 d_Ma_to_99 (by rfl) ?_
          refine j_callV C0 d_Ma_to_101 cl_Ma_132 cl_Ma_132v (c_Re_addRising _ E t1 hA hov) t2 rfl rfl rfl ⟨by decide, by decide⟩ ⟨by omega, by omega⟩ (Nat.le_of_ble_eq_true rfl) (fun r_ h_ z_ hp_ => ?_)
          obtain ⟨rfl, rfl, rfl⟩ := hp_
          refine j_iload C0 d_Ma_to_104 (by rfl) ?_
          exact j_iret C0 d_Ma_to_106 rfl (by omega) (by omega) ⟨rfl, m.setTr (op := (mT S).1) (snd := (mT S).2.1) ⟨by rw [reH_n (by omega)]; exact t0, reH_is hov⟩ (fun q hq => reH_n (by omega)), fun q hq => reH_n (by omega), rfl⟩
        · exact absurd (nI_le (b := 4) hov (by decide)) c_85
      · exact absurd ((lN_z hF).mp (lcmp_z.mp c_39)) hz
    · exact absurd c_20 hop
  · exact absurd c_6 (by decide)
def newA (S : maS) (z : Int32) : jMsg := (upd (upd (upd (upd ((mQ S).2 (mQ S).1).1 1 (mv S 11 + 1)) 2 (mT S).2.1) 3 z) 7 0, (mT S).2.2.1, cp ((mQ S).2 (mQ S).1).2.2.1 (mT S).2.2.2.1 (mT S).2.2.1, cp ((mQ S).2 (mQ S).1).2.2.2 (mT S).2.2.2.2 (mT S).2.2.1)
def newM (S : maS) (z : Int32) : jMsg := (upd (upd (upd (newA S z).1 4 (mv S 10)) 5 (mv S 10)) 6 (mv S 0), (newA S z).2)
theorem wb7_new {qn : Nat} {Q : Nat → jMsg} {y : jMsg} (hb : wb7 qn Q) (hy : y.1 7 = 0 ∨ y.1 7 = 1) : wb7 (qn + 1) (va_up Q qn y) := fun j hj => by
  by_cases h : j = qn
  · subst h; rw [va_up_self]; exact hy
  · rw [va_up_ne _ _ h]; exact hb j (by omega)
def daS (S : maS) (z : Int32) : maS := mkDur (upd (mv S) 11 (mv S 11 + 1), S.2.1, S.2.2.1, S.2.2.2.1, (0, (mT S).2), ((mQ S).1 + 1, va_up (mQ S).2 (mQ S).1 (newM S z)), S.2.2.2.2.2.2)
set_option maxHeartbeats 4000000 in
set_option maxRecDepth 100000 in
theorem c_Ma_data_bad (l : Launch) (E : jE) {h : jH} {sz b : Nat} {S : maS} (m : isMA E h b S) (p : Int32) (hbad : ¬ (¬ p < 0 ∧ ¬ 41 ≤ p)) : jC l M_Ma_data 5 E [.ref b, .int p] h sz 0 0 (fun r h' sz' => r = some (.int (-501)) ∧ isMA E h' b S ∧ (∀ q, q < b ∨ b + 90 ≤ q → h' q = h q) ∧ sz' = sz) := by
  refine jC.of (by decide) (Nat.le_of_ble_eq_true rfl) ?_
  intro x C0 hx
  subst hx

  refine j_iload_n C0 d_Ma_data_0 rfl (by rfl) ?_
  refine j_bipush C0 d_Ma_data_1 (v := 41) (by decide) ?_
  refine j_callS C0 d_Ma_data_3 cl_Ma_74 cl_Ma_74v (c_Ma_isBelow _ E _ _) rfl rfl ⟨by decide, by decide⟩ ⟨by omega, by omega⟩ (Nat.le_of_ble_eq_true rfl) (fun r_ h_ z_ hp_ => ?_)
  obtain ⟨rfl, rfl, rfl⟩ := hp_
  rw [jb_n hbad]
  refine j_if_ne C0 d_Ma_data_6 (tgt := 13) (by decide) (fun c_6 => ?_) (fun c_6 => ?_)
  · exact absurd c_6 (by decide)
  · refine j_sipush C0 d_Ma_data_9 (v := -501) (by decide) ?_
    exact j_iret C0 d_Ma_data_12 rfl (by omega) (by omega) ⟨rfl, m, fun q _ => rfl, rfl⟩
set_option maxHeartbeats 4000000 in
set_option maxRecDepth 100000 in
theorem c_Ma_data_seq (l : Launch) (E : jE) {h : jH} {sz b : Nat} {S : maS} (m : isMA E h b S) (z : Int32) (hz : ¬ z < 0 ∧ ¬ 41 ≤ z) (hop : (mT S).1 = 0 ∨ (mT S).2.2.1 = 0) : jC l M_Ma_data 5 E [.ref b, .int z] h sz 0 0 (fun r h' sz' => r = some (.int (-503)) ∧ isMA E h' b S ∧ (∀ q, q < b ∨ b + 90 ≤ q → h' q = h q) ∧ sz' = sz) := by
  have e0 := m.obj
  obtain ⟨t0, t1⟩ := m.tr
  have t2 := t1.1
  have eq := m.qu.obj
  have h6 := m.qu.le
  have hn4 : (mT S).2.2.1 ≤ 4 := t1.2.2.2
  refine jC.of (by decide) (Nat.le_of_ble_eq_true rfl) ?_
  intro x C0 hx
  subst hx

  refine j_iload_n C0 d_Ma_data_0 rfl (by rfl) ?_
  refine j_bipush C0 d_Ma_data_1 (v := 41) (by decide) ?_
  refine j_callS C0 d_Ma_data_3 cl_Ma_74 cl_Ma_74v (c_Ma_isBelow _ E _ _) rfl rfl ⟨by decide, by decide⟩ ⟨by omega, by omega⟩ (Nat.le_of_ble_eq_true rfl) (fun r_ h_ z_ hp_ => ?_)
  obtain ⟨rfl, rfl, rfl⟩ := hp_
  rw [jb_y hz]
  refine j_if_ne C0 d_Ma_data_6 (tgt := 13) (by decide) (fun c_6 => ?_) (fun c_6 => ?_)
  · refine j_aload_n C0 d_Ma_data_13 rfl (by rfl) ?_
    refine j_getf C0 d_Ma_data_14 fl_Ma_44 (by (repeat (first | rw [jset_s] | rw [jset_n (by omega)] | rw [reH_0] | rw [reH_1] | rw [reH_2] | rw [reH_n (by omega)])) <;> first | rfl | assumption) (by rfl) ?_
    refine j_getf C0 d_Ma_data_17 fl_Ma_103 (by (repeat (first | rw [jset_s] | rw [jset_n (by omega)] | rw [reH_0] | rw [reH_1] | rw [reH_2] | rw [reH_n (by omega)])) <;> first | rfl | assumption) (by rfl) ?_
    refine j_if_eq C0 d_Ma_data_20 (tgt := 36) (by decide) (fun c_20 => ?_) (fun c_20 => ?_)
    · refine j_sipush C0 d_Ma_data_36 (v := -503) (by decide) ?_
      exact j_iret C0 d_Ma_data_39 rfl (by omega) (by omega) ⟨rfl, m, fun q _ => rfl, rfl⟩
    · refine j_aload_n C0 d_Ma_data_23 rfl (by rfl) ?_
      refine j_getf C0 d_Ma_data_24 fl_Ma_44 (by (repeat (first | rw [jset_s] | rw [jset_n (by omega)] | rw [reH_0] | rw [reH_1] | rw [reH_2] | rw [reH_n (by omega)])) <;> first | rfl | assumption) (by rfl) ?_
      refine j_getf C0 d_Ma_data_27 fl_Ma_111 (by (repeat (first | rw [jset_s] | rw [jset_n (by omega)] | rw [reH_0] | rw [reH_1] | rw [reH_2] | rw [reH_n (by omega)])) <;> first | rfl | assumption) (by rfl) ?_
      refine j_getf C0 d_Ma_data_30 fl_Ma_129 (by (repeat (first | rw [jset_s] | rw [jset_n (by omega)] | rw [reH_0] | rw [reH_1] | rw [reH_2] | rw [reH_n (by omega)])) <;> first | rfl | assumption) (by rfl) ?_
      refine j_if_ne C0 d_Ma_data_33 (tgt := 40) (by decide) (fun c_33 => ?_) (fun c_33 => ?_)
      · exact absurd (congrArg nI (hop.resolve_left c_20)) c_33
      · refine j_sipush C0 d_Ma_data_36 (v := -503) (by decide) ?_
        exact j_iret C0 d_Ma_data_39 rfl (by omega) (by omega) ⟨rfl, m, fun q _ => rfl, rfl⟩
  · exact absurd c_6 (by decide)
set_option maxHeartbeats 4000000 in
set_option maxRecDepth 100000 in
theorem c_Ma_data_full (l : Launch) (E : jE) {h : jH} {sz b : Nat} {S : maS} (m : isMA E h b S) (z : Int32) (hz : ¬ z < 0 ∧ ¬ 41 ≤ z) (hop : ¬ (mT S).1 = 0) (hn0 : 0 < (mT S).2.2.1) (hfl : 6 ≤ (mQ S).1 ∨ ¬ csQ (mQ S).2 (mQ S).1 + (z + nI (mT S).2.2.1 + 1) ≤ 60) : jC l M_Ma_data 5 E [.ref b, .int z] h sz 0 0 (fun r h' sz' => r = some (.int (-452)) ∧ isMA E h' b S ∧ (∀ q, q < b ∨ b + 90 ≤ q → h' q = h q) ∧ sz' = sz) := by
  have e0 := m.obj
  obtain ⟨t0, t1⟩ := m.tr
  have t2 := t1.1
  have eq := m.qu.obj
  have h6 := m.qu.le
  have hn4 : (mT S).2.2.1 ≤ 4 := t1.2.2.2
  refine jC.of (by decide) (Nat.le_of_ble_eq_true rfl) ?_
  intro x C0 hx
  subst hx

  refine j_iload_n C0 d_Ma_data_0 rfl (by rfl) ?_
  refine j_bipush C0 d_Ma_data_1 (v := 41) (by decide) ?_
  refine j_callS C0 d_Ma_data_3 cl_Ma_74 cl_Ma_74v (c_Ma_isBelow _ E _ _) rfl rfl ⟨by decide, by decide⟩ ⟨by omega, by omega⟩ (Nat.le_of_ble_eq_true rfl) (fun r_ h_ z_ hp_ => ?_)
  obtain ⟨rfl, rfl, rfl⟩ := hp_
  rw [jb_y hz]
  refine j_if_ne C0 d_Ma_data_6 (tgt := 13) (by decide) (fun c_6 => ?_) (fun c_6 => ?_)
  · refine j_aload_n C0 d_Ma_data_13 rfl (by rfl) ?_
    refine j_getf C0 d_Ma_data_14 fl_Ma_44 (by (repeat (first | rw [jset_s] | rw [jset_n (by omega)] | rw [reH_0] | rw [reH_1] | rw [reH_2] | rw [reH_n (by omega)])) <;> first | rfl | assumption) (by rfl) ?_
    refine j_getf C0 d_Ma_data_17 fl_Ma_103 (by (repeat (first | rw [jset_s] | rw [jset_n (by omega)] | rw [reH_0] | rw [reH_1] | rw [reH_2] | rw [reH_n (by omega)])) <;> first | rfl | assumption) (by rfl) ?_
    refine j_if_eq C0 d_Ma_data_20 (tgt := 36) (by decide) (fun c_20 => ?_) (fun c_20 => ?_)
    · exact absurd c_20 hop
    · refine j_aload_n C0 d_Ma_data_23 rfl (by rfl) ?_
      refine j_getf C0 d_Ma_data_24 fl_Ma_44 (by (repeat (first | rw [jset_s] | rw [jset_n (by omega)] | rw [reH_0] | rw [reH_1] | rw [reH_2] | rw [reH_n (by omega)])) <;> first | rfl | assumption) (by rfl) ?_
      refine j_getf C0 d_Ma_data_27 fl_Ma_111 (by (repeat (first | rw [jset_s] | rw [jset_n (by omega)] | rw [reH_0] | rw [reH_1] | rw [reH_2] | rw [reH_n (by omega)])) <;> first | rfl | assumption) (by rfl) ?_
      refine j_getf C0 d_Ma_data_30 fl_Ma_129 (by (repeat (first | rw [jset_s] | rw [jset_n (by omega)] | rw [reH_0] | rw [reH_1] | rw [reH_2] | rw [reH_n (by omega)])) <;> first | rfl | assumption) (by rfl) ?_
      refine j_if_ne C0 d_Ma_data_33 (tgt := 40) (by decide) (fun c_33 => ?_) (fun c_33 => ?_)
      · refine j_iload_n C0 d_Ma_data_40 rfl (by rfl) ?_
        refine j_aload_n C0 d_Ma_data_41 rfl (by rfl) ?_
        refine j_getf C0 d_Ma_data_42 fl_Ma_44 (by (repeat (first | rw [jset_s] | rw [jset_n (by omega)] | rw [reH_0] | rw [reH_1] | rw [reH_2] | rw [reH_n (by omega)])) <;> first | rfl | assumption) (by rfl) ?_
        refine j_getf C0 d_Ma_data_45 fl_Ma_111 (by (repeat (first | rw [jset_s] | rw [jset_n (by omega)] | rw [reH_0] | rw [reH_1] | rw [reH_2] | rw [reH_n (by omega)])) <;> first | rfl | assumption) (by rfl) ?_
        refine j_getf C0 d_Ma_data_48 fl_Ma_129 (by (repeat (first | rw [jset_s] | rw [jset_n (by omega)] | rw [reH_0] | rw [reH_1] | rw [reH_2] | rw [reH_n (by omega)])) <;> first | rfl | assumption) (by rfl) ?_
        refine j_callS C0 d_Ma_data_51 cl_Ma_136 cl_Ma_136v (c_Ma_costOf _ E _ _) rfl rfl ⟨by decide, by decide⟩ ⟨by omega, by omega⟩ (Nat.le_of_ble_eq_true rfl) (fun r_ h_ z_ hp_ => ?_)
        obtain ⟨rfl, rfl, rfl⟩ := hp_
        refine j_istore_n C0 d_Ma_data_54 rfl (Nat.le_of_ble_eq_true rfl) ?_
        refine j_aload_n C0 d_Ma_data_55 rfl (by rfl) ?_
        refine j_getf C0 d_Ma_data_56 fl_Ma_51 (by (repeat (first | rw [jset_s] | rw [jset_n (by omega)] | rw [reH_0] | rw [reH_1] | rw [reH_2] | rw [reH_n (by omega)])) <;> first | rfl | assumption) (by rfl) ?_
        refine j_getf C0 d_Ma_data_59 fl_Ma_139 (by (repeat (first | rw [jset_s] | rw [jset_n (by omega)] | rw [reH_0] | rw [reH_1] | rw [reH_2] | rw [reH_n (by omega)])) <;> first | rfl | assumption) (by rfl) ?_
        refine j_bipush C0 d_Ma_data_62 (v := 6) (by decide) ?_
        refine j_icmp_ge C0 d_Ma_data_64 (tgt := 81) (by decide) (fun c_64 => ?_) (fun c_64 => ?_)
        · refine j_sipush C0 d_Ma_data_81 (v := -452) (by decide) ?_
          exact j_iret C0 d_Ma_data_84 rfl (by omega) (by omega) ⟨rfl, m, fun q _ => rfl, rfl⟩
        · have hl : ¬ 6 ≤ (mQ S).1 := fun hh => c_64 (nI_le (a := 6) hh (by omega))
          refine j_aload_n C0 d_Ma_data_67 rfl (by rfl) ?_
          refine j_getf C0 d_Ma_data_68 fl_Ma_51 (by (repeat (first | rw [jset_s] | rw [jset_n (by omega)] | rw [reH_0] | rw [reH_1] | rw [reH_2] | rw [reH_n (by omega)])) <;> first | rfl | assumption) (by rfl) ?_
          refine j_callV C0 d_Ma_data_71 cl_Ma_140 cl_Ma_140v (c_Qu_costs _ E m.qu) eq rfl rfl rfl ⟨by decide, by decide⟩ ⟨by omega, by omega⟩ (Nat.le_of_ble_eq_true rfl) (fun r_ h_ z_ hp_ => ?_)
          obtain ⟨rfl, rfl, rfl⟩ := hp_
          refine j_iload_n C0 d_Ma_data_74 rfl (by rfl) ?_
          refine j_iadd C0 d_Ma_data_75 ?_
          refine j_bipush C0 d_Ma_data_76 (v := 60) (by decide) ?_
          refine j_icmp_le C0 d_Ma_data_78 (tgt := 85) (by decide) (fun c_78 => ?_) (fun c_78 => ?_)
          · exact absurd c_78 (hfl.resolve_left hl)
          · refine j_sipush C0 d_Ma_data_81 (v := -452) (by decide) ?_
            exact j_iret C0 d_Ma_data_84 rfl (by omega) (by omega) ⟨rfl, m, fun q _ => rfl, rfl⟩
      · exact absurd c_33 (nI_ne0 hn0 (by omega))
  · exact absurd c_6 (by decide)
set_option maxHeartbeats 4000000 in
set_option maxRecDepth 100000 in
theorem c_Ma_data (l : Launch) (E : jE) {h : jH} {sz b : Nat} {S : maS} (m : isMA E h b S) (z : Int32) (hz : ¬ z < 0 ∧ ¬ 41 ≤ z) (hop : ¬ (mT S).1 = 0) (hn0 : 0 < (mT S).2.2.1) (h5 : (mQ S).1 < 6) (hcs : csQ (mQ S).2 (mQ S).1 + (z + nI (mT S).2.2.1 + 1) ≤ 60) (hb : wb7 (mQ S).1 (mQ S).2) : jC l M_Ma_data 5 E [.ref b, .int z] h sz 0 0 (fun r h' sz' => r = some (.int (mv S 11 + 1)) ∧ isMA E h' b (daS S z) ∧ (∀ q, q < b ∨ b + 90 ≤ q → h' q = h q) ∧ sz' = sz) := by
  have e0 := m.obj
  obtain ⟨t0, t1⟩ := m.tr
  have t2 := t1.1
  have eq := m.qu.obj
  have h6 := m.qu.le
  have hn4 : (mT S).2.2.1 ≤ 4 := t1.2.2.2
  obtain ⟨f, e1⟩ := m.qu.arr
  refine jC.of (by decide) (Nat.le_of_ble_eq_true rfl) ?_
  intro x C0 hx
  subst hx

  refine j_iload_n C0 d_Ma_data_0 rfl (by rfl) ?_
  refine j_bipush C0 d_Ma_data_1 (v := 41) (by decide) ?_
  refine j_callS C0 d_Ma_data_3 cl_Ma_74 cl_Ma_74v (c_Ma_isBelow _ E _ _) rfl rfl ⟨by decide, by decide⟩ ⟨by omega, by omega⟩ (Nat.le_of_ble_eq_true rfl) (fun r_ h_ z_ hp_ => ?_)
  obtain ⟨rfl, rfl, rfl⟩ := hp_
  rw [jb_y hz]
  refine j_if_ne C0 d_Ma_data_6 (tgt := 13) (by decide) (fun c_6 => ?_) (fun c_6 => ?_)
  · refine j_aload_n C0 d_Ma_data_13 rfl (by rfl) ?_
    refine j_getf C0 d_Ma_data_14 fl_Ma_44 (by (repeat (first | rw [jset_s] | rw [jset_n (by omega)] | rw [reH_0] | rw [reH_1] | rw [reH_2] | rw [reH_n (by omega)])) <;> first | rfl | assumption) (by rfl) ?_
    refine j_getf C0 d_Ma_data_17 fl_Ma_103 (by (repeat (first | rw [jset_s] | rw [jset_n (by omega)] | rw [reH_0] | rw [reH_1] | rw [reH_2] | rw [reH_n (by omega)])) <;> first | rfl | assumption) (by rfl) ?_
    refine j_if_eq C0 d_Ma_data_20 (tgt := 36) (by decide) (fun c_20 => ?_) (fun c_20 => ?_)
    · exact absurd c_20 hop
    · refine j_aload_n C0 d_Ma_data_23 rfl (by rfl) ?_
      refine j_getf C0 d_Ma_data_24 fl_Ma_44 (by (repeat (first | rw [jset_s] | rw [jset_n (by omega)] | rw [reH_0] | rw [reH_1] | rw [reH_2] | rw [reH_n (by omega)])) <;> first | rfl | assumption) (by rfl) ?_
      refine j_getf C0 d_Ma_data_27 fl_Ma_111 (by (repeat (first | rw [jset_s] | rw [jset_n (by omega)] | rw [reH_0] | rw [reH_1] | rw [reH_2] | rw [reH_n (by omega)])) <;> first | rfl | assumption) (by rfl) ?_
      refine j_getf C0 d_Ma_data_30 fl_Ma_129 (by (repeat (first | rw [jset_s] | rw [jset_n (by omega)] | rw [reH_0] | rw [reH_1] | rw [reH_2] | rw [reH_n (by omega)])) <;> first | rfl | assumption) (by rfl) ?_
      refine j_if_ne C0 d_Ma_data_33 (tgt := 40) (by decide) (fun c_33 => ?_) (fun c_33 => ?_)
      · refine j_iload_n C0 d_Ma_data_40 rfl (by rfl) ?_
        refine j_aload_n C0 d_Ma_data_41 rfl (by rfl) ?_
        refine j_getf C0 d_Ma_data_42 fl_Ma_44 (by (repeat (first | rw [jset_s] | rw [jset_n (by omega)] | rw [reH_0] | rw [reH_1] | rw [reH_2] | rw [reH_n (by omega)])) <;> first | rfl | assumption) (by rfl) ?_
        refine j_getf C0 d_Ma_data_45 fl_Ma_111 (by (repeat (first | rw [jset_s] | rw [jset_n (by omega)] | rw [reH_0] | rw [reH_1] | rw [reH_2] | rw [reH_n (by omega)])) <;> first | rfl | assumption) (by rfl) ?_
        refine j_getf C0 d_Ma_data_48 fl_Ma_129 (by (repeat (first | rw [jset_s] | rw [jset_n (by omega)] | rw [reH_0] | rw [reH_1] | rw [reH_2] | rw [reH_n (by omega)])) <;> first | rfl | assumption) (by rfl) ?_
        refine j_callS C0 d_Ma_data_51 cl_Ma_136 cl_Ma_136v (c_Ma_costOf _ E _ _) rfl rfl ⟨by decide, by decide⟩ ⟨by omega, by omega⟩ (Nat.le_of_ble_eq_true rfl) (fun r_ h_ z_ hp_ => ?_)
        obtain ⟨rfl, rfl, rfl⟩ := hp_
        refine j_istore_n C0 d_Ma_data_54 rfl (Nat.le_of_ble_eq_true rfl) ?_
        refine j_aload_n C0 d_Ma_data_55 rfl (by rfl) ?_
        refine j_getf C0 d_Ma_data_56 fl_Ma_51 (by (repeat (first | rw [jset_s] | rw [jset_n (by omega)] | rw [reH_0] | rw [reH_1] | rw [reH_2] | rw [reH_n (by omega)])) <;> first | rfl | assumption) (by rfl) ?_
        refine j_getf C0 d_Ma_data_59 fl_Ma_139 (by (repeat (first | rw [jset_s] | rw [jset_n (by omega)] | rw [reH_0] | rw [reH_1] | rw [reH_2] | rw [reH_n (by omega)])) <;> first | rfl | assumption) (by rfl) ?_
        refine j_bipush C0 d_Ma_data_62 (v := 6) (by decide) ?_
        refine j_icmp_ge C0 d_Ma_data_64 (tgt := 81) (by decide) (fun c_64 => ?_) (fun c_64 => ?_)
        · exact absurd c_64 (nI_ge (b := 6) h5 (by decide))
        · refine j_aload_n C0 d_Ma_data_67 rfl (by rfl) ?_
          refine j_getf C0 d_Ma_data_68 fl_Ma_51 (by (repeat (first | rw [jset_s] | rw [jset_n (by omega)] | rw [reH_0] | rw [reH_1] | rw [reH_2] | rw [reH_n (by omega)])) <;> first | rfl | assumption) (by rfl) ?_
          refine j_callV C0 d_Ma_data_71 cl_Ma_140 cl_Ma_140v (c_Qu_costs _ E m.qu) eq rfl rfl rfl ⟨by decide, by decide⟩ ⟨by omega, by omega⟩ (Nat.le_of_ble_eq_true rfl) (fun r_ h0 z_ hp_ => ?_)
          obtain ⟨rfl, rfl, rfl⟩ := hp_
          refine j_iload_n C0 d_Ma_data_74 rfl (by rfl) ?_
          refine j_iadd C0 d_Ma_data_75 ?_
          refine j_bipush C0 d_Ma_data_76 (v := 60) (by decide) ?_
          refine j_icmp_le C0 d_Ma_data_78 (tgt := 85) (by decide) (fun c_78 => ?_) (fun c_78 => ?_)
          · refine j_aload_n C0 d_Ma_data_85 rfl (by rfl) ?_
            refine j_dup C0 d_Ma_data_86 rfl ?_
            refine j_getf C0 d_Ma_data_87 fl_Ma_68 (by (repeat (first | rw [jset_s] | rw [jset_n (by omega)] | rw [reH_0] | rw [reH_1] | rw [reH_2] | rw [reH_n (by omega)])) <;> first | rfl | assumption) (by rfl) ?_
            refine j_iconst C0 d_Ma_data_90 (v := 1) (by decide) ?_
            refine j_iadd C0 d_Ma_data_91 ?_
            refine j_putf C0 d_Ma_data_92 fp_Ma_68 (by (repeat (first | rw [jset_s] | rw [jset_n (by omega)] | rw [reH_0] | rw [reH_1] | rw [reH_2] | rw [reH_n (by omega)])) <;> first | rfl | assumption) (Nat.le_of_ble_eq_true rfl) (by rfl) (by rfl) ?_
            have m1 := m.setV (h' := jset _ b _) (v := upd (mv S) 11 (mv S 11 + 1)) jset_s (fun q hq => jset_n (by omega))
            refine j_aload_n C0 d_Ma_data_95 rfl (by rfl) ?_
            refine j_getf C0 d_Ma_data_96 fl_Ma_51 (by (repeat (first | rw [jset_s] | rw [jset_n (by omega)] | rw [reH_0] | rw [reH_1] | rw [reH_2] | rw [reH_n (by omega)])) <;> first | rfl | assumption) (by rfl) ?_
            refine j_callV C0 d_Ma_data_99 cl_Ma_143 cl_Ma_143v (c_Qu_addSpare _ E m1.qu h5) m1.qu.obj rfl rfl rfl ⟨by decide, by decide⟩ ⟨by omega, by omega⟩ (Nat.le_of_ble_eq_true rfl) (fun r_ h2 z_ hp_ => ?_)
            obtain ⟨f1, a, ef, ha, rfl, hh2, rfl⟩ := hp_
            have m2 := m1.setQu (h' := h2) (by rw [hh2]; exact m1.qu.size (show (mQ S).1 + 1 ≤ 6 by omega)) (fun q hq => by rw [hh2]; exact jset_n (by omega))
            have k2 : ∀ q, q < b ∨ b + 90 ≤ q → h2 q = h0 q := fun q hq => by rw [hh2, jset_n (by omega), jset_n (by omega)]
            obtain ⟨a', ha', ha1, ha2, hme, hup⟩ := m2.qu.at (f := f1) (by rw [hh2, jset_n (by omega)]; exact ef) h5
            cases ha.symm.trans ha'
            have e3 := m2.obj
            refine j_astore_n C0 d_Ma_data_102 rfl (Nat.le_of_ble_eq_true rfl) ?_
            refine j_aload_n C0 d_Ma_data_103 rfl (by rfl) ?_
            refine j_aload_n C0 d_Ma_data_104 rfl (by rfl) ?_
            refine j_getf C0 d_Ma_data_105 fl_Ma_68 (by (repeat (first | rw [jset_s] | rw [jset_n (by omega)] | rw [reH_0] | rw [reH_1] | rw [reH_2] | rw [reH_n (by omega)])) <;> first | rfl | assumption) (by rfl) ?_
            refine j_iload_n C0 d_Ma_data_108 rfl (by rfl) ?_
            refine j_aload_n C0 d_Ma_data_109 rfl (by rfl) ?_
            refine j_getf C0 d_Ma_data_110 fl_Ma_44 (by (repeat (first | rw [jset_s] | rw [jset_n (by omega)] | rw [reH_0] | rw [reH_1] | rw [reH_2] | rw [reH_n (by omega)])) <;> first | rfl | assumption) (by rfl) ?_
            refine j_callV C0 d_Ma_data_113 cl_Ma_147 cl_Ma_147v (c_Me_accept _ E _ _ hme m2.tr (by omega)) hme.1 rfl rfl rfl ⟨by decide, by decide⟩ ⟨by omega, by omega⟩ (Nat.le_of_ble_eq_true rfl) (fun r_ h3 z_ hp_ => ?_)
            obtain ⟨rfl, hh3, rfl⟩ := hp_
            have hh3 : h3 = meH E h2 a (newA S z) := hh3
            have hme3 : isMe E h3 a (newA S z) := by rw [hh3]; exact meH_is hn4
            have k3 : ∀ q, q < a ∨ a + 4 ≤ q → h3 q = h2 q := fun q hq => by rw [hh3]; exact meH_n hq
            have m3 := m2.setQu (hup h3 (newA S z) hme3 k3) (fun q hq => k3 q (by omega))
            have e4 := m3.obj
            refine j_aload_n C0 d_Ma_data_116 rfl (by rfl) ?_
            refine j_aload_n C0 d_Ma_data_117 rfl (by rfl) ?_
            refine j_getf C0 d_Ma_data_118 fl_Ma_65 (by (repeat (first | rw [jset_s] | rw [jset_n (by omega)] | rw [reH_0] | rw [reH_1] | rw [reH_2] | rw [reH_n (by omega)])) <;> first | rfl | assumption) (by rfl) ?_
            refine j_aload_n C0 d_Ma_data_121 rfl (by rfl) ?_
            refine j_getf C0 d_Ma_data_122 fl_Ma_13 (by (repeat (first | rw [jset_s] | rw [jset_n (by omega)] | rw [reH_0] | rw [reH_1] | rw [reH_2] | rw [reH_n (by omega)])) <;> first | rfl | assumption) (by rfl) ?_
            refine j_callV C0 d_Ma_data_125 cl_Ma_153 cl_Ma_153v (c_Me_schedule _ E _ _ hme3) hme3.1 rfl rfl rfl ⟨by decide, by decide⟩ ⟨by omega, by omega⟩ (Nat.le_of_ble_eq_true rfl) (fun r_ h4 z_ hp_ => ?_)
            obtain ⟨rfl, hh4, rfl⟩ := hp_
            have k4 : ∀ q, q < a ∨ a + 4 ≤ q → h4 q = h2 q := fun q hq => by rw [hh4, jset_n (by omega)]; exact k3 q hq
            have m4 := m2.setQu (hup h4 (newM S z) ⟨by rw [hh4, jset_s]; rfl, hme3.2.keep (fun q h1 h2 => by rw [hh4, jset_n (by omega)])⟩ k4) (fun q hq => k4 q (by omega))
            have e5 := m4.obj
            obtain ⟨u0, u1⟩ := m4.tr
            refine j_aload_n C0 d_Ma_data_128 rfl (by rfl) ?_
            refine j_getf C0 d_Ma_data_129 fl_Ma_44 (by (repeat (first | rw [jset_s] | rw [jset_n (by omega)] | rw [reH_0] | rw [reH_1] | rw [reH_2] | rw [reH_n (by omega)])) <;> first | rfl | assumption) (by rfl) ?_
            refine j_iconst C0 d_Ma_data_132 (v := 0) (by decide) ?_
            refine j_putf C0 d_Ma_data_133 fp_Ma_103 (by (repeat (first | rw [jset_s] | rw [jset_n (by omega)] | rw [reH_0] | rw [reH_1] | rw [reH_2] | rw [reH_n (by omega)])) <;> first | rfl | assumption) (Nat.le_of_ble_eq_true rfl) (by rfl) (by rfl) ?_
            have m5 := m4.setTr (h' := jset _ (b + 29) _) (op := 0) (snd := (mT S).2.1) (tn := (mT S).2.2.1) (ad := (mT S).2.2.2.1) (st := (mT S).2.2.2.2) ⟨jset_s, u1.keep (fun q h1 h2 => jset_n (by omega))⟩ (fun q hq => jset_n (by omega))
            have e6 := m5.obj
            refine j_aload_n C0 d_Ma_data_136 rfl (by rfl) ?_
            refine j_callV C0 d_Ma_data_137 cl_Ma_157 cl_Ma_157v (c_Ma_makeDurable _ E m5 (wb7_new hb (y := newM S z) (Or.inl rfl))) m5.obj rfl rfl rfl ⟨by decide, by decide⟩ ⟨by omega, by omega⟩ (Nat.le_of_ble_eq_true rfl) (fun r_ h6 z_ hp_ => ?_)
            obtain ⟨rfl, m6, k6, rfl⟩ := hp_
            have e7 := m6.obj
            refine j_aload_n C0 d_Ma_data_140 rfl (by rfl) ?_
            refine j_getf C0 d_Ma_data_141 fl_Ma_68 (by (repeat (first | rw [jset_s] | rw [jset_n (by omega)] | rw [reH_0] | rw [reH_1] | rw [reH_2] | rw [reH_n (by omega)])) <;> first | rfl | assumption) (by rfl) ?_
            exact j_iret C0 d_Ma_data_144 rfl (by omega) (by omega) ⟨rfl, m6, fun q hq => by rw [k6 q hq, jset_n (by omega), k4 q (by omega), k2 q hq], rfl⟩
          · exact absurd hcs c_78
      · exact absurd c_33 (nI_ne0 hn0 (by omega))
  · exact absurd c_6 (by decide)
