set_option maxHeartbeats 4000000 in
set_option maxRecDepth 100000 in
theorem c_Mo_tick_bad (l : Launch) (E : jE) {h0 : jH} {sz c : Nat} {A : moA} {w : Nat → Int32} (p : Int32) (hbad : p < w 9 ∨ ¬ p ≤ 1000000) : jC l M_Mo_tick 3 E [.ref c, .int p] (moH E h0 c A w) sz 0 0 (fun r h' sz' => r = some (.int (-501)) ∧ h' = moH E h0 c A w ∧ sz' = sz) := by
  refine jC.of (by decide) (Nat.le_of_ble_eq_true rfl) ?_
  intro x C0 hx
  subst hx

  refine j_iload_n C0 d_Mo_tick_0 rfl (by rfl) ?_
  refine j_aload_n C0 d_Mo_tick_1 rfl (by rfl) ?_
  refine mo_get C0 d_Mo_tick_2 fl_Mo_101 (by rfl) ?_
  refine j_icmp_lt C0 d_Mo_tick_5 (tgt := 14) (by decide) (fun c_5 => ?_) (fun c_5 => ?_)
  · refine j_sipush C0 d_Mo_tick_14 (v := -501) (by decide) ?_
    exact j_iret C0 d_Mo_tick_17 rfl (by omega) (by omega) (⟨rfl, rfl, rfl⟩)
  · refine j_iload_n C0 d_Mo_tick_8 rfl (by rfl) ?_
    refine j_ldc C0 d_Mo_tick_9 w_3_119 ?_
    refine j_icmp_le C0 d_Mo_tick_11 (tgt := 18) (by decide) (fun c_11 => ?_) (fun c_11 => ?_)
    · exact absurd c_11 (hbad.resolve_left c_5)
    · refine j_sipush C0 d_Mo_tick_14 (v := -501) (by decide) ?_
      exact j_iret C0 d_Mo_tick_17 rfl (by omega) (by omega) (⟨rfl, rfl, rfl⟩)
theorem IVb.gp {a b L : Nat} {S : maS} (h : IVb a b L S) (h1 : 1 ≤ a) (h3 : b ≤ 600) {i : Nat} (hi : i < (mQ S).1) : gpM S i := by
  obtain ⟨q1, q2, q3, q4, q5, q6⟩ := h
  obtain ⟨g, g1, g2, g3⟩ := q5 i hi
  exact ⟨a, b, g, h1, g1, g2, h3, q1, q2, g3⟩
theorem RS.clk {S : maS} {A : moA} {w : Nat → Int32} (h : RS S A w) (p : Int32) : RS (tkZ S p) A (upd w 9 p) := ⟨⟨h.v0, h.v1, h.v2, rfl, h.v10, h.v15⟩, h.al, h.ro, h.ho, h.tr, h.qu, h.du, h.le⟩
set_option maxHeartbeats 4000000 in
set_option maxRecDepth 100000 in
theorem c_Mo_tick (l : Launch) (E : jE) {h0 : jH} {sz c : Nat} {A : moA} {w : Nat → Int32} {S : maS} {a b L : Nat} (h1 : 1 ≤ a) (h2 : a ≤ b) (h3 : b ≤ 600) (hL : L < 1000000) (hR : RS S A w) (hV : IVa a b L S) (p : Int32) (hok : ¬ p < mv S 10 ∧ p ≤ 1000000) : jC l M_Mo_tick 3 E [.ref c, .int p] (moH E h0 c A w) sz 0 0 (fun r h' sz' => r = some (.int (nI (tkS (tkZ S p) 6).2.2)) ∧ (∃ A' w', h' = moH E h0 c A' w' ∧ RS (tiS S p) A' w' ∧ IVa a b L (tiS S p)) ∧ sz' = sz) := by
  have hPN : PN L 0 (tkZ S p, 0, 0) := by
    obtain ⟨nu, n1, n2⟩ := hV.2
    exact ⟨Nat.zero_le _, nu, n1, n2, fun j hj => absurd hj (Nat.not_lt_zero j), fun j _ hj => (n1 j hj).2.1⟩
  have hVZ : IVb a b L (tkZ S p) := ⟨hV.1.1, hV.1.2.1, hV.1.2.2.1, hV.1.2.2.2.1, hV.1.2.2.2.2.1, hV.1.2.2.2.2.2⟩
  obtain ⟨Z, eZ⟩ : ∃ Z, Z = tkZ S p := ⟨_, rfl⟩
  have hRZ := hR.clk p
  rw [← eZ] at hPN hVZ hRZ
  have h6Z := hRZ.q.1
  refine jC.of (by decide) (Nat.le_of_ble_eq_true rfl) ?_
  intro x C0 hx
  subst hx

  refine j_iload_n C0 d_Mo_tick_0 rfl (by rfl) ?_
  refine j_aload_n C0 d_Mo_tick_1 rfl (by rfl) ?_
  refine mo_get C0 d_Mo_tick_2 fl_Mo_101 (by rfl) ?_
  rw [hR.v9]
  refine j_icmp_lt C0 d_Mo_tick_5 (tgt := 14) (by decide) (fun c_5 => ?_) (fun c_5 => ?_)
  · exact absurd c_5 hok.1
  · refine j_iload_n C0 d_Mo_tick_8 rfl (by rfl) ?_
    refine j_ldc C0 d_Mo_tick_9 w_3_119 ?_
    refine j_icmp_le C0 d_Mo_tick_11 (tgt := 18) (by decide) (fun c_11 => ?_) (fun c_11 => ?_)
    · refine j_aload_n C0 d_Mo_tick_18 rfl (by rfl) ?_
      refine j_iload_n C0 d_Mo_tick_19 rfl (by rfl) ?_
      refine mo_put C0 d_Mo_tick_20 fp_Mo_101 (by decide) rfl (by rfl) (by rfl) ?_
      refine j_iconst C0 d_Mo_tick_23 (v := 0) (by decide) ?_
      refine j_istore_n C0 d_Mo_tick_24 rfl (Nat.le_of_ble_eq_true rfl) ?_
      refine j_iconst C0 d_Mo_tick_25 (v := 1) (by decide) ?_
      refine j_istore_n C0 d_Mo_tick_26 rfl (Nat.le_of_ble_eq_true rfl) ?_
      refine j_lv (lv' := [(0, .ref c), (2, .int (nI (stN Z 0).2.2)), (3, .int (nI (0 + 1)))]) ⟨rfl, rfl, rfl, trivial⟩ ?_
      refine j_forR L (fun N h => ∃ A w, h = moH E h0 c A w ∧ RS (stN Z N).1 A w ∧ IVb a b L (stN Z N).1 ∧ PN L N (stN Z N)) (fun _ => sz) (fun _ => 0) (fun _ => 0) (fun N => [(0, .ref c), (2, .int (nI (stN Z N).2.2)), (3, .int (nI (N + 1)))]) ?_ ?_ 0 _ (Nat.zero_le _) ⟨_, _, rfl, hRZ, hVZ, hPN⟩
      · intro N h hN hI ih
        obtain ⟨A, w, rfl, hR, hV, hP⟩ := hI
        have h6 := hR.q.1
        rcases sG_case (fun j => ((mQ (stN Z N).1).2 j).1 1) (nI (N + 1)) (mQ (stN Z N).1).1 with ⟨hx, hno⟩ | ⟨i0, hi0, hf, hx⟩
        · have hx := hx (fun j => nI (16 * j)) (-1)
          have ee : stN Z (N + 1) = stN Z N := if_neg (fun q => hno _ q.1 q.2)
          have hPN2 : PN L (N + 1) (stN Z N) := by
            obtain ⟨p1, nu, n1, n2, n3, n4⟩ := hP
            refine ⟨p1, nu, n1, n2, fun j hj => by have := n3 j hj; omega, fun j q hj => ?_⟩
            have g1 := n4 j q hj
            have g2 : nu j ≠ N + 1 := fun e => hno j hj (by show ((mQ (stN Z N).1).2 j).1 1 = _; rw [(n1 j hj).1, e])
            omega
          refine j_iload_n C0 d_Mo_tick_27 rfl (by rfl) ?_
          refine j_aload_n C0 d_Mo_tick_28 rfl (by rfl) ?_
          refine mo_get C0 d_Mo_tick_29 fl_Mo_98 (by rfl) ?_
          rw [hR.v10, hV.2.2.1]
          refine j_icmp_gt C0 d_Mo_tick_32 (tgt := 79) (by decide) (fun c_32 => ?_) (fun c_32 => ?_)
          · exact absurd c_32 (nI_nlt (by omega) (by omega))
          · refine j_aload_n C0 d_Mo_tick_35 rfl (by rfl) ?_
            refine j_iload_n C0 d_Mo_tick_36 rfl (by rfl) ?_
            refine j_callV C0 d_Mo_tick_37 cl_Mo_127 cl_Mo_127v (c_Mo_find _ E hR.qn hR.q (nI (N + 1))) mo_this rfl rfl rfl ⟨by decide, by decide⟩ ⟨by omega, by omega⟩ (Nat.le_of_ble_eq_true rfl) (fun r_ h_ z_ hp_ => ?_)
            obtain ⟨rfl, rfl, rfl⟩ := hp_
            rw [hx]
            refine j_istore C0 d_Mo_tick_40 (Nat.le_of_ble_eq_true rfl) ?_
            refine j_iload C0 d_Mo_tick_42 (by rfl) ?_
            refine j_if_lt C0 d_Mo_tick_44 (tgt := 73) (by decide) (fun c_44 => ?_) (fun c_44 => ?_)
            · refine j_iinc C0 d_Mo_tick_73 (by rfl) (jinc _) (Nat.le_of_ble_eq_true rfl) ?_
              refine j_goto C0 d_Mo_tick_76 (tgt := 27) (by decide) ?_
              rw [ee] at ih
              exact j_to (ih _ ⟨_, _, rfl, hR, hV, hPN2⟩) rfl ⟨rfl, rfl, rfl, trivial⟩
            · exact absurd (by decide) c_44
        · have hx := hx (fun j => nI (16 * j)) (-1)
          have ei : i0 = (stN Z N).2.1 := by
            obtain ⟨p1, nu, n1, n2, n3, n4⟩ := hP
            have e1 : nu i0 = N + 1 := (nI_eq (by have := n1 i0 hi0; omega) (by omega)).mp ((n1 i0 hi0).1.symm.trans hf)
            by_cases q : i0 < (stN Z N).2.1
            · have := n3 i0 q; omega
            · by_cases q2 : i0 = (stN Z N).2.1
              · exact q2
              · have g1 := n2 _ i0 (show (stN Z N).2.1 < i0 by omega) hi0
                have g2 := n4 _ (Nat.le_refl _) (show (stN Z N).2.1 < (mQ (stN Z N).1).1 by omega)
                omega
          rw [ei] at hi0 hf hx
          have ee : stN Z (N + 1) = tk1 (stN Z N) := if_pos ⟨hi0, hf⟩
          have hN2 := tk1_PN h1 h2 h3 (by omega) hi0 hf hN hP hV
          have hr := hR.at hi0
          refine j_iload_n C0 d_Mo_tick_27 rfl (by rfl) ?_
          refine j_aload_n C0 d_Mo_tick_28 rfl (by rfl) ?_
          refine mo_get C0 d_Mo_tick_29 fl_Mo_98 (by rfl) ?_
          rw [hR.v10, hV.2.2.1]
          refine j_icmp_gt C0 d_Mo_tick_32 (tgt := 79) (by decide) (fun c_32 => ?_) (fun c_32 => ?_)
          · exact absurd c_32 (nI_nlt (by omega) (by omega))
          · refine j_aload_n C0 d_Mo_tick_35 rfl (by rfl) ?_
            refine j_iload_n C0 d_Mo_tick_36 rfl (by rfl) ?_
            refine j_callV C0 d_Mo_tick_37 cl_Mo_127 cl_Mo_127v (c_Mo_find _ E hR.qn hR.q (nI (N + 1))) mo_this rfl rfl rfl ⟨by decide, by decide⟩ ⟨by omega, by omega⟩ (Nat.le_of_ble_eq_true rfl) (fun r_ h_ z_ hp_ => ?_)
            obtain ⟨rfl, rfl, rfl⟩ := hp_
            rw [hx]
            refine j_istore C0 d_Mo_tick_40 (Nat.le_of_ble_eq_true rfl) ?_
            refine j_iload C0 d_Mo_tick_42 (by rfl) ?_
            refine j_if_lt C0 d_Mo_tick_44 (tgt := 73) (by decide) (fun c_44 => ?_) (fun c_44 => ?_)
            · exact absurd c_44 (nI_pos (n := 16 * (stN Z N).2.1) (by omega))
            · refine j_aload_n C0 d_Mo_tick_47 rfl (by rfl) ?_
              refine mo_get C0 d_Mo_tick_48 fl_Mo_28 (by rfl) ?_
              refine j_iload C0 d_Mo_tick_51 (by rfl) ?_
              refine j_bipush C0 d_Mo_tick_53 (v := 13) (by decide) ?_
              refine j_iadd C0 d_Mo_tick_55 ?_
              refine mo_ld C0 (i := 6) (k := 16 * (stN Z N).2.1 + 13) d_Mo_tick_56 (by simp only [jn0, jn1, jn2, jn3, jn4, jn8, jn12, jn13, jn14, jn15, jn16, pk_mul, nI_add]) (by show _ < 96; omega) (by decide) ?_
              rw [hr.c13]
              refine j_aload_n C0 d_Mo_tick_57 rfl (by rfl) ?_
              refine mo_get C0 d_Mo_tick_58 fl_Mo_101 (by rfl) ?_
              rw [hR.v9]
              refine j_icmp_gt C0 d_Mo_tick_61 (tgt := 73) (by decide) (fun c_61 => ?_) (fun c_61 => ?_)
              · obtain ⟨t1, t2⟩ := tk1_wait hi0 c_61
                rw [ee] at ih
                rw [t2] at ih
                have hR2 := hR
                refine j_iinc C0 d_Mo_tick_73 (by rfl) (jinc _) (Nat.le_of_ble_eq_true rfl) ?_
                refine j_goto C0 d_Mo_tick_76 (tgt := 27) (by decide) ?_
                exact j_to (ih _ ⟨_, _, rfl, by rw [t1]; exact hR2, hN2.2, hN2.1⟩) rfl ⟨rfl, rfl, rfl, trivial⟩
              · obtain ⟨t1, t2⟩ := tk1_at hi0 c_61
                rw [ee] at ih
                rw [t2] at ih
                refine j_iload_n C0 d_Mo_tick_64 rfl (by rfl) ?_
                refine j_aload_n C0 d_Mo_tick_65 rfl (by rfl) ?_
                refine j_iload C0 d_Mo_tick_66 (by rfl) ?_
                refine j_callV C0 d_Mo_tick_68 cl_Mo_130 cl_Mo_130v (c_Mo_attempt _ E hR hV.2.2.2.1 hi0 (hV.gp h1 h3 hi0)) mo_this rfl rfl rfl ⟨by decide, by decide⟩ ⟨by omega, by omega⟩ (Nat.le_of_ble_eq_true rfl) (fun r_ h_ z_ hp_ => ?_)
                obtain ⟨rfl, ⟨A2, w2, rfl, hR2⟩, rfl⟩ := hp_
                refine j_iadd C0 d_Mo_tick_71 ?_
                rw [nI_add]
                refine j_istore_n C0 d_Mo_tick_72 rfl (Nat.le_of_ble_eq_true rfl) ?_
                refine j_iinc C0 d_Mo_tick_73 (by rfl) (jinc _) (Nat.le_of_ble_eq_true rfl) ?_
                refine j_goto C0 d_Mo_tick_76 (tgt := 27) (by decide) ?_
                exact j_to (ih _ ⟨_, _, rfl, by rw [t1]; exact hR2, hN2.2, hN2.1⟩) rfl ⟨rfl, rfl, rfl, trivial⟩
      · intro h hI
        obtain ⟨A, w, rfl, hR, hV, hP⟩ := hI
        have eS := stN_end h6Z hP
        refine j_iload_n C0 d_Mo_tick_27 rfl (by rfl) ?_
        refine j_aload_n C0 d_Mo_tick_28 rfl (by rfl) ?_
        refine mo_get C0 d_Mo_tick_29 fl_Mo_98 (by rfl) ?_
        rw [hR.v10, hV.2.2.1]
        refine j_icmp_gt C0 d_Mo_tick_32 (tgt := 79) (by decide) (fun c_32 => ?_) (fun c_32 => ?_)
        · refine j_aload_n C0 d_Mo_tick_79 rfl (by rfl) ?_
          refine j_callV C0 d_Mo_tick_80 cl_Mo_133 cl_Mo_133v (c_Mo_close _ E) mo_this rfl rfl rfl ⟨by decide, by decide⟩ ⟨by omega, by omega⟩ (Nat.le_of_ble_eq_true rfl) (fun r_ h_ z_ hp_ => ?_)
          obtain ⟨rfl, rfl, rfl⟩ := hp_
          refine j_iload_n C0 d_Mo_tick_83 rfl (by rfl) ?_
          exact j_iret C0 d_Mo_tick_84 rfl (by omega) (by omega) (⟨by rw [eS, eZ], ⟨_, _, rfl, by unfold tiS; rw [← eZ, ← eS]; exact hR.kc, by unfold tiS; rw [← eZ, ← eS]; exact IVa.kc ⟨hV, hP.nm⟩⟩, rfl⟩)
        · exact absurd (nI_lt (by omega) (by omega)) c_32
    · exact absurd hok.2 c_11
