theorem gpM.fo {T : maS} {i : Nat} (h : gpM T i) : gpM (foS T i) i := by
  obtain ⟨a, b, g, h1, h2, h3, h4, h5, h6, h7⟩ := h
  obtain ⟨k1, k2, -⟩ := foS_keep T i
  exact ⟨a, b, g, h1, h2, h3, h4, by rw [k2 0 (by decide)]; exact h5, by rw [k2 1 (by decide)]; exact h6, by rw [k1]; exact h7⟩
theorem gpM.tr {S : maS} {i : Nat} (h : gpM S i) (k : Nat) : gpM (trS S i k).1 i := by
  obtain ⟨a, b, g, h1, h2, h3, h4, h5, h6, h7⟩ := h
  obtain ⟨k1, -⟩ := trS_keep2 S i k
  obtain ⟨-, -, -, -, q1, -⟩ := trS_keep S i k
  exact ⟨a, b, g, h1, h2, h3, h4, by rw [k1 0 (by decide)]; exact h5, by rw [k1 1 (by decide)]; exact h6, by rw [q1]; exact h7⟩
set_option maxHeartbeats 4000000 in
set_option maxRecDepth 100000 in
theorem mo_at_2 {x : jX} (E : jE) {h0 : jH} {sz c : Nat} {S : maS} {i : Nat} {A : moA} {w : Nat → Int32} {T : maS} (C0 : jOk x M_Mo_attempt E 1 0 0) (eT : T = (trS S i ((mQ S).2 i).2.1).1) (hR : RS T A w) (hi : i < (mQ T).1) (hg : gpM T i) : jJ x M_Mo_attempt E (jQ x E 0 0 (fun r h' sz' => r = some (.int (nI (trS S i ((mQ S).2 i).2.1).2)) ∧ (∃ A' w', h' = moH E h0 c A' w' ∧ RS (atS S i) A' w') ∧ sz' = sz)) (moH E h0 c A w) sz 0 0 [(0, .ref c), (1, .int (nI (16 * i))), (2, .int (nI (trS S i ((mQ S).2 i).2.1).2))] 145 [] := by
  have h6 := hR.q.1
  have hr := hR.at hi
  have h4 := hr.le
  by_cases hcl : mv T 10 < ((mQ T).2 i).1 4 + mv T 2
  · have eF : foS T i = T := if_pos hcl
    refine j_iconst C0 d_Mo_attempt_145 (v := 0) (by decide) ?_
    refine j_istore_n C0 d_Mo_attempt_146 rfl (Nat.le_of_ble_eq_true rfl) ?_
    refine j_lv (lv' := [(0, .ref c), (1, .int (nI (16 * i))), (2, .int (nI (trS S i ((mQ S).2 i).2.1).2)), (3, .int (nI 0))]) ⟨rfl, rfl, rfl, rfl, trivial⟩ ?_
    refine j_for ((mQ T).2 i).2.1 (fun _ => moH E h0 c A w) (fun k => [(0, .ref c), (1, .int (nI (16 * i))), (2, .int (nI (trS S i ((mQ S).2 i).2.1).2)), (3, .int (nI k))]) ?_ ?_ 0 (Nat.zero_le _)
    · intro k hk ih
      refine j_iload_n C0 d_Mo_attempt_147 rfl (by rfl) ?_
      refine j_aload_n C0 d_Mo_attempt_148 rfl (by rfl) ?_
      refine mo_get C0 d_Mo_attempt_149 fl_Mo_28 (by rfl) ?_
      refine j_iload_n C0 d_Mo_attempt_152 rfl (by rfl) ?_
      refine j_iconst C0 d_Mo_attempt_153 (v := 3) (by decide) ?_
      refine j_iadd C0 d_Mo_attempt_154 ?_
      refine mo_ld C0 (i := 6) (k := 16 * i + 3) d_Mo_attempt_155 (by simp only [jn0, jn1, jn2, jn3, jn4, jn8, jn12, jn13, jn14, jn15, jn16, pk_mul, nI_add]) (by show _ < 96; omega) (by decide) ?_
      rw [hr.c3]
      refine j_icmp_ge C0 d_Mo_attempt_156 (tgt := 212) (by decide) (fun c_156 => ?_) (fun c_156 => ?_)
      · exact absurd c_156 (nI_ge hk (by omega))
      · refine j_aload_n C0 d_Mo_attempt_159 rfl (by rfl) ?_
        refine mo_get C0 d_Mo_attempt_160 fl_Mo_28 (by rfl) ?_
        refine j_iload_n C0 d_Mo_attempt_163 rfl (by rfl) ?_
        refine j_bipush C0 d_Mo_attempt_164 (v := 8) (by decide) ?_
        refine j_iadd C0 d_Mo_attempt_166 ?_
        refine j_iload_n C0 d_Mo_attempt_167 rfl (by rfl) ?_
        refine j_iadd C0 d_Mo_attempt_168 ?_
        refine mo_ld C0 (i := 6) (k := 16 * i + 8 + k) d_Mo_attempt_169 (by simp only [jn0, jn1, jn2, jn3, jn4, jn8, jn12, jn13, jn14, jn15, jn16, pk_mul, nI_add]) (by show _ < 96; omega) (by decide) ?_
        rw [hr.st k hk]
        refine j_iconst C0 d_Mo_attempt_170 (v := 1) (by decide) ?_
        refine j_icmp_ne C0 d_Mo_attempt_171 (tgt := 206) (by decide) (fun c_171 => ?_) (fun c_171 => ?_)
        · refine j_iinc C0 d_Mo_attempt_206 (by rfl) (jinc _) (Nat.le_of_ble_eq_true rfl) ?_
          refine j_goto C0 d_Mo_attempt_209 (tgt := 147) (by decide) ?_
          exact j_to ih rfl ⟨rfl, rfl, rfl, rfl, trivial⟩
        · refine j_aload_n C0 d_Mo_attempt_174 rfl (by rfl) ?_
          refine mo_get C0 d_Mo_attempt_175 fl_Mo_101 (by rfl) ?_
          rw [hR.v9]
          refine j_aload_n C0 d_Mo_attempt_178 rfl (by rfl) ?_
          refine mo_get C0 d_Mo_attempt_179 fl_Mo_28 (by rfl) ?_
          refine j_iload_n C0 d_Mo_attempt_182 rfl (by rfl) ?_
          refine j_bipush C0 d_Mo_attempt_183 (v := 12) (by decide) ?_
          refine j_iadd C0 d_Mo_attempt_185 ?_
          refine mo_ld C0 (i := 6) (k := 16 * i + 12) d_Mo_attempt_186 (by simp only [jn0, jn1, jn2, jn3, jn4, jn8, jn12, jn13, jn14, jn15, jn16, pk_mul, nI_add]) (by show _ < 96; omega) (by decide) ?_
          rw [hr.c12]
          refine j_aload_n C0 d_Mo_attempt_187 rfl (by rfl) ?_
          refine mo_get C0 d_Mo_attempt_188 fl_Mo_60 (by rfl) ?_
          rw [hR.v2]
          refine j_iadd C0 d_Mo_attempt_191 ?_
          refine j_icmp_lt C0 d_Mo_attempt_192 (tgt := 206) (by decide) (fun c_192 => ?_) (fun c_192 => ?_)
          · refine j_iinc C0 d_Mo_attempt_206 (by rfl) (jinc _) (Nat.le_of_ble_eq_true rfl) ?_
            refine j_goto C0 d_Mo_attempt_209 (tgt := 147) (by decide) ?_
            exact j_to ih rfl ⟨rfl, rfl, rfl, rfl, trivial⟩
          · exact absurd hcl c_192
    · refine j_iload_n C0 d_Mo_attempt_147 rfl (by rfl) ?_
      refine j_aload_n C0 d_Mo_attempt_148 rfl (by rfl) ?_
      refine mo_get C0 d_Mo_attempt_149 fl_Mo_28 (by rfl) ?_
      refine j_iload_n C0 d_Mo_attempt_152 rfl (by rfl) ?_
      refine j_iconst C0 d_Mo_attempt_153 (v := 3) (by decide) ?_
      refine j_iadd C0 d_Mo_attempt_154 ?_
      refine mo_ld C0 (i := 6) (k := 16 * i + 3) d_Mo_attempt_155 (by simp only [jn0, jn1, jn2, jn3, jn4, jn8, jn12, jn13, jn14, jn15, jn16, pk_mul, nI_add]) (by show _ < 96; omega) (by decide) ?_
      rw [hr.c3]
      refine j_icmp_ge C0 d_Mo_attempt_156 (tgt := 212) (by decide) (fun c_156 => ?_) (fun c_156 => ?_)
      · refine j_lv (lv' := [(0, .ref c), (1, .int (nI (16 * i))), (2, .int (nI (trS S i ((mQ S).2 i).2.1).2))]) ⟨rfl, rfl, rfl, trivial⟩ ?_
        exact mo_at_3 (d := 0) E C0 (by rw [← eT, eF]) hR hi hg
      · exact absurd (nI_le (Nat.le_refl _) (by omega)) c_156
  · refine j_iconst C0 d_Mo_attempt_145 (v := 0) (by decide) ?_
    refine j_istore_n C0 d_Mo_attempt_146 rfl (Nat.le_of_ble_eq_true rfl) ?_
    refine j_lv (lv' := [(0, .ref c), (1, .int (nI (16 * i))), (2, .int (nI (trS S i ((mQ S).2 i).2.1).2)), (3, .int (nI 0))]) ⟨rfl, rfl, rfl, rfl, trivial⟩ ?_
    refine j_forR ((mQ T).2 i).2.1 (fun k h => ∃ A w, h = moH E h0 c A w ∧ RS (foK T i k) A w) (fun _ => sz) (fun _ => 0) (fun _ => 0) (fun k => [(0, .ref c), (1, .int (nI (16 * i))), (2, .int (nI (trS S i ((mQ S).2 i).2.1).2)), (3, .int (nI k))]) ?_ ?_ 0 _ (Nat.zero_le _) ⟨A, w, rfl, by rw [foK_0]; exact hR⟩
    · intro k h hk hI ih
      obtain ⟨A, w, rfl, hR⟩ := hI
      have hr : R16 (((mQ T).2 i).1, ((mQ T).2 i).2.1, ((mQ T).2 i).2.2.1, fw ((mQ T).2 i).2.2.2 k) (A 6) (16 * i) := by
        have q := hR.at (i := i) hi
        rw [foK_m] at q
        exact q
      refine j_iload_n C0 d_Mo_attempt_147 rfl (by rfl) ?_
      refine j_aload_n C0 d_Mo_attempt_148 rfl (by rfl) ?_
      refine mo_get C0 d_Mo_attempt_149 fl_Mo_28 (by rfl) ?_
      refine j_iload_n C0 d_Mo_attempt_152 rfl (by rfl) ?_
      refine j_iconst C0 d_Mo_attempt_153 (v := 3) (by decide) ?_
      refine j_iadd C0 d_Mo_attempt_154 ?_
      refine mo_ld C0 (i := 6) (k := 16 * i + 3) d_Mo_attempt_155 (by simp only [jn0, jn1, jn2, jn3, jn4, jn8, jn12, jn13, jn14, jn15, jn16, pk_mul, nI_add]) (by show _ < 96; omega) (by decide) ?_
      rw [show A 6 (16 * i + 3) = nI ((mQ T).2 i).2.1 from hr.c3]
      refine j_icmp_ge C0 d_Mo_attempt_156 (tgt := 212) (by decide) (fun c_156 => ?_) (fun c_156 => ?_)
      · exact absurd c_156 (nI_ge hk (by omega))
      · refine j_aload_n C0 d_Mo_attempt_159 rfl (by rfl) ?_
        refine mo_get C0 d_Mo_attempt_160 fl_Mo_28 (by rfl) ?_
        refine j_iload_n C0 d_Mo_attempt_163 rfl (by rfl) ?_
        refine j_bipush C0 d_Mo_attempt_164 (v := 8) (by decide) ?_
        refine j_iadd C0 d_Mo_attempt_166 ?_
        refine j_iload_n C0 d_Mo_attempt_167 rfl (by rfl) ?_
        refine j_iadd C0 d_Mo_attempt_168 ?_
        refine mo_ld C0 (i := 6) (k := 16 * i + 8 + k) d_Mo_attempt_169 (by simp only [jn0, jn1, jn2, jn3, jn4, jn8, jn12, jn13, jn14, jn15, jn16, pk_mul, nI_add]) (by show _ < 96; omega) (by decide) ?_
        rw [(hr.st k hk).trans (fw_i _ k)]
        refine j_iconst C0 d_Mo_attempt_170 (v := 1) (by decide) ?_
        refine j_icmp_ne C0 d_Mo_attempt_171 (tgt := 206) (by decide) (fun c_171 => ?_) (fun c_171 => ?_)
        · refine j_iinc C0 d_Mo_attempt_206 (by rfl) (jinc _) (Nat.le_of_ble_eq_true rfl) ?_
          refine j_goto C0 d_Mo_attempt_209 (tgt := 147) (by decide) ?_
          first
            | exact j_to (ih _ ⟨_, _, rfl, hR2⟩) rfl ⟨rfl, rfl, rfl, rfl, trivial⟩
            | exact j_to (ih _ ⟨_, _, rfl, (foK_n c_171) ▸ hR⟩) rfl ⟨rfl, rfl, rfl, rfl, trivial⟩
        · refine j_aload_n C0 d_Mo_attempt_174 rfl (by rfl) ?_
          refine mo_get C0 d_Mo_attempt_175 fl_Mo_101 (by rfl) ?_
          rw [show w 9 = mv T 10 from hR.v9]
          refine j_aload_n C0 d_Mo_attempt_178 rfl (by rfl) ?_
          refine mo_get C0 d_Mo_attempt_179 fl_Mo_28 (by rfl) ?_
          refine j_iload_n C0 d_Mo_attempt_182 rfl (by rfl) ?_
          refine j_bipush C0 d_Mo_attempt_183 (v := 12) (by decide) ?_
          refine j_iadd C0 d_Mo_attempt_185 ?_
          refine mo_ld C0 (i := 6) (k := 16 * i + 12) d_Mo_attempt_186 (by simp only [jn0, jn1, jn2, jn3, jn4, jn8, jn12, jn13, jn14, jn15, jn16, pk_mul, nI_add]) (by show _ < 96; omega) (by decide) ?_
          rw [show A 6 (16 * i + 12) = ((mQ T).2 i).1 4 from hr.c12]
          refine j_aload_n C0 d_Mo_attempt_187 rfl (by rfl) ?_
          refine mo_get C0 d_Mo_attempt_188 fl_Mo_60 (by rfl) ?_
          rw [show w 2 = mv T 2 from hR.v2]
          refine j_iadd C0 d_Mo_attempt_191 ?_
          refine j_icmp_lt C0 d_Mo_attempt_192 (tgt := 206) (by decide) (fun c_192 => ?_) (fun c_192 => ?_)
          · exact absurd c_192 hcl
          · refine j_aload_n C0 d_Mo_attempt_195 rfl (by rfl) ?_
            refine j_iload_n C0 d_Mo_attempt_196 rfl (by rfl) ?_
            refine j_bipush C0 d_Mo_attempt_197 (v := 8) (by decide) ?_
            refine j_iadd C0 d_Mo_attempt_199 ?_
            refine j_iload_n C0 d_Mo_attempt_200 rfl (by rfl) ?_
            refine j_iadd C0 d_Mo_attempt_201 ?_
            rw [show nI (16 * i) + 8 + nI k = nI (16 * i + 8 + k) from by simp only [jn8, nI_add]]
            refine j_iconst C0 d_Mo_attempt_202 (v := 3) (by decide) ?_
            refine j_callV C0 d_Mo_attempt_203 cl_Mo_111 cl_Mo_111v (c_Mo_mark _ E (k := 16 * i + 8 + k) (by omega) 3) mo_this rfl rfl rfl ⟨by decide, by decide⟩ ⟨by omega, by omega⟩ (Nat.le_of_ble_eq_true rfl) (fun r_ h_ z_ hp_ => ?_)
            obtain ⟨rfl, rfl, rfl⟩ := hp_
            have hR2 := hR.tr3 (i := i) (k := k) hi (by rw [foK_m]; exact hk) 3
            rw [foK_y c_171] at hR2
            refine j_iinc C0 d_Mo_attempt_206 (by rfl) (jinc _) (Nat.le_of_ble_eq_true rfl) ?_
            refine j_goto C0 d_Mo_attempt_209 (tgt := 147) (by decide) ?_
            first
              | exact j_to (ih _ ⟨_, _, rfl, hR2⟩) rfl ⟨rfl, rfl, rfl, rfl, trivial⟩
              | exact j_to (ih _ ⟨_, _, rfl, (foK_n c_171) ▸ hR⟩) rfl ⟨rfl, rfl, rfl, rfl, trivial⟩
    · intro h hI
      obtain ⟨A, w, rfl, hR⟩ := hI
      have hr : R16 (((mQ T).2 i).1, ((mQ T).2 i).2.1, ((mQ T).2 i).2.2.1, fw ((mQ T).2 i).2.2.2 ((mQ T).2 i).2.1) (A 6) (16 * i) := by
        have q := hR.at (i := i) hi
        rw [foK_m] at q
        exact q
      refine j_iload_n C0 d_Mo_attempt_147 rfl (by rfl) ?_
      refine j_aload_n C0 d_Mo_attempt_148 rfl (by rfl) ?_
      refine mo_get C0 d_Mo_attempt_149 fl_Mo_28 (by rfl) ?_
      refine j_iload_n C0 d_Mo_attempt_152 rfl (by rfl) ?_
      refine j_iconst C0 d_Mo_attempt_153 (v := 3) (by decide) ?_
      refine j_iadd C0 d_Mo_attempt_154 ?_
      refine mo_ld C0 (i := 6) (k := 16 * i + 3) d_Mo_attempt_155 (by simp only [jn0, jn1, jn2, jn3, jn4, jn8, jn12, jn13, jn14, jn15, jn16, pk_mul, nI_add]) (by show _ < 96; omega) (by decide) ?_
      rw [show A 6 (16 * i + 3) = nI ((mQ T).2 i).2.1 from hr.c3]
      refine j_icmp_ge C0 d_Mo_attempt_156 (tgt := 212) (by decide) (fun c_156 => ?_) (fun c_156 => ?_)
      · refine j_lv (lv' := [(0, .ref c), (1, .int (nI (16 * i))), (2, .int (nI (trS S i ((mQ S).2 i).2.1).2))]) ⟨rfl, rfl, rfl, trivial⟩ ?_
        exact mo_at_3 (d := 0) E C0 (by rw [← eT, foS_e hcl]) hR hi (by rw [← foS_e hcl]; exact hg.fo)
      · exact absurd (nI_le (Nat.le_refl _) (by omega)) c_156
set_option maxHeartbeats 4000000 in
set_option maxRecDepth 100000 in
theorem c_Mo_attempt (l : Launch) (E : jE) {h0 : jH} {sz c : Nat} {S : maS} {i : Nat} {A : moA} {w : Nat → Int32} (hR : RS S A w) (hW : WF S) (hi : i < (mQ S).1) (hg : gpM S i) : jC l M_Mo_attempt 1 E [.ref c, .int (nI (16 * i))] (moH E h0 c A w) sz 0 0 (fun r h' sz' => r = some (.int (nI (trS S i ((mQ S).2 i).2.1).2)) ∧ (∃ A' w', h' = moH E h0 c A' w' ∧ RS (atS S i) A' w') ∧ sz' = sz) := by
  have h6 := hR.q.1
  refine jC.of (by decide) (Nat.le_of_ble_eq_true rfl) ?_
  intro x C0 hx
  subst hx

  refine j_iconst C0 d_Mo_attempt_0 (v := 0) (by decide) ?_
  refine j_istore_n C0 d_Mo_attempt_1 rfl (Nat.le_of_ble_eq_true rfl) ?_
  refine j_iconst C0 d_Mo_attempt_2 (v := 0) (by decide) ?_
  refine j_istore_n C0 d_Mo_attempt_3 rfl (Nat.le_of_ble_eq_true rfl) ?_
  refine j_lv (lv' := [(0, .ref c), (1, .int (nI (16 * i))), (2, .int (nI (trS S i 0).2)), (3, .int (nI 0))]) ⟨rfl, rfl, rfl, rfl, trivial⟩ ?_
  refine j_forR ((mQ S).2 i).2.1 (fun k h => ∃ A w, h = moH E h0 c A w ∧ RS (trS S i k).1 A w) (fun _ => sz) (fun _ => 0) (fun _ => 0) (fun k => [(0, .ref c), (1, .int (nI (16 * i))), (2, .int (nI (trS S i k).2)), (3, .int (nI k))]) ?_ ?_ 0 _ (Nat.zero_le _) ⟨A, w, rfl, hR⟩
  · intro k h hk hI ih
    obtain ⟨A, w, rfl, hR⟩ := hI
    obtain ⟨k1, k2, k3, k4, k5, k6, k7⟩ := trS_keep S i k
    have hWT := trS_WF hW i k
    obtain ⟨T, eT⟩ : ∃ T, T = (trS S i k).1 := ⟨_, rfl⟩
    have es : ∀ (q : maS × Nat), tr1 T i k = q → trS S i (k + 1) = (q.1, (trS S i k).2 + q.2) := fun q hq => by rw [← hq, eT]; rfl
    rw [← eT] at hR k1 k2 k3 k4 k5 k6 k7 hWT
    have hiT : i < (mQ T).1 := by rw [k1]; exact hi
    have hr := hR.at hiT
    have h4 := hr.le
    have hkT : k < ((mQ T).2 i).2.1 := by rw [k6]; exact hk
    obtain ⟨u, hu, eu⟩ := (hWT.1 i hiT).2.1 k hkT
    by_cases hu8 : u < 8
    · have hc := caF_own (S := T) hu8
      refine j_iload_n C0 d_Mo_attempt_4 rfl (by rfl) ?_
      refine j_aload_n C0 d_Mo_attempt_5 rfl (by rfl) ?_
      refine mo_get C0 d_Mo_attempt_6 fl_Mo_28 (by rfl) ?_
      refine j_iload_n C0 d_Mo_attempt_9 rfl (by rfl) ?_
      refine j_iconst C0 d_Mo_attempt_10 (v := 3) (by decide) ?_
      refine j_iadd C0 d_Mo_attempt_11 ?_
      refine mo_ld C0 (i := 6) (k := 16 * i + 3) d_Mo_attempt_12 (by simp only [jn0, jn1, jn2, jn3, jn4, jn8, jn12, jn13, jn14, jn15, jn16, pk_mul, nI_add]) (by show _ < 96; omega) (by decide) ?_
      rw [hr.c3, k6]
      refine j_icmp_ge C0 d_Mo_attempt_13 (tgt := 145) (by decide) (fun c_13 => ?_) (fun c_13 => ?_)
      · exact absurd c_13 (nI_ge hk (by omega))
      · refine j_aload_n C0 d_Mo_attempt_16 rfl (by rfl) ?_
        refine mo_get C0 d_Mo_attempt_17 fl_Mo_28 (by rfl) ?_
        refine j_iload_n C0 d_Mo_attempt_20 rfl (by rfl) ?_
        refine j_bipush C0 d_Mo_attempt_21 (v := 8) (by decide) ?_
        refine j_iadd C0 d_Mo_attempt_23 ?_
        refine j_iload_n C0 d_Mo_attempt_24 rfl (by rfl) ?_
        refine j_iadd C0 d_Mo_attempt_25 ?_
        refine mo_ld C0 (i := 6) (k := 16 * i + 8 + k) d_Mo_attempt_26 (by simp only [jn0, jn1, jn2, jn3, jn4, jn8, jn12, jn13, jn14, jn15, jn16, pk_mul, nI_add]) (by show _ < 96; omega) (by decide) ?_
        rw [hr.st k hkT]
        refine j_iconst C0 d_Mo_attempt_27 (v := 1) (by decide) ?_
        refine j_icmp_eq C0 d_Mo_attempt_28 (tgt := 34) (by decide) (fun c_28 => ?_) (fun c_28 => ?_)
        · refine j_aload_n C0 d_Mo_attempt_34 rfl (by rfl) ?_
          refine mo_get C0 d_Mo_attempt_35 fl_Mo_28 (by rfl) ?_
          refine j_iload_n C0 d_Mo_attempt_38 rfl (by rfl) ?_
          refine j_iconst C0 d_Mo_attempt_39 (v := 4) (by decide) ?_
          refine j_iadd C0 d_Mo_attempt_40 ?_
          refine j_iload_n C0 d_Mo_attempt_41 rfl (by rfl) ?_
          refine j_iadd C0 d_Mo_attempt_42 ?_
          refine mo_ld C0 (i := 6) (k := 16 * i + 4 + k) d_Mo_attempt_43 (by simp only [jn0, jn1, jn2, jn3, jn4, jn8, jn12, jn13, jn14, jn15, jn16, pk_mul, nI_add]) (by show _ < 96; omega) (by decide) ?_
          rw [(hr.ad k hkT).trans eu]
          refine j_istore C0 d_Mo_attempt_44 (Nat.le_of_ble_eq_true rfl) ?_
          refine j_iload C0 d_Mo_attempt_46 (by rfl) ?_
          refine j_bipush C0 d_Mo_attempt_48 (v := 8) (by decide) ?_
          refine j_icmp_ge C0 d_Mo_attempt_50 (tgt := 58) (by decide) (fun c_50 => ?_) (fun c_50 => ?_)
          · exact absurd c_50 (nI_ge (a := u) (b := 8) hu8 (by decide))
          · refine j_bipush C0 d_Mo_attempt_53 (v := 10) (by decide) ?_
            refine j_goto C0 d_Mo_attempt_55 (tgt := 67) (by decide) ?_
            refine j_istore C0 d_Mo_attempt_67 (Nat.le_of_ble_eq_true rfl) ?_
            refine j_iload C0 d_Mo_attempt_69 (by rfl) ?_
            refine j_bipush C0 d_Mo_attempt_71 (v := 9) (by decide) ?_
            refine j_icmp_ne C0 d_Mo_attempt_73 (tgt := 79) (by decide) (fun c_73 => ?_) (fun c_73 => ?_)
            · refine j_aload_n C0 d_Mo_attempt_79 rfl (by rfl) ?_
              refine j_iload_n C0 d_Mo_attempt_80 rfl (by rfl) ?_
              refine j_bipush C0 d_Mo_attempt_81 (v := 8) (by decide) ?_
              refine j_iadd C0 d_Mo_attempt_83 ?_
              refine j_iload_n C0 d_Mo_attempt_84 rfl (by rfl) ?_
              refine j_iadd C0 d_Mo_attempt_85 ?_
              rw [show nI (16 * i) + 8 + nI k = nI (16 * i + 8 + k) from by simp only [jn8, nI_add]]
              refine j_iload C0 d_Mo_attempt_86 (by rfl) ?_
              refine j_bipush C0 d_Mo_attempt_88 (v := 8) (by decide) ?_
              refine j_icmp_ne C0 d_Mo_attempt_90 (tgt := 97) (by decide) (fun c_90 => ?_) (fun c_90 => ?_)
              · refine j_iconst C0 d_Mo_attempt_97 (v := 2) (by decide) ?_
                refine j_callV C0 d_Mo_attempt_98 cl_Mo_111 cl_Mo_111v (c_Mo_mark _ E (k := 16 * i + 8 + k) (by omega) 2) mo_this rfl rfl rfl ⟨by decide, by decide⟩ ⟨by omega, by omega⟩ (Nat.le_of_ble_eq_true rfl) (fun r_ h_ z_ hp_ => ?_)
                obtain ⟨rfl, rfl, rfl⟩ := hp_
                refine j_iload C0 d_Mo_attempt_101 (by rfl) ?_
                refine j_bipush C0 d_Mo_attempt_103 (v := 8) (by decide) ?_
                refine j_icmp_ne C0 d_Mo_attempt_105 (tgt := 111) (by decide) (fun c_105 => ?_) (fun c_105 => ?_)
                · refine j_aload_n C0 d_Mo_attempt_111 rfl (by rfl) ?_
                  refine j_iload_n C0 d_Mo_attempt_112 rfl (by rfl) ?_
                  refine j_iload C0 d_Mo_attempt_113 (by rfl) ?_
                  refine j_callV C0 d_Mo_attempt_115 cl_Mo_115 cl_Mo_115v (c_Mo_deliver _ E (b := 16 * i) (u := u) (by omega) hu) mo_this rfl rfl rfl ⟨by decide, by decide⟩ ⟨by omega, by omega⟩ (Nat.le_of_ble_eq_true rfl) (fun r_ h_ z_ hp_ => ?_)
                  obtain ⟨rfl, hh_, rfl⟩ := hp_
                  refine j_heapE (hh_.trans (show _ = moH E h0 c (dlA (va_up A 6 (upd (A 6) (16 * i + 8 + k) 2)) (16 * i) u) (upd w 15 (w 15 + 1)) from rfl)) ?_
                  refine j_iload C0 d_Mo_attempt_118 (by rfl) ?_
                  refine j_bipush C0 d_Mo_attempt_120 (v := 8) (by decide) ?_
                  refine j_icmp_ge C0 d_Mo_attempt_122 (tgt := 136) (by decide) (fun c_122 => ?_) (fun c_122 => ?_)
                  · have ee := es _ (tr_2n c_28 hu eu hc)
                    have hRn := hR.tr2n (u := u) hiT hkT
                    refine j_iinc C0 d_Mo_attempt_136 (by rfl) (jinc _) (Nat.le_of_ble_eq_true rfl) ?_
                    refine j_iinc C0 d_Mo_attempt_139 (by rfl) (jinc _) (Nat.le_of_ble_eq_true rfl) ?_
                    refine j_goto C0 d_Mo_attempt_142 (tgt := 4) (by decide) ?_
                    rw [ee] at ih
                    exact j_to (ih _ ⟨_, _, rfl, hRn⟩) rfl ⟨rfl, rfl, rfl, rfl, trivial⟩
                  · exact absurd (by decide) c_122
                · exact absurd c_105 (by decide)
              · exact absurd c_90 (by decide)
            · exact absurd c_73 (by decide)
        · have ee := es _ (tr_no c_28)
          have hRn := hR
          refine j_goto C0 d_Mo_attempt_31 (tgt := 139) (by decide) ?_
          refine j_iinc C0 d_Mo_attempt_139 (by rfl) (jinc _) (Nat.le_of_ble_eq_true rfl) ?_
          refine j_goto C0 d_Mo_attempt_142 (tgt := 4) (by decide) ?_
          rw [ee] at ih
          exact j_to (ih _ ⟨_, _, rfl, hRn⟩) rfl ⟨rfl, rfl, rfl, rfl, trivial⟩
    · rcases cyF_cases (hs := mh T) (fun j hj => hWT.2 (u / 8) (by omega) j hj) with hc | hc | ⟨y, hy, hc⟩
      · rw [← caF_far hu8] at hc
        refine j_iload_n C0 d_Mo_attempt_4 rfl (by rfl) ?_
        refine j_aload_n C0 d_Mo_attempt_5 rfl (by rfl) ?_
        refine mo_get C0 d_Mo_attempt_6 fl_Mo_28 (by rfl) ?_
        refine j_iload_n C0 d_Mo_attempt_9 rfl (by rfl) ?_
        refine j_iconst C0 d_Mo_attempt_10 (v := 3) (by decide) ?_
        refine j_iadd C0 d_Mo_attempt_11 ?_
        refine mo_ld C0 (i := 6) (k := 16 * i + 3) d_Mo_attempt_12 (by simp only [jn0, jn1, jn2, jn3, jn4, jn8, jn12, jn13, jn14, jn15, jn16, pk_mul, nI_add]) (by show _ < 96; omega) (by decide) ?_
        rw [hr.c3, k6]
        refine j_icmp_ge C0 d_Mo_attempt_13 (tgt := 145) (by decide) (fun c_13 => ?_) (fun c_13 => ?_)
        · exact absurd c_13 (nI_ge hk (by omega))
        · refine j_aload_n C0 d_Mo_attempt_16 rfl (by rfl) ?_
          refine mo_get C0 d_Mo_attempt_17 fl_Mo_28 (by rfl) ?_
          refine j_iload_n C0 d_Mo_attempt_20 rfl (by rfl) ?_
          refine j_bipush C0 d_Mo_attempt_21 (v := 8) (by decide) ?_
          refine j_iadd C0 d_Mo_attempt_23 ?_
          refine j_iload_n C0 d_Mo_attempt_24 rfl (by rfl) ?_
          refine j_iadd C0 d_Mo_attempt_25 ?_
          refine mo_ld C0 (i := 6) (k := 16 * i + 8 + k) d_Mo_attempt_26 (by simp only [jn0, jn1, jn2, jn3, jn4, jn8, jn12, jn13, jn14, jn15, jn16, pk_mul, nI_add]) (by show _ < 96; omega) (by decide) ?_
          rw [hr.st k hkT]
          refine j_iconst C0 d_Mo_attempt_27 (v := 1) (by decide) ?_
          refine j_icmp_eq C0 d_Mo_attempt_28 (tgt := 34) (by decide) (fun c_28 => ?_) (fun c_28 => ?_)
          · refine j_aload_n C0 d_Mo_attempt_34 rfl (by rfl) ?_
            refine mo_get C0 d_Mo_attempt_35 fl_Mo_28 (by rfl) ?_
            refine j_iload_n C0 d_Mo_attempt_38 rfl (by rfl) ?_
            refine j_iconst C0 d_Mo_attempt_39 (v := 4) (by decide) ?_
            refine j_iadd C0 d_Mo_attempt_40 ?_
            refine j_iload_n C0 d_Mo_attempt_41 rfl (by rfl) ?_
            refine j_iadd C0 d_Mo_attempt_42 ?_
            refine mo_ld C0 (i := 6) (k := 16 * i + 4 + k) d_Mo_attempt_43 (by simp only [jn0, jn1, jn2, jn3, jn4, jn8, jn12, jn13, jn14, jn15, jn16, pk_mul, nI_add]) (by show _ < 96; omega) (by decide) ?_
            rw [(hr.ad k hkT).trans eu]
            refine j_istore C0 d_Mo_attempt_44 (Nat.le_of_ble_eq_true rfl) ?_
            refine j_iload C0 d_Mo_attempt_46 (by rfl) ?_
            refine j_bipush C0 d_Mo_attempt_48 (v := 8) (by decide) ?_
            refine j_icmp_ge C0 d_Mo_attempt_50 (tgt := 58) (by decide) (fun c_50 => ?_) (fun c_50 => ?_)
            · refine j_aload_n C0 d_Mo_attempt_58 rfl (by rfl) ?_
              refine j_iload C0 d_Mo_attempt_59 (by rfl) ?_
              refine j_bipush C0 d_Mo_attempt_61 (v := 8) (by decide) ?_
              refine j_idiv C0 d_Mo_attempt_63 (by decide) ?_
              rw [show nI u / 8 = nI (u / 8) from pk_div (by omega) (by decide) (by decide)]
              refine j_callV C0 d_Mo_attempt_64 cl_Mo_107 cl_Mo_107v (c_Mo_carrier _ E (d := u / 8) (r0 := mR T (u / 8)) (hs := mh T) (by omega) (hR.ro _ (by omega) (by omega)) (fun j hj => hWT.2 (u / 8) (by omega) j hj) hR.ho) mo_this rfl rfl rfl ⟨by decide, by decide⟩ ⟨by omega, by omega⟩ (Nat.le_of_ble_eq_true rfl) (fun r_ h_ z_ hp_ => ?_)
              obtain ⟨rfl, rfl, rfl⟩ := hp_
              rw [← caF_far hu8, hc]
              refine j_istore C0 d_Mo_attempt_67 (Nat.le_of_ble_eq_true rfl) ?_
              refine j_iload C0 d_Mo_attempt_69 (by rfl) ?_
              refine j_bipush C0 d_Mo_attempt_71 (v := 9) (by decide) ?_
              refine j_icmp_ne C0 d_Mo_attempt_73 (tgt := 79) (by decide) (fun c_73 => ?_) (fun c_73 => ?_)
              · refine j_aload_n C0 d_Mo_attempt_79 rfl (by rfl) ?_
                refine j_iload_n C0 d_Mo_attempt_80 rfl (by rfl) ?_
                refine j_bipush C0 d_Mo_attempt_81 (v := 8) (by decide) ?_
                refine j_iadd C0 d_Mo_attempt_83 ?_
                refine j_iload_n C0 d_Mo_attempt_84 rfl (by rfl) ?_
                refine j_iadd C0 d_Mo_attempt_85 ?_
                rw [show nI (16 * i) + 8 + nI k = nI (16 * i + 8 + k) from by simp only [jn8, nI_add]]
                refine j_iload C0 d_Mo_attempt_86 (by rfl) ?_
                refine j_bipush C0 d_Mo_attempt_88 (v := 8) (by decide) ?_
                refine j_icmp_ne C0 d_Mo_attempt_90 (tgt := 97) (by decide) (fun c_90 => ?_) (fun c_90 => ?_)
                · exact absurd rfl c_90
                · refine j_iconst C0 d_Mo_attempt_93 (v := 3) (by decide) ?_
                  refine j_goto C0 d_Mo_attempt_94 (tgt := 98) (by decide) ?_
                  refine j_callV C0 d_Mo_attempt_98 cl_Mo_111 cl_Mo_111v (c_Mo_mark _ E (k := 16 * i + 8 + k) (by omega) 3) mo_this rfl rfl rfl ⟨by decide, by decide⟩ ⟨by omega, by omega⟩ (Nat.le_of_ble_eq_true rfl) (fun r_ h_ z_ hp_ => ?_)
                  obtain ⟨rfl, rfl, rfl⟩ := hp_
                  refine j_iload C0 d_Mo_attempt_101 (by rfl) ?_
                  refine j_bipush C0 d_Mo_attempt_103 (v := 8) (by decide) ?_
                  refine j_icmp_ne C0 d_Mo_attempt_105 (tgt := 111) (by decide) (fun c_105 => ?_) (fun c_105 => ?_)
                  · exact absurd rfl c_105
                  · have ee := es _ (tr_3 c_28 hu eu hc)
                    have hRn := hR.tr3 hiT hkT 3
                    refine j_goto C0 d_Mo_attempt_108 (tgt := 139) (by decide) ?_
                    refine j_iinc C0 d_Mo_attempt_139 (by rfl) (jinc _) (Nat.le_of_ble_eq_true rfl) ?_
                    refine j_goto C0 d_Mo_attempt_142 (tgt := 4) (by decide) ?_
                    rw [ee] at ih
                    exact j_to (ih _ ⟨_, _, rfl, hRn⟩) rfl ⟨rfl, rfl, rfl, rfl, trivial⟩
              · exact absurd c_73 (by decide)
            · exact absurd (nI_le (a := 8) (b := u) (by omega) (by omega)) c_50
          · have ee := es _ (tr_no c_28)
            have hRn := hR
            refine j_goto C0 d_Mo_attempt_31 (tgt := 139) (by decide) ?_
            refine j_iinc C0 d_Mo_attempt_139 (by rfl) (jinc _) (Nat.le_of_ble_eq_true rfl) ?_
            refine j_goto C0 d_Mo_attempt_142 (tgt := 4) (by decide) ?_
            rw [ee] at ih
            exact j_to (ih _ ⟨_, _, rfl, hRn⟩) rfl ⟨rfl, rfl, rfl, rfl, trivial⟩
      · rw [← caF_far hu8] at hc
        refine j_iload_n C0 d_Mo_attempt_4 rfl (by rfl) ?_
        refine j_aload_n C0 d_Mo_attempt_5 rfl (by rfl) ?_
        refine mo_get C0 d_Mo_attempt_6 fl_Mo_28 (by rfl) ?_
        refine j_iload_n C0 d_Mo_attempt_9 rfl (by rfl) ?_
        refine j_iconst C0 d_Mo_attempt_10 (v := 3) (by decide) ?_
        refine j_iadd C0 d_Mo_attempt_11 ?_
        refine mo_ld C0 (i := 6) (k := 16 * i + 3) d_Mo_attempt_12 (by simp only [jn0, jn1, jn2, jn3, jn4, jn8, jn12, jn13, jn14, jn15, jn16, pk_mul, nI_add]) (by show _ < 96; omega) (by decide) ?_
        rw [hr.c3, k6]
        refine j_icmp_ge C0 d_Mo_attempt_13 (tgt := 145) (by decide) (fun c_13 => ?_) (fun c_13 => ?_)
        · exact absurd c_13 (nI_ge hk (by omega))
        · refine j_aload_n C0 d_Mo_attempt_16 rfl (by rfl) ?_
          refine mo_get C0 d_Mo_attempt_17 fl_Mo_28 (by rfl) ?_
          refine j_iload_n C0 d_Mo_attempt_20 rfl (by rfl) ?_
          refine j_bipush C0 d_Mo_attempt_21 (v := 8) (by decide) ?_
          refine j_iadd C0 d_Mo_attempt_23 ?_
          refine j_iload_n C0 d_Mo_attempt_24 rfl (by rfl) ?_
          refine j_iadd C0 d_Mo_attempt_25 ?_
          refine mo_ld C0 (i := 6) (k := 16 * i + 8 + k) d_Mo_attempt_26 (by simp only [jn0, jn1, jn2, jn3, jn4, jn8, jn12, jn13, jn14, jn15, jn16, pk_mul, nI_add]) (by show _ < 96; omega) (by decide) ?_
          rw [hr.st k hkT]
          refine j_iconst C0 d_Mo_attempt_27 (v := 1) (by decide) ?_
          refine j_icmp_eq C0 d_Mo_attempt_28 (tgt := 34) (by decide) (fun c_28 => ?_) (fun c_28 => ?_)
          · refine j_aload_n C0 d_Mo_attempt_34 rfl (by rfl) ?_
            refine mo_get C0 d_Mo_attempt_35 fl_Mo_28 (by rfl) ?_
            refine j_iload_n C0 d_Mo_attempt_38 rfl (by rfl) ?_
            refine j_iconst C0 d_Mo_attempt_39 (v := 4) (by decide) ?_
            refine j_iadd C0 d_Mo_attempt_40 ?_
            refine j_iload_n C0 d_Mo_attempt_41 rfl (by rfl) ?_
            refine j_iadd C0 d_Mo_attempt_42 ?_
            refine mo_ld C0 (i := 6) (k := 16 * i + 4 + k) d_Mo_attempt_43 (by simp only [jn0, jn1, jn2, jn3, jn4, jn8, jn12, jn13, jn14, jn15, jn16, pk_mul, nI_add]) (by show _ < 96; omega) (by decide) ?_
            rw [(hr.ad k hkT).trans eu]
            refine j_istore C0 d_Mo_attempt_44 (Nat.le_of_ble_eq_true rfl) ?_
            refine j_iload C0 d_Mo_attempt_46 (by rfl) ?_
            refine j_bipush C0 d_Mo_attempt_48 (v := 8) (by decide) ?_
            refine j_icmp_ge C0 d_Mo_attempt_50 (tgt := 58) (by decide) (fun c_50 => ?_) (fun c_50 => ?_)
            · refine j_aload_n C0 d_Mo_attempt_58 rfl (by rfl) ?_
              refine j_iload C0 d_Mo_attempt_59 (by rfl) ?_
              refine j_bipush C0 d_Mo_attempt_61 (v := 8) (by decide) ?_
              refine j_idiv C0 d_Mo_attempt_63 (by decide) ?_
              rw [show nI u / 8 = nI (u / 8) from pk_div (by omega) (by decide) (by decide)]
              refine j_callV C0 d_Mo_attempt_64 cl_Mo_107 cl_Mo_107v (c_Mo_carrier _ E (d := u / 8) (r0 := mR T (u / 8)) (hs := mh T) (by omega) (hR.ro _ (by omega) (by omega)) (fun j hj => hWT.2 (u / 8) (by omega) j hj) hR.ho) mo_this rfl rfl rfl ⟨by decide, by decide⟩ ⟨by omega, by omega⟩ (Nat.le_of_ble_eq_true rfl) (fun r_ h_ z_ hp_ => ?_)
              obtain ⟨rfl, rfl, rfl⟩ := hp_
              rw [← caF_far hu8, hc]
              refine j_istore C0 d_Mo_attempt_67 (Nat.le_of_ble_eq_true rfl) ?_
              refine j_iload C0 d_Mo_attempt_69 (by rfl) ?_
              refine j_bipush C0 d_Mo_attempt_71 (v := 9) (by decide) ?_
              refine j_icmp_ne C0 d_Mo_attempt_73 (tgt := 79) (by decide) (fun c_73 => ?_) (fun c_73 => ?_)
              · exact absurd rfl c_73
              · have ee := es _ (tr_1 c_28 hu eu hc)
                have hRn := hR
                refine j_goto C0 d_Mo_attempt_76 (tgt := 139) (by decide) ?_
                refine j_iinc C0 d_Mo_attempt_139 (by rfl) (jinc _) (Nat.le_of_ble_eq_true rfl) ?_
                refine j_goto C0 d_Mo_attempt_142 (tgt := 4) (by decide) ?_
                rw [ee] at ih
                exact j_to (ih _ ⟨_, _, rfl, hRn⟩) rfl ⟨rfl, rfl, rfl, rfl, trivial⟩
            · exact absurd (nI_le (a := 8) (b := u) (by omega) (by omega)) c_50
          · have ee := es _ (tr_no c_28)
            have hRn := hR
            refine j_goto C0 d_Mo_attempt_31 (tgt := 139) (by decide) ?_
            refine j_iinc C0 d_Mo_attempt_139 (by rfl) (jinc _) (Nat.le_of_ble_eq_true rfl) ?_
            refine j_goto C0 d_Mo_attempt_142 (tgt := 4) (by decide) ?_
            rw [ee] at ih
            exact j_to (ih _ ⟨_, _, rfl, hRn⟩) rfl ⟨rfl, rfl, rfl, rfl, trivial⟩
      · rw [← caF_far hu8] at hc
        refine j_iload_n C0 d_Mo_attempt_4 rfl (by rfl) ?_
        refine j_aload_n C0 d_Mo_attempt_5 rfl (by rfl) ?_
        refine mo_get C0 d_Mo_attempt_6 fl_Mo_28 (by rfl) ?_
        refine j_iload_n C0 d_Mo_attempt_9 rfl (by rfl) ?_
        refine j_iconst C0 d_Mo_attempt_10 (v := 3) (by decide) ?_
        refine j_iadd C0 d_Mo_attempt_11 ?_
        refine mo_ld C0 (i := 6) (k := 16 * i + 3) d_Mo_attempt_12 (by simp only [jn0, jn1, jn2, jn3, jn4, jn8, jn12, jn13, jn14, jn15, jn16, pk_mul, nI_add]) (by show _ < 96; omega) (by decide) ?_
        rw [hr.c3, k6]
        refine j_icmp_ge C0 d_Mo_attempt_13 (tgt := 145) (by decide) (fun c_13 => ?_) (fun c_13 => ?_)
        · exact absurd c_13 (nI_ge hk (by omega))
        · refine j_aload_n C0 d_Mo_attempt_16 rfl (by rfl) ?_
          refine mo_get C0 d_Mo_attempt_17 fl_Mo_28 (by rfl) ?_
          refine j_iload_n C0 d_Mo_attempt_20 rfl (by rfl) ?_
          refine j_bipush C0 d_Mo_attempt_21 (v := 8) (by decide) ?_
          refine j_iadd C0 d_Mo_attempt_23 ?_
          refine j_iload_n C0 d_Mo_attempt_24 rfl (by rfl) ?_
          refine j_iadd C0 d_Mo_attempt_25 ?_
          refine mo_ld C0 (i := 6) (k := 16 * i + 8 + k) d_Mo_attempt_26 (by simp only [jn0, jn1, jn2, jn3, jn4, jn8, jn12, jn13, jn14, jn15, jn16, pk_mul, nI_add]) (by show _ < 96; omega) (by decide) ?_
          rw [hr.st k hkT]
          refine j_iconst C0 d_Mo_attempt_27 (v := 1) (by decide) ?_
          refine j_icmp_eq C0 d_Mo_attempt_28 (tgt := 34) (by decide) (fun c_28 => ?_) (fun c_28 => ?_)
          · refine j_aload_n C0 d_Mo_attempt_34 rfl (by rfl) ?_
            refine mo_get C0 d_Mo_attempt_35 fl_Mo_28 (by rfl) ?_
            refine j_iload_n C0 d_Mo_attempt_38 rfl (by rfl) ?_
            refine j_iconst C0 d_Mo_attempt_39 (v := 4) (by decide) ?_
            refine j_iadd C0 d_Mo_attempt_40 ?_
            refine j_iload_n C0 d_Mo_attempt_41 rfl (by rfl) ?_
            refine j_iadd C0 d_Mo_attempt_42 ?_
            refine mo_ld C0 (i := 6) (k := 16 * i + 4 + k) d_Mo_attempt_43 (by simp only [jn0, jn1, jn2, jn3, jn4, jn8, jn12, jn13, jn14, jn15, jn16, pk_mul, nI_add]) (by show _ < 96; omega) (by decide) ?_
            rw [(hr.ad k hkT).trans eu]
            refine j_istore C0 d_Mo_attempt_44 (Nat.le_of_ble_eq_true rfl) ?_
            refine j_iload C0 d_Mo_attempt_46 (by rfl) ?_
            refine j_bipush C0 d_Mo_attempt_48 (v := 8) (by decide) ?_
            refine j_icmp_ge C0 d_Mo_attempt_50 (tgt := 58) (by decide) (fun c_50 => ?_) (fun c_50 => ?_)
            · refine j_aload_n C0 d_Mo_attempt_58 rfl (by rfl) ?_
              refine j_iload C0 d_Mo_attempt_59 (by rfl) ?_
              refine j_bipush C0 d_Mo_attempt_61 (v := 8) (by decide) ?_
              refine j_idiv C0 d_Mo_attempt_63 (by decide) ?_
              rw [show nI u / 8 = nI (u / 8) from pk_div (by omega) (by decide) (by decide)]
              refine j_callV C0 d_Mo_attempt_64 cl_Mo_107 cl_Mo_107v (c_Mo_carrier _ E (d := u / 8) (r0 := mR T (u / 8)) (hs := mh T) (by omega) (hR.ro _ (by omega) (by omega)) (fun j hj => hWT.2 (u / 8) (by omega) j hj) hR.ho) mo_this rfl rfl rfl ⟨by decide, by decide⟩ ⟨by omega, by omega⟩ (Nat.le_of_ble_eq_true rfl) (fun r_ h_ z_ hp_ => ?_)
              obtain ⟨rfl, rfl, rfl⟩ := hp_
              rw [← caF_far hu8, hc]
              refine j_istore C0 d_Mo_attempt_67 (Nat.le_of_ble_eq_true rfl) ?_
              refine j_iload C0 d_Mo_attempt_69 (by rfl) ?_
              refine j_bipush C0 d_Mo_attempt_71 (v := 9) (by decide) ?_
              refine j_icmp_ne C0 d_Mo_attempt_73 (tgt := 79) (by decide) (fun c_73 => ?_) (fun c_73 => ?_)
              · refine j_aload_n C0 d_Mo_attempt_79 rfl (by rfl) ?_
                refine j_iload_n C0 d_Mo_attempt_80 rfl (by rfl) ?_
                refine j_bipush C0 d_Mo_attempt_81 (v := 8) (by decide) ?_
                refine j_iadd C0 d_Mo_attempt_83 ?_
                refine j_iload_n C0 d_Mo_attempt_84 rfl (by rfl) ?_
                refine j_iadd C0 d_Mo_attempt_85 ?_
                rw [show nI (16 * i) + 8 + nI k = nI (16 * i + 8 + k) from by simp only [jn8, nI_add]]
                refine j_iload C0 d_Mo_attempt_86 (by rfl) ?_
                refine j_bipush C0 d_Mo_attempt_88 (v := 8) (by decide) ?_
                refine j_icmp_ne C0 d_Mo_attempt_90 (tgt := 97) (by decide) (fun c_90 => ?_) (fun c_90 => ?_)
                · refine j_iconst C0 d_Mo_attempt_97 (v := 2) (by decide) ?_
                  refine j_callV C0 d_Mo_attempt_98 cl_Mo_111 cl_Mo_111v (c_Mo_mark _ E (k := 16 * i + 8 + k) (by omega) 2) mo_this rfl rfl rfl ⟨by decide, by decide⟩ ⟨by omega, by omega⟩ (Nat.le_of_ble_eq_true rfl) (fun r_ h_ z_ hp_ => ?_)
                  obtain ⟨rfl, rfl, rfl⟩ := hp_
                  refine j_iload C0 d_Mo_attempt_101 (by rfl) ?_
                  refine j_bipush C0 d_Mo_attempt_103 (v := 8) (by decide) ?_
                  refine j_icmp_ne C0 d_Mo_attempt_105 (tgt := 111) (by decide) (fun c_105 => ?_) (fun c_105 => ?_)
                  · refine j_aload_n C0 d_Mo_attempt_111 rfl (by rfl) ?_
                    refine j_iload_n C0 d_Mo_attempt_112 rfl (by rfl) ?_
                    refine j_iload C0 d_Mo_attempt_113 (by rfl) ?_
                    refine j_callV C0 d_Mo_attempt_115 cl_Mo_115 cl_Mo_115v (c_Mo_deliver _ E (b := 16 * i) (u := u) (by omega) hu) mo_this rfl rfl rfl ⟨by decide, by decide⟩ ⟨by omega, by omega⟩ (Nat.le_of_ble_eq_true rfl) (fun r_ h_ z_ hp_ => ?_)
                    obtain ⟨rfl, hh_, rfl⟩ := hp_
                    refine j_heapE (hh_.trans (show _ = moH E h0 c (dlA (va_up A 6 (upd (A 6) (16 * i + 8 + k) 2)) (16 * i) u) (upd w 15 (w 15 + 1)) from rfl)) ?_
                    refine j_iload C0 d_Mo_attempt_118 (by rfl) ?_
                    refine j_bipush C0 d_Mo_attempt_120 (v := 8) (by decide) ?_
                    refine j_icmp_ge C0 d_Mo_attempt_122 (tgt := 136) (by decide) (fun c_122 => ?_) (fun c_122 => ?_)
                    · exact absurd c_122 (nI_ge (a := y) (b := 8) hy (by decide))
                    · refine j_aload_n C0 d_Mo_attempt_125 rfl (by rfl) ?_
                      refine mo_get C0 d_Mo_attempt_126 fl_Mo_46 (by rfl) ?_
                      refine j_iload C0 d_Mo_attempt_129 (by rfl) ?_
                      refine j_dup2_11 C0 d_Mo_attempt_131 rfl rfl ?_
                      refine mo_ld C0 (i := 12) (k := y) d_Mo_attempt_132 rfl (by show _ < 8; omega) (by decide) ?_
                      refine j_iconst C0 d_Mo_attempt_133 (v := 1) (by decide) ?_
                      refine j_iadd C0 d_Mo_attempt_134 ?_
                      refine mo_st C0 (i := 12) (k := y) d_Mo_attempt_135 rfl (by show _ < 8; omega) (by decide) ?_
                      have ee := es _ (tr_2s c_28 hu eu hc)
                      have hRn := hR.tr2s (x := y) (u := u) hiT hkT rfl
                      refine j_iinc C0 d_Mo_attempt_136 (by rfl) (jinc _) (Nat.le_of_ble_eq_true rfl) ?_
                      refine j_iinc C0 d_Mo_attempt_139 (by rfl) (jinc _) (Nat.le_of_ble_eq_true rfl) ?_
                      refine j_goto C0 d_Mo_attempt_142 (tgt := 4) (by decide) ?_
                      rw [ee] at ih
                      exact j_to (ih _ ⟨_, _, rfl, hRn⟩) rfl ⟨rfl, rfl, rfl, rfl, trivial⟩
                  · exact absurd ((nI_eq (a := y) (b := 8) (by omega) (by decide)).mp c_105) (by omega)
                · exact absurd ((nI_eq (a := y) (b := 8) (by omega) (by decide)).mp c_90) (by omega)
              · exact absurd ((nI_eq (a := y) (b := 9) (by omega) (by decide)).mp c_73) (by omega)
            · exact absurd (nI_le (a := 8) (b := u) (by omega) (by omega)) c_50
          · have ee := es _ (tr_no c_28)
            have hRn := hR
            refine j_goto C0 d_Mo_attempt_31 (tgt := 139) (by decide) ?_
            refine j_iinc C0 d_Mo_attempt_139 (by rfl) (jinc _) (Nat.le_of_ble_eq_true rfl) ?_
            refine j_goto C0 d_Mo_attempt_142 (tgt := 4) (by decide) ?_
            rw [ee] at ih
            exact j_to (ih _ ⟨_, _, rfl, hRn⟩) rfl ⟨rfl, rfl, rfl, rfl, trivial⟩
  · intro h hI
    obtain ⟨A, w, rfl, hR⟩ := hI
    obtain ⟨k1, k2, k3, k4, k5, k6, k7⟩ := trS_keep S i ((mQ S).2 i).2.1
    have hiT : i < (mQ (trS S i ((mQ S).2 i).2.1).1).1 := by rw [k1]; exact hi
    have hr := hR.at hiT
    have h4 := hr.le
    rw [k6] at h4
    refine j_iload_n C0 d_Mo_attempt_4 rfl (by rfl) ?_
    refine j_aload_n C0 d_Mo_attempt_5 rfl (by rfl) ?_
    refine mo_get C0 d_Mo_attempt_6 fl_Mo_28 (by rfl) ?_
    refine j_iload_n C0 d_Mo_attempt_9 rfl (by rfl) ?_
    refine j_iconst C0 d_Mo_attempt_10 (v := 3) (by decide) ?_
    refine j_iadd C0 d_Mo_attempt_11 ?_
    refine mo_ld C0 (i := 6) (k := 16 * i + 3) d_Mo_attempt_12 (by simp only [jn0, jn1, jn2, jn3, jn4, jn8, jn12, jn13, jn14, jn15, jn16, pk_mul, nI_add]) (by show _ < 96; omega) (by decide) ?_
    rw [hr.c3, k6]
    refine j_icmp_ge C0 d_Mo_attempt_13 (tgt := 145) (by decide) (fun c_13 => ?_) (fun c_13 => ?_)
    · refine j_lv (lv' := [(0, .ref c), (1, .int (nI (16 * i))), (2, .int (nI (trS S i ((mQ S).2 i).2.1).2))]) ⟨rfl, rfl, rfl, trivial⟩ ?_
      exact mo_at_2 E C0 rfl hR hiT (hg.tr _)
    · exact absurd (nI_le (Nat.le_refl _) (by omega)) c_13
