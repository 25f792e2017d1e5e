/-- the first k recipients laid down -/
def ldF (f t : Nat → Int32) (b k : Nat) : Nat → Int32 := fun j => if b + 4 ≤ j ∧ j < b + 4 + k then t (j - b - 4) else if b + 8 ≤ j ∧ j < b + 8 + k then 1 else f j
theorem ldF_0 (f t : Nat → Int32) (b : Nat) : ldF f t b 0 = f := by
  funext j
  unfold ldF
  rw [if_neg (by omega), if_neg (by omega)]
theorem ldF_s (f t : Nat → Int32) {b k : Nat} (hk : k < 4) : upd (upd (ldF f t b k) (b + 4 + k) (t k)) (b + 8 + k) 1 = ldF f t b (k + 1) := by
  funext j
  unfold upd ldF
  by_cases h1 : j = b + 8 + k
  · rw [if_pos h1, if_neg (by omega), if_pos (by omega)]
  · rw [if_neg h1]
    by_cases h2 : j = b + 4 + k
    · rw [if_pos h2, if_pos (by omega), show j - b - 4 = k by omega]
    · rw [if_neg h2]
      by_cases h3 : b + 4 ≤ j ∧ j < b + 4 + k
      · rw [if_pos h3, if_pos (by omega)]
      · rw [if_neg h3]
        by_cases h4 : b + 8 ≤ j ∧ j < b + 8 + k
        · rw [if_pos h4, if_neg (by omega), if_pos (by omega)]
        · rw [if_neg h4, if_neg (by omega), if_neg (by omega)]
def daG (f : Nat → Int32) (w : Nat → Int32) (z : Int32) (b : Nat) : Nat → Int32 := upd (upd (upd (upd f b (w 10 + 1)) (b + 1) (w 17)) (b + 2) z) (b + 3) (w 19)
def daF (f t : Nat → Int32) (w : Nat → Int32) (z : Int32) (b k : Nat) : Nat → Int32 := upd (upd (upd (upd (ldF (daG f w z b) t b k) (b + 12) (w 9)) (b + 13) (w 9)) (b + 14) (w 0)) (b + 15) 0
def daW (w : Nat → Int32) (n : Nat) : Nat → Int32 := upd (upd (upd w 10 (w 10 + 1)) 12 (nI (n + 1))) 16 0
set_option maxHeartbeats 4000000 in
set_option maxRecDepth 100000 in
theorem c_Mo_data_bad (l : Launch) (E : jE) {h0 : jH} {sz c : Nat} {A : moA} {w : Nat → Int32} (p : Int32) (hbad : ¬ (¬ p < 0 ∧ ¬ 41 ≤ p)) : jC l M_Mo_data 2 E [.ref c, .int p] (moH E h0 c A w) sz 0 0 (fun r h' sz' => r = some (.int (-501)) ∧ h' = moH E h0 c A w ∧ sz' = sz) := by
  refine jC.of (by decide) (Nat.le_of_ble_eq_true rfl) ?_
  intro x C0 hx
  subst hx

  refine j_iload_n C0 d_Mo_data_0 rfl (by rfl) ?_
  refine j_bipush C0 d_Mo_data_1 (v := 40) (by decide) ?_
  refine j_callS C0 d_Mo_data_3 cl_Mo_63 cl_Mo_63v (c_Mo_out _ E p 40 (N := 41) (by decide)) rfl rfl ⟨by decide, by decide⟩ ⟨by omega, by omega⟩ (Nat.le_of_ble_eq_true rfl) (fun r_ h_ z_ hp_ => ?_)
  obtain ⟨rfl, rfl, rfl⟩ := hp_
  refine j_if_eq C0 d_Mo_data_6 (tgt := 13) (by decide) (fun c_6 => ?_) (fun c_6 => ?_)
  · exact absurd c_6 (by rw [jb_y hbad]; decide)
  · refine j_sipush C0 d_Mo_data_9 (v := -501) (by decide) ?_
    exact j_iret C0 d_Mo_data_12 rfl (by omega) (by omega) (⟨rfl, rfl, rfl⟩)
set_option maxHeartbeats 4000000 in
set_option maxRecDepth 100000 in
theorem c_Mo_data_seq (l : Launch) (E : jE) {h0 : jH} {sz c : Nat} {A : moA} {w : Nat → Int32} (z : Int32) (hz : ¬ z < 0 ∧ ¬ 41 ≤ z) (hop : w 16 = 0 ∨ w 19 = 0) : jC l M_Mo_data 2 E [.ref c, .int z] (moH E h0 c A w) sz 0 0 (fun r h' sz' => r = some (.int (-503)) ∧ h' = moH E h0 c A w ∧ sz' = sz) := by
  refine jC.of (by decide) (Nat.le_of_ble_eq_true rfl) ?_
  intro x C0 hx
  subst hx

  refine j_iload_n C0 d_Mo_data_0 rfl (by rfl) ?_
  refine j_bipush C0 d_Mo_data_1 (v := 40) (by decide) ?_
  refine j_callS C0 d_Mo_data_3 cl_Mo_63 cl_Mo_63v (c_Mo_out _ E z 40 (N := 41) (by decide)) rfl rfl ⟨by decide, by decide⟩ ⟨by omega, by omega⟩ (Nat.le_of_ble_eq_true rfl) (fun r_ h_ z_ hp_ => ?_)
  obtain ⟨rfl, rfl, rfl⟩ := hp_
  rw [jb_n (not_not_intro hz)]
  refine j_if_eq C0 d_Mo_data_6 (tgt := 13) (by decide) (fun c_6 => ?_) (fun c_6 => ?_)
  · refine j_aload_n C0 d_Mo_data_13 rfl (by rfl) ?_
    refine mo_get C0 d_Mo_data_14 fl_Mo_67 (by rfl) ?_
    refine j_if_eq C0 d_Mo_data_17 (tgt := 27) (by decide) (fun c_17 => ?_) (fun c_17 => ?_)
    · refine j_sipush C0 d_Mo_data_27 (v := -503) (by decide) ?_
      exact j_iret C0 d_Mo_data_30 rfl (by omega) (by omega) (⟨rfl, rfl, rfl⟩)
    · refine j_aload_n C0 d_Mo_data_20 rfl (by rfl) ?_
      refine mo_get C0 d_Mo_data_21 fl_Mo_74 (by rfl) ?_
      refine j_if_ne C0 d_Mo_data_24 (tgt := 31) (by decide) (fun c_24 => ?_) (fun c_24 => ?_)
      · exact absurd (hop.resolve_left c_17) c_24
      · refine j_sipush C0 d_Mo_data_27 (v := -503) (by decide) ?_
        exact j_iret C0 d_Mo_data_30 rfl (by omega) (by omega) (⟨rfl, rfl, rfl⟩)
  · exact absurd rfl c_6
set_option maxHeartbeats 4000000 in
set_option maxRecDepth 100000 in
theorem c_Mo_data_full (l : Launch) (E : jE) {h0 : jH} {sz c : Nat} {A : moA} {w : Nat → Int32} (z : Int32) (hz : ¬ z < 0 ∧ ¬ 41 ≤ z) {n : Nat} {Q : Nat → jMsg} (hn : w 12 = nI n) (hq : RQ n Q (A 6)) (hop : ¬ w 16 = 0) (hn0 : ¬ w 19 = 0) (hfl : 6 ≤ n ∨ ¬ csQ Q n + (z + w 19 + 1) ≤ 60) : jC l M_Mo_data 2 E [.ref c, .int z] (moH E h0 c A w) sz 0 0 (fun r h' sz' => r = some (.int (-452)) ∧ h' = moH E h0 c A w ∧ sz' = sz) := by
  have h6 := hq.1
  refine jC.of (by decide) (Nat.le_of_ble_eq_true rfl) ?_
  intro x C0 hx
  subst hx

  refine j_iload_n C0 d_Mo_data_0 rfl (by rfl) ?_
  refine j_bipush C0 d_Mo_data_1 (v := 40) (by decide) ?_
  refine j_callS C0 d_Mo_data_3 cl_Mo_63 cl_Mo_63v (c_Mo_out _ E z 40 (N := 41) (by decide)) rfl rfl ⟨by decide, by decide⟩ ⟨by omega, by omega⟩ (Nat.le_of_ble_eq_true rfl) (fun r_ h_ z_ hp_ => ?_)
  obtain ⟨rfl, rfl, rfl⟩ := hp_
  rw [jb_n (not_not_intro hz)]
  refine j_if_eq C0 d_Mo_data_6 (tgt := 13) (by decide) (fun c_6 => ?_) (fun c_6 => ?_)
  · refine j_aload_n C0 d_Mo_data_13 rfl (by rfl) ?_
    refine mo_get C0 d_Mo_data_14 fl_Mo_67 (by rfl) ?_
    refine j_if_eq C0 d_Mo_data_17 (tgt := 27) (by decide) (fun c_17 => ?_) (fun c_17 => ?_)
    · exact absurd c_17 hop
    · refine j_aload_n C0 d_Mo_data_20 rfl (by rfl) ?_
      refine mo_get C0 d_Mo_data_21 fl_Mo_74 (by rfl) ?_
      refine j_if_ne C0 d_Mo_data_24 (tgt := 31) (by decide) (fun c_24 => ?_) (fun c_24 => ?_)
      · refine j_aload_n C0 d_Mo_data_31 rfl (by rfl) ?_
        refine mo_get C0 d_Mo_data_32 fl_Mo_85 (by rfl) ?_
        rw [hn]
        refine j_bipush C0 d_Mo_data_35 (v := 6) (by decide) ?_
        refine j_icmp_eq C0 d_Mo_data_37 (tgt := 58) (by decide) (fun c_37 => ?_) (fun c_37 => ?_)
        · refine j_sipush C0 d_Mo_data_58 (v := -452) (by decide) ?_
          exact j_iret C0 d_Mo_data_61 rfl (by omega) (by omega) (⟨rfl, rfl, rfl⟩)
        · have hf2 := hfl.resolve_left (fun g => c_37 (by rw [show n = 6 by omega]; rfl))
          refine j_aload_n C0 d_Mo_data_40 rfl (by rfl) ?_
          refine j_callV C0 d_Mo_data_41 cl_Mo_94 cl_Mo_94v (c_Mo_costs _ E hn hq) mo_this rfl rfl rfl ⟨by decide, by decide⟩ ⟨by omega, by omega⟩ (Nat.le_of_ble_eq_true rfl) (fun r_ h_ z_ hp_ => ?_)
          obtain ⟨rfl, rfl, rfl⟩ := hp_
          refine j_iload_n C0 d_Mo_data_44 rfl (by rfl) ?_
          refine j_iadd C0 d_Mo_data_45 ?_
          refine j_aload_n C0 d_Mo_data_46 rfl (by rfl) ?_
          refine mo_get C0 d_Mo_data_47 fl_Mo_74 (by rfl) ?_
          refine j_iadd C0 d_Mo_data_50 ?_
          refine j_iconst C0 d_Mo_data_51 (v := 1) (by decide) ?_
          refine j_iadd C0 d_Mo_data_52 ?_
          rw [show csQ Q n + z + w 19 + 1 = csQ Q n + (z + w 19 + 1) from by rw [Int32.add_assoc, Int32.add_assoc, Int32.add_assoc]]
          refine j_bipush C0 d_Mo_data_53 (v := 60) (by decide) ?_
          refine j_icmp_le C0 d_Mo_data_55 (tgt := 62) (by decide) (fun c_55 => ?_) (fun c_55 => ?_)
          · exact absurd c_55 hf2
          · refine j_sipush C0 d_Mo_data_58 (v := -452) (by decide) ?_
            exact j_iret C0 d_Mo_data_61 rfl (by omega) (by omega) (⟨rfl, rfl, rfl⟩)
      · exact absurd c_24 hn0
  · exact absurd rfl c_6
set_option maxHeartbeats 4000000 in
set_option maxRecDepth 100000 in
theorem c_Mo_data (l : Launch) (E : jE) {h0 : jH} {sz c : Nat} {A : moA} {w : Nat → Int32} (z : Int32) (hz : ¬ z < 0 ∧ ¬ 41 ≤ z) {n : Nat} {Q : Nat → jMsg} (hn : w 12 = nI n) (hq : RQ n Q (A 6)) (hop : ¬ w 16 = 0) (hn0 : ¬ w 19 = 0) {k : Nat} (hk : w 19 = nI k) (k4 : k ≤ 4) (h5 : n < 6) (hcs : csQ Q n + (z + w 19 + 1) ≤ 60) : jC l M_Mo_data 2 E [.ref c, .int z] (moH E h0 c A w) sz 0 0 (fun r h' sz' => r = some (.int (w 10 + 1)) ∧ h' = moH E h0 c (stA (va_up A 6 (daF (A 6) (A 8) w z (16 * n) k))) (stW (daW w n)) ∧ sz' = sz) := by
  have h6 := hq.1
  refine jC.of (by decide) (Nat.le_of_ble_eq_true rfl) ?_
  intro x C0 hx
  subst hx

  refine j_iload_n C0 d_Mo_data_0 rfl (by rfl) ?_
  refine j_bipush C0 d_Mo_data_1 (v := 40) (by decide) ?_
  refine j_callS C0 d_Mo_data_3 cl_Mo_63 cl_Mo_63v (c_Mo_out _ E z 40 (N := 41) (by decide)) rfl rfl ⟨by decide, by decide⟩ ⟨by omega, by omega⟩ (Nat.le_of_ble_eq_true rfl) (fun r_ h_ z_ hp_ => ?_)
  obtain ⟨rfl, rfl, rfl⟩ := hp_
  rw [jb_n (not_not_intro hz)]
  refine j_if_eq C0 d_Mo_data_6 (tgt := 13) (by decide) (fun c_6 => ?_) (fun c_6 => ?_)
  · refine j_aload_n C0 d_Mo_data_13 rfl (by rfl) ?_
    refine mo_get C0 d_Mo_data_14 fl_Mo_67 (by rfl) ?_
    refine j_if_eq C0 d_Mo_data_17 (tgt := 27) (by decide) (fun c_17 => ?_) (fun c_17 => ?_)
    · exact absurd c_17 hop
    · refine j_aload_n C0 d_Mo_data_20 rfl (by rfl) ?_
      refine mo_get C0 d_Mo_data_21 fl_Mo_74 (by rfl) ?_
      refine j_if_ne C0 d_Mo_data_24 (tgt := 31) (by decide) (fun c_24 => ?_) (fun c_24 => ?_)
      · refine j_aload_n C0 d_Mo_data_31 rfl (by rfl) ?_
        refine mo_get C0 d_Mo_data_32 fl_Mo_85 (by rfl) ?_
        rw [hn]
        refine j_bipush C0 d_Mo_data_35 (v := 6) (by decide) ?_
        refine j_icmp_eq C0 d_Mo_data_37 (tgt := 58) (by decide) (fun c_37 => ?_) (fun c_37 => ?_)
        · exact absurd ((nI_eq (b := 6) (by omega) (by decide)).mp c_37) (by omega)
        · refine j_aload_n C0 d_Mo_data_40 rfl (by rfl) ?_
          refine j_callV C0 d_Mo_data_41 cl_Mo_94 cl_Mo_94v (c_Mo_costs _ E hn hq) mo_this rfl rfl rfl ⟨by decide, by decide⟩ ⟨by omega, by omega⟩ (Nat.le_of_ble_eq_true rfl) (fun r_ h_ z_ hp_ => ?_)
          obtain ⟨rfl, rfl, rfl⟩ := hp_
          refine j_iload_n C0 d_Mo_data_44 rfl (by rfl) ?_
          refine j_iadd C0 d_Mo_data_45 ?_
          refine j_aload_n C0 d_Mo_data_46 rfl (by rfl) ?_
          refine mo_get C0 d_Mo_data_47 fl_Mo_74 (by rfl) ?_
          refine j_iadd C0 d_Mo_data_50 ?_
          refine j_iconst C0 d_Mo_data_51 (v := 1) (by decide) ?_
          refine j_iadd C0 d_Mo_data_52 ?_
          rw [show csQ Q n + z + w 19 + 1 = csQ Q n + (z + w 19 + 1) from by rw [Int32.add_assoc, Int32.add_assoc, Int32.add_assoc]]
          refine j_bipush C0 d_Mo_data_53 (v := 60) (by decide) ?_
          refine j_icmp_le C0 d_Mo_data_55 (tgt := 62) (by decide) (fun c_55 => ?_) (fun c_55 => ?_)
          · refine j_bipush C0 d_Mo_data_62 (v := 16) (by decide) ?_
            refine j_aload_n C0 d_Mo_data_64 rfl (by rfl) ?_
            refine mo_get C0 d_Mo_data_65 fl_Mo_85 (by rfl) ?_
            rw [hn]
            refine j_imul C0 d_Mo_data_68 ?_
            rw [show (16 : Int32) * nI n = nI (16 * n) from pk_mul 16 n]
            refine j_istore_n C0 d_Mo_data_69 rfl (Nat.le_of_ble_eq_true rfl) ?_
            refine j_aload_n C0 d_Mo_data_70 rfl (by rfl) ?_
            refine j_dup C0 d_Mo_data_71 rfl ?_
            refine mo_get C0 d_Mo_data_72 fl_Mo_98 (by rfl) ?_
            refine j_iconst C0 d_Mo_data_75 (v := 1) (by decide) ?_
            refine j_iadd C0 d_Mo_data_76 ?_
            refine mo_put C0 d_Mo_data_77 fp_Mo_98 (by decide) rfl (by rfl) (by rfl) ?_
            refine j_aload_n C0 d_Mo_data_80 rfl (by rfl) ?_
            refine mo_get C0 d_Mo_data_81 fl_Mo_28 (by rfl) ?_
            refine j_iload_n C0 d_Mo_data_84 rfl (by rfl) ?_
            refine j_aload_n C0 d_Mo_data_85 rfl (by rfl) ?_
            refine mo_get C0 d_Mo_data_86 fl_Mo_98 (by rfl) ?_
            refine j_top1 (show upd w 10 (w 10 + 1) 10 = w 10 + 1 from pk_us) ?_
            refine mo_st C0 (i := 6) (k := 16 * n) d_Mo_data_89 (by simp only [jn0, jn1, jn2, jn3, jn4, jn8, jn12, jn13, jn14, jn15, jn16, pk_mul, nI_add]) (by show _ < 96; omega) (by decide) ?_
            refine j_aload_n C0 d_Mo_data_90 rfl (by rfl) ?_
            refine mo_get C0 d_Mo_data_91 fl_Mo_28 (by rfl) ?_
            refine j_iload_n C0 d_Mo_data_94 rfl (by rfl) ?_
            refine j_iconst C0 d_Mo_data_95 (v := 1) (by decide) ?_
            refine j_iadd C0 d_Mo_data_96 ?_
            refine j_aload_n C0 d_Mo_data_97 rfl (by rfl) ?_
            refine mo_get C0 d_Mo_data_98 fl_Mo_71 (by rfl) ?_
            refine j_top1 (show upd w 10 (w 10 + 1) 17 = w 17 from rfl) ?_
            refine mo_st C0 (i := 6) (k := 16 * n + 1) d_Mo_data_101 (by simp only [jn0, jn1, jn2, jn3, jn4, jn8, jn12, jn13, jn14, jn15, jn16, pk_mul, nI_add]) (by show _ < 96; omega) (by decide) ?_
            rw [vv_up, va_up_self]
            refine j_aload_n C0 d_Mo_data_102 rfl (by rfl) ?_
            refine mo_get C0 d_Mo_data_103 fl_Mo_28 (by rfl) ?_
            refine j_iload_n C0 d_Mo_data_106 rfl (by rfl) ?_
            refine j_iconst C0 d_Mo_data_107 (v := 2) (by decide) ?_
            refine j_iadd C0 d_Mo_data_108 ?_
            refine j_iload_n C0 d_Mo_data_109 rfl (by rfl) ?_
            refine mo_st C0 (i := 6) (k := 16 * n + 2) d_Mo_data_110 (by simp only [jn0, jn1, jn2, jn3, jn4, jn8, jn12, jn13, jn14, jn15, jn16, pk_mul, nI_add]) (by show _ < 96; omega) (by decide) ?_
            rw [vv_up, va_up_self]
            refine j_aload_n C0 d_Mo_data_111 rfl (by rfl) ?_
            refine mo_get C0 d_Mo_data_112 fl_Mo_28 (by rfl) ?_
            refine j_iload_n C0 d_Mo_data_115 rfl (by rfl) ?_
            refine j_iconst C0 d_Mo_data_116 (v := 3) (by decide) ?_
            refine j_iadd C0 d_Mo_data_117 ?_
            refine j_aload_n C0 d_Mo_data_118 rfl (by rfl) ?_
            refine mo_get C0 d_Mo_data_119 fl_Mo_74 (by rfl) ?_
            refine j_top1 (show upd w 10 (w 10 + 1) 19 = w 19 from rfl) ?_
            refine mo_st C0 (i := 6) (k := 16 * n + 3) d_Mo_data_122 (by simp only [jn0, jn1, jn2, jn3, jn4, jn8, jn12, jn13, jn14, jn15, jn16, pk_mul, nI_add]) (by show _ < 96; omega) (by decide) ?_
            rw [vv_up, va_up_self]
            refine j_iconst C0 d_Mo_data_123 (v := 0) (by decide) ?_
            refine j_istore_n C0 d_Mo_data_124 rfl (Nat.le_of_ble_eq_true rfl) ?_
            refine mo_A (A' := (va_up A 6 (ldF (daG (A 6) w z (16 * n)) (A 8) (16 * n) 0))) (by rw [ldF_0]; rfl) ?_
            refine j_lv (lv' := [(0, .ref c), (1, .int z), (2, .int (nI (16 * n))), (3, .int (nI 0))]) ⟨rfl, rfl, rfl, rfl, trivial⟩ ?_
            refine j_for k (fun i => moH E h0 c (va_up A 6 (ldF (daG (A 6) w z (16 * n)) (A 8) (16 * n) i)) (upd w 10 (w 10 + 1))) (fun i => [(0, .ref c), (1, .int z), (2, .int (nI (16 * n))), (3, .int (nI i))]) ?_ ?_ 0 (Nat.zero_le k)
            · intro i hi ih
              refine j_iload_n C0 d_Mo_data_125 rfl (by rfl) ?_
              refine j_aload_n C0 d_Mo_data_126 rfl (by rfl) ?_
              refine mo_get C0 d_Mo_data_127 fl_Mo_74 (by rfl) ?_
              refine j_top1 (show upd w 10 (w 10 + 1) 19 = nI k from hk) ?_
              refine j_icmp_ge C0 d_Mo_data_130 (tgt := 167) (by decide) (fun c_130 => ?_) (fun c_130 => ?_)
              · exact absurd c_130 (nI_ge hi (by omega))
              · refine j_aload_n C0 d_Mo_data_133 rfl (by rfl) ?_
                refine mo_get C0 d_Mo_data_134 fl_Mo_28 (by rfl) ?_
                refine j_iload_n C0 d_Mo_data_137 rfl (by rfl) ?_
                refine j_iconst C0 d_Mo_data_138 (v := 4) (by decide) ?_
                refine j_iadd C0 d_Mo_data_139 ?_
                refine j_iload_n C0 d_Mo_data_140 rfl (by rfl) ?_
                refine j_iadd C0 d_Mo_data_141 ?_
                refine j_aload_n C0 d_Mo_data_142 rfl (by rfl) ?_
                refine mo_get C0 d_Mo_data_143 fl_Mo_34 (by rfl) ?_
                refine j_iload_n C0 d_Mo_data_146 rfl (by rfl) ?_
                refine mo_ld C0 (i := 8) (k := i) d_Mo_data_147 rfl (by show _ < 4; omega) (by decide) ?_
                refine j_top1 (show _ = A 8 i from rfl) ?_
                refine mo_st C0 (i := 6) (k := 16 * n + 4 + i) d_Mo_data_148 (by simp only [jn0, jn1, jn2, jn3, jn4, jn8, jn12, jn13, jn14, jn15, jn16, pk_mul, nI_add]) (by show _ < 96; omega) (by decide) ?_
                rw [vv_up, va_up_self]
                refine j_aload_n C0 d_Mo_data_149 rfl (by rfl) ?_
                refine mo_get C0 d_Mo_data_150 fl_Mo_28 (by rfl) ?_
                refine j_iload_n C0 d_Mo_data_153 rfl (by rfl) ?_
                refine j_bipush C0 d_Mo_data_154 (v := 8) (by decide) ?_
                refine j_iadd C0 d_Mo_data_156 ?_
                refine j_iload_n C0 d_Mo_data_157 rfl (by rfl) ?_
                refine j_iadd C0 d_Mo_data_158 ?_
                refine j_iconst C0 d_Mo_data_159 (v := 1) (by decide) ?_
                refine mo_st C0 (i := 6) (k := 16 * n + 8 + i) d_Mo_data_160 (by simp only [jn0, jn1, jn2, jn3, jn4, jn8, jn12, jn13, jn14, jn15, jn16, pk_mul, nI_add]) (by show _ < 96; omega) (by decide) ?_
                rw [vv_up, va_up_self]
                rw [ldF_s _ _ (show i < 4 by omega)]
                refine j_iinc C0 d_Mo_data_161 (by rfl) (jinc _) (Nat.le_of_ble_eq_true rfl) ?_
                refine j_goto C0 d_Mo_data_164 (tgt := 125) (by decide) ?_
                exact j_to ih rfl ⟨rfl, rfl, rfl, rfl, trivial⟩
            · refine j_iload_n C0 d_Mo_data_125 rfl (by rfl) ?_
              refine j_aload_n C0 d_Mo_data_126 rfl (by rfl) ?_
              refine mo_get C0 d_Mo_data_127 fl_Mo_74 (by rfl) ?_
              refine j_top1 (show upd w 10 (w 10 + 1) 19 = nI k from hk) ?_
              refine j_icmp_ge C0 d_Mo_data_130 (tgt := 167) (by decide) (fun c_130 => ?_) (fun c_130 => ?_)
              · refine j_aload_n C0 d_Mo_data_167 rfl (by rfl) ?_
                refine mo_get C0 d_Mo_data_168 fl_Mo_28 (by rfl) ?_
                refine j_iload_n C0 d_Mo_data_171 rfl (by rfl) ?_
                refine j_bipush C0 d_Mo_data_172 (v := 12) (by decide) ?_
                refine j_iadd C0 d_Mo_data_174 ?_
                refine j_aload_n C0 d_Mo_data_175 rfl (by rfl) ?_
                refine mo_get C0 d_Mo_data_176 fl_Mo_101 (by rfl) ?_
                refine j_top1 (show upd w 10 (w 10 + 1) 9 = w 9 from rfl) ?_
                refine mo_st C0 (i := 6) (k := 16 * n + 12) d_Mo_data_179 (by simp only [jn0, jn1, jn2, jn3, jn4, jn8, jn12, jn13, jn14, jn15, jn16, pk_mul, nI_add]) (by show _ < 96; omega) (by decide) ?_
                rw [vv_up, va_up_self]
                refine j_aload_n C0 d_Mo_data_180 rfl (by rfl) ?_
                refine mo_get C0 d_Mo_data_181 fl_Mo_28 (by rfl) ?_
                refine j_iload_n C0 d_Mo_data_184 rfl (by rfl) ?_
                refine j_bipush C0 d_Mo_data_185 (v := 13) (by decide) ?_
                refine j_iadd C0 d_Mo_data_187 ?_
                refine j_aload_n C0 d_Mo_data_188 rfl (by rfl) ?_
                refine mo_get C0 d_Mo_data_189 fl_Mo_101 (by rfl) ?_
                refine j_top1 (show upd w 10 (w 10 + 1) 9 = w 9 from rfl) ?_
                refine mo_st C0 (i := 6) (k := 16 * n + 13) d_Mo_data_192 (by simp only [jn0, jn1, jn2, jn3, jn4, jn8, jn12, jn13, jn14, jn15, jn16, pk_mul, nI_add]) (by show _ < 96; omega) (by decide) ?_
                rw [vv_up, va_up_self]
                refine j_aload_n C0 d_Mo_data_193 rfl (by rfl) ?_
                refine mo_get C0 d_Mo_data_194 fl_Mo_28 (by rfl) ?_
                refine j_iload_n C0 d_Mo_data_197 rfl (by rfl) ?_
                refine j_bipush C0 d_Mo_data_198 (v := 14) (by decide) ?_
                refine j_iadd C0 d_Mo_data_200 ?_
                refine j_aload_n C0 d_Mo_data_201 rfl (by rfl) ?_
                refine mo_get C0 d_Mo_data_202 fl_Mo_53 (by rfl) ?_
                refine j_top1 (show upd w 10 (w 10 + 1) 0 = w 0 from rfl) ?_
                refine mo_st C0 (i := 6) (k := 16 * n + 14) d_Mo_data_205 (by simp only [jn0, jn1, jn2, jn3, jn4, jn8, jn12, jn13, jn14, jn15, jn16, pk_mul, nI_add]) (by show _ < 96; omega) (by decide) ?_
                rw [vv_up, va_up_self]
                refine j_aload_n C0 d_Mo_data_206 rfl (by rfl) ?_
                refine mo_get C0 d_Mo_data_207 fl_Mo_28 (by rfl) ?_
                refine j_iload_n C0 d_Mo_data_210 rfl (by rfl) ?_
                refine j_bipush C0 d_Mo_data_211 (v := 15) (by decide) ?_
                refine j_iadd C0 d_Mo_data_213 ?_
                refine j_iconst C0 d_Mo_data_214 (v := 0) (by decide) ?_
                refine mo_st C0 (i := 6) (k := 16 * n + 15) d_Mo_data_215 (by simp only [jn0, jn1, jn2, jn3, jn4, jn8, jn12, jn13, jn14, jn15, jn16, pk_mul, nI_add]) (by show _ < 96; omega) (by decide) ?_
                rw [vv_up, va_up_self]
                refine j_aload_n C0 d_Mo_data_216 rfl (by rfl) ?_
                refine j_dup C0 d_Mo_data_217 rfl ?_
                refine mo_get C0 d_Mo_data_218 fl_Mo_85 (by rfl) ?_
                refine j_top1 (show upd w 10 (w 10 + 1) 12 = nI n from hn) ?_
                refine j_iconst C0 d_Mo_data_221 (v := 1) (by decide) ?_
                refine j_iadd C0 d_Mo_data_222 ?_
                rw [nI_1]
                refine mo_put C0 d_Mo_data_223 fp_Mo_85 (by decide) rfl (by rfl) (by rfl) ?_
                refine j_aload_n C0 d_Mo_data_226 rfl (by rfl) ?_
                refine j_iconst C0 d_Mo_data_227 (v := 0) (by decide) ?_
                refine mo_put C0 d_Mo_data_228 fp_Mo_67 (by decide) rfl (by rfl) (by rfl) ?_
                refine j_aload_n C0 d_Mo_data_231 rfl (by rfl) ?_
                refine j_callV C0 d_Mo_data_232 cl_Mo_104 cl_Mo_104v (c_Mo_settle _ E) mo_this rfl rfl rfl ⟨by decide, by decide⟩ ⟨by omega, by omega⟩ (Nat.le_of_ble_eq_true rfl) (fun r_ h_ z_ hp_ => ?_)
                obtain ⟨rfl, rfl, rfl⟩ := hp_
                refine j_pop C0 d_Mo_data_235 rfl ?_
                refine j_aload_n C0 d_Mo_data_236 rfl (by rfl) ?_
                refine mo_get C0 d_Mo_data_237 fl_Mo_98 (by rfl) ?_
                exact j_iret C0 d_Mo_data_240 rfl (by omega) (by omega) (⟨rfl, rfl, rfl⟩)
              · exact absurd (nI_le (Nat.le_refl _) (by omega)) c_130
          · exact absurd hcs c_55
      · exact absurd c_24 hn0
  · exact absurd rfl c_6
