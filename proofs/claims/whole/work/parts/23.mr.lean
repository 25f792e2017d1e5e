theorem jsb {m k : Nat} (hm : m < 2 ^ 64) (hk : k < 64) : lg_cmp ((lN m >>> ((nI k).toInt64 &&& 63)) &&& 1) 0 = 0 ↔ m.testBit k = false := by
  rw [lcmp_z]
  have e : (lN m >>> ((nI k).toInt64 &&& 63)) &&& 1 = lN (m.testBit k).toNat := by
    apply wb_inj
    rw [wb_c k hk]
    show (lN m).toBitVec.sshiftRight' ((lN k).toBitVec.smod 64) &&& 1#64 = _
    rw [wb_tb, wb_tb, wb_sm k hk, wb_tb, BitVec.sshiftRight_eq', BitVec.toNat_ofNat, Nat.mod_eq_of_lt (show k < 2 ^ 64 by omega)]
    apply BitVec.eq_of_getLsbD_eq
    intro i hi
    rw [BitVec.getLsbD_and, BitVec.getLsbD_sshiftRight, BitVec.getLsbD_ofNat, BitVec.getLsbD_ofNat, BitVec.getLsbD_ofNat]
    by_cases h0 : i = 0
    · subst h0
      cases h : m.testBit k <;> simp [h, hk]
    · have h1 : Nat.testBit 1 i = false := by
        rw [show (1 : Nat) = 2 ^ 0 from rfl, Nat.testBit_two_pow_of_ne (by omega)]
      have h2 : (m.testBit k).toNat.testBit i = false := by
        cases m.testBit k
        · simp
        · exact h1
      simp [h1, h2]
  rw [e]
  cases m.testBit k <;> decide
/-- a round of the reference -/
def rk (G N : Nat → Nat) (s : Nat) : Nat → Nat
  | 0 => s
  | k + 1 => if (rk G N s k).testBit (k / 4) = true ∧ k % 4 < N (k / 4) then rk G N s k ||| 2 ^ G k else rk G N s k
def rR (G N : Nat → Nat) (s : Nat) : Nat → Nat
  | 0 => s
  | r + 1 => rk G N (rR G N s r) 32
def RG (G N : Nat → Nat) (A : moA) : Prop := ∀ l, l < 8 → A 1 l = nI (N l) ∧ N l ≤ 4 ∧ ∀ j, j < N l → A 0 (4 * l + j) = nI (G (4 * l + j)) ∧ G (4 * l + j) < 64
theorem RG.at {G N : Nat → Nat} {A : moA} (h : RG G N A) {k : Nat} (hk : k < 32) (hj : k % 4 < N (k / 4)) : A 0 k = nI (G k) ∧ G k < 64 := by
  have h1 := (h (k / 4) (by omega)).2.2 (k % 4) hj
  rw [show 4 * (k / 4) + k % 4 = k by omega] at h1
  exact h1
theorem rk_lt {G N : Nat → Nat} {A : moA} (h : RG G N A) {s : Nat} (hs : s < 2 ^ 64) : ∀ k, k ≤ 32 → rk G N s k < 2 ^ 64
  | 0, _ => hs
  | k + 1, hk => by
    have ih := rk_lt h hs k (by omega)
    unfold rk
    split
    · rename_i hc
      exact Nat.or_lt_two_pow ih (p64 (h.at (by omega) hc.2).2)
    · exact ih
theorem rR_lt {G N : Nat → Nat} {A : moA} (h : RG G N A) {s : Nat} (hs : s < 2 ^ 64) : ∀ r, rR G N s r < 2 ^ 64
  | 0 => hs
  | r + 1 => rk_lt h (rR_lt h hs r) 32 (by decide)
set_option maxHeartbeats 4000000 in
set_option maxRecDepth 100000 in
theorem c_Mo_reached (l : Launch) (E : jE) {h0 : jH} {sz c : Nat} {A : moA} {w : Nat → Int32} {u : Nat} {G N : Nat → Nat} (hu : u < 64) (hG : RG G N A) : jC l M_Mo_reached 0 E [.ref c, .int (nI u)] (moH E h0 c A w) sz 0 0 (fun r h' sz' => r = some (.long (lN (rR G N (2 ^ u) 64))) ∧ h' = moH E h0 c A w ∧ sz' = sz) := by
  refine jC.of (by decide) (Nat.le_of_ble_eq_true rfl) ?_
  intro x C0 hx
  subst hx

  refine j_lconst C0 d_Mo_reached_0 (v := 1) (by decide) ?_
  refine j_iload_n C0 d_Mo_reached_1 rfl (by rfl) ?_
  refine j_lshl C0 d_Mo_reached_2 (jshl1 hu) ?_
  refine j_lstore_n C0 d_Mo_reached_3 rfl (Nat.le_of_ble_eq_true rfl) ?_
  refine j_iconst C0 d_Mo_reached_4 (v := 0) (by decide) ?_
  refine j_istore C0 d_Mo_reached_5 (Nat.le_of_ble_eq_true rfl) ?_
  refine j_lv (lv' := [(0, .ref c), (1, .int (nI u)), (2, .long (lN (rR G N (2 ^ u) 0))), (4, .int (nI 0))]) ⟨rfl, rfl, rfl, rfl, trivial⟩ ?_
  refine j_for 64 (fun _ => moH E h0 c A w) (fun r => [(0, .ref c), (1, .int (nI u)), (2, .long (lN (rR G N (2 ^ u) r))), (4, .int (nI r))]) ?_ ?_ 0 (by decide)
  · intro r hr ihr
    have hs := rR_lt hG (p64 hu) r
    refine j_iload C0 d_Mo_reached_7 (by rfl) ?_
    refine j_bipush C0 d_Mo_reached_9 (v := 64) (by decide) ?_
    refine j_icmp_ge C0 d_Mo_reached_11 (tgt := 77) (by decide) (fun c_11 => ?_) (fun c_11 => ?_)
    · exact absurd c_11 (nI_ge (b := 64) hr (by decide))
    · refine j_iconst C0 d_Mo_reached_14 (v := 0) (by decide) ?_
      refine j_istore C0 d_Mo_reached_15 (Nat.le_of_ble_eq_true rfl) ?_
      refine j_lv (lv' := [(0, .ref c), (1, .int (nI u)), (2, .long (lN (rk G N (rR G N (2 ^ u) r) 0))), (4, .int (nI r)), (5, .int (nI 0))]) ⟨rfl, rfl, rfl, rfl, rfl, trivial⟩ ?_
      refine j_for 32 (fun _ => moH E h0 c A w) (fun k => [(0, .ref c), (1, .int (nI u)), (2, .long (lN (rk G N (rR G N (2 ^ u) r) k))), (4, .int (nI r)), (5, .int (nI k))]) ?_ ?_ 0 (by decide)
      · intro k hk ih
        have hb := rk_lt hG hs k (by omega)
        refine j_iload C0 d_Mo_reached_17 (by rfl) ?_
        refine j_bipush C0 d_Mo_reached_19 (v := 32) (by decide) ?_
        refine j_icmp_ge C0 d_Mo_reached_21 (tgt := 71) (by decide) (fun c_21 => ?_) (fun c_21 => ?_)
        · exact absurd c_21 (nI_ge (b := 32) hk (by decide))
        · refine j_lload_n C0 d_Mo_reached_24 rfl (by rfl) ?_
          refine j_iload C0 d_Mo_reached_25 (by rfl) ?_
          refine j_iconst C0 d_Mo_reached_27 (v := 4) (by decide) ?_
          refine j_idiv C0 d_Mo_reached_28 (by decide) ?_
          rw [show nI k / 4 = nI (k / 4) from pk_div (by omega) (by decide) (by decide)]
          refine j_lshr C0 d_Mo_reached_29 rfl ?_
          refine j_lconst C0 d_Mo_reached_30 (v := 1) (by decide) ?_
          refine j_land C0 d_Mo_reached_31 ?_
          refine j_lconst C0 d_Mo_reached_32 (v := 0) (by decide) ?_
          refine j_lcmp C0 d_Mo_reached_33 ?_
          refine j_if_eq C0 d_Mo_reached_34 (tgt := 65) (by decide) (fun c_34 => ?_) (fun c_34 => ?_)
          · have hT := (jsb hb (by omega)).mp c_34
            have eT : rk G N (rR G N (2 ^ u) r) (k + 1) = rk G N (rR G N (2 ^ u) r) k := if_neg (fun g => by rw [hT] at g; exact absurd g.1 (by decide))
            rw [eT] at ih
            refine j_iinc C0 d_Mo_reached_65 (by rfl) (jinc _) (Nat.le_of_ble_eq_true rfl) ?_
            refine j_goto C0 d_Mo_reached_68 (tgt := 17) (by decide) ?_
            exact j_to ih rfl ⟨rfl, rfl, rfl, rfl, rfl, trivial⟩
          · have hT : (rk G N (rR G N (2 ^ u) r) k).testBit (k / 4) = true := by
              cases hh : (rk G N (rR G N (2 ^ u) r) k).testBit (k / 4) with
              | false => exact absurd ((jsb hb (by omega)).mpr hh) c_34
              | true => rfl
            refine j_iload C0 d_Mo_reached_37 (by rfl) ?_
            refine j_iconst C0 d_Mo_reached_39 (v := 4) (by decide) ?_
            refine j_irem C0 d_Mo_reached_40 (by decide) ?_
            rw [show nI k - nI k / 4 * 4 = nI (k % 4) from pk_rem (by omega) (by decide) (by decide)]
            refine j_aload_n C0 d_Mo_reached_41 rfl (by rfl) ?_
            refine mo_get C0 d_Mo_reached_42 fl_Mo_13 (by rfl) ?_
            refine j_iload C0 d_Mo_reached_45 (by rfl) ?_
            refine j_iconst C0 d_Mo_reached_47 (v := 4) (by decide) ?_
            refine j_idiv C0 d_Mo_reached_48 (by decide) ?_
            rw [show nI k / 4 = nI (k / 4) from pk_div (by omega) (by decide) (by decide)]
            refine mo_ld C0 (i := 1) (k := k / 4) d_Mo_reached_49 (by simp only [jn0, jn1, jn2, jn3, jn4, jn8, jn12, jn13, jn14, jn15, jn16, pk_mul, nI_add]) (by show _ < 8; omega) (by decide) ?_
            rw [(hG (k / 4) (by omega)).1]
            refine j_icmp_ge C0 d_Mo_reached_50 (tgt := 65) (by decide) (fun c_50 => ?_) (fun c_50 => ?_)
            · have hJ : ¬ k % 4 < N (k / 4) := fun g => nI_ge g (by have := (hG (k / 4) (by omega)).2.1; omega) c_50
              have eT : rk G N (rR G N (2 ^ u) r) (k + 1) = rk G N (rR G N (2 ^ u) r) k := if_neg (fun g => hJ g.2)
              rw [eT] at ih
              refine j_iinc C0 d_Mo_reached_65 (by rfl) (jinc _) (Nat.le_of_ble_eq_true rfl) ?_
              refine j_goto C0 d_Mo_reached_68 (tgt := 17) (by decide) ?_
              exact j_to ih rfl ⟨rfl, rfl, rfl, rfl, rfl, trivial⟩
            · have hJ : k % 4 < N (k / 4) := Nat.lt_of_not_le (fun g => c_50 (nI_le g (by omega)))
              have hA := hG.at (by omega) hJ
              have eT : rk G N (rR G N (2 ^ u) r) (k + 1) = rk G N (rR G N (2 ^ u) r) k ||| 2 ^ G k := if_pos ⟨hT, hJ⟩
              rw [eT] at ih
              refine j_lload_n C0 d_Mo_reached_53 rfl (by rfl) ?_
              refine j_lconst C0 d_Mo_reached_54 (v := 1) (by decide) ?_
              refine j_aload_n C0 d_Mo_reached_55 rfl (by rfl) ?_
              refine mo_get C0 d_Mo_reached_56 fl_Mo_7 (by rfl) ?_
              refine j_iload C0 d_Mo_reached_59 (by rfl) ?_
              refine mo_ld C0 (i := 0) (k := k) d_Mo_reached_61 rfl (by show _ < 32; omega) (by decide) ?_
              rw [hA.1]
              refine j_lshl C0 d_Mo_reached_62 (jshl1 hA.2) ?_
              refine j_lor C0 d_Mo_reached_63 ?_
              rw [wb_or hb (p64 hA.2)]
              refine j_lstore_n C0 d_Mo_reached_64 rfl (Nat.le_of_ble_eq_true rfl) ?_
              refine j_iinc C0 d_Mo_reached_65 (by rfl) (jinc _) (Nat.le_of_ble_eq_true rfl) ?_
              refine j_goto C0 d_Mo_reached_68 (tgt := 17) (by decide) ?_
              exact j_to ih rfl ⟨rfl, rfl, rfl, rfl, rfl, trivial⟩
      · refine j_iload C0 d_Mo_reached_17 (by rfl) ?_
        refine j_bipush C0 d_Mo_reached_19 (v := 32) (by decide) ?_
        refine j_icmp_ge C0 d_Mo_reached_21 (tgt := 71) (by decide) (fun c_21 => ?_) (fun c_21 => ?_)
        · refine j_iinc C0 d_Mo_reached_71 (by rfl) (jinc _) (Nat.le_of_ble_eq_true rfl) ?_
          refine j_goto C0 d_Mo_reached_74 (tgt := 7) (by decide) ?_
          exact j_to ihr rfl ⟨rfl, rfl, rfl, rfl, trivial⟩
        · exact absurd (nI_le (Nat.le_refl 32) (by decide)) c_21
  · refine j_iload C0 d_Mo_reached_7 (by rfl) ?_
    refine j_bipush C0 d_Mo_reached_9 (v := 64) (by decide) ?_
    refine j_icmp_ge C0 d_Mo_reached_11 (tgt := 77) (by decide) (fun c_11 => ?_) (fun c_11 => ?_)
    · refine j_lload_n C0 d_Mo_reached_77 rfl (by rfl) ?_
      exact j_lret C0 d_Mo_reached_78 rfl (by omega) (by omega) (⟨rfl, rfl, rfl⟩)
    · exact absurd (nI_le (Nat.le_refl 64) (by decide)) c_11
