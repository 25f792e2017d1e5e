abbrev moA : Type := Nat → Nat → Int32
def moL : Nat → Nat
  | 0 => 32
  | 1 => 8
  | 2 => 24
  | 3 => 24
  | 4 => 8
  | 5 => 8
  | 6 => 96
  | 7 => 96
  | 8 => 4
  | 9 => 64
  | 10 => 64
  | 11 => 64
  | 12 => 8
  | _ => 0
abbrev moF (c : Nat) (w : Nat → Int32) : List Value := [.int (w 0), .int (w 1), .int (w 2), .ref (c + 1 + 0), .ref (c + 1 + 1), .ref (c + 1 + 2), .ref (c + 1 + 3), .ref (c + 1 + 4), .ref (c + 1 + 5), .int (w 9), .int (w 10), .ref (c + 1 + 6), .int (w 12), .ref (c + 1 + 7), .int (w 14), .int (w 15), .int (w 16), .int (w 17), .ref (c + 1 + 8), .int (w 19), .ref (c + 1 + 9), .ref (c + 1 + 10), .ref (c + 1 + 11), .ref (c + 1 + 12)]
def moH (E : jE) (h0 : jH) (c : Nat) (A : moA) (w : Nat → Int32) : jH := fun q => if q = c then some (jO 8 (moF c w)) else if c < q ∧ q ≤ c + 13 then some (jI E (moL (q - c - 1)) (A (q - c - 1))) else h0 q
theorem mo_this {E : jE} {h0 : jH} {c : Nat} {A : moA} {w : Nat → Int32} : moH E h0 c A w c = some (jO 8 (moF c w)) := if_pos rfl
theorem mo_arr {E : jE} {h0 : jH} {c i : Nat} {A : moA} {w : Nat → Int32} (hi : i < 13) : moH E h0 c A w (c + 1 + i) = some (jI E (moL i) (A i)) := by
  unfold moH
  rw [if_neg (by omega), if_pos (by omega), show c + 1 + i - c - 1 = i by omega]
theorem mo_out {E : jE} {h0 : jH} {c q : Nat} {A : moA} {w : Nat → Int32} (hq : q < c ∨ c + 14 ≤ q) : moH E h0 c A w q = h0 q := by
  unfold moH
  rw [if_neg (by omega), if_neg (by omega)]
theorem mo_s0 {E : jE} {h0 : jH} {c : Nat} {A : moA} {w w' : Nat → Int32} : jset (moH E h0 c A w) c (jO 8 (moF c w')) = moH E h0 c A w' := by
  funext q
  unfold jset moH
  by_cases h : q = c
  · rw [if_pos h, if_pos h]
  · rw [if_neg h, if_neg h, if_neg h]
theorem mo_s1 {E : jE} {h0 : jH} {c i : Nat} {A : moA} {w : Nat → Int32} {f : Nat → Int32} (hi : i < 13) : jset (moH E h0 c A w) (c + 1 + i) (jI E (moL i) f) = moH E h0 c (va_up A i f) w := by
  funext q
  unfold jset moH
  by_cases h : q = c + 1 + i
  · rw [if_pos h, if_neg (by omega), if_pos (by omega), show q - c - 1 = i by omega, va_up_self]
  · rw [if_neg h]
    by_cases h1 : q = c
    · rw [if_pos h1, if_pos h1]
    · rw [if_neg h1, if_neg h1]
      by_cases h2 : c < q ∧ q ≤ c + 13
      · rw [if_pos h2, if_pos h2, va_up_ne _ _ (by omega)]
      · rw [if_neg h2, if_neg h2]
theorem moL_lt (i : Nat) : moL i < 2 ^ 31 := by
  unfold moL
  split <;> decide
theorem jn0 : (0 : Int32) = nI 0 := rfl
theorem jn1 : (1 : Int32) = nI 1 := rfl
theorem jn2 : (2 : Int32) = nI 2 := rfl
theorem jn3 : (3 : Int32) = nI 3 := rfl
theorem jn4 : (4 : Int32) = nI 4 := rfl
theorem jn8 : (8 : Int32) = nI 8 := rfl
theorem jn12 : (12 : Int32) = nI 12 := rfl
theorem jn13 : (13 : Int32) = nI 13 := rfl
theorem jn14 : (14 : Int32) = nI 14 := rfl
theorem jn15 : (15 : Int32) = nI 15 := rfl
theorem jn16 : (16 : Int32) = nI 16 := rfl
section MoRules
variable {x : jX} {M : jM} {E : jE} {Q : State → Prop} {h0 : jH} {c sz ce sl d mc ms pc : Nat} {lv : List (Nat × Value)} {st : List Value} {A : moA} {w : Nat → Int32}
theorem mo_get (C0 : jOk x M E d mc ms) {idx k : Nat} {v : Value} (hd : decode M.2.1 pc = .ok (.getfield idx, 3)) (hf : jFL M.1.cls idx 8 k) (hv : (moF c w)[k]? = some v) (kk : jJ x M E Q (moH E h0 c A w) sz ce sl lv (pc + 3) (v :: st)) : jJ x M E Q (moH E h0 c A w) sz ce sl lv pc (.ref c :: st) := j_getf C0 hd hf mo_this hv kk
theorem mo_put (C0 : jOk x M E d mc ms) {idx k : Nat} {ty : FieldType} {v : Int32} (hd : decode M.2.1 pc = .ok (.putfield idx, 3)) (hf : jFP M.1.cls idx 8 k ty false) (hk : k < 24) (hu : (moF c w).set k (.int v) = moF c (upd w k v)) (hn : narrow ty (.int v) = .int v) (hfit : fits ty (.int v) = true) (kk : jJ x M E Q (moH E h0 c A (upd w k v)) sz ce sl lv (pc + 3) st) : jJ x M E Q (moH E h0 c A w) sz ce sl lv pc (.int v :: .ref c :: st) := by
  refine j_putf C0 hd hf mo_this hk hn hfit ?_
  rw [hu]
  rw [show (Sum.inr (8, moF c (upd w k v)) : va_E) = jO 8 (moF c (upd w k v)) from rfl, mo_s0]
  exact kk
theorem mo_ld (C0 : jOk x M E d mc ms) {i k : Nat} {n : Int32} (hd : decode M.2.1 pc = .ok (.iaload, 1)) (ix : n = nI k) (hk : k < moL i) (hi : i < 13) (kk : jJ x M E Q (moH E h0 c A w) sz ce sl lv (pc + 1) (.int (A i k) :: st)) : jJ x M E Q (moH E h0 c A w) sz ce sl lv pc (.int n :: .ref (c + 1 + i) :: st) := j_iald C0 hd (mo_arr hi) ix hk (moL_lt i) kk
theorem mo_st (C0 : jOk x M E d mc ms) {i k : Nat} {n v : Int32} (hd : decode M.2.1 pc = .ok (.iastore, 1)) (ix : n = nI k) (hk : k < moL i) (hi : i < 13) (kk : jJ x M E Q (moH E h0 c (va_up A i (upd (A i) k v)) w) sz ce sl lv (pc + 1) st) : jJ x M E Q (moH E h0 c A w) sz ce sl lv pc (.int v :: .int n :: .ref (c + 1 + i) :: st) := by
  refine j_iast C0 hd (mo_arr hi) ix hk (moL_lt i) ?_
  rw [mo_s1 hi]
  exact kk
theorem j_top1 {v v' : Int32} (e : v = v') (kk : jJ x M E Q h0 sz ce sl lv pc (.int v' :: st)) : jJ x M E Q h0 sz ce sl lv pc (.int v :: st) := e ▸ kk
theorem mo_A {A' : moA} (e : A = A') (kk : jJ x M E Q (moH E h0 c A' w) sz ce sl lv pc st) : jJ x M E Q (moH E h0 c A w) sz ce sl lv pc st := e ▸ kk
theorem mo_w {w' : Nat → Int32} (e : w = w') (kk : jJ x M E Q (moH E h0 c A w') sz ce sl lv pc st) : jJ x M E Q (moH E h0 c A w) sz ce sl lv pc st := e ▸ kk
end MoRules
theorem outI {v hi N : Int32} (hN : N.toInt = hi.toInt + 1) : (v < 0 ∨ hi < v) ↔ ¬ (¬ v < 0 ∧ ¬ N ≤ v) := by
  rw [Int32.lt_iff_toInt_lt, Int32.lt_iff_toInt_lt, Int32.le_iff_toInt_le, hN]
  omega
theorem okR' {k n : Nat} {N : Int32} (hk : k < n) (hn : n < 2 ^ 31) (hN : N = nI n) : ¬ ¬ (¬ nI k < 0 ∧ ¬ N ≤ nI k) := not_not_intro (okR hk hn hN)
set_option maxHeartbeats 4000000 in
set_option maxRecDepth 100000 in
theorem c_Mo_within (l : Launch) (E : jE) {h : jH} {sz : Nat} (v lo hi : Int32) : jC l M_Mo_within 0 E [.int v, .int lo, .int hi] h sz 0 0 (fun r h' sz' => r = some (.int (if v < lo then lo else if hi < v then hi else v)) ∧ h' = h ∧ sz' = sz) := by
  refine jC.of (by decide) (Nat.le_of_ble_eq_true rfl) ?_
  intro x C0 hx
  subst hx

  refine j_iload_n C0 d_Mo_within_0 rfl (by rfl) ?_
  refine j_iload_n C0 d_Mo_within_1 rfl (by rfl) ?_
  refine j_icmp_ge C0 d_Mo_within_2 (tgt := 9) (by decide) (fun c_2 => ?_) (fun c_2 => ?_)
  · have g1 : ¬ v < lo := Int32.not_lt.mpr c_2
    refine j_iload_n C0 d_Mo_within_9 rfl (by rfl) ?_
    refine j_iload_n C0 d_Mo_within_10 rfl (by rfl) ?_
    refine j_icmp_le C0 d_Mo_within_11 (tgt := 18) (by decide) (fun c_11 => ?_) (fun c_11 => ?_)
    · have g2 : ¬ hi < v := Int32.not_lt.mpr c_11
      refine j_iload_n C0 d_Mo_within_18 rfl (by rfl) ?_
      exact j_iret C0 d_Mo_within_19 rfl (by omega) (by omega) (⟨by first | (rw [if_pos g1]; done) | (rw [if_neg g1, if_neg g2]; done) | (rw [if_neg g1, if_pos g2]; done), rfl, rfl⟩)
    · have g2 : hi < v := Int32.not_le.mp c_11
      refine j_iload_n C0 d_Mo_within_14 rfl (by rfl) ?_
      refine j_goto C0 d_Mo_within_15 (tgt := 19) (by decide) ?_
      exact j_iret C0 d_Mo_within_19 rfl (by omega) (by omega) (⟨by first | (rw [if_pos g1]; done) | (rw [if_neg g1, if_neg g2]; done) | (rw [if_neg g1, if_pos g2]; done), rfl, rfl⟩)
  · have g1 : v < lo := Int32.not_le.mp c_2
    refine j_iload_n C0 d_Mo_within_5 rfl (by rfl) ?_
    refine j_goto C0 d_Mo_within_6 (tgt := 19) (by decide) ?_
    exact j_iret C0 d_Mo_within_19 rfl (by omega) (by omega) (⟨by first | (rw [if_pos g1]; done) | (rw [if_neg g1, if_neg g2]; done) | (rw [if_neg g1, if_pos g2]; done), rfl, rfl⟩)
set_option maxHeartbeats 4000000 in
set_option maxRecDepth 100000 in
theorem c_Mo_out (l : Launch) (E : jE) {h : jH} {sz : Nat} (v hi : Int32) {N : Int32} (hN : N.toInt = hi.toInt + 1) : jC l M_Mo_out 0 E [.int v, .int hi] h sz 0 0 (fun r h' sz' => r = some (.int (jb (¬ (¬ v < 0 ∧ ¬ N ≤ v)))) ∧ h' = h ∧ sz' = sz) := by
  refine jC.of (by decide) (Nat.le_of_ble_eq_true rfl) ?_
  intro x C0 hx
  subst hx

  refine j_iload_n C0 d_Mo_out_0 rfl (by rfl) ?_
  refine j_if_lt C0 d_Mo_out_1 (tgt := 9) (by decide) (fun c_1 => ?_) (fun c_1 => ?_)
  · have g : ¬ (¬ v < 0 ∧ ¬ N ≤ v) := (outI hN).mp (Or.inl c_1)
    refine j_iconst C0 d_Mo_out_9 (v := 1) (by decide) ?_
    refine j_goto C0 d_Mo_out_10 (tgt := 14) (by decide) ?_
    exact j_zret C0 d_Mo_out_14 rfl (by rfl) (by omega) (by omega) (⟨by first | (rw [jb_y g]; done) | (rw [jb_n g]; done), rfl, rfl⟩)
  · refine j_iload_n C0 d_Mo_out_4 rfl (by rfl) ?_
    refine j_iload_n C0 d_Mo_out_5 rfl (by rfl) ?_
    refine j_icmp_le C0 d_Mo_out_6 (tgt := 13) (by decide) (fun c_6 => ?_) (fun c_6 => ?_)
    · have g : ¬ ¬ (¬ v < 0 ∧ ¬ N ≤ v) := fun q => ((outI hN).mpr q).elim c_1 (Int32.not_lt.mpr c_6)
      refine j_iconst C0 d_Mo_out_13 (v := 0) (by decide) ?_
      exact j_zret C0 d_Mo_out_14 rfl (by rfl) (by omega) (by omega) (⟨by first | (rw [jb_y g]; done) | (rw [jb_n g]; done), rfl, rfl⟩)
    · have g : ¬ (¬ v < 0 ∧ ¬ N ≤ v) := (outI hN).mp (Or.inr (Int32.not_le.mp c_6))
      refine j_iconst C0 d_Mo_out_9 (v := 1) (by decide) ?_
      refine j_goto C0 d_Mo_out_10 (tgt := 14) (by decide) ?_
      exact j_zret C0 d_Mo_out_14 rfl (by rfl) (by omega) (by omega) (⟨by first | (rw [jb_y g]; done) | (rw [jb_n g]; done), rfl, rfl⟩)
set_option maxHeartbeats 4000000 in
set_option maxRecDepth 100000 in
theorem c_Mo_alias_bad (l : Launch) (E : jE) {h0 : jH} {sz c : Nat} {A : moA} {w : Nat → Int32} (p q : Int32) (hbad : ¬ (¬ p < 0 ∧ ¬ 8 ≤ p) ∨ ¬ (¬ q < 0 ∧ ¬ 64 ≤ q)) : jC l M_Mo_alias 1 E [.ref c, .int p, .int q] (moH E h0 c A w) sz 0 0 (fun r h' sz' => r = some (.int (-501)) ∧ h' = moH E h0 c A w ∧ sz' = sz) := by
  refine jC.of (by decide) (Nat.le_of_ble_eq_true rfl) ?_
  intro x C0 hx
  subst hx

  refine j_iload_n C0 d_Mo_alias_0 rfl (by rfl) ?_
  refine j_bipush C0 d_Mo_alias_1 (v := 7) (by decide) ?_
  refine j_callS C0 d_Mo_alias_3 cl_Mo_63 cl_Mo_63v (c_Mo_out _ E p 7 (N := 8) (by decide)) rfl rfl ⟨by decide, by decide⟩ ⟨by omega, by omega⟩ (Nat.le_of_ble_eq_true rfl) (fun r_ h_ z_ hp_ => ?_)
  obtain ⟨rfl, rfl, rfl⟩ := hp_
  refine j_if_ne C0 d_Mo_alias_6 (tgt := 18) (by decide) (fun c_6 => ?_) (fun c_6 => ?_)
  · refine j_sipush C0 d_Mo_alias_18 (v := -501) (by decide) ?_
    exact j_iret C0 d_Mo_alias_21 rfl (by omega) (by omega) (⟨rfl, rfl, rfl⟩)
  · have g1 : ¬ ¬ (¬ p < 0 ∧ ¬ 8 ≤ p) := fun g => by rw [jb_y g] at c_6; exact absurd c_6 (by decide)
    refine j_iload_n C0 d_Mo_alias_9 rfl (by rfl) ?_
    refine j_bipush C0 d_Mo_alias_10 (v := 63) (by decide) ?_
    refine j_callS C0 d_Mo_alias_12 cl_Mo_63 cl_Mo_63v (c_Mo_out _ E q 63 (N := 64) (by decide)) rfl rfl ⟨by decide, by decide⟩ ⟨by omega, by omega⟩ (Nat.le_of_ble_eq_true rfl) (fun r_ h_ z_ hp_ => ?_)
    obtain ⟨rfl, rfl, rfl⟩ := hp_
    refine j_if_eq C0 d_Mo_alias_15 (tgt := 22) (by decide) (fun c_15 => ?_) (fun c_15 => ?_)
    · exact absurd c_15 (by rw [jb_y (hbad.resolve_left g1)]; decide)
    · refine j_sipush C0 d_Mo_alias_18 (v := -501) (by decide) ?_
      exact j_iret C0 d_Mo_alias_21 rfl (by omega) (by omega) (⟨rfl, rfl, rfl⟩)
set_option maxHeartbeats 4000000 in
set_option maxRecDepth 100000 in
theorem c_Mo_alias (l : Launch) (E : jE) {h0 : jH} {sz c : Nat} {A : moA} {w : Nat → Int32} {k u n : Nat} (hk : k < 8) (hu : u < 64) (hn : A 1 k = nI n) (n4 : n ≤ 4) : jC l M_Mo_alias 1 E [.ref c, .int (nI k), .int (nI u)] (moH E h0 c A w) sz 0 0 (fun r h' sz' => (((∃ j, j < n ∧ A 0 (4 * k + j) = nI u) ∨ n = 4) ∧ r = some (.int (-452)) ∧ h' = moH E h0 c A w ∧ sz' = sz) ∨ (¬ (∃ j, j < n ∧ A 0 (4 * k + j) = nI u) ∧ n < 4 ∧ r = some (.int (nI (n + 1))) ∧ h' = moH E h0 c (va_up (va_up A 0 (upd (A 0) (4 * k + n) (nI u))) 1 (upd (A 1) k (nI (n + 1)))) w ∧ sz' = sz)) := by
  refine jC.of (by decide) (Nat.le_of_ble_eq_true rfl) ?_
  intro x C0 hx
  subst hx

  refine j_iload_n C0 d_Mo_alias_0 rfl (by rfl) ?_
  refine j_bipush C0 d_Mo_alias_1 (v := 7) (by decide) ?_
  refine j_callS C0 d_Mo_alias_3 cl_Mo_63 cl_Mo_63v (c_Mo_out _ E (nI k) 7 (N := 8) (by decide)) rfl rfl ⟨by decide, by decide⟩ ⟨by omega, by omega⟩ (Nat.le_of_ble_eq_true rfl) (fun r_ h_ z_ hp_ => ?_)
  obtain ⟨rfl, rfl, rfl⟩ := hp_
  rw [jb_n (okR' (N := 8) hk (by decide) rfl)]
  refine j_if_ne C0 d_Mo_alias_6 (tgt := 18) (by decide) (fun c_6 => ?_) (fun c_6 => ?_)
  · exact absurd rfl c_6
  · refine j_iload_n C0 d_Mo_alias_9 rfl (by rfl) ?_
    refine j_bipush C0 d_Mo_alias_10 (v := 63) (by decide) ?_
    refine j_callS C0 d_Mo_alias_12 cl_Mo_63 cl_Mo_63v (c_Mo_out _ E (nI u) 63 (N := 64) (by decide)) rfl rfl ⟨by decide, by decide⟩ ⟨by omega, by omega⟩ (Nat.le_of_ble_eq_true rfl) (fun r_ h_ z_ hp_ => ?_)
    obtain ⟨rfl, rfl, rfl⟩ := hp_
    rw [jb_n (okR' (N := 64) hu (by decide) rfl)]
    refine j_if_eq C0 d_Mo_alias_15 (tgt := 22) (by decide) (fun c_15 => ?_) (fun c_15 => ?_)
    · refine j_iconst C0 d_Mo_alias_22 (v := 0) (by decide) ?_
      refine j_istore_n C0 d_Mo_alias_23 rfl (Nat.le_of_ble_eq_true rfl) ?_
      refine j_lv (lv' := [(0, .ref c), (1, .int (nI k)), (2, .int (nI u)), (3, .int (nI 0))]) ⟨rfl, rfl, rfl, rfl, trivial⟩ ?_
      refine j_forI n (fun i => ∀ j, j < i → ¬ A 0 (4 * k + j) = nI u) (fun _ => moH E h0 c A w) (fun i => [(0, .ref c), (1, .int (nI k)), (2, .int (nI u)), (3, .int (nI i))]) ?_ ?_ 0 (Nat.zero_le n) (fun j hj => absurd hj (Nat.not_lt_zero j))
      · intro i hi hI ih
        refine j_iload_n C0 d_Mo_alias_24 rfl (by rfl) ?_
        refine j_aload_n C0 d_Mo_alias_25 rfl (by rfl) ?_
        refine mo_get C0 d_Mo_alias_26 fl_Mo_13 (by rfl) ?_
        refine j_iload_n C0 d_Mo_alias_29 rfl (by rfl) ?_
        refine mo_ld C0 (i := 1) (k := k) d_Mo_alias_30 rfl (by show _ < 8; omega) (by decide) ?_
        rw [hn]
        refine j_icmp_ge C0 d_Mo_alias_31 (tgt := 58) (by decide) (fun c_31 => ?_) (fun c_31 => ?_)
        · exact absurd c_31 (nI_ge hi (by omega))
        · refine j_aload_n C0 d_Mo_alias_34 rfl (by rfl) ?_
          refine mo_get C0 d_Mo_alias_35 fl_Mo_7 (by rfl) ?_
          refine j_iconst C0 d_Mo_alias_38 (v := 4) (by decide) ?_
          refine j_iload_n C0 d_Mo_alias_39 rfl (by rfl) ?_
          refine j_imul C0 d_Mo_alias_40 ?_
          refine j_iload_n C0 d_Mo_alias_41 rfl (by rfl) ?_
          refine j_iadd C0 d_Mo_alias_42 ?_
          refine mo_ld C0 (i := 0) (k := 4 * k + i) d_Mo_alias_43 (by simp only [jn0, jn1, jn2, jn3, jn4, jn8, jn12, jn13, jn14, jn15, jn16, pk_mul, nI_add]) (by show _ < 32; omega) (by decide) ?_
          refine j_iload_n C0 d_Mo_alias_44 rfl (by rfl) ?_
          refine j_icmp_ne C0 d_Mo_alias_45 (tgt := 52) (by decide) (fun c_45 => ?_) (fun c_45 => ?_)
          · refine j_iinc C0 d_Mo_alias_52 (by rfl) (jinc _) (Nat.le_of_ble_eq_true rfl) ?_
            refine j_goto C0 d_Mo_alias_55 (tgt := 24) (by decide) ?_
            exact j_to (ih (fun j hj => by
                by_cases e : j = i
                · rw [e]; exact c_45
                · exact hI j (by omega))) rfl ⟨rfl, rfl, rfl, rfl, trivial⟩
          · refine j_sipush C0 d_Mo_alias_48 (v := -452) (by decide) ?_
            exact j_iret C0 d_Mo_alias_51 rfl (by omega) (by omega) (Or.inl ⟨Or.inl ⟨i, hi, c_45⟩, rfl, rfl, rfl⟩)
      · intro hI
        refine j_iload_n C0 d_Mo_alias_24 rfl (by rfl) ?_
        refine j_aload_n C0 d_Mo_alias_25 rfl (by rfl) ?_
        refine mo_get C0 d_Mo_alias_26 fl_Mo_13 (by rfl) ?_
        refine j_iload_n C0 d_Mo_alias_29 rfl (by rfl) ?_
        refine mo_ld C0 (i := 1) (k := k) d_Mo_alias_30 rfl (by show _ < 8; omega) (by decide) ?_
        rw [hn]
        refine j_icmp_ge C0 d_Mo_alias_31 (tgt := 58) (by decide) (fun c_31 => ?_) (fun c_31 => ?_)
        · refine j_aload_n C0 d_Mo_alias_58 rfl (by rfl) ?_
          refine mo_get C0 d_Mo_alias_59 fl_Mo_13 (by rfl) ?_
          refine j_iload_n C0 d_Mo_alias_62 rfl (by rfl) ?_
          refine mo_ld C0 (i := 1) (k := k) d_Mo_alias_63 rfl (by show _ < 8; omega) (by decide) ?_
          rw [hn]
          refine j_iconst C0 d_Mo_alias_64 (v := 4) (by decide) ?_
          refine j_icmp_ne C0 d_Mo_alias_65 (tgt := 72) (by decide) (fun c_65 => ?_) (fun c_65 => ?_)
          · have h4 : n < 4 := by
              by_cases e : n = 4
              · exact absurd (by rw [e]; rfl) c_65
              · omega
            refine j_aload_n C0 d_Mo_alias_72 rfl (by rfl) ?_
            refine mo_get C0 d_Mo_alias_73 fl_Mo_7 (by rfl) ?_
            refine j_iconst C0 d_Mo_alias_76 (v := 4) (by decide) ?_
            refine j_iload_n C0 d_Mo_alias_77 rfl (by rfl) ?_
            refine j_imul C0 d_Mo_alias_78 ?_
            refine j_aload_n C0 d_Mo_alias_79 rfl (by rfl) ?_
            refine mo_get C0 d_Mo_alias_80 fl_Mo_13 (by rfl) ?_
            refine j_iload_n C0 d_Mo_alias_83 rfl (by rfl) ?_
            refine mo_ld C0 (i := 1) (k := k) d_Mo_alias_84 rfl (by show _ < 8; omega) (by decide) ?_
            rw [hn]
            refine j_iadd C0 d_Mo_alias_85 ?_
            refine j_iload_n C0 d_Mo_alias_86 rfl (by rfl) ?_
            refine mo_st C0 (i := 0) (k := 4 * k + n) d_Mo_alias_87 (by simp only [jn0, jn1, jn2, jn3, jn4, jn8, jn12, jn13, jn14, jn15, jn16, pk_mul, nI_add]) (by show _ < 32; omega) (by decide) ?_
            refine j_aload_n C0 d_Mo_alias_88 rfl (by rfl) ?_
            refine mo_get C0 d_Mo_alias_89 fl_Mo_13 (by rfl) ?_
            refine j_iload_n C0 d_Mo_alias_92 rfl (by rfl) ?_
            refine j_dup2_11 C0 d_Mo_alias_93 rfl rfl ?_
            refine mo_ld C0 (i := 1) (k := k) d_Mo_alias_94 rfl (by show _ < 8; omega) (by decide) ?_
            rw [show va_up A 0 (upd (A 0) (4 * k + n) (nI u)) 1 k = nI n from hn]
            refine j_iconst C0 d_Mo_alias_95 (v := 1) (by decide) ?_
            refine j_iadd C0 d_Mo_alias_96 ?_
            rw [nI_1]
            refine mo_st C0 (i := 1) (k := k) d_Mo_alias_97 rfl (by show _ < 8; omega) (by decide) ?_
            refine j_aload_n C0 d_Mo_alias_98 rfl (by rfl) ?_
            refine mo_get C0 d_Mo_alias_99 fl_Mo_13 (by rfl) ?_
            refine j_iload_n C0 d_Mo_alias_102 rfl (by rfl) ?_
            refine mo_ld C0 (i := 1) (k := k) d_Mo_alias_103 rfl (by show _ < 8; omega) (by decide) ?_
            exact j_iret C0 d_Mo_alias_104 rfl (by omega) (by omega) (Or.inr ⟨fun ⟨j, hj, e⟩ => hI j hj e, h4, by rw [va_up_self]; exact congrArg (fun z => some (Value.int z)) pk_us, rfl, rfl⟩)
          · refine j_sipush C0 d_Mo_alias_68 (v := -452) (by decide) ?_
            exact j_iret C0 d_Mo_alias_71 rfl (by omega) (by omega) (Or.inl ⟨Or.inr ((nI_eq (b := 4) (by omega) (by decide)).mp c_65), rfl, rfl, rfl⟩)
        · exact absurd (nI_le (Nat.le_refl _) (by omega)) c_31
    · exact absurd rfl c_15
set_option maxHeartbeats 4000000 in
set_option maxRecDepth 100000 in
theorem c_Mo_unalias_bad (l : Launch) (E : jE) {h0 : jH} {sz c : Nat} {A : moA} {w : Nat → Int32} (p : Int32) (hbad : ¬ (¬ p < 0 ∧ ¬ 8 ≤ p)) : jC l M_Mo_unalias 1 E [.ref c, .int p] (moH E h0 c A w) sz 0 0 (fun r h' sz' => r = some (.int (-501)) ∧ h' = moH E h0 c A w ∧ sz' = sz) := by
  refine jC.of (by decide) (Nat.le_of_ble_eq_true rfl) ?_
  intro x C0 hx
  subst hx

  refine j_iload_n C0 d_Mo_unalias_0 rfl (by rfl) ?_
  refine j_bipush C0 d_Mo_unalias_1 (v := 7) (by decide) ?_
  refine j_callS C0 d_Mo_unalias_3 cl_Mo_63 cl_Mo_63v (c_Mo_out _ E p 7 (N := 8) (by decide)) rfl rfl ⟨by decide, by decide⟩ ⟨by omega, by omega⟩ (Nat.le_of_ble_eq_true rfl) (fun r_ h_ z_ hp_ => ?_)
  obtain ⟨rfl, rfl, rfl⟩ := hp_
  refine j_if_eq C0 d_Mo_unalias_6 (tgt := 13) (by decide) (fun c_6 => ?_) (fun c_6 => ?_)
  · exact absurd c_6 (by rw [jb_y hbad]; decide)
  · refine j_sipush C0 d_Mo_unalias_9 (v := -501) (by decide) ?_
    exact j_iret C0 d_Mo_unalias_12 rfl (by omega) (by omega) (⟨rfl, rfl, rfl⟩)
set_option maxHeartbeats 4000000 in
set_option maxRecDepth 100000 in
theorem c_Mo_unalias (l : Launch) (E : jE) {h0 : jH} {sz c : Nat} {A : moA} {w : Nat → Int32} {k : Nat} (hk : k < 8) : jC l M_Mo_unalias 1 E [.ref c, .int (nI k)] (moH E h0 c A w) sz 0 0 (fun r h' sz' => r = some (.int (A 1 k)) ∧ h' = moH E h0 c (va_up A 1 (upd (A 1) k 0)) w ∧ sz' = sz) := by
  refine jC.of (by decide) (Nat.le_of_ble_eq_true rfl) ?_
  intro x C0 hx
  subst hx

  refine j_iload_n C0 d_Mo_unalias_0 rfl (by rfl) ?_
  refine j_bipush C0 d_Mo_unalias_1 (v := 7) (by decide) ?_
  refine j_callS C0 d_Mo_unalias_3 cl_Mo_63 cl_Mo_63v (c_Mo_out _ E (nI k) 7 (N := 8) (by decide)) rfl rfl ⟨by decide, by decide⟩ ⟨by omega, by omega⟩ (Nat.le_of_ble_eq_true rfl) (fun r_ h_ z_ hp_ => ?_)
  obtain ⟨rfl, rfl, rfl⟩ := hp_
  rw [jb_n (okR' (N := 8) hk (by decide) rfl)]
  refine j_if_eq C0 d_Mo_unalias_6 (tgt := 13) (by decide) (fun c_6 => ?_) (fun c_6 => ?_)
  · refine j_aload_n C0 d_Mo_unalias_13 rfl (by rfl) ?_
    refine mo_get C0 d_Mo_unalias_14 fl_Mo_13 (by rfl) ?_
    refine j_iload_n C0 d_Mo_unalias_17 rfl (by rfl) ?_
    refine mo_ld C0 (i := 1) (k := k) d_Mo_unalias_18 rfl (by show _ < 8; omega) (by decide) ?_
    refine j_istore_n C0 d_Mo_unalias_19 rfl (Nat.le_of_ble_eq_true rfl) ?_
    refine j_aload_n C0 d_Mo_unalias_20 rfl (by rfl) ?_
    refine mo_get C0 d_Mo_unalias_21 fl_Mo_13 (by rfl) ?_
    refine j_iload_n C0 d_Mo_unalias_24 rfl (by rfl) ?_
    refine j_iconst C0 d_Mo_unalias_25 (v := 0) (by decide) ?_
    refine mo_st C0 (i := 1) (k := k) d_Mo_unalias_26 rfl (by show _ < 8; omega) (by decide) ?_
    refine j_iload_n C0 d_Mo_unalias_27 rfl (by rfl) ?_
    exact j_iret C0 d_Mo_unalias_28 rfl (by omega) (by omega) (⟨rfl, rfl, rfl⟩)
  · exact absurd rfl c_6
set_option maxHeartbeats 4000000 in
set_option maxRecDepth 100000 in
theorem c_Mo_host_bad (l : Launch) (E : jE) {h0 : jH} {sz c : Nat} {A : moA} {w : Nat → Int32} (p q : Int32) (hbad : ¬ (¬ p < 0 ∧ ¬ 8 ≤ p) ∨ ¬ (¬ q < 0 ∧ ¬ 3 ≤ q)) : jC l M_Mo_host 1 E [.ref c, .int p, .int q] (moH E h0 c A w) sz 0 0 (fun r h' sz' => r = some (.int (-501)) ∧ h' = moH E h0 c A w ∧ sz' = sz) := by
  refine jC.of (by decide) (Nat.le_of_ble_eq_true rfl) ?_
  intro x C0 hx
  subst hx

  refine j_iload_n C0 d_Mo_host_0 rfl (by rfl) ?_
  refine j_bipush C0 d_Mo_host_1 (v := 7) (by decide) ?_
  refine j_callS C0 d_Mo_host_3 cl_Mo_63 cl_Mo_63v (c_Mo_out _ E p 7 (N := 8) (by decide)) rfl rfl ⟨by decide, by decide⟩ ⟨by omega, by omega⟩ (Nat.le_of_ble_eq_true rfl) (fun r_ h_ z_ hp_ => ?_)
  obtain ⟨rfl, rfl, rfl⟩ := hp_
  refine j_if_ne C0 d_Mo_host_6 (tgt := 17) (by decide) (fun c_6 => ?_) (fun c_6 => ?_)
  · refine j_sipush C0 d_Mo_host_17 (v := -501) (by decide) ?_
    exact j_iret C0 d_Mo_host_20 rfl (by omega) (by omega) (⟨rfl, rfl, rfl⟩)
  · have g1 : ¬ ¬ (¬ p < 0 ∧ ¬ 8 ≤ p) := fun g => by rw [jb_y g] at c_6; exact absurd c_6 (by decide)
    refine j_iload_n C0 d_Mo_host_9 rfl (by rfl) ?_
    refine j_iconst C0 d_Mo_host_10 (v := 2) (by decide) ?_
    refine j_callS C0 d_Mo_host_11 cl_Mo_63 cl_Mo_63v (c_Mo_out _ E q 2 (N := 3) (by decide)) rfl rfl ⟨by decide, by decide⟩ ⟨by omega, by omega⟩ (Nat.le_of_ble_eq_true rfl) (fun r_ h_ z_ hp_ => ?_)
    obtain ⟨rfl, rfl, rfl⟩ := hp_
    refine j_if_eq C0 d_Mo_host_14 (tgt := 21) (by decide) (fun c_14 => ?_) (fun c_14 => ?_)
    · exact absurd c_14 (by rw [jb_y (hbad.resolve_left g1)]; decide)
    · refine j_sipush C0 d_Mo_host_17 (v := -501) (by decide) ?_
      exact j_iret C0 d_Mo_host_20 rfl (by omega) (by omega) (⟨rfl, rfl, rfl⟩)
set_option maxHeartbeats 4000000 in
set_option maxRecDepth 100000 in
theorem c_Mo_host (l : Launch) (E : jE) {h0 : jH} {sz c : Nat} {A : moA} {w : Nat → Int32} {k : Nat} (q : Int32) (hk : k < 8) (hq : ¬ q < 0 ∧ ¬ 3 ≤ q) : jC l M_Mo_host 1 E [.ref c, .int (nI k), .int q] (moH E h0 c A w) sz 0 0 (fun r h' sz' => r = some (.int (A 5 k)) ∧ h' = moH E h0 c (va_up A 5 (upd (A 5) k q)) w ∧ sz' = sz) := by
  refine jC.of (by decide) (Nat.le_of_ble_eq_true rfl) ?_
  intro x C0 hx
  subst hx

  refine j_iload_n C0 d_Mo_host_0 rfl (by rfl) ?_
  refine j_bipush C0 d_Mo_host_1 (v := 7) (by decide) ?_
  refine j_callS C0 d_Mo_host_3 cl_Mo_63 cl_Mo_63v (c_Mo_out _ E (nI k) 7 (N := 8) (by decide)) rfl rfl ⟨by decide, by decide⟩ ⟨by omega, by omega⟩ (Nat.le_of_ble_eq_true rfl) (fun r_ h_ z_ hp_ => ?_)
  obtain ⟨rfl, rfl, rfl⟩ := hp_
  rw [jb_n (okR' (N := 8) hk (by decide) rfl)]
  refine j_if_ne C0 d_Mo_host_6 (tgt := 17) (by decide) (fun c_6 => ?_) (fun c_6 => ?_)
  · exact absurd rfl c_6
  · refine j_iload_n C0 d_Mo_host_9 rfl (by rfl) ?_
    refine j_iconst C0 d_Mo_host_10 (v := 2) (by decide) ?_
    refine j_callS C0 d_Mo_host_11 cl_Mo_63 cl_Mo_63v (c_Mo_out _ E q 2 (N := 3) (by decide)) rfl rfl ⟨by decide, by decide⟩ ⟨by omega, by omega⟩ (Nat.le_of_ble_eq_true rfl) (fun r_ h_ z_ hp_ => ?_)
    obtain ⟨rfl, rfl, rfl⟩ := hp_
    rw [jb_n (not_not_intro hq)]
    refine j_if_eq C0 d_Mo_host_14 (tgt := 21) (by decide) (fun c_14 => ?_) (fun c_14 => ?_)
    · refine j_aload_n C0 d_Mo_host_21 rfl (by rfl) ?_
      refine mo_get C0 d_Mo_host_22 fl_Mo_25 (by rfl) ?_
      refine j_iload_n C0 d_Mo_host_25 rfl (by rfl) ?_
      refine mo_ld C0 (i := 5) (k := k) d_Mo_host_26 rfl (by show _ < 8; omega) (by decide) ?_
      refine j_istore_n C0 d_Mo_host_27 rfl (Nat.le_of_ble_eq_true rfl) ?_
      refine j_aload_n C0 d_Mo_host_28 rfl (by rfl) ?_
      refine mo_get C0 d_Mo_host_29 fl_Mo_25 (by rfl) ?_
      refine j_iload_n C0 d_Mo_host_32 rfl (by rfl) ?_
      refine j_iload_n C0 d_Mo_host_33 rfl (by rfl) ?_
      refine mo_st C0 (i := 5) (k := k) d_Mo_host_34 rfl (by show _ < 8; omega) (by decide) ?_
      refine j_iload_n C0 d_Mo_host_35 rfl (by rfl) ?_
      exact j_iret C0 d_Mo_host_36 rfl (by omega) (by omega) (⟨rfl, rfl, rfl⟩)
    · exact absurd rfl c_14
theorem frI {p : Int32} : (p < -1 ∨ 63 < p) ↔ (¬ p = -1 ∧ ¬ (¬ p < 0 ∧ ¬ 64 ≤ p)) := by
  rw [← Int32.toInt_inj, Int32.lt_iff_toInt_lt, Int32.lt_iff_toInt_lt, Int32.lt_iff_toInt_lt, Int32.le_iff_toInt_le, show (-1 : Int32).toInt = -1 from by decide, show (63 : Int32).toInt = 63 from by decide, show (64 : Int32).toInt = 64 from by decide, show (0 : Int32).toInt = 0 from by decide]
  omega
set_option maxHeartbeats 4000000 in
set_option maxRecDepth 100000 in
theorem c_Mo_from_bad (l : Launch) (E : jE) {h0 : jH} {sz c : Nat} {A : moA} {w : Nat → Int32} (p : Int32) (hbad : ¬ p = -1 ∧ ¬ (¬ p < 0 ∧ ¬ 64 ≤ p)) : jC l M_Mo_from 0 E [.ref c, .int p] (moH E h0 c A w) sz 0 0 (fun r h' sz' => r = some (.int (-501)) ∧ h' = moH E h0 c A w ∧ sz' = sz) := by
  refine jC.of (by decide) (Nat.le_of_ble_eq_true rfl) ?_
  intro x C0 hx
  subst hx

  refine j_iload_n C0 d_Mo_from_0 rfl (by rfl) ?_
  refine j_iconst C0 d_Mo_from_1 (v := -1) (by decide) ?_
  refine j_icmp_lt C0 d_Mo_from_2 (tgt := 11) (by decide) (fun c_2 => ?_) (fun c_2 => ?_)
  · refine j_sipush C0 d_Mo_from_11 (v := -501) (by decide) ?_
    exact j_iret C0 d_Mo_from_14 rfl (by omega) (by omega) (⟨rfl, rfl, rfl⟩)
  · refine j_iload_n C0 d_Mo_from_5 rfl (by rfl) ?_
    refine j_bipush C0 d_Mo_from_6 (v := 63) (by decide) ?_
    refine j_icmp_le C0 d_Mo_from_8 (tgt := 15) (by decide) (fun c_8 => ?_) (fun c_8 => ?_)
    · exact absurd (frI.mpr hbad) (fun g => g.elim c_2 (Int32.not_lt.mpr c_8))
    · refine j_sipush C0 d_Mo_from_11 (v := -501) (by decide) ?_
      exact j_iret C0 d_Mo_from_14 rfl (by omega) (by omega) (⟨rfl, rfl, rfl⟩)
set_option maxHeartbeats 4000000 in
set_option maxRecDepth 100000 in
theorem c_Mo_from (l : Launch) (E : jE) {h0 : jH} {sz c : Nat} {A : moA} {w : Nat → Int32} (p : Int32) (hok : p = -1 ∨ (¬ p < 0 ∧ ¬ 64 ≤ p)) : jC l M_Mo_from 0 E [.ref c, .int p] (moH E h0 c A w) sz 0 0 (fun r h' sz' => r = some (.int 0) ∧ h' = moH E h0 c A (upd (upd (upd w 16 1) 17 p) 19 0) ∧ sz' = sz) := by
  have hok2 : ¬ (p < -1 ∨ 63 < p) := fun g => (frI.mp g).2 (hok.resolve_left (frI.mp g).1)
  refine jC.of (by decide) (Nat.le_of_ble_eq_true rfl) ?_
  intro x C0 hx
  subst hx

  refine j_iload_n C0 d_Mo_from_0 rfl (by rfl) ?_
  refine j_iconst C0 d_Mo_from_1 (v := -1) (by decide) ?_
  refine j_icmp_lt C0 d_Mo_from_2 (tgt := 11) (by decide) (fun c_2 => ?_) (fun c_2 => ?_)
  · exact absurd (Or.inl c_2) hok2
  · refine j_iload_n C0 d_Mo_from_5 rfl (by rfl) ?_
    refine j_bipush C0 d_Mo_from_6 (v := 63) (by decide) ?_
    refine j_icmp_le C0 d_Mo_from_8 (tgt := 15) (by decide) (fun c_8 => ?_) (fun c_8 => ?_)
    · refine j_aload_n C0 d_Mo_from_15 rfl (by rfl) ?_
      refine j_iconst C0 d_Mo_from_16 (v := 1) (by decide) ?_
      refine mo_put C0 d_Mo_from_17 fp_Mo_67 (by decide) rfl (by rfl) (by rfl) ?_
      refine j_aload_n C0 d_Mo_from_20 rfl (by rfl) ?_
      refine j_iload_n C0 d_Mo_from_21 rfl (by rfl) ?_
      refine mo_put C0 d_Mo_from_22 fp_Mo_71 (by decide) rfl (by rfl) (by rfl) ?_
      refine j_aload_n C0 d_Mo_from_25 rfl (by rfl) ?_
      refine j_iconst C0 d_Mo_from_26 (v := 0) (by decide) ?_
      refine mo_put C0 d_Mo_from_27 fp_Mo_74 (by decide) rfl (by rfl) (by rfl) ?_
      refine j_iconst C0 d_Mo_from_30 (v := 0) (by decide) ?_
      exact j_iret C0 d_Mo_from_31 rfl (by omega) (by omega) (⟨rfl, rfl, rfl⟩)
    · exact absurd (Or.inr (Int32.not_le.mp c_8)) hok2
theorem foI {p : Int32} : (p < 1 ∨ 7 < p) ↔ ¬ (¬ p = 0 ∧ ¬ p < 0 ∧ ¬ 8 ≤ p) := by
  rw [← Int32.toInt_inj, Int32.lt_iff_toInt_lt, Int32.lt_iff_toInt_lt, Int32.lt_iff_toInt_lt, Int32.le_iff_toInt_le, show (1 : Int32).toInt = 1 from by decide, show (7 : Int32).toInt = 7 from by decide, show (8 : Int32).toInt = 8 from by decide, show (0 : Int32).toInt = 0 from by decide]
  omega
set_option maxHeartbeats 4000000 in
set_option maxRecDepth 100000 in
theorem c_Mo_unroute_bad (l : Launch) (E : jE) {h0 : jH} {sz c : Nat} {A : moA} {w : Nat → Int32} (p : Int32) (hbad : ¬ (¬ p = 0 ∧ ¬ p < 0 ∧ ¬ 8 ≤ p)) : jC l M_Mo_unroute 0 E [.ref c, .int p] (moH E h0 c A w) sz 0 0 (fun r h' sz' => r = some (.int (-501)) ∧ h' = moH E h0 c A w ∧ sz' = sz) := by
  refine jC.of (by decide) (Nat.le_of_ble_eq_true rfl) ?_
  intro x C0 hx
  subst hx

  refine j_iload_n C0 d_Mo_unroute_0 rfl (by rfl) ?_
  refine j_iconst C0 d_Mo_unroute_1 (v := 1) (by decide) ?_
  refine j_icmp_lt C0 d_Mo_unroute_2 (tgt := 11) (by decide) (fun c_2 => ?_) (fun c_2 => ?_)
  · refine j_sipush C0 d_Mo_unroute_11 (v := -501) (by decide) ?_
    exact j_iret C0 d_Mo_unroute_14 rfl (by omega) (by omega) (⟨rfl, rfl, rfl⟩)
  · refine j_iload_n C0 d_Mo_unroute_5 rfl (by rfl) ?_
    refine j_bipush C0 d_Mo_unroute_6 (v := 7) (by decide) ?_
    refine j_icmp_le C0 d_Mo_unroute_8 (tgt := 15) (by decide) (fun c_8 => ?_) (fun c_8 => ?_)
    · exact absurd (foI.mpr hbad) (fun g => g.elim c_2 (Int32.not_lt.mpr c_8))
    · refine j_sipush C0 d_Mo_unroute_11 (v := -501) (by decide) ?_
      exact j_iret C0 d_Mo_unroute_14 rfl (by omega) (by omega) (⟨rfl, rfl, rfl⟩)
set_option maxHeartbeats 4000000 in
set_option maxRecDepth 100000 in
theorem c_Mo_unroute (l : Launch) (E : jE) {h0 : jH} {sz c : Nat} {A : moA} {w : Nat → Int32} {k : Nat} (hk : k < 8) (h0k : 0 < k) : jC l M_Mo_unroute 0 E [.ref c, .int (nI k)] (moH E h0 c A w) sz 0 0 (fun r h' sz' => r = some (.int (A 4 k)) ∧ h' = moH E h0 c (va_up A 4 (upd (A 4) k 0)) w ∧ sz' = sz) := by
  have hok2 : ¬ (nI k < 1 ∨ 7 < nI k) := fun g => foI.mp g (okF hk h0k)
  refine jC.of (by decide) (Nat.le_of_ble_eq_true rfl) ?_
  intro x C0 hx
  subst hx

  refine j_iload_n C0 d_Mo_unroute_0 rfl (by rfl) ?_
  refine j_iconst C0 d_Mo_unroute_1 (v := 1) (by decide) ?_
  refine j_icmp_lt C0 d_Mo_unroute_2 (tgt := 11) (by decide) (fun c_2 => ?_) (fun c_2 => ?_)
  · exact absurd (Or.inl c_2) hok2
  · refine j_iload_n C0 d_Mo_unroute_5 rfl (by rfl) ?_
    refine j_bipush C0 d_Mo_unroute_6 (v := 7) (by decide) ?_
    refine j_icmp_le C0 d_Mo_unroute_8 (tgt := 15) (by decide) (fun c_8 => ?_) (fun c_8 => ?_)
    · refine j_aload_n C0 d_Mo_unroute_15 rfl (by rfl) ?_
      refine mo_get C0 d_Mo_unroute_16 fl_Mo_22 (by rfl) ?_
      refine j_iload_n C0 d_Mo_unroute_19 rfl (by rfl) ?_
      refine mo_ld C0 (i := 4) (k := k) d_Mo_unroute_20 rfl (by show _ < 8; omega) (by decide) ?_
      refine j_istore_n C0 d_Mo_unroute_21 rfl (Nat.le_of_ble_eq_true rfl) ?_
      refine j_aload_n C0 d_Mo_unroute_22 rfl (by rfl) ?_
      refine mo_get C0 d_Mo_unroute_23 fl_Mo_22 (by rfl) ?_
      refine j_iload_n C0 d_Mo_unroute_26 rfl (by rfl) ?_
      refine j_iconst C0 d_Mo_unroute_27 (v := 0) (by decide) ?_
      refine mo_st C0 (i := 4) (k := k) d_Mo_unroute_28 rfl (by show _ < 8; omega) (by decide) ?_
      refine j_iload_n C0 d_Mo_unroute_29 rfl (by rfl) ?_
      exact j_iret C0 d_Mo_unroute_30 rfl (by omega) (by omega) (⟨rfl, rfl, rfl⟩)
    · exact absurd (Or.inr (Int32.not_le.mp c_8)) hok2
set_option maxHeartbeats 4000000 in
set_option maxRecDepth 100000 in
theorem c_Mo_route_bad (l : Launch) (E : jE) {h0 : jH} {sz c : Nat} {A : moA} {w : Nat → Int32} (p q s : Int32) (hbad : ¬ (¬ p = 0 ∧ ¬ p < 0 ∧ ¬ 8 ≤ p) ∨ ¬ (¬ q < 0 ∧ ¬ 8 ≤ q) ∨ ¬ (¬ s < 0 ∧ ¬ 100 ≤ s)) : jC l M_Mo_route 1 E [.ref c, .int p, .int q, .int s] (moH E h0 c A w) sz 0 0 (fun r h' sz' => r = some (.int (-501)) ∧ h' = moH E h0 c A w ∧ sz' = sz) := by
  refine jC.of (by decide) (Nat.le_of_ble_eq_true rfl) ?_
  intro x C0 hx
  subst hx

  refine j_iload_n C0 d_Mo_route_0 rfl (by rfl) ?_
  refine j_iconst C0 d_Mo_route_1 (v := 1) (by decide) ?_
  refine j_icmp_lt C0 d_Mo_route_2 (tgt := 29) (by decide) (fun c_2 => ?_) (fun c_2 => ?_)
  · refine j_sipush C0 d_Mo_route_29 (v := -501) (by decide) ?_
    exact j_iret C0 d_Mo_route_32 rfl (by omega) (by omega) (⟨rfl, rfl, rfl⟩)
  · refine j_iload_n C0 d_Mo_route_5 rfl (by rfl) ?_
    refine j_bipush C0 d_Mo_route_6 (v := 7) (by decide) ?_
    refine j_icmp_gt C0 d_Mo_route_8 (tgt := 29) (by decide) (fun c_8 => ?_) (fun c_8 => ?_)
    · refine j_sipush C0 d_Mo_route_29 (v := -501) (by decide) ?_
      exact j_iret C0 d_Mo_route_32 rfl (by omega) (by omega) (⟨rfl, rfl, rfl⟩)
    · have hb2 := hbad.resolve_left (fun g => (foI.mpr g).elim c_2 c_8)
      refine j_iload_n C0 d_Mo_route_11 rfl (by rfl) ?_
      refine j_bipush C0 d_Mo_route_12 (v := 7) (by decide) ?_
      refine j_callS C0 d_Mo_route_14 cl_Mo_63 cl_Mo_63v (c_Mo_out _ E q 7 (N := 8) (by decide)) rfl rfl ⟨by decide, by decide⟩ ⟨by omega, by omega⟩ (Nat.le_of_ble_eq_true rfl) (fun r_ h_ z_ hp_ => ?_)
      obtain ⟨rfl, rfl, rfl⟩ := hp_
      refine j_if_ne C0 d_Mo_route_17 (tgt := 29) (by decide) (fun c_17 => ?_) (fun c_17 => ?_)
      · refine j_sipush C0 d_Mo_route_29 (v := -501) (by decide) ?_
        exact j_iret C0 d_Mo_route_32 rfl (by omega) (by omega) (⟨rfl, rfl, rfl⟩)
      · have g1 : ¬ ¬ (¬ q < 0 ∧ ¬ 8 ≤ q) := fun g => by rw [jb_y g] at c_17; exact absurd c_17 (by decide)
        refine j_iload_n C0 d_Mo_route_20 rfl (by rfl) ?_
        refine j_bipush C0 d_Mo_route_21 (v := 99) (by decide) ?_
        refine j_callS C0 d_Mo_route_23 cl_Mo_63 cl_Mo_63v (c_Mo_out _ E s 99 (N := 100) (by decide)) rfl rfl ⟨by decide, by decide⟩ ⟨by omega, by omega⟩ (Nat.le_of_ble_eq_true rfl) (fun r_ h_ z_ hp_ => ?_)
        obtain ⟨rfl, rfl, rfl⟩ := hp_
        refine j_if_eq C0 d_Mo_route_26 (tgt := 33) (by decide) (fun c_26 => ?_) (fun c_26 => ?_)
        · exact absurd c_26 (by rw [jb_y (hb2.resolve_left g1)]; decide)
        · refine j_sipush C0 d_Mo_route_29 (v := -501) (by decide) ?_
          exact j_iret C0 d_Mo_route_32 rfl (by omega) (by omega) (⟨rfl, rfl, rfl⟩)
set_option maxHeartbeats 4000000 in
set_option maxRecDepth 100000 in
theorem c_Mo_route (l : Launch) (E : jE) {h0 : jH} {sz c : Nat} {A : moA} {w : Nat → Int32} {k u s n : Nat} (hk : k < 8) (h0k : 0 < k) (hu : u < 8) (hs : s < 100) (hn : A 4 k = nI n) (n3 : n ≤ 3) : jC l M_Mo_route 1 E [.ref c, .int (nI k), .int (nI u), .int (nI s)] (moH E h0 c A w) sz 0 0 (fun r h' sz' => (((∃ j, j < n ∧ A 2 (3 * k + j) = nI u) ∨ n = 3) ∧ r = some (.int (-452)) ∧ h' = moH E h0 c A w ∧ sz' = sz) ∨ (¬ (∃ j, j < n ∧ A 2 (3 * k + j) = nI u) ∧ n < 3 ∧ r = some (.int (nI (n + 1))) ∧ h' = moH E h0 c (va_up (va_up (va_up A 2 (upd (A 2) (3 * k + n) (nI u))) 3 (upd (A 3) (3 * k + n) (nI (3 * s + n)))) 4 (upd (A 4) k (nI (n + 1)))) w ∧ sz' = sz)) := by
  have hok2 : ¬ (nI k < 1 ∨ 7 < nI k) := fun g => foI.mp g (okF hk h0k)
  refine jC.of (by decide) (Nat.le_of_ble_eq_true rfl) ?_
  intro x C0 hx
  subst hx

  refine j_iload_n C0 d_Mo_route_0 rfl (by rfl) ?_
  refine j_iconst C0 d_Mo_route_1 (v := 1) (by decide) ?_
  refine j_icmp_lt C0 d_Mo_route_2 (tgt := 29) (by decide) (fun c_2 => ?_) (fun c_2 => ?_)
  · exact absurd (Or.inl c_2) hok2
  · refine j_iload_n C0 d_Mo_route_5 rfl (by rfl) ?_
    refine j_bipush C0 d_Mo_route_6 (v := 7) (by decide) ?_
    refine j_icmp_gt C0 d_Mo_route_8 (tgt := 29) (by decide) (fun c_8 => ?_) (fun c_8 => ?_)
    · exact absurd (Or.inr c_8) hok2
    · refine j_iload_n C0 d_Mo_route_11 rfl (by rfl) ?_
      refine j_bipush C0 d_Mo_route_12 (v := 7) (by decide) ?_
      refine j_callS C0 d_Mo_route_14 cl_Mo_63 cl_Mo_63v (c_Mo_out _ E (nI u) 7 (N := 8) (by decide)) rfl rfl ⟨by decide, by decide⟩ ⟨by omega, by omega⟩ (Nat.le_of_ble_eq_true rfl) (fun r_ h_ z_ hp_ => ?_)
      obtain ⟨rfl, rfl, rfl⟩ := hp_
      rw [jb_n (okR' (N := 8) hu (by decide) rfl)]
      refine j_if_ne C0 d_Mo_route_17 (tgt := 29) (by decide) (fun c_17 => ?_) (fun c_17 => ?_)
      · exact absurd rfl c_17
      · refine j_iload_n C0 d_Mo_route_20 rfl (by rfl) ?_
        refine j_bipush C0 d_Mo_route_21 (v := 99) (by decide) ?_
        refine j_callS C0 d_Mo_route_23 cl_Mo_63 cl_Mo_63v (c_Mo_out _ E (nI s) 99 (N := 100) (by decide)) rfl rfl ⟨by decide, by decide⟩ ⟨by omega, by omega⟩ (Nat.le_of_ble_eq_true rfl) (fun r_ h_ z_ hp_ => ?_)
        obtain ⟨rfl, rfl, rfl⟩ := hp_
        rw [jb_n (okR' (N := 100) hs (by decide) rfl)]
        refine j_if_eq C0 d_Mo_route_26 (tgt := 33) (by decide) (fun c_26 => ?_) (fun c_26 => ?_)
        · refine j_aload_n C0 d_Mo_route_33 rfl (by rfl) ?_
          refine mo_get C0 d_Mo_route_34 fl_Mo_22 (by rfl) ?_
          refine j_iload_n C0 d_Mo_route_37 rfl (by rfl) ?_
          refine mo_ld C0 (i := 4) (k := k) d_Mo_route_38 rfl (by show _ < 8; omega) (by decide) ?_
          rw [hn]
          refine j_istore C0 d_Mo_route_39 (Nat.le_of_ble_eq_true rfl) ?_
          refine j_iconst C0 d_Mo_route_41 (v := 0) (by decide) ?_
          refine j_istore C0 d_Mo_route_42 (Nat.le_of_ble_eq_true rfl) ?_
          refine j_lv (lv' := [(0, .ref c), (1, .int (nI k)), (2, .int (nI u)), (3, .int (nI s)), (4, .int (nI n)), (5, .int (nI 0))]) ⟨rfl, rfl, rfl, rfl, rfl, rfl, trivial⟩ ?_
          refine j_forI n (fun i => ∀ j, j < i → ¬ A 2 (3 * k + j) = nI u) (fun _ => moH E h0 c A w) (fun i => [(0, .ref c), (1, .int (nI k)), (2, .int (nI u)), (3, .int (nI s)), (4, .int (nI n)), (5, .int (nI i))]) ?_ ?_ 0 (Nat.zero_le n) (fun j hj => absurd hj (Nat.not_lt_zero j))
          · intro i hi hI ih
            refine j_iload C0 d_Mo_route_44 (by rfl) ?_
            refine j_iload C0 d_Mo_route_46 (by rfl) ?_
            refine j_icmp_ge C0 d_Mo_route_48 (tgt := 76) (by decide) (fun c_48 => ?_) (fun c_48 => ?_)
            · exact absurd c_48 (nI_ge hi (by omega))
            · refine j_aload_n C0 d_Mo_route_51 rfl (by rfl) ?_
              refine mo_get C0 d_Mo_route_52 fl_Mo_16 (by rfl) ?_
              refine j_iconst C0 d_Mo_route_55 (v := 3) (by decide) ?_
              refine j_iload_n C0 d_Mo_route_56 rfl (by rfl) ?_
              refine j_imul C0 d_Mo_route_57 ?_
              refine j_iload C0 d_Mo_route_58 (by rfl) ?_
              refine j_iadd C0 d_Mo_route_60 ?_
              refine mo_ld C0 (i := 2) (k := 3 * k + i) d_Mo_route_61 (by simp only [jn0, jn1, jn2, jn3, jn4, jn8, jn12, jn13, jn14, jn15, jn16, pk_mul, nI_add]) (by show _ < 24; omega) (by decide) ?_
              refine j_iload_n C0 d_Mo_route_62 rfl (by rfl) ?_
              refine j_icmp_ne C0 d_Mo_route_63 (tgt := 70) (by decide) (fun c_63 => ?_) (fun c_63 => ?_)
              · refine j_iinc C0 d_Mo_route_70 (by rfl) (jinc _) (Nat.le_of_ble_eq_true rfl) ?_
                refine j_goto C0 d_Mo_route_73 (tgt := 44) (by decide) ?_
                exact j_to (ih (fun j hj => by
                    by_cases e : j = i
                    · rw [e]; exact c_63
                    · exact hI j (by omega))) rfl ⟨rfl, rfl, rfl, rfl, rfl, rfl, trivial⟩
              · refine j_sipush C0 d_Mo_route_66 (v := -452) (by decide) ?_
                exact j_iret C0 d_Mo_route_69 rfl (by omega) (by omega) (Or.inl ⟨Or.inl ⟨i, hi, c_63⟩, rfl, rfl, rfl⟩)
          · intro hI
            refine j_iload C0 d_Mo_route_44 (by rfl) ?_
            refine j_iload C0 d_Mo_route_46 (by rfl) ?_
            refine j_icmp_ge C0 d_Mo_route_48 (tgt := 76) (by decide) (fun c_48 => ?_) (fun c_48 => ?_)
            · refine j_iload C0 d_Mo_route_76 (by rfl) ?_
              refine j_iconst C0 d_Mo_route_78 (v := 3) (by decide) ?_
              refine j_icmp_ne C0 d_Mo_route_79 (tgt := 86) (by decide) (fun c_79 => ?_) (fun c_79 => ?_)
              · have h3 : n < 3 := by
                  by_cases e : n = 3
                  · exact absurd (by rw [e]; rfl) c_79
                  · omega
                refine j_aload_n C0 d_Mo_route_86 rfl (by rfl) ?_
                refine mo_get C0 d_Mo_route_87 fl_Mo_16 (by rfl) ?_
                refine j_iconst C0 d_Mo_route_90 (v := 3) (by decide) ?_
                refine j_iload_n C0 d_Mo_route_91 rfl (by rfl) ?_
                refine j_imul C0 d_Mo_route_92 ?_
                refine j_iload C0 d_Mo_route_93 (by rfl) ?_
                refine j_iadd C0 d_Mo_route_95 ?_
                refine j_iload_n C0 d_Mo_route_96 rfl (by rfl) ?_
                refine mo_st C0 (i := 2) (k := 3 * k + n) d_Mo_route_97 (by simp only [jn0, jn1, jn2, jn3, jn4, jn8, jn12, jn13, jn14, jn15, jn16, pk_mul, nI_add]) (by show _ < 24; omega) (by decide) ?_
                refine j_aload_n C0 d_Mo_route_98 rfl (by rfl) ?_
                refine mo_get C0 d_Mo_route_99 fl_Mo_19 (by rfl) ?_
                refine j_iconst C0 d_Mo_route_102 (v := 3) (by decide) ?_
                refine j_iload_n C0 d_Mo_route_103 rfl (by rfl) ?_
                refine j_imul C0 d_Mo_route_104 ?_
                refine j_iload C0 d_Mo_route_105 (by rfl) ?_
                refine j_iadd C0 d_Mo_route_107 ?_
                refine j_iconst C0 d_Mo_route_108 (v := 3) (by decide) ?_
                refine j_iload_n C0 d_Mo_route_109 rfl (by rfl) ?_
                refine j_imul C0 d_Mo_route_110 ?_
                refine j_iload C0 d_Mo_route_111 (by rfl) ?_
                refine j_iadd C0 d_Mo_route_113 ?_
                rw [show (3 : Int32) * nI s + nI n = nI (3 * s + n) from by simp only [jn3, pk_mul, nI_add]]
                refine mo_st C0 (i := 3) (k := 3 * k + n) d_Mo_route_114 (by simp only [jn0, jn1, jn2, jn3, jn4, jn8, jn12, jn13, jn14, jn15, jn16, pk_mul, nI_add]) (by show _ < 24; omega) (by decide) ?_
                refine j_aload_n C0 d_Mo_route_115 rfl (by rfl) ?_
                refine mo_get C0 d_Mo_route_116 fl_Mo_22 (by rfl) ?_
                refine j_iload_n C0 d_Mo_route_119 rfl (by rfl) ?_
                refine j_iload C0 d_Mo_route_120 (by rfl) ?_
                refine j_iconst C0 d_Mo_route_122 (v := 1) (by decide) ?_
                refine j_iadd C0 d_Mo_route_123 ?_
                rw [nI_1]
                refine mo_st C0 (i := 4) (k := k) d_Mo_route_124 rfl (by show _ < 8; omega) (by decide) ?_
                refine j_iload C0 d_Mo_route_125 (by rfl) ?_
                refine j_iconst C0 d_Mo_route_127 (v := 1) (by decide) ?_
                refine j_iadd C0 d_Mo_route_128 ?_
                rw [nI_1]
                exact j_iret C0 d_Mo_route_129 rfl (by omega) (by omega) (Or.inr ⟨fun ⟨j, hj, e⟩ => hI j hj e, h3, rfl, rfl, rfl⟩)
              · refine j_sipush C0 d_Mo_route_82 (v := -452) (by decide) ?_
                exact j_iret C0 d_Mo_route_85 rfl (by omega) (by omega) (Or.inl ⟨Or.inr ((nI_eq (b := 3) (by omega) (by decide)).mp c_79), rfl, rfl, rfl⟩)
            · exact absurd (nI_le (Nat.le_refl _) (by omega)) c_48
        · exact absurd rfl c_26
