/-- the routes of one domain: sorted in the class, in order of entry in the reference -/
def RDo (r : jRt) (A : moA) (d : Nat) : Prop := r.1 ≤ 3 ∧ A 4 d = nI r.1 ∧ ∃ σ P : Nat → Nat, (∀ i, i < r.1 → σ i < r.1 ∧ r.2.1 i = A 2 (3 * d + σ i) ∧ r.2.2 i = nI (P i) ∧ P i < 100 ∧ A 3 (3 * d + σ i) = nI (3 * P i + σ i)) ∧ (∀ i j, i < j → j < r.1 → 3 * P i + σ i < 3 * P j + σ j) ∧ ∀ k, k < r.1 → ∃ i, i < r.1 ∧ σ i = k
def bsO (key : Nat → Nat) (B : Nat) : Nat → Option Nat
  | 0 => none
  | k + 1 => match bsO key B k with
    | none => if B ≤ key k then some k else none
    | some b => if B ≤ key k ∧ key k < key b then some k else some b
def obI (d : Nat) : Option Nat → Int32
  | none => -1
  | some b => nI (3 * d + b)
def kbf (key σ : Nat → Nat) : Nat → Nat
  | 0 => 0
  | t + 1 => key (σ t) + 1
def bf : Nat → Int32
  | 0 => -1
  | B + 1 => nI B
theorem bf_le {k B : Nat} (hk : k < 1000) (hB : B ≤ 1000) : nI k ≤ bf B ↔ k < B := by
  cases B with
  | zero =>
    constructor
    · intro h
      rw [Int32.le_iff_toInt_le, nI_toInt (by omega), show (bf 0).toInt = -1 from by decide] at h
      omega
    · intro h; omega
  | succ B =>
    show nI k ≤ nI B ↔ _
    rw [nI_leI (by omega) (by omega)]
    omega
theorem bsO_spec (key : Nat → Nat) (B : Nat) : ∀ m, (bsO key B m = none ∧ ∀ k, k < m → key k < B) ∨ ∃ b, bsO key B m = some b ∧ b < m ∧ B ≤ key b ∧ ∀ k, k < m → B ≤ key k → key b ≤ key k
  | 0 => Or.inl ⟨rfl, fun k hk => absurd hk (Nat.not_lt_zero k)⟩
  | m + 1 => by
    rcases bsO_spec key B m with ⟨h1, h2⟩ | ⟨b, h1, h2, h3, h4⟩
    · by_cases h : B ≤ key m
      · refine Or.inr ⟨m, by simp [bsO, h1, h], by omega, h, fun k hk hB => ?_⟩
        by_cases e : k = m
        · rw [e]; exact Nat.le_refl _
        · exact absurd (h2 k (by omega)) (by omega)
      · refine Or.inl ⟨by simp [bsO, h1, h], fun k hk => ?_⟩
        by_cases e : k = m
        · rw [e]; omega
        · exact h2 k (by omega)
    · by_cases h : B ≤ key m ∧ key m < key b
      · refine Or.inr ⟨m, by simp [bsO, h1, h], by omega, h.1, fun k hk hB => ?_⟩
        by_cases e : k = m
        · rw [e]; exact Nat.le_refl _
        · have := h4 k (by omega) hB; omega
      · refine Or.inr ⟨b, by simp only [bsO, h1, if_neg h], by omega, h3, fun k hk hB => ?_⟩
        by_cases e : k = m
        · subst e; omega
        · exact h4 k (by omega) hB
theorem bsO_end {key σ : Nat → Nat} {n t : Nat} (ht : t < n) (h1 : ∀ i, i < n → σ i < n) (h2 : ∀ i j, i < j → j < n → key (σ i) < key (σ j)) (h3 : ∀ k, k < n → ∃ i, i < n ∧ σ i = k) : bsO key (kbf key σ t) n = some (σ t) := by
  have hB : kbf key σ t ≤ key (σ t) := by
    cases t with
    | zero => exact Nat.zero_le _
    | succ t => exact h2 t (t + 1) (by omega) ht
  rcases bsO_spec key (kbf key σ t) n with ⟨_, g2⟩ | ⟨b, g1, g2, g3, g4⟩
  · exact absurd (g2 (σ t) (h1 t ht)) (by omega)
  · obtain ⟨i, hi, rfl⟩ := h3 b g2
    have g5 := g4 (σ t) (h1 t ht) hB
    rw [g1]
    by_cases hlt : i < t
    · exfalso
      cases t with
      | zero => omega
      | succ t =>
        have g6 : key (σ t) + 1 ≤ key (σ i) := g3
        by_cases e : i = t
        · rw [e] at g6; omega
        · have := h2 i t (by omega) (by omega); omega
    · by_cases e : i = t
      · rw [e]
      · have := h2 t i (by omega) hi; omega
def cyI : Int32 × Option Nat → Int32
  | (_, some x) => nI x
  | (v, none) => if v = 3 then 8 else 9
abbrev cyF (r : jRt) (hs : Nat → Int32) : Int32 × Option Nat := if r.1 = 0 then (3, none) else cyR r.2.1 hs 0 r.1
set_option maxHeartbeats 4000000 in
set_option maxRecDepth 100000 in
theorem c_Mo_carrier (l : Launch) (E : jE) {h0 : jH} {sz c : Nat} {A : moA} {w : Nat → Int32} {d : Nat} {r0 : jRt} {hs : Nat → Int32} (hd : d < 8) (hD : RDo r0 A d) (hw : ∀ i, i < r0.1 → ∃ k, k < 8 ∧ r0.2.1 i = nI k) (hh : ∀ k, k < 8 → A 5 k = hs k) : jC l M_Mo_carrier 0 E [.ref c, .int (nI d)] (moH E h0 c A w) sz 0 0 (fun r h' sz' => r = some (.int (cyI (cyF r0 hs))) ∧ h' = moH E h0 c A w ∧ sz' = sz) := by
  obtain ⟨n3, hn, σ, P, hs1, hs2, hs3⟩ := hD
  have hkey : ∀ i, i < r0.1 → (A 3 (3 * d + σ i)).toNatClampNeg = 3 * P i + σ i := fun i hi => by rw [(hs1 i hi).2.2.2.2]; exact nI_clamp (by have := hs1 i hi; omega)
  obtain ⟨key, hke⟩ : ∃ key : Nat → Nat, key = fun k => (A 3 (3 * d + k)).toNatClampNeg := ⟨_, rfl⟩
  have hk1 : ∀ k, k < r0.1 → A 3 (3 * d + k) = nI (key k) ∧ key k < 1000 := fun k hk => by
    obtain ⟨i, hi, rfl⟩ := hs3 k hk
    rw [hke]
    show _ = nI (A 3 (3 * d + σ i)).toNatClampNeg ∧ (A 3 (3 * d + σ i)).toNatClampNeg < 1000
    rw [hkey i hi]
    exact ⟨(hs1 i hi).2.2.2.2, by have := hs1 i hi; omega⟩
  have hk2 : ∀ i j, i < j → j < r0.1 → key (σ i) < key (σ j) := fun i j hij hj => by
    rw [hke]
    show (A 3 (3 * d + σ i)).toNatClampNeg < (A 3 (3 * d + σ j)).toNatClampNeg
    rw [hkey i (by omega), hkey j hj]
    exact hs2 i j hij hj
  have hB : ∀ t, t ≤ r0.1 → kbf key σ t ≤ 1000 := fun t ht => by
    cases t with
    | zero => exact Nat.zero_le _
    | succ t => have := (hk1 (σ t) (hs1 t (by omega)).1).2; show key (σ t) + 1 ≤ 1000; omega
  refine jC.of (by decide) (Nat.le_of_ble_eq_true rfl) ?_
  intro x C0 hx
  subst hx

  refine j_aload_n C0 d_Mo_carrier_0 rfl (by rfl) ?_
  refine mo_get C0 d_Mo_carrier_1 fl_Mo_22 (by rfl) ?_
  refine j_iload_n C0 d_Mo_carrier_4 rfl (by rfl) ?_
  refine mo_ld C0 (i := 4) (k := d) d_Mo_carrier_5 rfl (by show _ < 8; omega) (by decide) ?_
  rw [hn]
  refine j_if_ne C0 d_Mo_carrier_6 (tgt := 12) (by decide) (fun c_6 => ?_) (fun c_6 => ?_)
  · have hn0 : ¬ r0.1 = 0 := fun g => c_6 (by rw [g]; rfl)
    refine j_iconst C0 d_Mo_carrier_12 (v := -1) (by decide) ?_
    refine j_istore_n C0 d_Mo_carrier_13 rfl (Nat.le_of_ble_eq_true rfl) ?_
    refine j_iconst C0 d_Mo_carrier_14 (v := 0) (by decide) ?_
    refine j_istore_n C0 d_Mo_carrier_15 rfl (Nat.le_of_ble_eq_true rfl) ?_
    refine j_lv (lv' := [(0, .ref c), (1, .int (nI d)), (2, .int (bf (kbf key σ 0))), (3, .int (nI 0))]) ⟨rfl, rfl, rfl, rfl, trivial⟩ ?_
    refine j_forI r0.1 (fun t => cyR r0.2.1 hs 0 r0.1 = cyR r0.2.1 hs t (r0.1 - t)) (fun _ => moH E h0 c A w) (fun t => [(0, .ref c), (1, .int (nI d)), (2, .int (bf (kbf key σ t))), (3, .int (nI t))]) ?_ ?_ 0 (Nat.zero_le _) rfl
    · intro t ht hI iht
      have hst := (hs1 t ht).1
      obtain ⟨x, hx8, ex⟩ := hw t ht
      have hx0 : (r0.2.1 t).toNatClampNeg = x := by rw [ex]; exact nI_clamp (by omega)
      refine j_iload_n C0 d_Mo_carrier_16 rfl (by rfl) ?_
      refine j_aload_n C0 d_Mo_carrier_17 rfl (by rfl) ?_
      refine mo_get C0 d_Mo_carrier_18 fl_Mo_22 (by rfl) ?_
      refine j_iload_n C0 d_Mo_carrier_21 rfl (by rfl) ?_
      refine mo_ld C0 (i := 4) (k := d) d_Mo_carrier_22 rfl (by show _ < 8; omega) (by decide) ?_
      rw [hn]
      refine j_icmp_ge C0 d_Mo_carrier_23 (tgt := 142) (by decide) (fun c_23 => ?_) (fun c_23 => ?_)
      · exact absurd c_23 (nI_ge ht (by omega))
      · refine j_iconst C0 d_Mo_carrier_26 (v := -1) (by decide) ?_
        refine j_istore C0 d_Mo_carrier_27 (Nat.le_of_ble_eq_true rfl) ?_
        refine j_iconst C0 d_Mo_carrier_29 (v := 3) (by decide) ?_
        refine j_iload_n C0 d_Mo_carrier_30 rfl (by rfl) ?_
        refine j_imul C0 d_Mo_carrier_31 ?_
        rw [show (3 : Int32) * nI d = nI (3 * d + 0) from pk_mul 3 d]
        refine j_istore C0 d_Mo_carrier_32 (Nat.le_of_ble_eq_true rfl) ?_
        refine j_lv (lv' := [(0, .ref c), (1, .int (nI d)), (2, .int (bf (kbf key σ t))), (3, .int (nI t)), (4, .int (obI d (bsO key (kbf key σ t) 0))), (5, .int (nI (3 * d + 0)))]) ⟨rfl, rfl, rfl, rfl, rfl, rfl, trivial⟩ ?_
        refine j_for r0.1 (fun _ => moH E h0 c A w) (fun k => [(0, .ref c), (1, .int (nI d)), (2, .int (bf (kbf key σ t))), (3, .int (nI t)), (4, .int (obI d (bsO key (kbf key σ t) k))), (5, .int (nI (3 * d + k)))]) ?_ ?_ 0 (Nat.zero_le _)
        · intro k hk ih
          rcases bsO_spec key (kbf key σ t) k with ⟨hb, _⟩ | ⟨b, hb, hbk, _, _⟩
          · rw [hb]
            refine j_iload C0 d_Mo_carrier_34 (by rfl) ?_
            refine j_iconst C0 d_Mo_carrier_36 (v := 3) (by decide) ?_
            refine j_iload_n C0 d_Mo_carrier_37 rfl (by rfl) ?_
            refine j_imul C0 d_Mo_carrier_38 ?_
            refine j_aload_n C0 d_Mo_carrier_39 rfl (by rfl) ?_
            refine mo_get C0 d_Mo_carrier_40 fl_Mo_22 (by rfl) ?_
            refine j_iload_n C0 d_Mo_carrier_43 rfl (by rfl) ?_
            refine mo_ld C0 (i := 4) (k := d) d_Mo_carrier_44 rfl (by show _ < 8; omega) (by decide) ?_
            rw [hn]
            refine j_iadd C0 d_Mo_carrier_45 ?_
            rw [show (3 : Int32) * nI d + nI r0.1 = nI (3 * d + r0.1) from by simp only [jn3, pk_mul, nI_add]]
            refine j_icmp_ge C0 d_Mo_carrier_46 (tgt := 92) (by decide) (fun c_46 => ?_) (fun c_46 => ?_)
            · exact absurd c_46 (nI_ge (a := 3 * d + k) (b := 3 * d + r0.1) (by omega) (by omega))
            · refine j_aload_n C0 d_Mo_carrier_49 rfl (by rfl) ?_
              refine mo_get C0 d_Mo_carrier_50 fl_Mo_19 (by rfl) ?_
              refine j_iload C0 d_Mo_carrier_53 (by rfl) ?_
              refine mo_ld C0 (i := 3) (k := 3 * d + k) d_Mo_carrier_55 (by simp only [jn0, jn1, jn2, jn3, jn4, jn8, jn12, jn13, jn14, jn15, jn16, pk_mul, nI_add]) (by show _ < 24; omega) (by decide) ?_
              rw [(hk1 k hk).1]
              refine j_iload_n C0 d_Mo_carrier_56 rfl (by rfl) ?_
              refine j_icmp_le C0 d_Mo_carrier_57 (tgt := 86) (by decide) (fun c_57 => ?_) (fun c_57 => ?_)
              · have g : ¬ kbf key σ t ≤ key k := by have := (bf_le (hk1 k hk).2 (hB t (by omega))).mp c_57; omega
                have hbs : bsO key (kbf key σ t) (k + 1) = none := by simp [bsO, hb, g]
                refine j_iinc C0 d_Mo_carrier_86 (by rfl) (jinc _) (Nat.le_of_ble_eq_true rfl) ?_
                refine j_goto C0 d_Mo_carrier_89 (tgt := 34) (by decide) ?_
                rw [hbs] at ih
                exact j_to ih rfl ⟨rfl, rfl, rfl, rfl, rfl, rfl, trivial⟩
              · have g : kbf key σ t ≤ key k := Nat.le_of_not_lt (fun q => c_57 ((bf_le (hk1 k hk).2 (hB t (by omega))).mpr q))
                refine j_iload C0 d_Mo_carrier_60 (by rfl) ?_
                refine j_if_lt C0 d_Mo_carrier_62 (tgt := 82) (by decide) (fun c_62 => ?_) (fun c_62 => ?_)
                · have hbs : bsO key (kbf key σ t) (k + 1) = some k := by simp [bsO, hb, g]
                  refine j_iload C0 d_Mo_carrier_82 (by rfl) ?_
                  refine j_istore C0 d_Mo_carrier_84 (Nat.le_of_ble_eq_true rfl) ?_
                  refine j_iinc C0 d_Mo_carrier_86 (by rfl) (jinc _) (Nat.le_of_ble_eq_true rfl) ?_
                  refine j_goto C0 d_Mo_carrier_89 (tgt := 34) (by decide) ?_
                  rw [hbs] at ih
                  exact j_to ih rfl ⟨rfl, rfl, rfl, rfl, rfl, rfl, trivial⟩
                · exact absurd (show (-1 : Int32) < 0 by decide) c_62
          · rw [hb]
            refine j_iload C0 d_Mo_carrier_34 (by rfl) ?_
            refine j_iconst C0 d_Mo_carrier_36 (v := 3) (by decide) ?_
            refine j_iload_n C0 d_Mo_carrier_37 rfl (by rfl) ?_
            refine j_imul C0 d_Mo_carrier_38 ?_
            refine j_aload_n C0 d_Mo_carrier_39 rfl (by rfl) ?_
            refine mo_get C0 d_Mo_carrier_40 fl_Mo_22 (by rfl) ?_
            refine j_iload_n C0 d_Mo_carrier_43 rfl (by rfl) ?_
            refine mo_ld C0 (i := 4) (k := d) d_Mo_carrier_44 rfl (by show _ < 8; omega) (by decide) ?_
            rw [hn]
            refine j_iadd C0 d_Mo_carrier_45 ?_
            rw [show (3 : Int32) * nI d + nI r0.1 = nI (3 * d + r0.1) from by simp only [jn3, pk_mul, nI_add]]
            refine j_icmp_ge C0 d_Mo_carrier_46 (tgt := 92) (by decide) (fun c_46 => ?_) (fun c_46 => ?_)
            · exact absurd c_46 (nI_ge (a := 3 * d + k) (b := 3 * d + r0.1) (by omega) (by omega))
            · refine j_aload_n C0 d_Mo_carrier_49 rfl (by rfl) ?_
              refine mo_get C0 d_Mo_carrier_50 fl_Mo_19 (by rfl) ?_
              refine j_iload C0 d_Mo_carrier_53 (by rfl) ?_
              refine mo_ld C0 (i := 3) (k := 3 * d + k) d_Mo_carrier_55 (by simp only [jn0, jn1, jn2, jn3, jn4, jn8, jn12, jn13, jn14, jn15, jn16, pk_mul, nI_add]) (by show _ < 24; omega) (by decide) ?_
              rw [(hk1 k hk).1]
              refine j_iload_n C0 d_Mo_carrier_56 rfl (by rfl) ?_
              refine j_icmp_le C0 d_Mo_carrier_57 (tgt := 86) (by decide) (fun c_57 => ?_) (fun c_57 => ?_)
              · have g : ¬ kbf key σ t ≤ key k := by have := (bf_le (hk1 k hk).2 (hB t (by omega))).mp c_57; omega
                have hbs : bsO key (kbf key σ t) (k + 1) = some b := by simp [bsO, hb, g]
                refine j_iinc C0 d_Mo_carrier_86 (by rfl) (jinc _) (Nat.le_of_ble_eq_true rfl) ?_
                refine j_goto C0 d_Mo_carrier_89 (tgt := 34) (by decide) ?_
                rw [hbs] at ih
                exact j_to ih rfl ⟨rfl, rfl, rfl, rfl, rfl, rfl, trivial⟩
              · have g : kbf key σ t ≤ key k := Nat.le_of_not_lt (fun q => c_57 ((bf_le (hk1 k hk).2 (hB t (by omega))).mpr q))
                refine j_iload C0 d_Mo_carrier_60 (by rfl) ?_
                refine j_if_lt C0 d_Mo_carrier_62 (tgt := 82) (by decide) (fun c_62 => ?_) (fun c_62 => ?_)
                · exact absurd c_62 (nI_pos (n := 3 * d + b) (by omega))
                · refine j_aload_n C0 d_Mo_carrier_65 rfl (by rfl) ?_
                  refine mo_get C0 d_Mo_carrier_66 fl_Mo_19 (by rfl) ?_
                  refine j_iload C0 d_Mo_carrier_69 (by rfl) ?_
                  refine mo_ld C0 (i := 3) (k := 3 * d + k) d_Mo_carrier_71 (by simp only [jn0, jn1, jn2, jn3, jn4, jn8, jn12, jn13, jn14, jn15, jn16, pk_mul, nI_add]) (by show _ < 24; omega) (by decide) ?_
                  rw [(hk1 k hk).1]
                  refine j_aload_n C0 d_Mo_carrier_72 rfl (by rfl) ?_
                  refine mo_get C0 d_Mo_carrier_73 fl_Mo_19 (by rfl) ?_
                  refine j_iload C0 d_Mo_carrier_76 (by rfl) ?_
                  refine mo_ld C0 (i := 3) (k := 3 * d + b) d_Mo_carrier_78 rfl (by show _ < 24; omega) (by decide) ?_
                  rw [(hk1 b (by omega)).1]
                  refine j_icmp_ge C0 d_Mo_carrier_79 (tgt := 86) (by decide) (fun c_79 => ?_) (fun c_79 => ?_)
                  · have g2 : ¬ key k < key b := fun q => nI_ge q (by have := (hk1 b (by omega)).2; omega) c_79
                    have hbs : bsO key (kbf key σ t) (k + 1) = some b := by simp [bsO, hb, g2]
                    refine j_iinc C0 d_Mo_carrier_86 (by rfl) (jinc _) (Nat.le_of_ble_eq_true rfl) ?_
                    refine j_goto C0 d_Mo_carrier_89 (tgt := 34) (by decide) ?_
                    rw [hbs] at ih
                    exact j_to ih rfl ⟨rfl, rfl, rfl, rfl, rfl, rfl, trivial⟩
                  · have g2 : key k < key b := Nat.lt_of_not_le (fun q => c_79 (nI_le q (by have := (hk1 k hk).2; omega)))
                    have hbs : bsO key (kbf key σ t) (k + 1) = some k := by simp [bsO, hb, g, g2]
                    refine j_iload C0 d_Mo_carrier_82 (by rfl) ?_
                    refine j_istore C0 d_Mo_carrier_84 (Nat.le_of_ble_eq_true rfl) ?_
                    refine j_iinc C0 d_Mo_carrier_86 (by rfl) (jinc _) (Nat.le_of_ble_eq_true rfl) ?_
                    refine j_goto C0 d_Mo_carrier_89 (tgt := 34) (by decide) ?_
                    rw [hbs] at ih
                    exact j_to ih rfl ⟨rfl, rfl, rfl, rfl, rfl, rfl, trivial⟩
        · rw [bsO_end ht (fun i hi => (hs1 i hi).1) hk2 hs3]
          refine j_iload C0 d_Mo_carrier_34 (by rfl) ?_
          refine j_iconst C0 d_Mo_carrier_36 (v := 3) (by decide) ?_
          refine j_iload_n C0 d_Mo_carrier_37 rfl (by rfl) ?_
          refine j_imul C0 d_Mo_carrier_38 ?_
          refine j_aload_n C0 d_Mo_carrier_39 rfl (by rfl) ?_
          refine mo_get C0 d_Mo_carrier_40 fl_Mo_22 (by rfl) ?_
          refine j_iload_n C0 d_Mo_carrier_43 rfl (by rfl) ?_
          refine mo_ld C0 (i := 4) (k := d) d_Mo_carrier_44 rfl (by show _ < 8; omega) (by decide) ?_
          rw [hn]
          refine j_iadd C0 d_Mo_carrier_45 ?_
          rw [show (3 : Int32) * nI d + nI r0.1 = nI (3 * d + r0.1) from by simp only [jn3, pk_mul, nI_add]]
          refine j_icmp_ge C0 d_Mo_carrier_46 (tgt := 92) (by decide) (fun c_46 => ?_) (fun c_46 => ?_)
          · refine j_aload_n C0 d_Mo_carrier_92 rfl (by rfl) ?_
            refine mo_get C0 d_Mo_carrier_93 fl_Mo_16 (by rfl) ?_
            refine j_iload C0 d_Mo_carrier_96 (by rfl) ?_
            refine mo_ld C0 (i := 2) (k := 3 * d + σ t) d_Mo_carrier_98 rfl (by show _ < 24; omega) (by decide) ?_
            rw [← (hs1 t ht).2.1, ex]
            refine j_istore C0 d_Mo_carrier_99 (Nat.le_of_ble_eq_true rfl) ?_
            refine j_aload_n C0 d_Mo_carrier_101 rfl (by rfl) ?_
            refine mo_get C0 d_Mo_carrier_102 fl_Mo_25 (by rfl) ?_
            refine j_iload C0 d_Mo_carrier_105 (by rfl) ?_
            refine mo_ld C0 (i := 5) (k := x) d_Mo_carrier_107 rfl (by show _ < 8; omega) (by decide) ?_
            rw [hh x hx8]
            refine j_if_ne C0 d_Mo_carrier_108 (tgt := 114) (by decide) (fun c_108 => ?_) (fun c_108 => ?_)
            · refine j_aload_n C0 d_Mo_carrier_114 rfl (by rfl) ?_
              refine mo_get C0 d_Mo_carrier_115 fl_Mo_25 (by rfl) ?_
              refine j_iload C0 d_Mo_carrier_118 (by rfl) ?_
              refine mo_ld C0 (i := 5) (k := x) d_Mo_carrier_120 rfl (by show _ < 8; omega) (by decide) ?_
              rw [hh x hx8]
              refine j_iconst C0 d_Mo_carrier_121 (v := 2) (by decide) ?_
              refine j_icmp_ne C0 d_Mo_carrier_122 (tgt := 128) (by decide) (fun c_122 => ?_) (fun c_122 => ?_)
              · have e2 : cyR r0.2.1 hs 0 r0.1 = cyR r0.2.1 hs (t + 1) (r0.1 - (t + 1)) := by rw [hI, cyR_s ht, hx0, if_neg c_108, if_neg c_122]
                refine j_aload_n C0 d_Mo_carrier_128 rfl (by rfl) ?_
                refine mo_get C0 d_Mo_carrier_129 fl_Mo_19 (by rfl) ?_
                refine j_iload C0 d_Mo_carrier_132 (by rfl) ?_
                refine mo_ld C0 (i := 3) (k := 3 * d + σ t) d_Mo_carrier_134 rfl (by show _ < 24; omega) (by decide) ?_
                rw [(hk1 (σ t) hst).1]
                refine j_istore_n C0 d_Mo_carrier_135 rfl (Nat.le_of_ble_eq_true rfl) ?_
                refine j_iinc C0 d_Mo_carrier_136 (by rfl) (jinc _) (Nat.le_of_ble_eq_true rfl) ?_
                refine j_goto C0 d_Mo_carrier_139 (tgt := 16) (by decide) ?_
                exact j_to (iht e2) rfl ⟨rfl, rfl, rfl, rfl, trivial⟩
              · have e2 : cyR r0.2.1 hs 0 r0.1 = (3, none) := by rw [hI, cyR_s ht, hx0, if_neg c_108, if_pos c_122]
                refine j_bipush C0 d_Mo_carrier_125 (v := 8) (by decide) ?_
                exact j_iret C0 d_Mo_carrier_127 rfl (by omega) (by omega) (⟨by unfold cyF; rw [if_neg hn0, e2]; rfl, rfl, rfl⟩)
            · have e2 : cyR r0.2.1 hs 0 r0.1 = (2, some x) := by rw [hI, cyR_s ht, hx0, if_pos c_108]
              refine j_iload C0 d_Mo_carrier_111 (by rfl) ?_
              exact j_iret C0 d_Mo_carrier_113 rfl (by omega) (by omega) (⟨by unfold cyF; rw [if_neg hn0, e2]; rfl, rfl, rfl⟩)
          · exact absurd (nI_le (Nat.le_refl _) (by omega)) c_46
    · intro hI
      refine j_iload_n C0 d_Mo_carrier_16 rfl (by rfl) ?_
      refine j_aload_n C0 d_Mo_carrier_17 rfl (by rfl) ?_
      refine mo_get C0 d_Mo_carrier_18 fl_Mo_22 (by rfl) ?_
      refine j_iload_n C0 d_Mo_carrier_21 rfl (by rfl) ?_
      refine mo_ld C0 (i := 4) (k := d) d_Mo_carrier_22 rfl (by show _ < 8; omega) (by decide) ?_
      rw [hn]
      refine j_icmp_ge C0 d_Mo_carrier_23 (tgt := 142) (by decide) (fun c_23 => ?_) (fun c_23 => ?_)
      · refine j_bipush C0 d_Mo_carrier_142 (v := 9) (by decide) ?_
        exact j_iret C0 d_Mo_carrier_144 rfl (by omega) (by omega) (⟨by unfold cyF; rw [if_neg hn0, hI, Nat.sub_self]; rfl, rfl, rfl⟩)
      · exact absurd (nI_le (Nat.le_refl _) (by omega)) c_23
  · have hn0 : r0.1 = 0 := Decidable.by_contra (fun g => nI_ne0 (Nat.pos_of_ne_zero g) (by omega) c_6)
    refine j_bipush C0 d_Mo_carrier_9 (v := 8) (by decide) ?_
    exact j_iret C0 d_Mo_carrier_11 rfl (by omega) (by omega) (⟨by unfold cyF; rw [if_pos hn0]; rfl, rfl, rfl⟩)
