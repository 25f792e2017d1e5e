abbrev moG (c k : Nat) : List Value := [.int 0, .int 0, .int 0, (if 0 < k then .ref (c + 1 + 0) else .null), (if 1 < k then .ref (c + 1 + 1) else .null), (if 2 < k then .ref (c + 1 + 2) else .null), (if 3 < k then .ref (c + 1 + 3) else .null), (if 4 < k then .ref (c + 1 + 4) else .null), (if 5 < k then .ref (c + 1 + 5) else .null), .int 0, .int 0, (if 6 < k then .ref (c + 1 + 6) else .null), .int 0, (if 7 < k then .ref (c + 1 + 7) else .null), .int 0, .int 0, .int 0, .int 0, (if 8 < k then .ref (c + 1 + 8) else .null), .int 0, (if 9 < k then .ref (c + 1 + 9) else .null), (if 10 < k then .ref (c + 1 + 10) else .null), (if 11 < k then .ref (c + 1 + 11) else .null), (if 12 < k then .ref (c + 1 + 12) else .null)]
def moP (E : jE) (h0 : jH) (c k : Nat) : jH := fun q => if q = c then some (jO 8 (moG c k)) else if c < q ∧ q ≤ c + k then some (jI E (moL (q - c - 1)) (fun _ => 0)) else h0 q
theorem moP_this {E : jE} {h0 : jH} {c k : Nat} : moP E h0 c k c = some (jO 8 (moG c k)) := if_pos rfl
theorem moP_0 {E : jE} {h0 : jH} {c : Nat} (e : h0 c = some (jO 8 (moG c 0))) : h0 = moP E h0 c 0 := by
  funext q
  unfold moP
  by_cases h : q = c
  · rw [if_pos h, h]; exact e
  · rw [if_neg h, if_neg (by omega)]
theorem moP_s {E : jE} {h0 : jH} {c k n : Nat} (hn : n = moL k) : jset (jset (moP E h0 c k) (c + 1 + k) (jI E n (fun _ => 0))) c (jO 8 (moG c (k + 1))) = moP E h0 c (k + 1) := by
  subst hn
  funext q
  unfold jset moP
  by_cases h : q = c
  · rw [if_pos h, if_pos h]
  · rw [if_neg h, if_neg h, if_neg h]
    by_cases h1 : q = c + 1 + k
    · rw [if_pos h1, if_pos (by omega), show q - c - 1 = k by omega]
    · rw [if_neg h1]
      by_cases h2 : c < q ∧ q ≤ c + k
      · rw [if_pos h2, if_pos (by omega)]
      · rw [if_neg h2, if_neg (by omega)]
theorem moP_13 {E : jE} {h0 : jH} {c : Nat} : moP E h0 c 13 = moH E h0 c (fun _ _ => 0) (fun _ => 0) := by
  funext q
  unfold moP moH
  rfl
theorem mo_putF {x : jX} {M : jM} {E : jE} {Q : State → Prop} {h0 : jH} {c sz ce sl d mc ms pc : Nat} {lv : List (Nat × Value)} {st : List Value} {A : moA} {w : Nat → Int32} (C0 : jOk x M E d mc ms) {idx k : Nat} {ty : FieldType} {v : Int32} (hd : decode M.2.1 pc = .ok (.putfield idx, 3)) (hf : jFP M.1.cls idx 8 k ty true) (hk : k < 24) (hu : (moF c w).set k (.int v) = moF c (upd w k v)) (hn : narrow ty (.int v) = .int v) (hfit : fits ty (.int v) = true) (hin : M.1.name = "<init>") (kk : jJ x M E Q (moH E h0 c A (upd w k v)) sz ce sl lv (pc + 3) st) : jJ x M E Q (moH E h0 c A w) sz ce sl lv pc (.int v :: .ref c :: st) := by
  refine j_putF C0 hd hf mo_this hk hn hfit hin ?_
  rw [hu]
  rw [show (Sum.inr (8, moF c (upd w k v)) : va_E) = jO 8 (moF c (upd w k v)) from rfl, mo_s0]
  exact kk
def wth (v lo hi : Int32) : Int32 := if v < lo then lo else if hi < v then hi else v
theorem wth_e {v lo hi : Int32} (h : lo ≤ hi) : wth v lo hi = jmax lo (jmin v hi) := by
  unfold wth jmax
  rw [Int32.le_iff_toInt_le] at h
  by_cases h2 : hi < v
  · rw [show jmin v hi = hi from if_pos h2, if_pos h2]
    rw [Int32.lt_iff_toInt_lt] at h2
    rw [if_neg (show ¬ v < lo by rw [Int32.lt_iff_toInt_lt]; omega)]
    by_cases h3 : lo < hi
    · rw [if_pos h3]
    · rw [if_neg h3]
      rw [Int32.lt_iff_toInt_lt] at h3
      exact Int32.toInt_inj.mp (by omega)
  · rw [show jmin v hi = v from if_neg h2, if_neg h2]
    by_cases h1 : v < lo
    · rw [if_pos h1]
      rw [Int32.lt_iff_toInt_lt] at h1
      rw [if_neg (show ¬ lo < v by rw [Int32.lt_iff_toInt_lt]; omega)]
    · rw [if_neg h1]
      rw [Int32.lt_iff_toInt_lt] at h1
      by_cases h3 : lo < v
      · rw [if_pos h3]
      · rw [if_neg h3]
        rw [Int32.lt_iff_toInt_lt] at h3
        exact Int32.toInt_inj.mp (by omega)
theorem wth_b {v lo hi : Int32} (h : lo ≤ hi) : lo ≤ wth v lo hi ∧ wth v lo hi ≤ hi := by
  unfold wth
  rw [Int32.le_iff_toInt_le] at h ⊢
  rw [Int32.le_iff_toInt_le]
  split
  · exact ⟨Int.le_refl _, h⟩
  · rename_i h1
    rw [Int32.lt_iff_toInt_lt] at h1
    split
    · exact ⟨h, Int.le_refl _⟩
    · rename_i h2
      rw [Int32.lt_iff_toInt_lt] at h2
      omega
def in3 (x y z : Int32) : Nat → Int32 := upd (upd (upd (fun _ => 0) 0 x) 1 y) 2 z
set_option maxHeartbeats 4000000 in
set_option maxRecDepth 100000 in
theorem c_Mo_init (l : Launch) (E : jE) {h : jH} {sz c : Nat} (p q s : Int32) (e0 : h c = some (jO 8 [.int 0, .int 0, .int 0, .null, .null, .null, .null, .null, .null, .int 0, .int 0, .null, .int 0, .null, .int 0, .int 0, .int 0, .int 0, .null, .int 0, .null, .null, .null, .null])) (hz : sz = c + 1) : jC l M_Mo_init 1 E [.ref c, .int p, .int q, .int s] h sz 13 500 (fun r h' sz' => r = none ∧ h' = moH E h c (fun _ _ => 0) (in3 (wth p 1 60) (wth q (wth p 1 60) 600) (wth s (wth q (wth p 1 60) 600) 6000)) ∧ sz' = c + 14) := by
  subst hz
  obtain ⟨X1, e1⟩ : ∃ X1, X1 = wth p 1 60 := ⟨_, rfl⟩
  obtain ⟨X2, e2⟩ : ∃ X2, X2 = wth q X1 600 := ⟨_, rfl⟩
  obtain ⟨X3, e3⟩ : ∃ X3, X3 = wth s X2 6000 := ⟨_, rfl⟩
  rw [← e1, ← e2, ← e3]
  refine jC.of (by decide) (Nat.le_of_ble_eq_true rfl) ?_
  intro x C0 hx
  subst hx
  refine j_aload_n C0 d_Mo_init_0 rfl (by rfl) ?_
  refine j_obj C0 d_Mo_init_1 w_2_227 w_1_18 w_1_19 (by omega) (Nat.le_of_ble_eq_true rfl) ?_
  refine j_heapE (moP_0 (c := c) (E := E) e0) ?_
  refine j_aload_n C0 d_Mo_init_4 rfl (by rfl) ?_
  refine j_bipush C0 d_Mo_init_5 (v := 32) (by decide) ?_
  refine j_newi C0 (N := 32) d_Mo_init_7 w_1_59 rfl (by decide) (by omega) (by omega) ?_
  refine j_putF C0 d_Mo_init_9 fp_Mo_7 (by rw [jset_n (by omega)]; exact moP_this) (Nat.le_of_ble_eq_true rfl) (by rfl) (by rfl) rfl ?_
  refine j_heapE (moP_s (E := E) (h0 := h) (c := c) (k := 0) (n := 32) rfl) ?_
  refine j_sz (c + 1 + 1) 1 32 (by omega) (by omega) (by omega) ?_
  refine j_aload_n C0 d_Mo_init_12 rfl (by rfl) ?_
  refine j_bipush C0 d_Mo_init_13 (v := 8) (by decide) ?_
  refine j_newi C0 (N := 8) d_Mo_init_15 w_1_59 rfl (by decide) (by omega) (by omega) ?_
  refine j_putF C0 d_Mo_init_17 fp_Mo_13 (by rw [jset_n (by omega)]; exact moP_this) (Nat.le_of_ble_eq_true rfl) (by rfl) (by rfl) rfl ?_
  refine j_heapE (moP_s (E := E) (h0 := h) (c := c) (k := 1) (n := 8) rfl) ?_
  refine j_sz (c + 1 + 2) 2 40 (by omega) (by omega) (by omega) ?_
  refine j_aload_n C0 d_Mo_init_20 rfl (by rfl) ?_
  refine j_bipush C0 d_Mo_init_21 (v := 24) (by decide) ?_
  refine j_newi C0 (N := 24) d_Mo_init_23 w_1_59 rfl (by decide) (by omega) (by omega) ?_
  refine j_putF C0 d_Mo_init_25 fp_Mo_16 (by rw [jset_n (by omega)]; exact moP_this) (Nat.le_of_ble_eq_true rfl) (by rfl) (by rfl) rfl ?_
  refine j_heapE (moP_s (E := E) (h0 := h) (c := c) (k := 2) (n := 24) rfl) ?_
  refine j_sz (c + 1 + 3) 3 64 (by omega) (by omega) (by omega) ?_
  refine j_aload_n C0 d_Mo_init_28 rfl (by rfl) ?_
  refine j_bipush C0 d_Mo_init_29 (v := 24) (by decide) ?_
  refine j_newi C0 (N := 24) d_Mo_init_31 w_1_59 rfl (by decide) (by omega) (by omega) ?_
  refine j_putF C0 d_Mo_init_33 fp_Mo_19 (by rw [jset_n (by omega)]; exact moP_this) (Nat.le_of_ble_eq_true rfl) (by rfl) (by rfl) rfl ?_
  refine j_heapE (moP_s (E := E) (h0 := h) (c := c) (k := 3) (n := 24) rfl) ?_
  refine j_sz (c + 1 + 4) 4 88 (by omega) (by omega) (by omega) ?_
  refine j_aload_n C0 d_Mo_init_36 rfl (by rfl) ?_
  refine j_bipush C0 d_Mo_init_37 (v := 8) (by decide) ?_
  refine j_newi C0 (N := 8) d_Mo_init_39 w_1_59 rfl (by decide) (by omega) (by omega) ?_
  refine j_putF C0 d_Mo_init_41 fp_Mo_22 (by rw [jset_n (by omega)]; exact moP_this) (Nat.le_of_ble_eq_true rfl) (by rfl) (by rfl) rfl ?_
  refine j_heapE (moP_s (E := E) (h0 := h) (c := c) (k := 4) (n := 8) rfl) ?_
  refine j_sz (c + 1 + 5) 5 96 (by omega) (by omega) (by omega) ?_
  refine j_aload_n C0 d_Mo_init_44 rfl (by rfl) ?_
  refine j_bipush C0 d_Mo_init_45 (v := 8) (by decide) ?_
  refine j_newi C0 (N := 8) d_Mo_init_47 w_1_59 rfl (by decide) (by omega) (by omega) ?_
  refine j_putF C0 d_Mo_init_49 fp_Mo_25 (by rw [jset_n (by omega)]; exact moP_this) (Nat.le_of_ble_eq_true rfl) (by rfl) (by rfl) rfl ?_
  refine j_heapE (moP_s (E := E) (h0 := h) (c := c) (k := 5) (n := 8) rfl) ?_
  refine j_sz (c + 1 + 6) 6 104 (by omega) (by omega) (by omega) ?_
  refine j_aload_n C0 d_Mo_init_52 rfl (by rfl) ?_
  refine j_bipush C0 d_Mo_init_53 (v := 96) (by decide) ?_
  refine j_newi C0 (N := 96) d_Mo_init_55 w_1_59 rfl (by decide) (by omega) (by omega) ?_
  refine j_putF C0 d_Mo_init_57 fp_Mo_28 (by rw [jset_n (by omega)]; exact moP_this) (Nat.le_of_ble_eq_true rfl) (by rfl) (by rfl) rfl ?_
  refine j_heapE (moP_s (E := E) (h0 := h) (c := c) (k := 6) (n := 96) rfl) ?_
  refine j_sz (c + 1 + 7) 7 200 (by omega) (by omega) (by omega) ?_
  refine j_aload_n C0 d_Mo_init_60 rfl (by rfl) ?_
  refine j_bipush C0 d_Mo_init_61 (v := 96) (by decide) ?_
  refine j_newi C0 (N := 96) d_Mo_init_63 w_1_59 rfl (by decide) (by omega) (by omega) ?_
  refine j_putF C0 d_Mo_init_65 fp_Mo_31 (by rw [jset_n (by omega)]; exact moP_this) (Nat.le_of_ble_eq_true rfl) (by rfl) (by rfl) rfl ?_
  refine j_heapE (moP_s (E := E) (h0 := h) (c := c) (k := 7) (n := 96) rfl) ?_
  refine j_sz (c + 1 + 8) 8 296 (by omega) (by omega) (by omega) ?_
  refine j_aload_n C0 d_Mo_init_68 rfl (by rfl) ?_
  refine j_iconst C0 d_Mo_init_69 (v := 4) (by decide) ?_
  refine j_newi C0 (N := 4) d_Mo_init_70 w_1_59 rfl (by decide) (by omega) (by omega) ?_
  refine j_putF C0 d_Mo_init_72 fp_Mo_34 (by rw [jset_n (by omega)]; exact moP_this) (Nat.le_of_ble_eq_true rfl) (by rfl) (by rfl) rfl ?_
  refine j_heapE (moP_s (E := E) (h0 := h) (c := c) (k := 8) (n := 4) rfl) ?_
  refine j_sz (c + 1 + 9) 9 300 (by omega) (by omega) (by omega) ?_
  refine j_aload_n C0 d_Mo_init_75 rfl (by rfl) ?_
  refine j_bipush C0 d_Mo_init_76 (v := 64) (by decide) ?_
  refine j_newi C0 (N := 64) d_Mo_init_78 w_1_59 rfl (by decide) (by omega) (by omega) ?_
  refine j_putF C0 d_Mo_init_80 fp_Mo_37 (by rw [jset_n (by omega)]; exact moP_this) (Nat.le_of_ble_eq_true rfl) (by rfl) (by rfl) rfl ?_
  refine j_heapE (moP_s (E := E) (h0 := h) (c := c) (k := 9) (n := 64) rfl) ?_
  refine j_sz (c + 1 + 10) 10 364 (by omega) (by omega) (by omega) ?_
  refine j_aload_n C0 d_Mo_init_83 rfl (by rfl) ?_
  refine j_bipush C0 d_Mo_init_84 (v := 64) (by decide) ?_
  refine j_newi C0 (N := 64) d_Mo_init_86 w_1_59 rfl (by decide) (by omega) (by omega) ?_
  refine j_putF C0 d_Mo_init_88 fp_Mo_40 (by rw [jset_n (by omega)]; exact moP_this) (Nat.le_of_ble_eq_true rfl) (by rfl) (by rfl) rfl ?_
  refine j_heapE (moP_s (E := E) (h0 := h) (c := c) (k := 10) (n := 64) rfl) ?_
  refine j_sz (c + 1 + 11) 11 428 (by omega) (by omega) (by omega) ?_
  refine j_aload_n C0 d_Mo_init_91 rfl (by rfl) ?_
  refine j_bipush C0 d_Mo_init_92 (v := 64) (by decide) ?_
  refine j_newi C0 (N := 64) d_Mo_init_94 w_1_59 rfl (by decide) (by omega) (by omega) ?_
  refine j_putF C0 d_Mo_init_96 fp_Mo_43 (by rw [jset_n (by omega)]; exact moP_this) (Nat.le_of_ble_eq_true rfl) (by rfl) (by rfl) rfl ?_
  refine j_heapE (moP_s (E := E) (h0 := h) (c := c) (k := 11) (n := 64) rfl) ?_
  refine j_sz (c + 1 + 12) 12 492 (by omega) (by omega) (by omega) ?_
  refine j_aload_n C0 d_Mo_init_99 rfl (by rfl) ?_
  refine j_bipush C0 d_Mo_init_100 (v := 8) (by decide) ?_
  refine j_newi C0 (N := 8) d_Mo_init_102 w_1_59 rfl (by decide) (by omega) (by omega) ?_
  refine j_putF C0 d_Mo_init_104 fp_Mo_46 (by rw [jset_n (by omega)]; exact moP_this) (Nat.le_of_ble_eq_true rfl) (by rfl) (by rfl) rfl ?_
  refine j_heapE (moP_s (E := E) (h0 := h) (c := c) (k := 12) (n := 8) rfl) ?_
  refine j_sz (c + 1 + 13) 13 500 (by omega) (by omega) (by omega) ?_
  refine j_heapE moP_13 ?_
  refine j_aload_n C0 d_Mo_init_107 rfl (by rfl) ?_
  refine j_iload_n C0 d_Mo_init_108 rfl (by rfl) ?_
  refine j_iconst C0 d_Mo_init_109 (v := 1) (by decide) ?_
  refine j_bipush C0 d_Mo_init_110 (v := 60) (by decide) ?_
  refine j_callS C0 d_Mo_init_112 cl_Mo_49 cl_Mo_49v (c_Mo_within _ E _ _ _) rfl rfl ⟨by decide, by decide⟩ ⟨by omega, by omega⟩ (Nat.le_of_ble_eq_true rfl) (fun r_ h_ z_ hp_ => ?_)
  obtain ⟨rfl, rfl, rfl⟩ := hp_
  refine j_top1 (show _ = X1 from by rw [e1]; rfl) ?_
  refine mo_putF C0 d_Mo_init_115 fp_Mo_53 (by decide) rfl (by rfl) (by rfl) rfl ?_
  refine j_aload_n C0 d_Mo_init_118 rfl (by rfl) ?_
  refine j_iload_n C0 d_Mo_init_119 rfl (by rfl) ?_
  refine j_aload_n C0 d_Mo_init_120 rfl (by rfl) ?_
  refine mo_get C0 d_Mo_init_121 fl_Mo_53 (by rfl) ?_
  refine j_top1 (show _ = X1 from pk_us) ?_
  refine j_sipush C0 d_Mo_init_124 (v := 600) (by decide) ?_
  refine j_callS C0 d_Mo_init_127 cl_Mo_49 cl_Mo_49v (c_Mo_within _ E _ _ _) rfl rfl ⟨by decide, by decide⟩ ⟨by omega, by omega⟩ (Nat.le_of_ble_eq_true rfl) (fun r_ h_ z_ hp_ => ?_)
  obtain ⟨rfl, rfl, rfl⟩ := hp_
  refine j_top1 (show _ = X2 from by rw [e2]; rfl) ?_
  refine mo_putF C0 d_Mo_init_130 fp_Mo_57 (by decide) rfl (by rfl) (by rfl) rfl ?_
  refine j_aload_n C0 d_Mo_init_133 rfl (by rfl) ?_
  refine j_iload_n C0 d_Mo_init_134 rfl (by rfl) ?_
  refine j_aload_n C0 d_Mo_init_135 rfl (by rfl) ?_
  refine mo_get C0 d_Mo_init_136 fl_Mo_57 (by rfl) ?_
  refine j_top1 (show _ = X2 from pk_us) ?_
  refine j_sipush C0 d_Mo_init_139 (v := 6000) (by decide) ?_
  refine j_callS C0 d_Mo_init_142 cl_Mo_49 cl_Mo_49v (c_Mo_within _ E _ _ _) rfl rfl ⟨by decide, by decide⟩ ⟨by omega, by omega⟩ (Nat.le_of_ble_eq_true rfl) (fun r_ h_ z_ hp_ => ?_)
  obtain ⟨rfl, rfl, rfl⟩ := hp_
  refine j_top1 (show _ = X3 from by rw [e3]; rfl) ?_
  refine mo_putF C0 d_Mo_init_145 fp_Mo_60 (by decide) rfl (by rfl) (by rfl) rfl ?_
  exact j_vret C0 d_Mo_init_148 rfl (by omega) (by omega) (⟨rfl, rfl, rfl⟩)
