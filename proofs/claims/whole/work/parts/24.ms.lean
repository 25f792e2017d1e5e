theorem j_one {x : jX} {M : jM} {E : jE} {Q : State → Prop} {h : jH} {sz ce sl pc : Nat} {lv : List (Nat × Value)} {st : List Value} (C : Prop) (lv' : List (Nat × Value)) (pc' : Nat) (st' : List Value) (t : C → jJ x M E Q h sz ce sl lv' pc' st') (body : (C → jJ x M E Q h sz ce sl lv' pc' st') → jJ x M E Q h sz ce sl lv pc st) : jJ x M E Q h sz ce sl lv pc st := body t
def toP (R : Nat) (N : Nat → Nat) (a : Nat) : Bool := R.testBit a && (decide (8 ≤ a) || decide (N a = 0))
def toF (R : Nat) (N : Nat → Nat) (f : Nat → Int32) (n a : Nat) : Bool := toP R N a && decide (cnt f (nI a) n = 0)
theorem cP_y {P : Nat → Bool} {i : Nat} (h : P i = true) : cP P (i + 1) = cP P i + 1 := by simp [cP, h]
theorem cP_n {P : Nat → Bool} {i : Nat} (h : P i = false) : cP P (i + 1) = cP P i := by simp [cP, h]
theorem aP_y {P : Nat → Bool} {n i : Nat} {f g : Nat → Int32} (h : P i = true) : aP P n f g (i + 1) = upd (aP P n f g i) (n + cP P i) (g i) := by simp [aP, h]
theorem aP_n {P : Nat → Bool} {n i : Nat} {f g : Nat → Int32} (h : P i = false) : aP P n f g (i + 1) = aP P n f g i := by simp [aP, h]
theorem cnt_upd {f : Nat → Int32} {v x : Int32} {k : Nat} : ∀ n, n ≤ k → cnt (upd f k x) v n = cnt f v n
  | 0, _ => rfl
  | n + 1, h => by
    simp only [cnt]
    rw [cnt_upd n (by omega), pk_un (by omega)]
theorem cnt_aP {P : Nat → Bool} {n : Nat} {f : Nat → Int32} {b : Nat} (hb : b < 64) : ∀ a, a ≤ b → cnt (aP P n f nI a) (nI b) (n + cP P a) = cnt f (nI b) n
  | 0, _ => rfl
  | a + 1, h => by
    have ih := cnt_aP (P := P) (n := n) (f := f) hb a (by omega)
    cases hp : P a with
    | false => rw [aP_n hp, cP_n hp]; exact ih
    | true =>
      rw [aP_y hp, cP_y hp, show n + (cP P a + 1) = (n + cP P a) + 1 from rfl]
      simp only [cnt]
      rw [cnt_upd _ (Nat.le_refl _), pk_us, if_neg (fun e => by have := (nI_eq (by omega) (by omega)).mp e; omega), Nat.add_zero]
      exact ih
theorem upd_same {f : Nat → Int32} {k : Nat} {x : Int32} (h : f k = x) : upd f k x = f := by
  funext j
  unfold upd
  by_cases e : j = k
  · rw [if_pos e, e, h]
  · rw [if_neg e]
set_option maxHeartbeats 4000000 in
set_option maxRecDepth 100000 in
theorem c_Mo_to_bad (l : Launch) (E : jE) {h0 : jH} {sz c : Nat} {A : moA} {w : Nat → Int32} (p : Int32) (hbad : ¬ (¬ p < 0 ∧ ¬ 64 ≤ p)) : jC l M_Mo_to 1 E [.ref c, .int p] (moH E h0 c A w) sz 0 0 (fun r h' sz' => r = some (.int (-501)) ∧ h' = moH E h0 c A w ∧ sz' = sz) := by
  refine jC.of (by decide) (Nat.le_of_ble_eq_true rfl) ?_
  intro x C0 hx
  subst hx

  refine j_iload_n C0 d_Mo_to_0 rfl (by rfl) ?_
  refine j_bipush C0 d_Mo_to_1 (v := 63) (by decide) ?_
  refine j_callS C0 d_Mo_to_3 cl_Mo_63 cl_Mo_63v (c_Mo_out _ E p 63 (N := 64) (by decide)) rfl rfl ⟨by decide, by decide⟩ ⟨by omega, by omega⟩ (Nat.le_of_ble_eq_true rfl) (fun r_ h_ z_ hp_ => ?_)
  obtain ⟨rfl, rfl, rfl⟩ := hp_
  refine j_if_eq C0 d_Mo_to_6 (tgt := 13) (by decide) (fun c_6 => ?_) (fun c_6 => ?_)
  · exact absurd c_6 (by rw [jb_y hbad]; decide)
  · refine j_sipush C0 d_Mo_to_9 (v := -501) (by decide) ?_
    exact j_iret C0 d_Mo_to_12 rfl (by omega) (by omega) (⟨rfl, rfl, rfl⟩)
set_option maxHeartbeats 4000000 in
set_option maxRecDepth 100000 in
theorem c_Mo_to_seq (l : Launch) (E : jE) {h0 : jH} {sz c : Nat} {A : moA} {w : Nat → Int32} {u : Nat} (hu : u < 64) (hop : w 16 = 0) : jC l M_Mo_to 1 E [.ref c, .int (nI u)] (moH E h0 c A w) sz 0 0 (fun r h' sz' => r = some (.int (-503)) ∧ h' = moH E h0 c A w ∧ sz' = sz) := by
  refine jC.of (by decide) (Nat.le_of_ble_eq_true rfl) ?_
  intro x C0 hx
  subst hx

  refine j_iload_n C0 d_Mo_to_0 rfl (by rfl) ?_
  refine j_bipush C0 d_Mo_to_1 (v := 63) (by decide) ?_
  refine j_callS C0 d_Mo_to_3 cl_Mo_63 cl_Mo_63v (c_Mo_out _ E (nI u) 63 (N := 64) (by decide)) rfl rfl ⟨by decide, by decide⟩ ⟨by omega, by omega⟩ (Nat.le_of_ble_eq_true rfl) (fun r_ h_ z_ hp_ => ?_)
  obtain ⟨rfl, rfl, rfl⟩ := hp_
  rw [jb_n (okR' (N := 64) hu (by decide) rfl)]
  refine j_if_eq C0 d_Mo_to_6 (tgt := 13) (by decide) (fun c_6 => ?_) (fun c_6 => ?_)
  · refine j_aload_n C0 d_Mo_to_13 rfl (by rfl) ?_
    refine mo_get C0 d_Mo_to_14 fl_Mo_67 (by rfl) ?_
    refine j_if_ne C0 d_Mo_to_17 (tgt := 24) (by decide) (fun c_17 => ?_) (fun c_17 => ?_)
    · exact absurd hop c_17
    · refine j_sipush C0 d_Mo_to_20 (v := -503) (by decide) ?_
      exact j_iret C0 d_Mo_to_23 rfl (by omega) (by omega) (⟨rfl, rfl, rfl⟩)
  · exact absurd rfl c_6
theorem upd_upd {f : Nat → Int32} {k : Nat} {x y : Int32} : upd (upd f k x) k y = upd f k y := by
  funext j
  unfold upd
  by_cases e : j = k
  · rw [if_pos e, if_pos e]
  · rw [if_neg e, if_neg e, if_neg e]
set_option maxHeartbeats 4000000 in
set_option maxRecDepth 100000 in
theorem c_Mo_to (l : Launch) (E : jE) {h0 : jH} {sz c : Nat} {A : moA} {w : Nat → Int32} {u n : Nat} {G N : Nat → Nat} (hu : u < 64) (hG : RG G N A) (hop : ¬ w 16 = 0) (hn : w 19 = nI n) (n4 : n ≤ 4) : jC l M_Mo_to 1 E [.ref c, .int (nI u)] (moH E h0 c A w) sz 0 0 (fun r h' sz' => (cP (toP (rR G N (2 ^ u) 64) N) 64 = 0 ∧ r = some (.int (-550)) ∧ h' = moH E h0 c A w ∧ sz' = sz) ∨ (¬ cP (toP (rR G N (2 ^ u) 64) N) 64 = 0 ∧ 4 < n + cP (toF (rR G N (2 ^ u) 64) N (A 8) n) 64 ∧ r = some (.int (-452)) ∧ h' = moH E h0 c A w ∧ sz' = sz) ∨ (¬ cP (toP (rR G N (2 ^ u) 64) N) 64 = 0 ∧ n + cP (toF (rR G N (2 ^ u) 64) N (A 8) n) 64 ≤ 4 ∧ r = some (.int (nI (cP (toF (rR G N (2 ^ u) 64) N (A 8) n) 64))) ∧ h' = moH E h0 c (va_up A 8 (aP (toF (rR G N (2 ^ u) 64) N (A 8) n) n (A 8) nI 64)) (upd w 19 (nI (n + cP (toF (rR G N (2 ^ u) 64) N (A 8) n) 64))) ∧ sz' = sz)) := by
  have hR := rR_lt hG (p64 hu) 64
  have hcP := cP_max (toP (rR G N (2 ^ u) 64) N) 64
  have hcF := cP_max (toF (rR G N (2 ^ u) 64) N (A 8) n) 64
  refine jC.of (by decide) (Nat.le_of_ble_eq_true rfl) ?_
  intro x C0 hx
  subst hx

  refine j_iload_n C0 d_Mo_to_0 rfl (by rfl) ?_
  refine j_bipush C0 d_Mo_to_1 (v := 63) (by decide) ?_
  refine j_callS C0 d_Mo_to_3 cl_Mo_63 cl_Mo_63v (c_Mo_out _ E (nI u) 63 (N := 64) (by decide)) rfl rfl ⟨by decide, by decide⟩ ⟨by omega, by omega⟩ (Nat.le_of_ble_eq_true rfl) (fun r_ h_ z_ hp_ => ?_)
  obtain ⟨rfl, rfl, rfl⟩ := hp_
  rw [jb_n (okR' (N := 64) hu (by decide) rfl)]
  refine j_if_eq C0 d_Mo_to_6 (tgt := 13) (by decide) (fun c_6 => ?_) (fun c_6 => ?_)
  · refine j_aload_n C0 d_Mo_to_13 rfl (by rfl) ?_
    refine mo_get C0 d_Mo_to_14 fl_Mo_67 (by rfl) ?_
    refine j_if_ne C0 d_Mo_to_17 (tgt := 24) (by decide) (fun c_17 => ?_) (fun c_17 => ?_)
    · refine j_aload_n C0 d_Mo_to_24 rfl (by rfl) ?_
      refine j_iload_n C0 d_Mo_to_25 rfl (by rfl) ?_
      refine j_callV C0 d_Mo_to_26 cl_Mo_77 cl_Mo_77v (c_Mo_reached _ E hu hG) mo_this rfl rfl rfl ⟨by decide, by decide⟩ ⟨by omega, by omega⟩ (Nat.le_of_ble_eq_true rfl) (fun r_ h_ z_ hp_ => ?_)
      obtain ⟨rfl, rfl, rfl⟩ := hp_
      refine j_lstore_n C0 d_Mo_to_29 rfl (Nat.le_of_ble_eq_true rfl) ?_
      refine j_iconst C0 d_Mo_to_30 (v := 0) (by decide) ?_
      refine j_istore C0 d_Mo_to_31 (Nat.le_of_ble_eq_true rfl) ?_
      refine j_iconst C0 d_Mo_to_33 (v := 0) (by decide) ?_
      refine j_istore C0 d_Mo_to_34 (Nat.le_of_ble_eq_true rfl) ?_
      refine j_iconst C0 d_Mo_to_36 (v := 0) (by decide) ?_
      refine j_istore C0 d_Mo_to_37 (Nat.le_of_ble_eq_true rfl) ?_
      refine j_lv (lv' := [(0, .ref c), (1, .int (nI u)), (2, .long (lN (rR G N (2 ^ u) 64))), (4, .int (nI (cP (toP (rR G N (2 ^ u) 64) N) 0))), (5, .int (nI (cP (toF (rR G N (2 ^ u) 64) N (A 8) n) 0))), (6, .int (nI 0))]) ⟨rfl, rfl, rfl, rfl, rfl, rfl, trivial⟩ ?_
      refine j_for 64 (fun _ => moH E h0 c A w) (fun a => [(0, .ref c), (1, .int (nI u)), (2, .long (lN (rR G N (2 ^ u) 64))), (4, .int (nI (cP (toP (rR G N (2 ^ u) 64) N) a))), (5, .int (nI (cP (toF (rR G N (2 ^ u) 64) N (A 8) n) a))), (6, .int (nI a))]) ?_ ?_ 0 (by decide)
      · intro a ha ih
        refine j_one ((toP (rR G N (2 ^ u) 64) N) a = false) [(0, .ref c), (1, .int (nI u)), (2, .long (lN (rR G N (2 ^ u) 64))), (4, .int (nI (cP (toP (rR G N (2 ^ u) 64) N) a))), (5, .int (nI (cP (toF (rR G N (2 ^ u) 64) N (A 8) n) a))), (6, .int (nI a))] 79 [.int 0] ?_ (fun t0 => ?_)
        · intro eP
          have eF : (toF (rR G N (2 ^ u) 64) N (A 8) n) a = false := by unfold toF; rw [eP]; rfl
          refine j_istore C0 d_Mo_to_79 (Nat.le_of_ble_eq_true rfl) ?_
          refine j_iload C0 d_Mo_to_81 (by rfl) ?_
          refine j_if_eq C0 d_Mo_to_83 (tgt := 89) (by decide) (fun c_83 => ?_) (fun c_83 => ?_)
          · refine j_iload C0 d_Mo_to_89 (by rfl) ?_
            refine j_if_eq C0 d_Mo_to_91 (tgt := 106) (by decide) (fun c_91 => ?_) (fun c_91 => ?_)
            · refine j_iinc C0 d_Mo_to_106 (by rfl) (jinc _) (Nat.le_of_ble_eq_true rfl) ?_
              refine j_goto C0 d_Mo_to_109 (tgt := 39) (by decide) ?_
              exact j_to ih rfl ⟨rfl, rfl, rfl, by rw [cP_n eP]; rfl, by rw [cP_n eF]; rfl, rfl, trivial⟩
            · exact absurd rfl c_91
          · exact absurd rfl c_83
        refine j_one ((toP (rR G N (2 ^ u) 64) N) a = true) [(0, .ref c), (1, .int (nI u)), (2, .long (lN (rR G N (2 ^ u) 64))), (4, .int (nI (cP (toP (rR G N (2 ^ u) 64) N) a))), (5, .int (nI (cP (toF (rR G N (2 ^ u) 64) N (A 8) n) a))), (6, .int (nI a))] 79 [.int 1] ?_ (fun t1 => ?_)
        · intro eP
          refine j_istore C0 d_Mo_to_79 (Nat.le_of_ble_eq_true rfl) ?_
          refine j_iload C0 d_Mo_to_81 (by rfl) ?_
          refine j_if_eq C0 d_Mo_to_83 (tgt := 89) (by decide) (fun c_83 => ?_) (fun c_83 => ?_)
          · exact absurd c_83 (by decide)
          · refine j_iinc C0 d_Mo_to_86 (by rfl) (jinc _) (Nat.le_of_ble_eq_true rfl) ?_
            refine j_iload C0 d_Mo_to_89 (by rfl) ?_
            refine j_if_eq C0 d_Mo_to_91 (tgt := 106) (by decide) (fun c_91 => ?_) (fun c_91 => ?_)
            · exact absurd c_91 (by decide)
            · refine j_aload_n C0 d_Mo_to_94 rfl (by rfl) ?_
              refine j_iload C0 d_Mo_to_95 (by rfl) ?_
              refine j_callV C0 d_Mo_to_97 cl_Mo_81 cl_Mo_81v (c_Mo_named _ E (nI a) hn n4) mo_this rfl rfl rfl ⟨by decide, by decide⟩ ⟨by omega, by omega⟩ (Nat.le_of_ble_eq_true rfl) (fun r_ h_ z_ hp_ => ?_)
              obtain ⟨rfl, rfl, rfl⟩ := hp_
              refine j_if_ne C0 d_Mo_to_100 (tgt := 106) (by decide) (fun c_100 => ?_) (fun c_100 => ?_)
              · have eF : (toF (rR G N (2 ^ u) 64) N (A 8) n) a = false := by
                  unfold toF
                  rw [eP, Bool.true_and]
                  exact decide_eq_false (fun g => c_100 (by rw [jb_n (not_not_intro g)]))
                refine j_iinc C0 d_Mo_to_106 (by rfl) (jinc _) (Nat.le_of_ble_eq_true rfl) ?_
                refine j_goto C0 d_Mo_to_109 (tgt := 39) (by decide) ?_
                first
                  | exact j_to ih rfl ⟨rfl, rfl, rfl, by rw [cP_y eP]; rfl, by rw [cP_y eF]; rfl, rfl, trivial⟩
                  | exact j_to ih rfl ⟨rfl, rfl, rfl, by rw [cP_y eP]; rfl, by rw [cP_n eF]; rfl, rfl, trivial⟩
              · have eF : (toF (rR G N (2 ^ u) 64) N (A 8) n) a = true := by
                  unfold toF
                  rw [eP, Bool.true_and]
                  exact decide_eq_true (Decidable.by_contra (fun g => by rw [jb_y g] at c_100; exact absurd c_100 (by decide)))
                refine j_iinc C0 d_Mo_to_103 (by rfl) (jinc _) (Nat.le_of_ble_eq_true rfl) ?_
                refine j_iinc C0 d_Mo_to_106 (by rfl) (jinc _) (Nat.le_of_ble_eq_true rfl) ?_
                refine j_goto C0 d_Mo_to_109 (tgt := 39) (by decide) ?_
                first
                  | exact j_to ih rfl ⟨rfl, rfl, rfl, by rw [cP_y eP]; rfl, by rw [cP_y eF]; rfl, rfl, trivial⟩
                  | exact j_to ih rfl ⟨rfl, rfl, rfl, by rw [cP_y eP]; rfl, by rw [cP_n eF]; rfl, rfl, trivial⟩
        refine j_iload C0 d_Mo_to_39 (by rfl) ?_
        refine j_bipush C0 d_Mo_to_41 (v := 64) (by decide) ?_
        refine j_icmp_ge C0 d_Mo_to_43 (tgt := 112) (by decide) (fun c_43 => ?_) (fun c_43 => ?_)
        · exact absurd c_43 (nI_ge (b := 64) ha (by decide))
        · refine j_lload_n C0 d_Mo_to_46 rfl (by rfl) ?_
          refine j_iload C0 d_Mo_to_47 (by rfl) ?_
          refine j_lshr C0 d_Mo_to_49 rfl ?_
          refine j_lconst C0 d_Mo_to_50 (v := 1) (by decide) ?_
          refine j_land C0 d_Mo_to_51 ?_
          refine j_lconst C0 d_Mo_to_52 (v := 0) (by decide) ?_
          refine j_lcmp C0 d_Mo_to_53 ?_
          refine j_if_eq C0 d_Mo_to_54 (tgt := 78) (by decide) (fun c_54 => ?_) (fun c_54 => ?_)
          · have hT := (jsb hR ha).mp c_54
            have eP : (toP (rR G N (2 ^ u) 64) N) a = false := by unfold toP; rw [hT]; rfl
            refine j_iconst C0 d_Mo_to_78 (v := 0) (by decide) ?_
            first
              | exact t0 eP
              | exact t1 eP
          · have hT : ((rR G N (2 ^ u) 64)).testBit a = true := by
              cases hh : ((rR G N (2 ^ u) 64)).testBit a with
              | false => exact absurd ((jsb hR ha).mpr hh) c_54
              | true => rfl
            refine j_iload C0 d_Mo_to_57 (by rfl) ?_
            refine j_bipush C0 d_Mo_to_59 (v := 7) (by decide) ?_
            refine j_icmp_gt C0 d_Mo_to_61 (tgt := 74) (by decide) (fun c_61 => ?_) (fun c_61 => ?_)
            · have h8 : 8 ≤ a := Nat.lt_of_not_le (fun g => (nI_nlt (a := 7) (b := a) g (by decide)) c_61)
              have eP : (toP (rR G N (2 ^ u) 64) N) a = true := by unfold toP; simp [hT, h8]
              refine j_iconst C0 d_Mo_to_74 (v := 1) (by decide) ?_
              refine j_goto C0 d_Mo_to_75 (tgt := 79) (by decide) ?_
              first
                | exact t0 eP
                | exact t1 eP
            · have h8 : ¬ 8 ≤ a := fun g => c_61 (nI_lt (a := 7) (b := a) (by omega) (by omega))
              refine j_aload_n C0 d_Mo_to_64 rfl (by rfl) ?_
              refine mo_get C0 d_Mo_to_65 fl_Mo_13 (by rfl) ?_
              refine j_iload C0 d_Mo_to_68 (by rfl) ?_
              refine mo_ld C0 (i := 1) (k := a) d_Mo_to_70 rfl (by show _ < 8; omega) (by decide) ?_
              rw [(hG a (by omega)).1]
              refine j_if_ne C0 d_Mo_to_71 (tgt := 78) (by decide) (fun c_71 => ?_) (fun c_71 => ?_)
              · have hN0 : ¬ N a = 0 := fun g => c_71 (by rw [g]; rfl)
                have eP : (toP (rR G N (2 ^ u) 64) N) a = false := by unfold toP; simp [h8, hN0]
                refine j_iconst C0 d_Mo_to_78 (v := 0) (by decide) ?_
                first
                  | exact t0 eP
                  | exact t1 eP
              · have hN0 : N a = 0 := Decidable.by_contra (fun g => nI_ne0 (Nat.pos_of_ne_zero g) (by have := (hG a (by omega)).2.1; omega) c_71)
                have eP : (toP (rR G N (2 ^ u) 64) N) a = true := by unfold toP; simp [hT, hN0]
                refine j_iconst C0 d_Mo_to_74 (v := 1) (by decide) ?_
                refine j_goto C0 d_Mo_to_75 (tgt := 79) (by decide) ?_
                first
                  | exact t0 eP
                  | exact t1 eP
      · refine j_iload C0 d_Mo_to_39 (by rfl) ?_
        refine j_bipush C0 d_Mo_to_41 (v := 64) (by decide) ?_
        refine j_icmp_ge C0 d_Mo_to_43 (tgt := 112) (by decide) (fun c_43 => ?_) (fun c_43 => ?_)
        · refine j_iload C0 d_Mo_to_112 (by rfl) ?_
          refine j_if_ne C0 d_Mo_to_114 (tgt := 121) (by decide) (fun c_114 => ?_) (fun c_114 => ?_)
          · have hP0 : ¬ cP (toP (rR G N (2 ^ u) 64) N) 64 = 0 := fun g => c_114 (by rw [g]; rfl)
            refine j_aload_n C0 d_Mo_to_121 rfl (by rfl) ?_
            refine mo_get C0 d_Mo_to_122 fl_Mo_74 (by rfl) ?_
            rw [hn]
            refine j_iload C0 d_Mo_to_125 (by rfl) ?_
            refine j_iadd C0 d_Mo_to_127 ?_
            rw [nI_add]
            refine j_iconst C0 d_Mo_to_128 (v := 4) (by decide) ?_
            refine j_icmp_le C0 d_Mo_to_129 (tgt := 136) (by decide) (fun c_129 => ?_) (fun c_129 => ?_)
            · have h4 : n + cP (toF (rR G N (2 ^ u) 64) N (A 8) n) 64 ≤ 4 := (nI_leI (b := 4) (by omega) (by decide)).mp c_129
              refine j_iconst C0 d_Mo_to_136 (v := 0) (by decide) ?_
              refine j_istore C0 d_Mo_to_137 (Nat.le_of_ble_eq_true rfl) ?_
              refine mo_A (A' := (va_up A 8 (aP (toF (rR G N (2 ^ u) 64) N (A 8) n) n (A 8) nI 0))) (by show A = va_up A 8 (A 8); rw [up_same]) ?_
              refine mo_w (w' := (upd w 19 (nI (n + cP (toF (rR G N (2 ^ u) 64) N (A 8) n) 0)))) (by rw [upd_same (by rw [hn]; rfl)]) ?_
              refine j_lv (lv' := [(0, .ref c), (2, .long (lN (rR G N (2 ^ u) 64))), (5, .int (nI (cP (toF (rR G N (2 ^ u) 64) N (A 8) n) 64))), (6, .int (nI 0))]) ⟨rfl, rfl, rfl, rfl, trivial⟩ ?_
              refine j_for 64 (fun a => moH E h0 c (va_up A 8 (aP (toF (rR G N (2 ^ u) 64) N (A 8) n) n (A 8) nI a)) (upd w 19 (nI (n + cP (toF (rR G N (2 ^ u) 64) N (A 8) n) a)))) (fun a => [(0, .ref c), (2, .long (lN (rR G N (2 ^ u) 64))), (5, .int (nI (cP (toF (rR G N (2 ^ u) 64) N (A 8) n) 64))), (6, .int (nI a))]) ?_ ?_ 0 (by decide)
              · intro a ha ih
                refine j_iload C0 d_Mo_to_139 (by rfl) ?_
                refine j_bipush C0 d_Mo_to_141 (v := 64) (by decide) ?_
                refine j_icmp_ge C0 d_Mo_to_143 (tgt := 213) (by decide) (fun c_143 => ?_) (fun c_143 => ?_)
                · exact absurd c_143 (nI_ge (b := 64) ha (by decide))
                · refine j_lload_n C0 d_Mo_to_146 rfl (by rfl) ?_
                  refine j_iload C0 d_Mo_to_147 (by rfl) ?_
                  refine j_lshr C0 d_Mo_to_149 rfl ?_
                  refine j_lconst C0 d_Mo_to_150 (v := 1) (by decide) ?_
                  refine j_land C0 d_Mo_to_151 ?_
                  refine j_lconst C0 d_Mo_to_152 (v := 0) (by decide) ?_
                  refine j_lcmp C0 d_Mo_to_153 ?_
                  refine j_if_eq C0 d_Mo_to_154 (tgt := 207) (by decide) (fun c_154 => ?_) (fun c_154 => ?_)
                  · have hT := (jsb hR ha).mp c_154
                    have eF : (toF (rR G N (2 ^ u) 64) N (A 8) n) a = false := by unfold toF toP; rw [hT]; rfl
                    refine j_iinc C0 d_Mo_to_207 (by rfl) (jinc _) (Nat.le_of_ble_eq_true rfl) ?_
                    refine j_goto C0 d_Mo_to_210 (tgt := 139) (by decide) ?_
                    first
                      | exact j_to ih rfl ⟨rfl, rfl, rfl, rfl, trivial⟩
                      | exact j_to ih (by rw [aP_n eF, cP_n eF]) ⟨rfl, rfl, rfl, rfl, trivial⟩
                  · have hT : ((rR G N (2 ^ u) 64)).testBit a = true := by
                      cases hh : ((rR G N (2 ^ u) 64)).testBit a with
                      | false => exact absurd ((jsb hR ha).mpr hh) c_154
                      | true => rfl
                    refine j_iload C0 d_Mo_to_157 (by rfl) ?_
                    refine j_bipush C0 d_Mo_to_159 (v := 8) (by decide) ?_
                    refine j_icmp_ge C0 d_Mo_to_161 (tgt := 174) (by decide) (fun c_161 => ?_) (fun c_161 => ?_)
                    · have h8 : 8 ≤ a := Decidable.by_contra (fun g => nI_ge (a := a) (b := 8) (by omega) (by decide) c_161)
                      have eP : (toP (rR G N (2 ^ u) 64) N) a = true := by unfold toP; simp [hT, h8]
                      refine j_aload_n C0 d_Mo_to_174 rfl (by rfl) ?_
                      refine j_iload C0 d_Mo_to_175 (by rfl) ?_
                      refine j_callV C0 d_Mo_to_177 cl_Mo_81 cl_Mo_81v (c_Mo_named _ E (nI a) (n := n + cP (toF (rR G N (2 ^ u) 64) N (A 8) n) a) pk_us (by have := cP_le (toF (rR G N (2 ^ u) 64) N (A 8) n) (show a ≤ 64 by omega); omega)) mo_this rfl rfl rfl ⟨by decide, by decide⟩ ⟨by omega, by omega⟩ (Nat.le_of_ble_eq_true rfl) (fun r_ h_ z_ hp_ => ?_)
                      obtain ⟨rfl, rfl, rfl⟩ := hp_
                      rw [show va_up A 8 (aP (toF (rR G N (2 ^ u) 64) N (A 8) n) n (A 8) nI a) 8 = aP (toF (rR G N (2 ^ u) 64) N (A 8) n) n (A 8) nI a from rfl, cnt_aP ha a (Nat.le_refl a)]
                      refine j_if_eq C0 d_Mo_to_180 (tgt := 186) (by decide) (fun c_180 => ?_) (fun c_180 => ?_)
                      · have eF : (toF (rR G N (2 ^ u) 64) N (A 8) n) a = true := by
                          unfold toF
                          rw [eP, Bool.true_and]
                          exact decide_eq_true (Decidable.by_contra (fun g => by rw [jb_y g] at c_180; exact absurd c_180 (by decide)))
                        have hlt := cP_lt (show a < 64 from ha) eF
                        refine j_aload_n C0 d_Mo_to_186 rfl (by rfl) ?_
                        refine mo_get C0 d_Mo_to_187 fl_Mo_34 (by rfl) ?_
                        refine j_aload_n C0 d_Mo_to_190 rfl (by rfl) ?_
                        refine mo_get C0 d_Mo_to_191 fl_Mo_74 (by rfl) ?_
                        refine j_top1 (show upd w 19 (nI (n + cP (toF (rR G N (2 ^ u) 64) N (A 8) n) a)) 19 = nI (n + cP (toF (rR G N (2 ^ u) 64) N (A 8) n) a) from pk_us) ?_
                        refine j_iload C0 d_Mo_to_194 (by rfl) ?_
                        refine mo_st C0 (i := 8) (k := n + cP (toF (rR G N (2 ^ u) 64) N (A 8) n) a) d_Mo_to_196 (by simp only [jn0, jn1, jn2, jn3, jn4, jn8, jn12, jn13, jn14, jn15, jn16, pk_mul, nI_add]) (by show _ < 4; omega) (by decide) ?_
                        refine j_aload_n C0 d_Mo_to_197 rfl (by rfl) ?_
                        refine j_dup C0 d_Mo_to_198 rfl ?_
                        refine mo_get C0 d_Mo_to_199 fl_Mo_74 (by rfl) ?_
                        refine j_iconst C0 d_Mo_to_202 (v := 1) (by decide) ?_
                        refine j_iadd C0 d_Mo_to_203 ?_
                        refine mo_put C0 d_Mo_to_204 fp_Mo_74 (by decide) rfl (by rfl) (by rfl) ?_
                        refine mo_A (A' := (va_up A 8 (aP (toF (rR G N (2 ^ u) 64) N (A 8) n) n (A 8) nI (a + 1)))) (by rw [vv_up, va_up_self, aP_y eF]) ?_
                        refine mo_w (w' := (upd w 19 (nI (n + cP (toF (rR G N (2 ^ u) 64) N (A 8) n) (a + 1))))) (by rw [upd_upd, pk_us, nI_1, cP_y eF]; rfl) ?_
                        refine j_iinc C0 d_Mo_to_207 (by rfl) (jinc _) (Nat.le_of_ble_eq_true rfl) ?_
                        refine j_goto C0 d_Mo_to_210 (tgt := 139) (by decide) ?_
                        first
                          | exact j_to ih rfl ⟨rfl, rfl, rfl, rfl, trivial⟩
                          | exact j_to ih (by rw [aP_n eF, cP_n eF]) ⟨rfl, rfl, rfl, rfl, trivial⟩
                      · have eF : (toF (rR G N (2 ^ u) 64) N (A 8) n) a = false := by
                          unfold toF
                          rw [eP, Bool.true_and]
                          exact decide_eq_false (fun g => c_180 (by rw [jb_n (not_not_intro g)]))
                        refine j_goto C0 d_Mo_to_183 (tgt := 207) (by decide) ?_
                        refine j_iinc C0 d_Mo_to_207 (by rfl) (jinc _) (Nat.le_of_ble_eq_true rfl) ?_
                        refine j_goto C0 d_Mo_to_210 (tgt := 139) (by decide) ?_
                        first
                          | exact j_to ih rfl ⟨rfl, rfl, rfl, rfl, trivial⟩
                          | exact j_to ih (by rw [aP_n eF, cP_n eF]) ⟨rfl, rfl, rfl, rfl, trivial⟩
                    · have h8 : ¬ 8 ≤ a := fun g => c_161 (nI_le (a := 8) (b := a) g (by omega))
                      refine j_aload_n C0 d_Mo_to_164 rfl (by rfl) ?_
                      refine mo_get C0 d_Mo_to_165 fl_Mo_13 (by rfl) ?_
                      refine j_iload C0 d_Mo_to_168 (by rfl) ?_
                      refine mo_ld C0 (i := 1) (k := a) d_Mo_to_170 rfl (by show _ < 8; omega) (by decide) ?_
                      rw [show va_up A 8 (aP (toF (rR G N (2 ^ u) 64) N (A 8) n) n (A 8) nI a) 1 a = nI (N a) from (hG a (by omega)).1]
                      refine j_if_gt C0 d_Mo_to_171 (tgt := 207) (by decide) (fun c_171 => ?_) (fun c_171 => ?_)
                      · have hN0 : ¬ N a = 0 := fun g => by rw [g] at c_171; exact absurd c_171 (by decide)
                        have eF : (toF (rR G N (2 ^ u) 64) N (A 8) n) a = false := by unfold toF toP; simp [h8, hN0]
                        refine j_iinc C0 d_Mo_to_207 (by rfl) (jinc _) (Nat.le_of_ble_eq_true rfl) ?_
                        refine j_goto C0 d_Mo_to_210 (tgt := 139) (by decide) ?_
                        first
                          | exact j_to ih rfl ⟨rfl, rfl, rfl, rfl, trivial⟩
                          | exact j_to ih (by rw [aP_n eF, cP_n eF]) ⟨rfl, rfl, rfl, rfl, trivial⟩
                      · have hN0 : N a = 0 := Decidable.by_contra (fun g => c_171 (Int32.not_le.mp (nI_nle (Nat.pos_of_ne_zero g) (by have := (hG a (by omega)).2.1; omega))))
                        have eP : (toP (rR G N (2 ^ u) 64) N) a = true := by unfold toP; simp [hT, hN0]
                        refine j_aload_n C0 d_Mo_to_174 rfl (by rfl) ?_
                        refine j_iload C0 d_Mo_to_175 (by rfl) ?_
                        refine j_callV C0 d_Mo_to_177 cl_Mo_81 cl_Mo_81v (c_Mo_named _ E (nI a) (n := n + cP (toF (rR G N (2 ^ u) 64) N (A 8) n) a) pk_us (by have := cP_le (toF (rR G N (2 ^ u) 64) N (A 8) n) (show a ≤ 64 by omega); omega)) mo_this rfl rfl rfl ⟨by decide, by decide⟩ ⟨by omega, by omega⟩ (Nat.le_of_ble_eq_true rfl) (fun r_ h_ z_ hp_ => ?_)
                        obtain ⟨rfl, rfl, rfl⟩ := hp_
                        rw [show va_up A 8 (aP (toF (rR G N (2 ^ u) 64) N (A 8) n) n (A 8) nI a) 8 = aP (toF (rR G N (2 ^ u) 64) N (A 8) n) n (A 8) nI a from rfl, cnt_aP ha a (Nat.le_refl a)]
                        refine j_if_eq C0 d_Mo_to_180 (tgt := 186) (by decide) (fun c_180 => ?_) (fun c_180 => ?_)
                        · have eF : (toF (rR G N (2 ^ u) 64) N (A 8) n) a = true := by
                            unfold toF
                            rw [eP, Bool.true_and]
                            exact decide_eq_true (Decidable.by_contra (fun g => by rw [jb_y g] at c_180; exact absurd c_180 (by decide)))
                          have hlt := cP_lt (show a < 64 from ha) eF
                          refine j_aload_n C0 d_Mo_to_186 rfl (by rfl) ?_
                          refine mo_get C0 d_Mo_to_187 fl_Mo_34 (by rfl) ?_
                          refine j_aload_n C0 d_Mo_to_190 rfl (by rfl) ?_
                          refine mo_get C0 d_Mo_to_191 fl_Mo_74 (by rfl) ?_
                          refine j_top1 (show upd w 19 (nI (n + cP (toF (rR G N (2 ^ u) 64) N (A 8) n) a)) 19 = nI (n + cP (toF (rR G N (2 ^ u) 64) N (A 8) n) a) from pk_us) ?_
                          refine j_iload C0 d_Mo_to_194 (by rfl) ?_
                          refine mo_st C0 (i := 8) (k := n + cP (toF (rR G N (2 ^ u) 64) N (A 8) n) a) d_Mo_to_196 (by simp only [jn0, jn1, jn2, jn3, jn4, jn8, jn12, jn13, jn14, jn15, jn16, pk_mul, nI_add]) (by show _ < 4; omega) (by decide) ?_
                          refine j_aload_n C0 d_Mo_to_197 rfl (by rfl) ?_
                          refine j_dup C0 d_Mo_to_198 rfl ?_
                          refine mo_get C0 d_Mo_to_199 fl_Mo_74 (by rfl) ?_
                          refine j_iconst C0 d_Mo_to_202 (v := 1) (by decide) ?_
                          refine j_iadd C0 d_Mo_to_203 ?_
                          refine mo_put C0 d_Mo_to_204 fp_Mo_74 (by decide) rfl (by rfl) (by rfl) ?_
                          refine mo_A (A' := (va_up A 8 (aP (toF (rR G N (2 ^ u) 64) N (A 8) n) n (A 8) nI (a + 1)))) (by rw [vv_up, va_up_self, aP_y eF]) ?_
                          refine mo_w (w' := (upd w 19 (nI (n + cP (toF (rR G N (2 ^ u) 64) N (A 8) n) (a + 1))))) (by rw [upd_upd, pk_us, nI_1, cP_y eF]; rfl) ?_
                          refine j_iinc C0 d_Mo_to_207 (by rfl) (jinc _) (Nat.le_of_ble_eq_true rfl) ?_
                          refine j_goto C0 d_Mo_to_210 (tgt := 139) (by decide) ?_
                          first
                            | exact j_to ih rfl ⟨rfl, rfl, rfl, rfl, trivial⟩
                            | exact j_to ih (by rw [aP_n eF, cP_n eF]) ⟨rfl, rfl, rfl, rfl, trivial⟩
                        · have eF : (toF (rR G N (2 ^ u) 64) N (A 8) n) a = false := by
                            unfold toF
                            rw [eP, Bool.true_and]
                            exact decide_eq_false (fun g => c_180 (by rw [jb_n (not_not_intro g)]))
                          refine j_goto C0 d_Mo_to_183 (tgt := 207) (by decide) ?_
                          refine j_iinc C0 d_Mo_to_207 (by rfl) (jinc _) (Nat.le_of_ble_eq_true rfl) ?_
                          refine j_goto C0 d_Mo_to_210 (tgt := 139) (by decide) ?_
                          first
                            | exact j_to ih rfl ⟨rfl, rfl, rfl, rfl, trivial⟩
                            | exact j_to ih (by rw [aP_n eF, cP_n eF]) ⟨rfl, rfl, rfl, rfl, trivial⟩
              · refine j_iload C0 d_Mo_to_139 (by rfl) ?_
                refine j_bipush C0 d_Mo_to_141 (v := 64) (by decide) ?_
                refine j_icmp_ge C0 d_Mo_to_143 (tgt := 213) (by decide) (fun c_143 => ?_) (fun c_143 => ?_)
                · refine j_iload C0 d_Mo_to_213 (by rfl) ?_
                  exact j_iret C0 d_Mo_to_215 rfl (by omega) (by omega) (Or.inr (Or.inr ⟨hP0, h4, rfl, rfl, rfl⟩))
                · exact absurd (nI_le (Nat.le_refl 64) (by decide)) c_143
            · have h4 : 4 < n + cP (toF (rR G N (2 ^ u) 64) N (A 8) n) 64 := Nat.lt_of_not_le (fun g => c_129 (nI_le (b := 4) g (by decide)))
              refine j_sipush C0 d_Mo_to_132 (v := -452) (by decide) ?_
              exact j_iret C0 d_Mo_to_135 rfl (by omega) (by omega) (Or.inr (Or.inl ⟨hP0, h4, rfl, rfl, rfl⟩))
          · have hP0 : cP (toP (rR G N (2 ^ u) 64) N) 64 = 0 := Decidable.by_contra (fun g => nI_ne0 (Nat.pos_of_ne_zero g) (by omega) c_114)
            refine j_sipush C0 d_Mo_to_117 (v := -550) (by decide) ?_
            exact j_iret C0 d_Mo_to_120 rfl (by omega) (by omega) (Or.inl ⟨hP0, rfl, rfl, rfl⟩)
        · exact absurd (nI_le (Nat.le_refl 64) (by decide)) c_43
    · exact absurd c_17 hop
  · exact absurd rfl c_6
