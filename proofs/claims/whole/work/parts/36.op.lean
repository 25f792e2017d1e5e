theorem rIn_lt' {g : Nat → Nat} {s : Nat} (hg : ∀ i, i < 8 → g i < 2 ^ 64) (hs : s < 2 ^ 64) : ∀ i, i ≤ 8 → rIn g s i < 2 ^ 64
  | 0, _ => hs
  | i + 1, hi => by
    have ih := rIn_lt' hg hs i (by omega)
    unfold rIn
    split
    · exact Nat.or_lt_two_pow ih (hg i (by omega))
    · exact ih
theorem rOut_lt' {g : Nat → Nat} {s : Nat} (hg : ∀ i, i < 8 → g i < 2 ^ 64) (hs : s < 2 ^ 64) : ∀ r, rOut g s r < 2 ^ 64
  | 0 => hs
  | r + 1 => rIn_lt' hg (rOut_lt' hg hs r) 8 (by omega)
def INV (N : Nat) (S : maS) (A : moA) (w : Nat → Int32) : Prop := RS S A w ∧ ∃ a b L : Nat, 1 ≤ a ∧ a ≤ b ∧ b ≤ 600 ∧ L ≤ N ∧ IVa a b L S
theorem INV.up {N : Nat} {S : maS} {A : moA} {w : Nat → Int32} (h : INV N S A w) : INV (N + 1) S A w := by
  obtain ⟨h1, a, b, L, q1, q2, q3, q4, q5⟩ := h
  exact ⟨h1, a, b, L, q1, q2, q3, by omega, q5⟩
def maC (l : Launch) (E : jE) (Ma : jM) (d : Nat) (args : List Value) (S : maS) (ans : Int32) (S' : maS) : Prop := ∀ (h : jH) (sz b : Nat), isMA E h b S → jC l Ma d E (.ref b :: args) h sz 0 0 (fun r h' sz' => r = some (.int ans) ∧ isMA E h' b S' ∧ (∀ q, q < b ∨ b + 90 ≤ q → h' q = h q) ∧ sz' = sz)
def moC (l : Launch) (E : jE) (Mo : jM) (d : Nat) (args : List Value) (A : moA) (w : Nat → Int32) (ans : Int32) (S' : maS) (N : Nat) : Prop := ∀ (h0 : jH) (sz c : Nat), jC l Mo d E (.ref c :: args) (moH E h0 c A w) sz 0 0 (fun r h' sz' => r = some (.int ans) ∧ (∃ A' w', h' = moH E h0 c A' w' ∧ INV N S' A' w') ∧ sz' = sz)
def opS (l : Launch) (E : jE) (Ma Mo : jM) (d1 d2 : Nat) (args : List Value) (S : maS) (A : moA) (w : Nat → Int32) (N : Nat) : Prop := ∃ (ans : Int32) (S' : maS), maC l E Ma d1 args S ans S' ∧ moC l E Mo d2 args A w ans S' (N + 1)
theorem moC.of {l : Launch} {E : jE} {Mo : jM} {d : Nat} {args : List Value} {A A' : moA} {w w' : Nat → Int32} {ans : Int32} {S' : maS} {N : Nat} (ct : ∀ (h0 : jH) (sz c : Nat), jC l Mo d E (.ref c :: args) (moH E h0 c A w) sz 0 0 (fun r h' sz' => r = some (.int ans) ∧ h' = moH E h0 c A' w' ∧ sz' = sz)) (hI : INV N S' A' w') : moC l E Mo d args A w ans S' N := fun h0 sz c => (ct h0 sz c).weaken (fun _ _ _ q => ⟨q.1, ⟨A', w', q.2.1, hI⟩, q.2.2⟩)
section Ops
variable {l : Launch} {E : jE} {S : maS} {A : moA} {w : Nat → Int32} {N : Nat}
theorem op_alias (hI : INV N S A w) (p q : Int32) : opS l E M_Ma_alias M_Mo_alias 2 1 [.int p, .int q] S A w N := by
  have hR := hI.1
  by_cases hb : ¬ (¬ p < 0 ∧ ¬ 8 ≤ p) ∨ ¬ (¬ q < 0 ∧ ¬ 64 ≤ q)
  · exact ⟨-501, S, fun h sz b m => c_Ma_alias_bad l E m p q hb, moC.of (fun _ _ _ => c_Mo_alias_bad l E p q hb) hI.up⟩
  · obtain ⟨k, hk, rfl⟩ := inR (n := 8) (by decide) (N := 8) rfl (Decidable.by_contra (fun g => hb (Or.inl g)))
    obtain ⟨u, hu, rfl⟩ := inR (n := 64) (by decide) (N := 64) rfl (Decidable.by_contra (fun g => hb (Or.inr g)))
    obtain ⟨e1, e2, e3⟩ := hR.al.n hk
    have e4 := e3 u hu
    by_cases hF : pp_c (mg S k) 64 < 4 ∧ (mg S k).testBit u = false
    · refine ⟨_, _, fun h sz b m => c_Ma_alias l E m hk hu hF, fun h0 sz c => (c_Mo_alias l E hk hu e1 e2).weaken (fun r h' sz' g => ?_)⟩
      rcases g with ⟨g1, _⟩ | ⟨g1, g2, g3, g4, g5⟩
      · exfalso
        rcases g1 with g1 | g1
        · rw [e4.mpr g1] at hF; exact absurd hF.2 (by decide)
        · omega
      · refine ⟨by rw [g3, pp_or hF.2, if_pos hu], ⟨_, _, g4, ?_⟩, g5⟩
        obtain ⟨_, a, b, L, q1, q2, q3, q4, q5⟩ := hI
        exact ⟨⟨hR.v, hR.al.add hk hu e1 hF.1 hF.2, hR.ro, hR.ho, hR.tr, hR.qu, hR.du, hR.le⟩, a, b, L, q1, q2, q3, by omega, q5⟩
    · refine ⟨_, _, fun h sz b m => c_Ma_alias_full l E m hk hu hF, fun h0 sz c => (c_Mo_alias l E hk hu e1 e2).weaken (fun r h' sz' g => ?_)⟩
      rcases g with ⟨_, g3, g4, g5⟩ | ⟨g1, g2, _⟩
      · exact ⟨g3, ⟨_, _, g4, hI.up⟩, g5⟩
      · exact absurd ⟨g2, by
          cases hb : (mg S k).testBit u with
          | false => rfl
          | true => exact absurd (e4.mp hb) g1⟩ hF
theorem op_unalias (hI : INV N S A w) (p : Int32) : opS l E M_Ma_unalias M_Mo_unalias 2 1 [.int p] S A w N := by
  have hR := hI.1
  by_cases hb : ¬ (¬ p < 0 ∧ ¬ 8 ≤ p)
  · exact ⟨-501, S, fun h sz b m => c_Ma_unalias_bad l E m p hb, moC.of (fun _ _ _ => c_Mo_unalias_bad l E p hb) hI.up⟩
  · obtain ⟨k, hk, rfl⟩ := inR (n := 8) (by decide) (N := 8) rfl (Decidable.by_contra hb)
    refine ⟨_, _, fun h sz b m => c_Ma_unalias l E m hk, moC.of (fun _ _ _ => by rw [← (hR.al.n hk).1]; exact c_Mo_unalias l E hk) ?_⟩
    obtain ⟨_, a, b, L, q1, q2, q3, q4, q5⟩ := hI
    exact ⟨⟨hR.v, hR.al.clear hk, hR.ro, hR.ho, hR.tr, hR.qu, hR.du, hR.le⟩, a, b, L, q1, q2, q3, by omega, q5⟩
theorem op_route (hI : INV N S A w) (p q s : Int32) : opS l E M_Ma_route M_Mo_route 2 1 [.int p, .int q, .int s] S A w N := by
  have hR := hI.1
  by_cases hb : ¬ (¬ p = 0 ∧ ¬ p < 0 ∧ ¬ 8 ≤ p) ∨ ¬ (¬ q < 0 ∧ ¬ 8 ≤ q) ∨ ¬ (¬ s < 0 ∧ ¬ 100 ≤ s)
  · exact ⟨-501, S, fun h sz b m => c_Ma_route_bad l E m p q s hb, moC.of (fun _ _ _ => c_Mo_route_bad l E p q s hb) hI.up⟩
  · have hb1 : ¬ p = 0 ∧ ¬ p < 0 ∧ ¬ 8 ≤ p := Decidable.by_contra (fun g => hb (Or.inl g))
    obtain ⟨k, hk, rfl⟩ := inR (n := 8) (by decide) (N := 8) rfl hb1.2
    have h0 : 0 < k := Nat.pos_of_ne_zero (fun e => hb1.1 (by rw [e]; rfl))
    obtain ⟨u, hu, rfl⟩ := inR (n := 8) (by decide) (N := 8) rfl (Decidable.by_contra (fun g => hb (Or.inr (Or.inl g))))
    obtain ⟨s, hs, rfl⟩ := inR (n := 100) (by decide) (N := 100) rfl (Decidable.by_contra (fun g => hb (Or.inr (Or.inr g))))
    have hD := hR.ro k h0 hk
    have hH := hD.has (v := nI u)
    by_cases hF : cnt (mR S k).2.1 (nI u) (mR S k).1 = 0 ∧ (mR S k).1 < 3
    · refine ⟨_, _, fun h sz b m => c_Ma_route l E m hk h0 hu hs hF, fun h0' sz c => (c_Mo_route l E hk h0 hu hs hD.2.1 hD.1).weaken (fun r h' sz' g => ?_)⟩
      rcases g with ⟨g1, _⟩ | ⟨g1, g2, g3, g4, g5⟩
      · exfalso
        rcases g1 with g1 | g1
        · exact hH.mp hF.1 g1
        · omega
      · refine ⟨g3, ⟨_, _, g4, ?_⟩, g5⟩
        obtain ⟨_, a, b, L, q1, q2, q3, q4, ⟨⟨v1, v2, v3, v4, v5, v6⟩, v7⟩⟩ := hI
        refine ⟨⟨hR.v, hR.al, fun d d0 d8 => ?_, hR.ho, hR.tr, hR.qu, hR.du, hR.le⟩, a, b, L, q1, q2, q3, by omega, ⟨⟨v1, v2, v3, ⟨v4.1, fun d d8 i hi => ?_⟩, v5, v6⟩, v7⟩⟩
        · by_cases e : d = k
          · subst e
            show RDo (va_up (mR S) d _ d) _ d
            rw [va_up_self]
            exact hD.add hs hF.2
          · show RDo (va_up (mR S) k _ d) _ d
            rw [va_up_ne _ _ e]
            have := hD.1
            exact (hR.ro d d0 d8).fr (fun j hj => pk_un (by omega)) (fun j hj => pk_un (by omega)) (pk_un e)
        · by_cases e : d = k
          · subst e
            have hi2 : i < (mR S d).1 + 1 := by
              have q : i < (va_up (mR S) d _ d : jRt).1 := hi
              rw [va_up_self] at q
              exact q
            show ∃ k, k < 8 ∧ (va_up (mR S) d _ d : jRt).2.1 i = nI k
            rw [va_up_self]
            show ∃ k, k < 8 ∧ insF (mR S d).2.1 _ _ _ i = nI k
            unfold insF
            have hp := insP_le (mR S d).2.2 (nI s) (mR S d).1
            split
            · exact v4.2 d d8 i (by omega)
            · split
              · exact ⟨u, hu, rfl⟩
              · rw [if_pos (by omega)]
                exact v4.2 d d8 (i - 1) (by omega)
          · have hi2 : i < (mR S d).1 := by
              have q : i < (va_up (mR S) k _ d : jRt).1 := hi
              rw [va_up_ne _ _ e] at q
              exact q
            show ∃ y, y < 8 ∧ (va_up (mR S) k _ d : jRt).2.1 i = nI y
            rw [va_up_ne _ _ e]
            exact v4.2 d d8 i hi2
    · refine ⟨_, _, fun h sz b m => c_Ma_route_full l E m hk h0 hu hs hF, fun h0' sz c => (c_Mo_route l E hk h0 hu hs hD.2.1 hD.1).weaken (fun r h' sz' g => ?_)⟩
      rcases g with ⟨_, g3, g4, g5⟩ | ⟨g1, g2, _⟩
      · exact ⟨g3, ⟨_, _, g4, hI.up⟩, g5⟩
      · exact absurd ⟨hH.mpr g1, g2⟩ hF
theorem op_unroute (hI : INV N S A w) (p : Int32) : opS l E M_Ma_unroute M_Mo_unroute 2 0 [.int p] S A w N := by
  have hR := hI.1
  by_cases hb : ¬ (¬ p = 0 ∧ ¬ p < 0 ∧ ¬ 8 ≤ p)
  · exact ⟨-501, S, fun h sz b m => c_Ma_unroute_bad l E m p hb, moC.of (fun _ _ _ => c_Mo_unroute_bad l E p hb) hI.up⟩
  · have hb1 : ¬ p = 0 ∧ ¬ p < 0 ∧ ¬ 8 ≤ p := Decidable.by_contra hb
    obtain ⟨k, hk, rfl⟩ := inR (n := 8) (by decide) (N := 8) rfl hb1.2
    have h0 : 0 < k := Nat.pos_of_ne_zero (fun e => hb1.1 (by rw [e]; rfl))
    have hD := hR.ro k h0 hk
    refine ⟨_, _, fun h sz b m => c_Ma_unroute l E m hk h0, moC.of (fun _ _ _ => by rw [← hD.2.1]; exact c_Mo_unroute l E hk h0) ?_⟩
    obtain ⟨_, a, b, L, q1, q2, q3, q4, ⟨⟨v1, v2, v3, v4, v5, v6⟩, v7⟩⟩ := hI
    refine ⟨⟨hR.v, hR.al, fun d d0 d8 => ?_, hR.ho, hR.tr, hR.qu, hR.du, hR.le⟩, a, b, L, q1, q2, q3, by omega, ⟨⟨v1, v2, v3, ⟨v4.1, fun d d8 i hi => ?_⟩, v5, v6⟩, v7⟩⟩
    · by_cases e : d = k
      · subst e
        show RDo (va_up (mR S) d _ d) _ d
        rw [va_up_self]
        exact ⟨by show 0 ≤ 3; omega, pk_us, fun _ => 0, fun _ => 0, fun i hi => absurd hi (Nat.not_lt_zero i), fun i j _ hj => absurd hj (Nat.not_lt_zero j), fun i hi => absurd hi (Nat.not_lt_zero i)⟩
      · show RDo (va_up (mR S) k _ d) _ d
        rw [va_up_ne _ _ e]
        exact (hR.ro d d0 d8).fr (fun j hj => rfl) (fun j hj => rfl) (pk_un e)
    · by_cases e : d = k
      · subst e
        have q : i < (va_up (mR S) d _ d : jRt).1 := hi
        rw [va_up_self] at q
        exact absurd q (Nat.not_lt_zero i)
      · have hi2 : i < (mR S d).1 := by
          have q : i < (va_up (mR S) k _ d : jRt).1 := hi
          rw [va_up_ne _ _ e] at q
          exact q
        show ∃ y, y < 8 ∧ (va_up (mR S) k _ d : jRt).2.1 i = nI y
        rw [va_up_ne _ _ e]
        exact v4.2 d d8 i hi2
theorem op_host (hI : INV N S A w) (p q : Int32) : opS l E M_Ma_host M_Mo_host 2 1 [.int p, .int q] S A w N := by
  have hR := hI.1
  by_cases hb : ¬ (¬ p < 0 ∧ ¬ 8 ≤ p) ∨ ¬ (¬ q < 0 ∧ ¬ 3 ≤ q)
  · exact ⟨-501, S, fun h sz b m => c_Ma_host_bad l E m p q hb, moC.of (fun _ _ _ => c_Mo_host_bad l E p q hb) hI.up⟩
  · obtain ⟨k, hk, rfl⟩ := inR (n := 8) (by decide) (N := 8) rfl (Decidable.by_contra (fun g => hb (Or.inl g)))
    have hq : ¬ q < 0 ∧ ¬ 3 ≤ q := Decidable.by_contra (fun g => hb (Or.inr g))
    refine ⟨_, _, fun h sz b m => c_Ma_host l E m q hk hq, moC.of (fun _ _ _ => by rw [← hR.ho k hk]; exact c_Mo_host l E q hk hq) ?_⟩
    obtain ⟨_, a, b, L, q1, q2, q3, q4, q5⟩ := hI
    refine ⟨⟨hR.v, hR.al, hR.ro, fun j hj => ?_, hR.tr, hR.qu, hR.du, hR.le⟩, a, b, L, q1, q2, q3, by omega, q5⟩
    show upd (A 5) k q j = upd (mh S) k q j
    by_cases e : j = k
    · rw [e, pk_us, pk_us]
    · rw [pk_un e, pk_un e]; exact hR.ho j hj
theorem op_from (hI : INV N S A w) (p : Int32) : opS l E M_Ma_from M_Mo_from 2 0 [.int p] S A w N := by
  have hR := hI.1
  by_cases hb : ¬ p = -1 ∧ ¬ (¬ p < 0 ∧ ¬ 64 ≤ p)
  · exact ⟨-501, S, fun h sz b m => c_Ma_from_bad l E m p hb, moC.of (fun _ _ _ => c_Mo_from_bad l E p hb) hI.up⟩
  · have hok : p = -1 ∨ (¬ p < 0 ∧ ¬ 64 ≤ p) := by
      by_cases e : p = -1
      · exact Or.inl e
      · exact Or.inr (Decidable.by_contra (fun g => hb ⟨e, g⟩))
    refine ⟨0, _, fun h sz b m => c_Ma_from l E m p hok, moC.of (fun _ _ _ => c_Mo_from l E p hok) ?_⟩
    obtain ⟨_, a, b, L, q1, q2, q3, q4, q5⟩ := hI
    refine ⟨⟨⟨hR.v0, hR.v1, hR.v2, hR.v9, hR.v10, hR.v15⟩, hR.al, hR.ro, hR.ho, ⟨rfl, Or.inr rfl, rfl, Nat.zero_le _, fun k hk => absurd hk (Nat.not_lt_zero k), fun k hk => absurd hk (Nat.not_lt_zero k), fun _ => ⟨rfl, hok.imp id (fun g => ?_)⟩⟩, hR.qu, hR.du, hR.le⟩, a, b, L, q1, q2, q3, by omega, q5⟩
    exact inR (n := 64) (by decide) (N := 64) rfl g
theorem op_to (hI : INV N S A w) (p : Int32) : opS l E M_Ma_to M_Mo_to 2 1 [.int p] S A w N := by
  have hR := hI.1
  obtain ⟨t1, t2, t3, t4, t5, t6, t7⟩ := hR.tr
  by_cases hb : ¬ (¬ p < 0 ∧ ¬ 64 ≤ p)
  · exact ⟨-501, S, fun h sz b m => c_Ma_to_bad l E m p hb, moC.of (fun _ _ _ => c_Mo_to_bad l E p hb) hI.up⟩
  · obtain ⟨u, hu, rfl⟩ := inR (n := 64) (by decide) (N := 64) rfl (Decidable.by_contra hb)
    by_cases hop : (mT S).1 = 0
    · exact ⟨-503, S, fun h sz b m => c_Ma_to_seq l E m hu hop, moC.of (fun _ _ _ => c_Mo_to_seq l E hu (t1.trans hop)) hI.up⟩
    · have hop2 : ¬ w 16 = 0 := fun e => hop (t1.symm.trans e)
      obtain ⟨G, M, hG, hg⟩ := hR.al
      have bP : ∀ a, a < 64 → toP (rR G M (2 ^ u) 64) M a = (fnl S u).testBit a := fun a ha => toP_bit hG hg ha
      have bF : ∀ a, a < 64 → toF (rR G M (2 ^ u) 64) M (A 8) (mT S).2.2.1 a = (frs S u).testBit a := fun a ha => toF_bit hG hg ha t6 (fun k hk => (t5 k hk).1)
      have eF : cP (toF (rR G M (2 ^ u) 64) M (A 8) (mT S).2.2.1) 64 = cP (fun i => (frs S u).testBit i) 64 := cP_congr 64 bF
      have eA : aP (toF (rR G M (2 ^ u) 64) M (A 8) (mT S).2.2.1) (mT S).2.2.1 (A 8) nI 64 = aP (fun i => (frs S u).testBit i) (mT S).2.2.1 (A 8) nI 64 := aP_congr 64 bF
      have hlt : fnl S u < 2 ^ 64 := by
        refine fin8_lt (rOut_lt' ?_ (p64 hu) 8) 8
        intro i hi
        rw [(hg i hi).2]
        exact bmN_lt _ (fun j hj => ((hG i hi).2.2 j hj).2)
      have eP : cP (toP (rR G M (2 ^ u) 64) M) 64 = 0 ↔ fnl S u = 0 := by
        rw [cP_0, z64 hlt]
        exact ⟨fun q i hi => (bP i hi).symm.trans (q i hi), fun q i hi => (bP i hi).trans (q i hi)⟩
      have ct := fun h0 sz c => c_Mo_to l E (h0 := h0) (sz := sz) (c := c) hu hG hop2 t3 t4
      by_cases hz : fnl S u = 0
      · refine ⟨_, _, fun h sz b m => c_Ma_to_unk l E m hu hop hz, fun h0 sz c => (ct h0 sz c).weaken (fun r h' sz' g => ?_)⟩
        rcases g with ⟨_, g3, g4, g5⟩ | ⟨g1, _⟩ | ⟨g1, _⟩
        · exact ⟨g3, ⟨_, _, g4, hI.up⟩, g5⟩
        · exact absurd (eP.mpr hz) g1
        · exact absurd (eP.mpr hz) g1
      · by_cases hov : 4 < (mT S).2.2.1 + cP (fun i => (frs S u).testBit i) 64
        · refine ⟨_, _, fun h sz b m => c_Ma_to_full l E m hu hop hz t6 hov, fun h0 sz c => (ct h0 sz c).weaken (fun r h' sz' g => ?_)⟩
          rcases g with ⟨g1, _⟩ | ⟨_, _, g3, g4, g5⟩ | ⟨_, g2, _⟩
          · exact absurd (eP.mp g1) hz
          · exact ⟨g3, ⟨_, _, g4, hI.up⟩, g5⟩
          · rw [eF] at g2; omega
        · have hov : (mT S).2.2.1 + cP (fun i => (frs S u).testBit i) 64 ≤ 4 := by omega
          refine ⟨_, _, fun h sz b m => c_Ma_to l E m hu hop hz t6 hov, fun h0 sz c => (ct h0 sz c).weaken (fun r h' sz' g => ?_)⟩
          rcases g with ⟨g1, _⟩ | ⟨_, g2, _⟩ | ⟨_, _, g3, g4, g5⟩
          · exact absurd (eP.mp g1) hz
          · rw [eF] at g2; omega
          · rw [eF] at g3
            rw [eF, eA] at g4
            refine ⟨g3, ⟨_, _, g4, ?_⟩, g5⟩
            obtain ⟨_, a, b, L, q1, q2, q3, q4, q5⟩ := hI
            refine ⟨⟨⟨hR.v0, hR.v1, hR.v2, hR.v9, hR.v10, hR.v15⟩, hR.al, hR.ro, hR.ho, ⟨t1, t2, rfl, hov, fun k hk => ⟨aP_rel (fun k hk => (t5 k hk).1) 64 k hk, aP_all (fun v => v = 1) (fun k hk => (t5 k hk).2) 64 (fun _ _ => rfl) k hk⟩, fun k hk => aP_all (fun v => ∃ k, k < 64 ∧ v = nI k) t6 64 (fun j hj => ⟨j, hj, rfl⟩) k hk, t7⟩, hR.qu, hR.du, hR.le⟩, a, b, L, q1, q2, q3, by omega, q5⟩
end Ops
