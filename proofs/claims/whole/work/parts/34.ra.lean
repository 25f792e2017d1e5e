theorem bmN_bit {G : Nat → Nat} {l u : Nat} : ∀ n, (bmN G l n).testBit u = true ↔ ∃ j, j < n ∧ G (4 * l + j) = u
  | 0 => by
    constructor
    · intro h
      rw [show bmN G l 0 = 0 from rfl, Nat.zero_testBit] at h
      exact absurd h (by decide)
    · intro ⟨j, hj, _⟩
      exact absurd hj (Nat.not_lt_zero j)
  | n + 1 => by
    show (bmN G l n ||| 2 ^ G (4 * l + n)).testBit u = true ↔ _
    rw [Nat.testBit_or, Bool.or_eq_true, bmN_bit n, Nat.testBit_two_pow, decide_eq_true_iff]
    constructor
    · intro h
      rcases h with ⟨j, hj, e⟩ | e
      · exact ⟨j, by omega, e⟩
      · exact ⟨n, by omega, e⟩
    · intro ⟨j, hj, e⟩
      by_cases q : j = n
      · exact Or.inr (by rw [← q]; exact e)
      · exact Or.inl ⟨j, by omega, e⟩
theorem bmN_congr {G G' : Nat → Nat} {l : Nat} : ∀ n, (∀ j, j < n → G' (4 * l + j) = G (4 * l + j)) → bmN G' l n = bmN G l n
  | 0, _ => rfl
  | n + 1, h => by
    show bmN G' l n ||| 2 ^ G' (4 * l + n) = bmN G l n ||| 2 ^ G (4 * l + n)
    rw [bmN_congr n (fun j hj => h j (by omega)), h n (by omega)]
theorem bmN_0 {G : Nat → Nat} {l n : Nat} : bmN G l n = 0 ↔ n = 0 := by
  constructor
  · intro h
    cases n with
    | zero => rfl
    | succ n =>
      have q := (bmN_bit (G := G) (l := l) (u := G (4 * l + n)) (n + 1)).mpr ⟨n, by omega, rfl⟩
      rw [h, Nat.zero_testBit] at q
      exact absurd q (by decide)
  · intro h; rw [h]; rfl
theorem bmN_lt {G : Nat → Nat} {l : Nat} : ∀ n, (∀ j, j < n → G (4 * l + j) < 64) → bmN G l n < 2 ^ 64
  | 0, _ => by show 0 < 2 ^ 64; decide
  | n + 1, h => Nat.or_lt_two_pow (bmN_lt n (fun j hj => h j (by omega))) (p64 (h n (by omega)))
/-- reached: a round of the reference is one of the class -/
theorem rk_in {G N g : Nat → Nat} {s : Nat} (hg : ∀ l, l < 8 → N l ≤ 4 ∧ g l = bmN G l (N l)) : ∀ l, l ≤ 8 → rk G N s (4 * l) = rIn g s l
  | 0, _ => rfl
  | l + 1, hl => by
    have ih := rk_in (s := s) hg l (by omega)
    obtain ⟨g1, g2⟩ := hg l (by omega)
    have key : ∀ j, j ≤ 4 → rk G N s (4 * l + j) = if (rIn g s l).testBit l = true then rIn g s l ||| bmN G l (min j (N l)) else rIn g s l := by
      intro j
      induction j with
      | zero =>
        intro _
        rw [Nat.add_zero, ih, Nat.zero_min]
        split
        · show _ = rIn g s l ||| 0
          rw [Nat.or_zero]
        · rfl
      | succ j ihj =>
        intro hj
        have e := ihj (by omega)
        show rk G N s (4 * l + j + 1) = _
        unfold rk
        rw [show (4 * l + j) / 4 = l by omega, show (4 * l + j) % 4 = j by omega]
        by_cases ht : (rIn g s l).testBit l = true
        · rw [if_pos ht] at e ⊢
          rw [e]
          have hb : (rIn g s l ||| bmN G l (min j (N l))).testBit l = true := by rw [Nat.testBit_or, ht]; rfl
          by_cases hn : j < N l
          · rw [if_pos ⟨hb, hn⟩, show min (j + 1) (N l) = j + 1 by omega, show min j (N l) = j by omega, Nat.or_assoc]
            rfl
          · rw [if_neg (fun q => hn q.2), show min (j + 1) (N l) = N l by omega, show min j (N l) = N l by omega]
        · rw [if_neg ht] at e ⊢
          rw [e, if_neg (fun q => ht q.1)]
    have e4 := key 4 (by omega)
    rw [show 4 * (l + 1) = 4 * l + 4 by omega, e4, show min 4 (N l) = N l by omega, ← g2]
    rfl
theorem rR_out {G N g : Nat → Nat} {s : Nat} (hg : ∀ l, l < 8 → N l ≤ 4 ∧ g l = bmN G l (N l)) : ∀ r, rR G N s r = rOut g s r
  | 0 => rfl
  | r + 1 => by
    show rk G N (rR G N s r) 32 = rIn g (rOut g s r) 8
    rw [rR_out hg r]
    exact rk_in hg 8 (by omega)
def clB (g : Nat → Nat) (s : Nat) : Prop := ∀ i, i < 8 → s.testBit i = true → ∀ b, (g i).testBit b = true → s.testBit b = true
theorem rIn_mono {g : Nat → Nat} {s b : Nat} (h : s.testBit b = true) : ∀ n, (rIn g s n).testBit b = true
  | 0 => h
  | n + 1 => by
    have ih := rIn_mono (g := g) h n
    unfold rIn
    split
    · rw [Nat.testBit_or, ih]; rfl
    · exact ih
theorem rIn_add {g : Nat → Nat} {s i b : Nat} (h : s.testBit i = true) (hb : (g i).testBit b = true) : ∀ n, i < n → (rIn g s n).testBit b = true
  | 0, hn => absurd hn (Nat.not_lt_zero i)
  | n + 1, hn => by
    unfold rIn
    by_cases e : i = n
    · subst e
      rw [if_pos (rIn_mono h i), Nat.testBit_or, hb, Bool.or_true]
    · have ih := rIn_add h hb n (by omega)
      split
      · rw [Nat.testBit_or, ih]; rfl
      · exact ih
theorem or_sub {s m : Nat} (h : ∀ b, m.testBit b = true → s.testBit b = true) : s ||| m = s := by
  apply Nat.eq_of_testBit_eq
  intro b
  rw [Nat.testBit_or]
  cases hm : m.testBit b
  · rw [Bool.or_false]
  · rw [h b hm]; rfl
theorem rIn_cl {g : Nat → Nat} {s : Nat} (h : clB g s) : ∀ n, n ≤ 8 → rIn g s n = s
  | 0, _ => rfl
  | n + 1, hn => by
    have ih := rIn_cl h n (by omega)
    unfold rIn
    rw [ih]
    split
    · rename_i q
      exact or_sub (h n (by omega) q)
    · rfl
theorem pp_mono {m n : Nat} : ∀ k, (∀ i, i < k → m.testBit i = true → n.testBit i = true) → pp_c m k ≤ pp_c n k ∧ (pp_c m k = pp_c n k → ∀ i, i < k → n.testBit i = true → m.testBit i = true)
  | 0, _ => ⟨Nat.le_refl _, fun _ i hi => absurd hi (Nat.not_lt_zero i)⟩
  | k + 1, h => by
    obtain ⟨i1, i2⟩ := pp_mono k (fun i hi => h i (by omega))
    rw [pp_bit, pp_bit]
    have hk := h k (by omega)
    cases e1 : m.testBit k <;> cases e2 : n.testBit k
    · refine ⟨by simpa using i1, fun q i hi hn => ?_⟩
      by_cases e : i = k
      · rw [e, e2] at hn; exact absurd hn (by decide)
      · exact i2 (by simpa using q) i (by omega) hn
    · refine ⟨by simp; omega, fun q i hi hn => ?_⟩
      simp at q
      omega
    · rw [hk e1] at e2; exact absurd e2 (by decide)
    · refine ⟨by simpa using i1, fun q i hi hn => ?_⟩
      by_cases e : i = k
      · rw [e]; exact e1
      · exact i2 (by simpa using q) i (by omega) hn
theorem pp_le8 (n : Nat) : ∀ k, pp_c n k ≤ k := pp_le n
theorem rOut_grow {g : Nat → Nat} {s : Nat} : ∀ r, clB g (rOut g s r) ∨ r + 1 ≤ pp_c (rOut g s r) 8
  | 0 => by
    by_cases h : pp_c s 8 = 0
    · refine Or.inl (fun i hi ht => ?_)
      have q := (pp_mono (m := 0) (n := s) 8 (fun i _ h0 => by rw [Nat.zero_testBit] at h0; exact absurd h0 (by decide))).2 (by rw [pp_zero, h]) i hi ht
      rw [Nat.zero_testBit] at q
      exact absurd q (by decide)
    · exact Or.inr (by show 0 + 1 ≤ pp_c s 8; omega)
  | r + 1 => by
    rcases rOut_grow (g := g) (s := s) r with h | h
    · refine Or.inl ?_
      show clB g (rIn g (rOut g s r) 8)
      rw [rIn_cl h 8 (Nat.le_refl 8)]
      exact h
    · obtain ⟨m1, m2⟩ := pp_mono (m := rOut g s r) (n := rIn g (rOut g s r) 8) 8 (fun i _ hb => rIn_mono hb 8)
      by_cases e : pp_c (rOut g s r) 8 = pp_c (rIn g (rOut g s r) 8) 8
      · refine Or.inl (fun i hi ht b hb => ?_)
        exact rIn_add (m2 e i hi ht) hb 8 hi
      · refine Or.inr ?_
        show r + 1 + 1 ≤ pp_c (rIn g (rOut g s r) 8) 8
        omega
theorem rOut_stab {g : Nat → Nat} {s : Nat} : ∀ d, rOut g s (8 + d) = rOut g s 8
  | 0 => rfl
  | d + 1 => by
    have hc : clB g (rOut g s 8) := by
      rcases rOut_grow (g := g) (s := s) 8 with h | h
      · exact h
      · have := pp_le (rOut g s 8) 8
        omega
    show rIn g (rOut g s (8 + d)) 8 = _
    rw [rOut_stab d, rIn_cl hc 8 (Nat.le_refl 8)]
theorem RAl.add {g : Nat → Nat} {A : moA} {k u n : Nat} (h : RAl g A) (hk : k < 8) (hu : u < 64) (hn : A 1 k = nI n) (n4 : n < 4) (hb : (g k).testBit u = false) : RAl (va_up g k (g k ||| 2 ^ u)) (va_up (va_up A 0 (upd (A 0) (4 * k + n) (nI u))) 1 (upd (A 1) k (nI (n + 1)))) := by
  obtain ⟨G, N, hG, hg⟩ := h
  have eN : N k = n := by
    have q := hG k hk
    exact (nI_eq (by omega) (by omega)).mp (q.1.symm.trans hn)
  refine ⟨fun j => if j = 4 * k + n then u else G j, fun l => if l = k then n + 1 else N l, fun l hl => ?_, fun l hl => ?_⟩
  · show upd (A 1) k (nI (n + 1)) l = nI (if l = k then n + 1 else N l) ∧ (if l = k then n + 1 else N l) ≤ 4 ∧ ∀ j, j < (if l = k then n + 1 else N l) → upd (A 0) (4 * k + n) (nI u) (4 * l + j) = nI (if 4 * l + j = 4 * k + n then u else G (4 * l + j)) ∧ (if 4 * l + j = 4 * k + n then u else G (4 * l + j)) < 64
    obtain ⟨q1, q2, q3⟩ := hG l hl
    by_cases e : l = k
    · subst e
      rw [if_pos rfl, pk_us]
      refine ⟨rfl, by omega, fun j hj => ?_⟩
      by_cases e2 : j = n
      · subst e2
        rw [if_pos rfl, pk_us]
        exact ⟨rfl, hu⟩
      · rw [if_neg (by omega), pk_un (by omega)]
        exact q3 j (by omega)
    · rw [if_neg e, pk_un e]
      refine ⟨q1, q2, fun j hj => ?_⟩
      rw [if_neg (by omega), pk_un (by omega)]
      exact q3 j hj
  · obtain ⟨q1, q2⟩ := hg l hl
    by_cases e : l = k
    · subst e
      show pp_c (va_up g l (g l ||| 2 ^ u) l) 64 = (if l = l then n + 1 else N l) ∧ va_up g l (g l ||| 2 ^ u) l = bmN _ l (if l = l then n + 1 else N l)
      rw [if_pos rfl, va_up_self, pp_or hb, if_pos hu, q1, eN]
      refine ⟨rfl, ?_⟩
      show g l ||| 2 ^ u = bmN (fun j => if j = 4 * l + n then u else G j) l n ||| 2 ^ (if 4 * l + n = 4 * l + n then u else G (4 * l + n))
      rw [if_pos rfl, bmN_congr (G := G) n (fun j hj => if_neg (by omega)), q2, eN]
    · show pp_c (va_up g k (g k ||| 2 ^ u) l) 64 = (if l = k then n + 1 else N l) ∧ va_up g k (g k ||| 2 ^ u) l = bmN _ l (if l = k then n + 1 else N l)
      have q4 := (hG l hl).2.1
      rw [if_neg e, va_up_ne _ _ e, bmN_congr (G := G) (N l) (fun j hj => if_neg (by omega))]
      exact ⟨q1, q2⟩
theorem RAl.clear {g : Nat → Nat} {A : moA} {k : Nat} (h : RAl g A) (hk : k < 8) : RAl (va_up g k 0) (va_up A 1 (upd (A 1) k 0)) := by
  obtain ⟨G, N, hG, hg⟩ := h
  refine ⟨G, fun l => if l = k then 0 else N l, fun l hl => ?_, fun l hl => ?_⟩
  · show upd (A 1) k 0 l = nI (if l = k then 0 else N l) ∧ (if l = k then 0 else N l) ≤ 4 ∧ ∀ j, j < (if l = k then 0 else N l) → A 0 (4 * l + j) = nI (G (4 * l + j)) ∧ G (4 * l + j) < 64
    by_cases e : l = k
    · subst e
      rw [if_pos rfl, pk_us]
      exact ⟨rfl, by omega, fun j hj => absurd hj (Nat.not_lt_zero j)⟩
    · rw [if_neg e, pk_un e]
      exact hG l hl
  · show pp_c (va_up g k 0 l) 64 = (if l = k then 0 else N l) ∧ va_up g k 0 l = bmN G l (if l = k then 0 else N l)
    by_cases e : l = k
    · subst e
      rw [if_pos rfl, va_up_self]
      exact ⟨pp_zero 64, rfl⟩
    · rw [if_neg e, va_up_ne _ _ e]
      exact hg l hl
theorem RAl.n {g : Nat → Nat} {A : moA} {k : Nat} (h : RAl g A) (hk : k < 8) : A 1 k = nI (pp_c (g k) 64) ∧ pp_c (g k) 64 ≤ 4 ∧ ∀ u, u < 64 → ((g k).testBit u = true ↔ ∃ j, j < pp_c (g k) 64 ∧ A 0 (4 * k + j) = nI u) := by
  obtain ⟨G, N, hG, hg⟩ := h
  obtain ⟨q1, q2, q3⟩ := hG k hk
  obtain ⟨p1, p2⟩ := hg k hk
  rw [p1]
  refine ⟨q1, q2, fun u hu => ?_⟩
  rw [p2, bmN_bit]
  constructor
  · intro ⟨j, hj, e⟩
    exact ⟨j, hj, by rw [(q3 j hj).1, e]⟩
  · intro ⟨j, hj, e⟩
    exact ⟨j, hj, (nI_eq (by have := (q3 j hj).2; omega) (by omega)).mp ((q3 j hj).1.symm.trans e)⟩
