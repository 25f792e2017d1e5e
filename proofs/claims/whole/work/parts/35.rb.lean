theorem insP_hi (pr : Nat → Int32) (v : Int32) : ∀ n i, insP pr v n ≤ i → i < n → v < pr i
  | 0, i, _, hi => absurd hi (Nat.not_lt_zero i)
  | n + 1, i, h, hi => by
    unfold insP at h
    by_cases q : v < pr n
    · rw [if_pos q] at h
      by_cases e : i = n
      · rw [e]; exact q
      · exact insP_hi pr v n i h (by omega)
    · rw [if_neg q] at h; omega
theorem insP_lo (pr : Nat → Int32) (v : Int32) : ∀ n, insP pr v n = 0 ∨ ¬ v < pr (insP pr v n - 1)
  | 0 => Or.inl rfl
  | n + 1 => by
    unfold insP
    by_cases q : v < pr n
    · rw [if_pos q]; exact insP_lo pr v n
    · rw [if_neg q]; exact Or.inr q
theorem RDo.fr {r : jRt} {A A' : moA} {d : Nat} (h : RDo r A d) (h2 : ∀ k, k < 3 → A' 2 (3 * d + k) = A 2 (3 * d + k)) (h3 : ∀ k, k < 3 → A' 3 (3 * d + k) = A 3 (3 * d + k)) (h4 : A' 4 d = A 4 d) : RDo r A' d := by
  obtain ⟨n3, hn, σ, P, s1, s2, s3⟩ := h
  refine ⟨n3, h4.trans hn, σ, P, fun i hi => ?_, s2, s3⟩
  obtain ⟨q1, q2, q3, q4, q5⟩ := s1 i hi
  exact ⟨q1, by rw [h2 _ (by omega)]; exact q2, q3, q4, by rw [h3 _ (by omega)]; exact q5⟩
theorem RDo.add {r : jRt} {A : moA} {d u s : Nat} (h : RDo r A d) (hs : s < 100) (n3 : r.1 < 3) : RDo (r.1 + 1, insF r.2.1 (insP r.2.2 (nI s) r.1) r.1 (nI u), insF r.2.2 (insP r.2.2 (nI s) r.1) r.1 (nI s)) (va_up (va_up (va_up A 2 (upd (A 2) (3 * d + r.1) (nI u))) 3 (upd (A 3) (3 * d + r.1) (nI (3 * s + r.1)))) 4 (upd (A 4) d (nI (r.1 + 1)))) d := by
  obtain ⟨_, hn, σ, P, s1, s2, s3⟩ := h
  obtain ⟨n, en⟩ : ∃ n, n = r.1 := ⟨_, rfl⟩
  obtain ⟨p, ep⟩ : ∃ p, p = insP r.2.2 (nI s) r.1 := ⟨_, rfl⟩
  have hp : p ≤ n := by rw [ep, en]; exact insP_le _ _ _
  have hhi : ∀ i, p ≤ i → i < n → s < P i := fun i h1 h2 => by
    have q := insP_hi r.2.2 (nI s) r.1 i (by rw [← ep]; exact h1) (by rw [← en]; exact h2)
    have w := s1 i (by omega)
    rw [w.2.2.1] at q
    exact (nI_ltI (by omega) (by omega)).mp q
  have hmono : ∀ i j, i < j → j < n → P i ≤ P j := fun i j hij hj => by
    have q := s2 i j hij (by omega)
    have w1 := (s1 i (by omega)).1
    have w2 := (s1 j (by omega)).1
    omega
  have hlo : ∀ i, i < p → P i ≤ s := fun i hi => by
    rcases insP_lo r.2.2 (nI s) r.1 with q | q
    · rw [← ep] at q; omega
    · rw [← ep] at q
      have w := s1 (p - 1) (by omega)
      rw [w.2.2.1] at q
      have q2 : ¬ s < P (p - 1) := fun e => q (nI_lt e (by omega))
      by_cases e : i = p - 1
      · rw [e]; omega
      · have := hmono i (p - 1) (by omega) (by omega); omega
  rw [← ep, ← en]
  refine ⟨by show n + 1 ≤ 3; omega, by show upd (A 4) d (nI (n + 1)) d = _; rw [pk_us], fun i => if i < p then σ i else if i = p then n else σ (i - 1), fun i => if i < p then P i else if i = p then s else P (i - 1), fun i hi => ?_, fun i j hij hj => ?_, fun k hk => ?_⟩
  · have hi : i < n + 1 := hi
    show (if i < p then σ i else if i = p then n else σ (i - 1)) < n + 1 ∧ insF r.2.1 p n (nI u) i = upd (A 2) (3 * d + n) (nI u) (3 * d + (if i < p then σ i else if i = p then n else σ (i - 1))) ∧ insF r.2.2 p n (nI s) i = nI (if i < p then P i else if i = p then s else P (i - 1)) ∧ (if i < p then P i else if i = p then s else P (i - 1)) < 100 ∧ upd (A 3) (3 * d + n) (nI (3 * s + n)) (3 * d + (if i < p then σ i else if i = p then n else σ (i - 1))) = nI (3 * (if i < p then P i else if i = p then s else P (i - 1)) + (if i < p then σ i else if i = p then n else σ (i - 1)))
    unfold insF
    by_cases h1 : i < p
    · rw [if_pos h1, if_pos h1, if_pos h1, if_pos h1]
      obtain ⟨q1, q2, q3, q4, q5⟩ := s1 i (by omega)
      rw [pk_un (by omega), pk_un (by omega)]
      exact ⟨by omega, q2, q3, q4, q5⟩
    · rw [if_neg h1, if_neg h1, if_neg h1, if_neg h1]
      by_cases h2 : i = p
      · rw [if_pos h2, if_pos h2, if_pos h2, if_pos h2, pk_us, pk_us]
        exact ⟨by omega, rfl, rfl, hs, rfl⟩
      · rw [if_neg h2, if_neg h2, if_neg h2, if_neg h2, if_pos (by omega), if_pos (by omega)]
        obtain ⟨q1, q2, q3, q4, q5⟩ := s1 (i - 1) (by omega)
        rw [pk_un (by omega), pk_un (by omega)]
        exact ⟨by omega, q2, q3, q4, q5⟩
  · have hj : j < n + 1 := hj
    show 3 * (if i < p then P i else if i = p then s else P (i - 1)) + (if i < p then σ i else if i = p then n else σ (i - 1)) < 3 * (if j < p then P j else if j = p then s else P (j - 1)) + (if j < p then σ j else if j = p then n else σ (j - 1))
    by_cases h1 : i < p
    · rw [if_pos h1, if_pos h1]
      have w1 := (s1 i (by omega)).1
      by_cases h2 : j < p
      · rw [if_pos h2, if_pos h2]; exact s2 i j hij (by omega)
      · rw [if_neg h2, if_neg h2]
        by_cases h3 : j = p
        · rw [if_pos h3, if_pos h3]
          have := hlo i h1
          omega
        · rw [if_neg h3, if_neg h3]
          exact s2 i (j - 1) (by omega) (by omega)
    · rw [if_neg h1, if_neg h1, if_neg (show ¬ j < p by omega), if_neg (show ¬ j < p by omega), if_neg (show ¬ j = p by omega), if_neg (show ¬ j = p by omega)]
      by_cases h2 : i = p
      · rw [if_pos h2, if_pos h2]
        have := hhi (j - 1) (by omega) (by omega)
        omega
      · rw [if_neg h2, if_neg h2]
        exact s2 (i - 1) (j - 1) (by omega) (by omega)
  · have hk : k < n + 1 := hk
    by_cases e : k = n
    · exact ⟨p, by show p < n + 1; omega, by show (if p < p then σ p else if p = p then n else σ (p - 1)) = k; rw [if_neg (by omega), if_pos rfl, e]⟩
    · obtain ⟨i0, h1, h2⟩ := s3 k (by omega)
      by_cases h3 : i0 < p
      · exact ⟨i0, by show i0 < n + 1; omega, by show (if i0 < p then σ i0 else if i0 = p then n else σ (i0 - 1)) = k; rw [if_pos h3]; exact h2⟩
      · exact ⟨i0 + 1, by show i0 + 1 < n + 1; omega, by show (if i0 + 1 < p then σ (i0 + 1) else if i0 + 1 = p then n else σ (i0 + 1 - 1)) = k; rw [if_neg (by omega), if_neg (by omega)]; exact h2⟩
theorem cnt_0 {f : Nat → Int32} {v : Int32} : ∀ n, cnt f v n = 0 ↔ ∀ i, i < n → ¬ f i = v
  | 0 => ⟨fun _ i hi => absurd hi (Nat.not_lt_zero i), fun _ => rfl⟩
  | n + 1 => by
    by_cases h : f n = v
    · rw [cnt_y h]
      exact ⟨fun q => by omega, fun q => absurd h (q n (by omega))⟩
    · rw [cnt_n h, cnt_0 n]
      constructor
      · intro q i hi
        by_cases e : i = n
        · rw [e]; exact h
        · exact q i (by omega)
      · intro q i hi
        exact q i (by omega)
theorem RDo.has {r : jRt} {A : moA} {d : Nat} {v : Int32} (h : RDo r A d) : cnt r.2.1 v r.1 = 0 ↔ ¬ ∃ j, j < r.1 ∧ A 2 (3 * d + j) = v := by
  obtain ⟨n3, hn, σ, P, s1, s2, s3⟩ := h
  rw [cnt_0]
  constructor
  · intro q ⟨j, hj, e⟩
    obtain ⟨i, hi, ei⟩ := s3 j hj
    exact q i hi (by rw [(s1 i hi).2.1, ei]; exact e)
  · intro q i hi e
    exact q ⟨σ i, (s1 i hi).1, by rw [← (s1 i hi).2.1]; exact e⟩
theorem fin8_bit {g : Nat → Nat} {s a : Nat} (ha : a < 64) : ∀ i, i ≤ 8 → (fin8 g s i).testBit a = (s.testBit a && !(decide (a < i) && decide (g a ≠ 0)))
  | 0, _ => by
    show s.testBit a = _
    rw [decide_eq_false (Nat.not_lt_zero a), Bool.false_and, Bool.not_false, Bool.and_true]
  | i + 1, hi => by
    have ih := fin8_bit (g := g) (s := s) ha i (by omega)
    unfold fin8
    by_cases h0 : g i = 0
    · rw [if_pos h0, ih]
      by_cases e : a = i
      · subst e
        rw [decide_eq_false (Nat.lt_irrefl a), decide_eq_false (fun q => q h0), Bool.and_false, Bool.and_false]
      · rw [show decide (a < i + 1) = decide (a < i) from by
          by_cases q : a < i
          · rw [decide_eq_true q, decide_eq_true (by omega)]
          · rw [decide_eq_false q, decide_eq_false (by omega)]]
    · rw [if_neg h0, Nat.testBit_and, ih, Nat.testBit_xor, Nat.testBit_two_pow, Nat.testBit_two_pow_sub_one, decide_eq_true ha]
      by_cases e : i = a
      · subst e
        rw [decide_eq_true rfl, decide_eq_true (Nat.lt_succ_self i), decide_eq_true h0]
        simp
      · rw [decide_eq_false e]
        rw [show decide (a < i + 1) = decide (a < i) from by
          by_cases q : a < i
          · rw [decide_eq_true q, decide_eq_true (by omega)]
          · rw [decide_eq_false q, decide_eq_false (by omega)]]
        simp
theorem bm_bit {ad : Nat → Int32} {a : Nat} (ha : a < 64) : ∀ n, wad n ad → ((bm ad n).testBit a = false ↔ cnt ad (nI a) n = 0)
  | 0, _ => by
    show (Nat.testBit 0 a = false ↔ _)
    rw [Nat.zero_testBit]
    exact ⟨fun _ => rfl, fun _ => rfl⟩
  | n + 1, h => by
    have ih := bm_bit (ad := ad) ha n (fun i hi => h i (by omega))
    obtain ⟨u, hu, eu⟩ := h n (by omega)
    show (bm ad n ||| 2 ^ (ad n).toNatClampNeg).testBit a = false ↔ _
    rw [eu, nI_clamp (by omega), Nat.testBit_or, Nat.testBit_two_pow, Bool.or_eq_false_iff, ih]
    by_cases e : u = a
    · rw [cnt_y (f := ad) (by rw [eu, e])]
      exact ⟨fun q => absurd q.2 (by rw [decide_eq_true e]; decide), fun q => by omega⟩
    · rw [cnt_n (f := ad) (fun q => e ((nI_eq (by omega) (by omega)).mp (eu.symm.trans q)))]
      exact ⟨fun q => q.1, fun q => ⟨q, decide_eq_false e⟩⟩
theorem cP_congr {P P' : Nat → Bool} : ∀ k, (∀ i, i < k → P i = P' i) → cP P k = cP P' k
  | 0, _ => rfl
  | k + 1, h => by
    simp only [cP]
    rw [cP_congr k (fun i hi => h i (by omega)), h k (by omega)]
theorem aP_congr {P P' : Nat → Bool} {n : Nat} {f g : Nat → Int32} : ∀ k, (∀ i, i < k → P i = P' i) → aP P n f g k = aP P' n f g k
  | 0, _ => rfl
  | k + 1, h => by
    simp only [aP]
    rw [aP_congr k (fun i hi => h i (by omega)), h k (by omega), cP_congr k (fun i hi => h i (by omega))]
theorem aP_rel {P : Nat → Bool} {n : Nat} {f f2 g : Nat → Int32} (h : ∀ k, k < n → f k = f2 k) : ∀ i k, k < n + cP P i → aP P n f g i k = aP P n f2 g i k
  | 0, k, hk => h k hk
  | i + 1, k, hk => by
    cases hp : P i with
    | false => rw [aP_n hp, aP_n hp]; rw [cP_n hp] at hk; exact aP_rel h i k hk
    | true =>
      rw [aP_y hp, aP_y hp]
      rw [cP_y hp] at hk
      by_cases e : k = n + cP P i
      · rw [e, pk_us, pk_us]
      · rw [pk_un e, pk_un e]; exact aP_rel h i k (by omega)
theorem aP_all {P : Nat → Bool} {n : Nat} {f g : Nat → Int32} (p : Int32 → Prop) (h : ∀ k, k < n → p (f k)) : ∀ i, (∀ j, j < i → p (g j)) → ∀ k, k < n + cP P i → p (aP P n f g i k)
  | 0, _, k, hk => h k hk
  | i + 1, hg, k, hk => by
    have ih := aP_all (P := P) p h i (fun j hj => hg j (by omega))
    cases hp : P i with
    | false => rw [aP_n hp]; rw [cP_n hp] at hk; exact ih k hk
    | true =>
      rw [aP_y hp]
      rw [cP_y hp] at hk
      by_cases e : k = n + cP P i
      · rw [e, pk_us]; exact hg i (by omega)
      · rw [pk_un e]; exact ih k (by omega)
theorem cP_0 {P : Nat → Bool} : ∀ k, cP P k = 0 ↔ ∀ i, i < k → P i = false
  | 0 => ⟨fun _ i hi => absurd hi (Nat.not_lt_zero i), fun _ => rfl⟩
  | k + 1 => by
    cases hp : P k with
    | false =>
      rw [cP_n hp, cP_0 k]
      constructor
      · intro q i hi
        by_cases e : i = k
        · rw [e]; exact hp
        · exact q i (by omega)
      · intro q i hi
        exact q i (by omega)
    | true =>
      rw [cP_y hp]
      exact ⟨fun q => by omega, fun q => by rw [q k (by omega)] at hp; exact absurd hp (by decide)⟩
theorem z64 {m : Nat} (hm : m < 2 ^ 64) : m = 0 ↔ ∀ i, i < 64 → m.testBit i = false := by
  constructor
  · intro h i _; rw [h, Nat.zero_testBit]
  · intro h
    apply Nat.eq_of_testBit_eq
    intro i
    rw [Nat.zero_testBit]
    by_cases hi : i < 64
    · exact h i hi
    · exact Nat.testBit_lt_two_pow (Nat.lt_of_lt_of_le hm (Nat.pow_le_pow_right (by decide) (by omega)))
theorem toP_bit {g G N : Nat → Nat} {A : moA} {u a : Nat} (hG : RG G N A) (hg : ∀ l, l < 8 → pp_c (g l) 64 = N l ∧ g l = bmN G l (N l)) (ha : a < 64) : toP (rR G N (2 ^ u) 64) N a = (fin8 g (rOut g (2 ^ u) 8) 8).testBit a := by
  rw [rR_out (g := g) (fun l hl => ⟨(hG l hl).2.1, (hg l hl).2⟩), show (64 : Nat) = 8 + 56 from rfl, rOut_stab, fin8_bit ha 8 (Nat.le_refl 8)]
  unfold toP
  congr 1
  by_cases h8 : 8 ≤ a
  · rw [decide_eq_true h8, decide_eq_false (show ¬ a < 8 by omega)]
    simp
  · rw [decide_eq_false h8, decide_eq_true (show a < 8 by omega)]
    have q : g a = 0 ↔ N a = 0 := by rw [(hg a (by omega)).2]; exact bmN_0
    by_cases e : N a = 0
    · rw [decide_eq_true e, decide_eq_false (fun w => w (q.mpr e))]
      rfl
    · rw [decide_eq_false e, decide_eq_true (show g a ≠ 0 from fun w => e (q.mp w))]
      rfl
theorem toF_bit {g G N : Nat → Nat} {A : moA} {u a n : Nat} {ad : Nat → Int32} (hG : RG G N A) (hg : ∀ l, l < 8 → pp_c (g l) 64 = N l ∧ g l = bmN G l (N l)) (ha : a < 64) (hw : wad n ad) (hA : ∀ k, k < n → A 8 k = ad k) : toF (rR G N (2 ^ u) 64) N (A 8) n a = (fin8 g (rOut g (2 ^ u) 8) 8 &&& (bm ad n ^^^ (2 ^ 64 - 1))).testBit a := by
  unfold toF
  rw [toP_bit hG hg ha, Nat.testBit_and, Nat.testBit_xor, Nat.testBit_two_pow_sub_one, decide_eq_true ha]
  congr 1
  have e : cnt (A 8) (nI a) n = 0 ↔ cnt ad (nI a) n = 0 := by
    rw [cnt_0, cnt_0]
    exact ⟨fun q i hi => by rw [← hA i hi]; exact q i hi, fun q i hi => by rw [hA i hi]; exact q i hi⟩
  have b := bm_bit (ad := ad) ha n hw
  cases hb : (bm ad n).testBit a with
  | false =>
    rw [decide_eq_true (e.mpr (b.mp hb))]
    rfl
  | true =>
    rw [decide_eq_false (fun q => by rw [b.mpr (e.mp q)] at hb; exact absurd hb (by decide))]
    rfl
