theorem R16.move {m : jMsg} {f f' : Nat → Int32} {b b' : Nat} (h : R16 m f b) (he : ∀ q, q < 16 → f' (b' + q) = f (b + q)) : R16 m f' b' := by
  have h4 := h.le
  refine ⟨h4, ?_, ?_, ?_, ?_, fun k hk => ?_, fun k hk => ?_, ?_, ?_, ?_, ?_⟩
  · exact (he 0 (by omega)).trans h.c0
  · rw [he _ (by omega)]; exact h.c1
  · rw [he _ (by omega)]; exact h.c2
  · rw [he _ (by omega)]; exact h.c3
  · rw [Nat.add_assoc, he _ (by omega), ← Nat.add_assoc]; exact h.ad k hk
  · rw [Nat.add_assoc, he _ (by omega), ← Nat.add_assoc]; exact h.st k hk
  · rw [he _ (by omega)]; exact h.c12
  · rw [he _ (by omega)]; exact h.c13
  · rw [he _ (by omega)]; exact h.c14
  · rw [he _ (by omega)]; exact h.c15
theorem R16.po {m : jMsg} {f : Nat → Int32} {b : Nat} (h : R16 m f b) (x y : Int32) : R16 (upd (upd m.1 5 x) 6 y, m.2) (upd (upd f (b + 13) x) (b + 14) y) b := by
  have h4 := h.le
  refine ⟨h4, ?_, ?_, ?_, ?_, fun k hk => ?_, fun k hk => ?_, ?_, ?_, ?_, ?_⟩
  · rw [pk_un (by omega), pk_un (by omega)]; exact h.c0
  · rw [pk_un (by omega), pk_un (by omega)]; exact h.c1
  · rw [pk_un (by omega), pk_un (by omega)]; exact h.c2
  · rw [pk_un (by omega), pk_un (by omega)]; exact h.c3
  · have hk : k < m.2.1 := hk
    rw [pk_un (by omega), pk_un (by omega)]; exact h.ad k hk
  · have hk : k < m.2.1 := hk
    rw [pk_un (by omega), pk_un (by omega)]; exact h.st k hk
  · rw [pk_un (by omega), pk_un (by omega)]; exact h.c12
  · rw [pk_un (by omega), pk_us]; rfl
  · rw [pk_us]; rfl
  · rw [pk_un (by omega), pk_un (by omega)]; exact h.c15
theorem R16.hu {m : jMsg} {f : Nat → Int32} {b : Nat} (h : R16 m f b) (x : Int32) : R16 (upd m.1 5 x, m.2) (upd f (b + 13) x) b := by
  have h4 := h.le
  refine ⟨h4, ?_, ?_, ?_, ?_, fun k hk => ?_, fun k hk => ?_, ?_, ?_, ?_, ?_⟩
  · rw [pk_un (by omega)]; exact h.c0
  · rw [pk_un (by omega)]; exact h.c1
  · rw [pk_un (by omega)]; exact h.c2
  · rw [pk_un (by omega)]; exact h.c3
  · have hk : k < m.2.1 := hk
    rw [pk_un (by omega)]; exact h.ad k hk
  · have hk : k < m.2.1 := hk
    rw [pk_un (by omega)]; exact h.st k hk
  · rw [pk_un (by omega)]; exact h.c12
  · rw [pk_us]; rfl
  · rw [pk_un (by omega)]; exact h.c14
  · rw [pk_un (by omega)]; exact h.c15
def rpF (f : Nat → Int32) (b : Nat) (s k g : Int32) : Nat → Int32 := upd (upd (upd (upd (upd (upd (upd (upd (upd f (b + 4) s) (b + 8) 1) (b + 1) (-1)) (b + 2) 0) (b + 3) 1) (b + 12) k) (b + 13) k) (b + 14) g) (b + 15) 1
theorem R16.rp {m : jMsg} {f : Nat → Int32} {b : Nat} (h : R16 m f b) (k g : Int32) : R16 (upd (upd (upd (upd (upd (upd m.1 2 (-1)) 3 0) 7 1) 4 k) 5 k) 6 g, 1, upd m.2.2.1 0 (m.1 2), upd m.2.2.2 0 1) (rpF f b (m.1 2) k g) b := by
  have h0 := h.c0
  unfold rpF
  refine ⟨by show 1 ≤ 4; decide, ?_, ?_, ?_, ?_, fun j hj => ?_, fun j hj => ?_, ?_, ?_, ?_, ?_⟩
  · rw [pk_un (by omega), pk_un (by omega), pk_un (by omega), pk_un (by omega), pk_un (by omega), pk_un (by omega), pk_un (by omega), pk_un (by omega), pk_un (by omega)]; exact h0
  · rw [pk_un (by omega), pk_un (by omega), pk_un (by omega), pk_un (by omega), pk_un (by omega), pk_un (by omega), pk_us]; rfl
  · rw [pk_un (by omega), pk_un (by omega), pk_un (by omega), pk_un (by omega), pk_un (by omega), pk_us]; rfl
  · rw [pk_un (by omega), pk_un (by omega), pk_un (by omega), pk_un (by omega), pk_us]; rfl
  · have hj : j < 1 := hj
    rw [show j = 0 by omega]
    rw [Nat.add_zero, pk_un (by omega), pk_un (by omega), pk_un (by omega), pk_un (by omega), pk_un (by omega), pk_un (by omega), pk_un (by omega), pk_un (by omega), pk_us]
    rfl
  · have hj : j < 1 := hj
    rw [show j = 0 by omega]
    rw [Nat.add_zero, pk_un (by omega), pk_un (by omega), pk_un (by omega), pk_un (by omega), pk_un (by omega), pk_un (by omega), pk_un (by omega), pk_us]
    rfl
  · rw [pk_un (by omega), pk_un (by omega), pk_un (by omega), pk_us]; rfl
  · rw [pk_un (by omega), pk_un (by omega), pk_us]; rfl
  · rw [pk_un (by omega), pk_us]; rfl
  · rw [pk_us]; rfl
theorem RQ.rem {n i : Nat} {Q : Nat → jMsg} {f : Nat → Int32} (h : RQ n Q f) (hi : i < n) : RQ (n - 1) (fun j => Q (rho i n j)) (shR f (16 * i) 80) := by
  have h6 := h.1
  refine ⟨by omega, fun j hj => ?_⟩
  by_cases hji : j < i
  · show R16 (Q (rho i n j)) _ _
    rw [show rho i n j = j from if_pos hji]
    refine (h.2 j (by omega)).move (fun q hq => ?_)
    unfold shR
    rw [if_neg (by omega)]
  · show R16 (Q (rho i n j)) _ _
    rw [show rho i n j = j + 1 from by unfold rho; rw [if_neg hji, if_pos (by omega)]]
    refine (h.2 (j + 1) (by omega)).move (fun q hq => ?_)
    unfold shR
    rw [if_pos (by omega), show 16 * j + q + 16 = 16 * (j + 1) + q by omega]
theorem nI_sub1 {n : Nat} (h : 0 < n) : nI n - 1 = nI (n - 1) := by
  obtain ⟨m, rfl⟩ : ∃ m, n = m + 1 := ⟨n - 1, by omega⟩
  exact nI_pred m
theorem RS.rem {S : maS} {A : moA} {w : Nat → Int32} (h : RS S A w) {i : Nat} (hi : i < (mQ S).1) : RS (remS S i) (rmA A (16 * i)) (rmW w) := by
  refine ⟨h.v, h.al, h.ro, h.ho, h.tr, ⟨?_, h.q.rem hi⟩, h.du, h.le⟩
  show w 12 - 1 = nI ((mQ S).1 - 1)
  rw [h.qn]
  exact nI_sub1 (by omega)
def foK (T : maS) (i k : Nat) : maS := (upd (mv T) 12 (mv T 12 + nI (cnt ((mQ T).2 i).2.2.2 1 k)), (setQi T i (((mQ T).2 i).1, ((mQ T).2 i).2.1, ((mQ T).2 i).2.2.1, fw ((mQ T).2 i).2.2.2 k)).2)
theorem foK_0 (T : maS) (i : Nat) : foK T i 0 = T := by
  unfold foK
  rw [fw_0]
  show (upd (mv T) 12 (mv T 12 + 0), (setQi T i ((mQ T).2 i)).2) = T
  rw [setQi_id, Int32.add_zero, upd_same rfl]
theorem vv_up' {α : Type} {f : Nat → α} {i : Nat} {x y : α} : va_up (va_up f i x) i y = va_up f i y := by
  funext j
  by_cases e : j = i
  · rw [e, va_up_self, va_up_self]
  · rw [va_up_ne _ _ e, va_up_ne _ _ e, va_up_ne _ _ e]
theorem foK_m (T : maS) (i k : Nat) : (mQ (foK T i k)).2 i = (((mQ T).2 i).1, ((mQ T).2 i).2.1, ((mQ T).2 i).2.2.1, fw ((mQ T).2 i).2.2.2 k) := va_up_self _ _ _
theorem foK_y {T : maS} {i k : Nat} (h : ((mQ T).2 i).2.2.2 k = 1) : (upd (mv (foK T i k)) 12 (mv (foK T i k) 12 + 1), (setQi (foK T i k) i (((mQ (foK T i k)).2 i).1, ((mQ (foK T i k)).2 i).2.1, ((mQ (foK T i k)).2 i).2.2.1, upd ((mQ (foK T i k)).2 i).2.2.2 k 3)).2) = foK T i (k + 1) := by
  rw [foK_m]
  show (upd (upd (mv T) 12 (mv T 12 + nI (cnt ((mQ T).2 i).2.2.2 1 k))) 12 (mv T 12 + nI (cnt ((mQ T).2 i).2.2.2 1 k) + 1), T.2.1, T.2.2.1, T.2.2.2.1, T.2.2.2.2.1, ((mQ T).1, va_up (va_up (mQ T).2 i _) i (((mQ T).2 i).1, ((mQ T).2 i).2.1, ((mQ T).2 i).2.2.1, upd (fw ((mQ T).2 i).2.2.2 k) k 3)), T.2.2.2.2.2.2) = _
  rw [upd_upd, vv_up', fw_y h, Int32.add_assoc, nI_1]
  unfold foK
  rw [cnt_y h]
  rfl
theorem foK_n {T : maS} {i k : Nat} (h : ¬ ((mQ T).2 i).2.2.2 k = 1) : foK T i k = foK T i (k + 1) := by
  unfold foK
  rw [cnt_n h, fw_n h]
theorem foS_e {T : maS} {i : Nat} (h : ¬ mv T 10 < ((mQ T).2 i).1 4 + mv T 2) : foS T i = foK T i ((mQ T).2 i).2.1 := if_neg h
theorem foS_keep (T : maS) (i : Nat) : ((mQ (foS T i)).2 i).1 = ((mQ T).2 i).1 ∧ (∀ j, j ≠ 12 → mv (foS T i) j = mv T j) ∧ (∀ j, j ≠ i → (mQ (foS T i)).2 j = (mQ T).2 j) ∧ mD (foS T i) = mD T ∧ mT (foS T i) = mT T := by
  unfold foS
  split
  · exact ⟨rfl, fun _ _ => rfl, fun _ _ => rfl, rfl, rfl⟩
  · refine ⟨?_, fun j hj => pk_un hj, fun j hj => va_up_ne _ _ hj, rfl, rfl⟩
    show (va_up _ i _ i : jMsg).1 = _
    rw [va_up_self]
theorem tr1_keep2 (S : maS) (i k : Nat) : (∀ j, j ≠ 12 → mv (tr1 S i k).1 j = mv S j) ∧ mD (tr1 S i k).1 = mD S ∧ mT (tr1 S i k).1 = mT S := by
  have h2 : ∀ u, (∀ j, j ≠ 12 → mv (tr3 S i k u) j = mv S j) ∧ mD (tr3 S i k u) = mD S ∧ mT (tr3 S i k u) = mT S := fun u => by
    unfold tr3
    split
    · exact ⟨fun j _ => rfl, rfl, rfl⟩
    · exact ⟨fun j hj => pk_un hj, rfl, rfl⟩
  have h4 : ∀ u, (∀ j, j ≠ 12 → mv (tr4 S i k u).1 j = mv S j) ∧ mD (tr4 S i k u).1 = mD S ∧ mT (tr4 S i k u).1 = mT S := fun u => by
    unfold tr4
    split <;> exact h2 u
  unfold tr1
  split
  · exact h4 _
  · exact ⟨fun j _ => rfl, rfl, rfl⟩
theorem trS_keep2 (S : maS) (i : Nat) : ∀ k, (∀ j, j ≠ 12 → mv (trS S i k).1 j = mv S j) ∧ mD (trS S i k).1 = mD S ∧ mT (trS S i k).1 = mT S
  | 0 => ⟨fun _ _ => rfl, rfl, rfl⟩
  | k + 1 => by
    obtain ⟨a1, a2, a3⟩ := trS_keep2 S i k
    obtain ⟨b1, b2, b3⟩ := tr1_keep2 (trS S i k).1 i k
    exact ⟨fun j hj => (b1 j hj).trans (a1 j hj), b2.trans a2, b3.trans a3⟩
theorem gapI {a b g : Nat} (h1 : 1 ≤ a) (h2 : a ≤ g) (h3 : g ≤ b) (h4 : b ≤ 600) : (if (2 : Int32) * nI g < nI a then nI a else if nI b < (2 : Int32) * nI g then nI b else (2 : Int32) * nI g) = jmin (nI g * 2) (nI b) := by
  rw [show (2 : Int32) * nI g = nI (2 * g) from pk_mul 2 g, show nI g * (2 : Int32) = nI (2 * g) from by rw [show (2 : Int32) = nI 2 from rfl, pk_mul, Nat.mul_comm]]
  rw [if_neg (nI_nlt (by omega) (by omega))]
theorem cyF_cases {r : jRt} {hs : Nat → Int32} (hw : ∀ i, i < r.1 → ∃ k, k < 8 ∧ r.2.1 i = nI k) : cyF r hs = (3, none) ∨ cyF r hs = (1, none) ∨ ∃ x, x < 8 ∧ cyF r hs = (2, some x) := by
  have key : ∀ k i, i + k = r.1 → cyR r.2.1 hs i k = (3, none) ∨ cyR r.2.1 hs i k = (1, none) ∨ ∃ x, x < 8 ∧ cyR r.2.1 hs i k = (2, some x) := by
    intro k
    induction k with
    | zero => intro i _; exact Or.inr (Or.inl rfl)
    | succ k ih =>
      intro i hi
      obtain ⟨x, hx, ex⟩ := hw i (by omega)
      have e : (r.2.1 i).toNatClampNeg = x := by rw [ex]; exact nI_clamp (by omega)
      unfold cyR
      rw [e]
      split
      · exact Or.inr (Or.inr ⟨x, hx, rfl⟩)
      · split
        · exact Or.inl rfl
        · exact ih (i + 1) (by omega)
  unfold cyF
  split
  · exact Or.inl rfl
  · exact key r.1 0 (by omega)
theorem caF_own {S : maS} {u : Nat} (h : u < 8) : caF S u = (2, none) := if_pos (by omega)
theorem caF_far {S : maS} {u : Nat} (h : ¬ u < 8) : caF S u = cyF (mR S (u / 8)) (mh S) := if_neg (by omega)
