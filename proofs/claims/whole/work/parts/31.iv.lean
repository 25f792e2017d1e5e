def okG (a b : Nat) (m : jMsg) : Prop := ∃ g, a ≤ g ∧ g ≤ b ∧ m.1 6 = nI g
def NM (n : Nat) (Q : Nat → jMsg) (L : Nat) : Prop := ∃ nu : Nat → Nat, (∀ j, j < n → (Q j).1 1 = nI (nu j) ∧ 1 ≤ nu j ∧ nu j ≤ L) ∧ ∀ i j, i < j → j < n → nu i < nu j
def QI (a b L n : Nat) (Q : Nat → jMsg) : Prop := (∀ i, i < n → okM (Q i) ∧ okG a b (Q i)) ∧ NM n Q L
def IVb (a b L : Nat) (S : maS) : Prop := mv S 0 = nI a ∧ mv S 1 = nI b ∧ mv S 11 = nI L ∧ WF S ∧ (∀ i, i < (mQ S).1 → okG a b ((mQ S).2 i)) ∧ QI a b L (mD S).1 (mD S).2
/-- S' keeps of S what ticks must keep -/
def K3 (a b : Nat) (S S' : maS) : Prop := (mQ S').1 = (mQ S).1 ∧ (∀ j, ((mQ S').2 j).1 1 = ((mQ S).2 j).1 1) ∧ (∀ j, j ≠ 12 → mv S' j = mv S j) ∧ mD S' = mD S ∧ (mv S 0 = nI a → mv S 1 = nI b → (∀ j, j < (mQ S).1 → okG a b ((mQ S).2 j)) → ∀ j, j < (mQ S).1 → okG a b ((mQ S').2 j))
theorem K3.rfl' {a b : Nat} (S : maS) : K3 a b S S := ⟨rfl, fun _ => rfl, fun _ _ => rfl, rfl, fun _ _ h => h⟩
theorem K3.trans {a b : Nat} {S S1 S2 : maS} (h : K3 a b S S1) (h2 : K3 a b S1 S2) : K3 a b S S2 := by
  obtain ⟨a1, a2, a3, a4, a5⟩ := h
  obtain ⟨b1, b2, b3, b4, b5⟩ := h2
  refine ⟨b1.trans a1, fun j => (b2 j).trans (a2 j), fun j hj => (b3 j hj).trans (a3 j hj), b4.trans a4, fun h0 h1 hg j hj => ?_⟩
  exact b5 ((a3 0 (by decide)).trans h0) ((a3 1 (by decide)).trans h1) (fun q hq => a5 h0 h1 hg q (by rw [a1] at hq; exact hq)) j (by rw [a1]; exact hj)
theorem K3.tr (a b : Nat) (S : maS) (i k : Nat) : K3 a b S (trS S i k).1 := by
  obtain ⟨k1, k2, k3, k4, k5, k6, k7⟩ := trS_keep S i k
  obtain ⟨q1, q2, q3⟩ := trS_keep2 S i k
  have h1 : ∀ j, ((mQ (trS S i k).1).2 j).1 = ((mQ S).2 j).1 := fun j => by
    by_cases e : j = i
    · rw [e]; exact k5
    · rw [k4 j e]
  exact ⟨k1, fun j => by rw [h1], q1, q2, fun _ _ hg j hj => by unfold okG; rw [h1]; exact hg j hj⟩
theorem K3.fo (a b : Nat) (S : maS) (i : Nat) : K3 a b S (foS S i) := by
  obtain ⟨k1, k2, k3, k4, k5⟩ := foS_keep S i
  have h1 : ∀ j, ((mQ (foS S i)).2 j).1 = ((mQ S).2 j).1 := fun j => by
    by_cases e : j = i
    · rw [e]; exact k1
    · rw [k3 j e]
  exact ⟨foS_q S i, fun j => by rw [h1], k2, k4, fun _ _ hg j hj => by unfold okG; rw [h1]; exact hg j hj⟩
theorem K3.qi {a b : Nat} {S : maS} {i : Nat} {y : jMsg} (h1 : y.1 1 = ((mQ S).2 i).1 1) (h6 : mv S 0 = nI a → mv S 1 = nI b → okG a b ((mQ S).2 i) → okG a b y) (hi : i < (mQ S).1) : K3 a b S (bmp (mv S), (setQi S i y).2) := by
  refine ⟨rfl, fun j => ?_, fun j hj => pk_un hj, rfl, fun h0 hh1 hg j hj => ?_⟩
  · show (va_up (mQ S).2 i y j).1 1 = _
    by_cases e : j = i
    · rw [e, va_up_self]; exact h1
    · rw [va_up_ne _ _ e]
  · show okG a b (va_up (mQ S).2 i y j)
    by_cases e : j = i
    · rw [e, va_up_self]; exact h6 h0 hh1 (hg i hi)
    · rw [va_up_ne _ _ e]; exact hg j hj
theorem okG_po {a b : Nat} {S : maS} {i : Nat} (h1 : 1 ≤ a) (h2 : a ≤ b) (h3 : b ≤ 600) (hb : mv S 1 = nI b) (hg : okG a b ((mQ S).2 i)) : okG a b (poM S i) := by
  obtain ⟨g, g1, g2, g3⟩ := hg
  show ∃ g, a ≤ g ∧ g ≤ b ∧ jmin (((mQ S).2 i).1 6 * 2) (mv S 1) = nI g
  rw [g3, hb, show nI g * (2 : Int32) = nI (2 * g) from by rw [show (2 : Int32) = nI 2 from rfl, pk_mul, Nat.mul_comm]]
  by_cases h : b < 2 * g
  · exact ⟨b, h2, Nat.le_refl _, if_pos (nI_lt h (by omega))⟩
  · exact ⟨2 * g, by omega, by omega, if_neg (nI_nlt (by omega) (by omega))⟩
theorem K3.se {a b : Nat} (h1 : 1 ≤ a) (h2 : a ≤ b) (h3 : b ≤ 600) (S : maS) {i : Nat} (hi : i < (mQ S).1) : K3 a b S (seS S i).1 := by
  unfold seS
  split
  · exact K3.qi (y := poM S i) rfl (fun _ hb hg => okG_po h1 h2 h3 hb hg) hi
  · split
    · exact K3.qi (y := rpM S i) rfl (fun ha _ _ => ⟨a, Nat.le_refl _, h2, ha⟩) hi
    · exact ⟨rfl, fun _ => rfl, fun j hj => pk_un hj, rfl, fun _ _ h => h⟩
theorem K3.tkm {a b : Nat} (h1 : 1 ≤ a) (h2 : a ≤ b) (h3 : b ≤ 600) (S : maS) {i : Nat} (hi : i < (mQ S).1) : K3 a b S (tkM S i).1 := by
  unfold tkM
  split
  · exact K3.rfl' S
  · refine ((K3.tr a b S i ((mQ S).2 i).2.1).trans (K3.fo a b _ i)).trans (K3.se h1 h2 h3 _ ?_)
    rw [foS_q, (trS_keep S i _).1]
    exact hi
/-- ticks by number: those up to N are done -/
def stN (Z : maS) : Nat → maS × Nat × Nat
  | 0 => (Z, 0, 0)
  | N + 1 => if (stN Z N).2.1 < (mQ (stN Z N).1).1 ∧ ((mQ (stN Z N).1).2 (stN Z N).2.1).1 1 = nI (N + 1) then tk1 (stN Z N) else stN Z N
theorem stN_tk (Z : maS) : ∀ N, ∃ t, stN Z N = tkS Z t
  | 0 => ⟨0, rfl⟩
  | N + 1 => by
    obtain ⟨t, ht⟩ := stN_tk Z N
    unfold stN
    split
    · exact ⟨t + 1, by rw [ht]; rfl⟩
    · exact ⟨t, ht⟩
def PN (L N : Nat) (p : maS × Nat × Nat) : Prop := p.2.1 ≤ (mQ p.1).1 ∧ ∃ nu : Nat → Nat, (∀ j, j < (mQ p.1).1 → ((mQ p.1).2 j).1 1 = nI (nu j) ∧ 1 ≤ nu j ∧ nu j ≤ L) ∧ (∀ i j, i < j → j < (mQ p.1).1 → nu i < nu j) ∧ (∀ j, j < p.2.1 → nu j ≤ N) ∧ ∀ j, p.2.1 ≤ j → j < (mQ p.1).1 → N + 1 ≤ nu j
theorem IVb.k3 {a b L : Nat} {S S' : maS} (h : IVb a b L S) (k : K3 a b S S') (hw : WF S') : IVb a b L S' := by
  obtain ⟨h1, h2, h3, h4, h5, h6⟩ := h
  obtain ⟨a1, a2, a3, a4, a5⟩ := k
  exact ⟨(a3 0 (by decide)).trans h1, (a3 1 (by decide)).trans h2, (a3 11 (by decide)).trans h3, hw, fun j hj => a5 h1 h2 h5 j (by rw [a1] at hj; exact hj), by rw [a4]; exact h6⟩
theorem IVb.rem {a b L : Nat} {S : maS} (h : IVb a b L S) {i : Nat} (hi : i < (mQ S).1) : IVb a b L (remS S i) := by
  obtain ⟨h1, h2, h3, h4, h5, h6⟩ := h
  refine ⟨h1, h2, h3, remS_WF h4 hi, fun j hj => ?_, h6⟩
  have hj : j < (mQ S).1 - 1 := hj
  exact h5 _ (by unfold rho; (repeat' split) <;> omega)
theorem tk1_PN {a b L N : Nat} (h1 : 1 ≤ a) (h2 : a ≤ b) (h3 : b ≤ 600) (hL : L < 2 ^ 31) {p : maS × Nat × Nat} (hi : p.2.1 < (mQ p.1).1) (hN : ((mQ p.1).2 p.2.1).1 1 = nI (N + 1)) (hNL : N < L) (hP : PN L N p) (hV : IVb a b L p.1) : PN L (N + 1) (tk1 p) ∧ IVb a b L (tk1 p).1 := by
  have k := K3.tkm h1 h2 h3 p.1 hi
  have hw := tkM_WF hV.2.2.2.1 hi
  have hV2 := hV.k3 k hw
  obtain ⟨a1, a2, -, -, -⟩ := k
  obtain ⟨p1, nu, n1, n2, n3, n4⟩ := hP
  have e : nu p.2.1 = N + 1 := by
    have q := n1 _ hi
    exact (nI_eq (by omega) (by omega)).mp (q.1.symm.trans hN)
  unfold tk1
  rw [if_pos hi]
  split
  · refine ⟨⟨by show p.2.1 + 1 ≤ (mQ (tkM p.1 p.2.1).1).1; rw [a1]; exact hi, nu, fun j hj => ?_, fun i j hij hj => ?_, fun j hj => ?_, fun j h hj => ?_⟩, hV2⟩
    · show ((mQ (tkM p.1 p.2.1).1).2 j).1 1 = _ ∧ _
      rw [a2]
      exact n1 j (by rw [← a1]; exact hj)
    · exact n2 i j hij (by rw [← a1]; exact hj)
    · have hj : j < p.2.1 + 1 := hj
      by_cases q : j = p.2.1
      · rw [q, e]; exact Nat.le_refl _
      · have := n3 j (by omega); omega
    · have h : p.2.1 + 1 ≤ j := h
      have := n2 p.2.1 j (by omega) (by rw [← a1]; exact hj)
      omega
  · have hi2 : p.2.1 < (mQ (tkM p.1 p.2.1).1).1 := by rw [a1]; exact hi
    refine ⟨⟨?_, fun j => nu (rho p.2.1 (mQ p.1).1 j), fun j hj => ?_, fun i j hij hj => ?_, fun j hj => ?_, fun j h hj => ?_⟩, hV2.rem hi2⟩
    · show p.2.1 ≤ (mQ (tkM p.1 p.2.1).1).1 - 1
      omega
    · have hj : j < (mQ (tkM p.1 p.2.1).1).1 - 1 := hj
      rw [a1] at hj
      show ((mQ (tkM p.1 p.2.1).1).2 (rho p.2.1 (mQ (tkM p.1 p.2.1).1).1 j)).1 1 = _ ∧ _
      rw [a2, a1]
      exact n1 _ (by unfold rho; (repeat' split) <;> omega)
    · have hj : j < (mQ (tkM p.1 p.2.1).1).1 - 1 := hj
      rw [a1] at hj
      exact n2 _ _ (by unfold rho; (repeat' split) <;> omega) (by unfold rho; (repeat' split) <;> omega)
    · have hj : j < p.2.1 := hj
      show nu (rho p.2.1 (mQ p.1).1 j) ≤ _
      rw [show rho p.2.1 (mQ p.1).1 j = j from if_pos hj]
      have := n3 j hj
      omega
    · have h : p.2.1 ≤ j := h
      have hj : j < (mQ (tkM p.1 p.2.1).1).1 - 1 := hj
      rw [a1] at hj
      show _ ≤ nu (rho p.2.1 (mQ p.1).1 j)
      rw [show rho p.2.1 (mQ p.1).1 j = j + 1 from by unfold rho; rw [if_neg (by omega), if_pos (by omega)]]
      have := n2 p.2.1 (j + 1) (by omega) (by omega)
      omega
theorem stN_end {Z : maS} {L : Nat} (h6 : (mQ Z).1 ≤ 6) (hP : PN L L (stN Z L)) : stN Z L = tkS Z 6 := by
  obtain ⟨t, ht⟩ := stN_tk Z L
  obtain ⟨p1, nu, n1, n2, n3, n4⟩ := hP
  have hst : ¬ (tkS Z t).2.1 < (mQ (tkS Z t).1).1 := fun q => by
    rw [← ht] at q
    have g1 := n4 _ (Nat.le_refl _) q
    have g2 := (n1 _ q).2.2
    omega
  have q6 := tkS_q6 h6 6
  have hs6 : ¬ (tkS Z 6).2.1 < (mQ (tkS Z 6).1).1 := by omega
  rw [ht, ← tkS_stuck hst 6, Nat.add_comm t 6]
  exact tkS_stuck hs6 t
theorem tk1_at {p : maS × Nat × Nat} (hi : p.2.1 < (mQ p.1).1) (hd : ¬ mv p.1 10 < ((mQ p.1).2 p.2.1).1 5) : (tk1 p).1 = atS p.1 p.2.1 ∧ (tk1 p).2.2 = p.2.2 + (trS p.1 p.2.1 ((mQ p.1).2 p.2.1).2.1).2 := by
  unfold tk1 atS
  rw [if_pos hi]
  have e : tkM p.1 p.2.1 = ((seS (foS (trS p.1 p.2.1 ((mQ p.1).2 p.2.1).2.1).1 p.2.1) p.2.1).1, (trS p.1 p.2.1 ((mQ p.1).2 p.2.1).2.1).2, (seS (foS (trS p.1 p.2.1 ((mQ p.1).2 p.2.1).2.1).1 p.2.1) p.2.1).2) := if_neg hd
  rw [e]
  split
  · exact ⟨rfl, rfl⟩
  · exact ⟨rfl, rfl⟩
theorem tk1_wait {p : maS × Nat × Nat} (hi : p.2.1 < (mQ p.1).1) (hd : mv p.1 10 < ((mQ p.1).2 p.2.1).1 5) : (tk1 p).1 = p.1 ∧ (tk1 p).2.2 = p.2.2 := by
  unfold tk1
  rw [if_pos hi]
  have e : tkM p.1 p.2.1 = (p.1, 0, true) := if_pos hd
  rw [e]
  exact ⟨rfl, rfl⟩
theorem RQ.copy {n : Nat} {Q D : Nat → jMsg} {f g : Nat → Int32} (h : RQ n Q f) : RQ n (cpQ D Q n) (cp g f 96) := by
  refine ⟨h.1, fun i hi => ?_⟩
  have h6 := h.1
  have e : cpQ D Q n i = ((Q i).1, (Q i).2.1, cp (D i).2.2.1 (Q i).2.2.1 (Q i).2.1, cp (D i).2.2.2 (Q i).2.2.2 (Q i).2.1) := if_pos hi
  rw [e]
  have hr : R16 (Q i) (cp g f 96) (16 * i) := (h.2 i hi).congr (fun j h1 h2 => if_pos (by omega))
  exact ⟨hr.le, hr.c0, hr.c1, hr.c2, hr.c3, fun k hk => by
    have hk : k < (Q i).2.1 := hk
    show _ = cp (D i).2.2.1 (Q i).2.2.1 (Q i).2.1 k
    rw [show cp (D i).2.2.1 (Q i).2.2.1 (Q i).2.1 k = (Q i).2.2.1 k from if_pos hk]
    exact hr.ad k hk, fun k hk => by
    have hk : k < (Q i).2.1 := hk
    show _ = cp (D i).2.2.2 (Q i).2.2.2 (Q i).2.1 k
    rw [show cp (D i).2.2.2 (Q i).2.2.2 (Q i).2.1 k = (Q i).2.2.2 k from if_pos hk]
    exact hr.st k hk, hr.c12, hr.c13, hr.c14, hr.c15⟩
theorem QI.copy {a b L n : Nat} {Q D : Nat → jMsg} (h : QI a b L n Q) : QI a b L n (cpQ D Q n) := by
  obtain ⟨h1, nu, h2, h3⟩ := h
  have e : ∀ i, i < n → cpQ D Q n i = ((Q i).1, (Q i).2.1, cp (D i).2.2.1 (Q i).2.2.1 (Q i).2.1, cp (D i).2.2.2 (Q i).2.2.2 (Q i).2.1) := fun i hi => if_pos hi
  refine ⟨fun i hi => ?_, nu, fun j hj => ?_, h3⟩
  · rw [e i hi]
    obtain ⟨⟨g1, g2, g3⟩, g4⟩ := h1 i hi
    refine ⟨⟨g1, fun k hk => ?_, g3⟩, g4⟩
    have hk : k < (Q i).2.1 := hk
    obtain ⟨u, hu, eu⟩ := g2 k hk
    exact ⟨u, hu, (if_pos hk : cp (D i).2.2.1 (Q i).2.2.1 (Q i).2.1 k = _).trans eu⟩
  · rw [e j hj]; exact h2 j hj
theorem RS.dur {S : maS} {A : moA} {w : Nat → Int32} (h : RS S A w) : RS (mkDur S) (stA A) (stW w) :=
  ⟨⟨h.v0, h.v1, h.v2, h.v9, h.v10, rfl⟩, h.al, h.ro, h.ho, h.tr, h.qu, ⟨h.qn, h.q.copy⟩, h.le⟩
theorem RS.kc {S : maS} {A : moA} {w : Nat → Int32} (h : RS S A w) : RS (kcf S) (clA A w) (clW w) := by
  unfold kcf clA clW
  rw [← h.v15]
  split
  · exact h.dur
  · exact h
def IVa (a b L : Nat) (S : maS) : Prop := IVb a b L S ∧ NM (mQ S).1 (mQ S).2 L
theorem IVa.q {a b L : Nat} {S : maS} (h : IVa a b L S) : QI a b L (mQ S).1 (mQ S).2 := ⟨fun i hi => ⟨h.1.2.2.2.1.1 i hi, h.1.2.2.2.2.1 i hi⟩, h.2⟩
theorem IVa.dur {a b L : Nat} {S : maS} (h : IVa a b L S) : IVa a b L (mkDur S) := by
  have hq := h.q
  obtain ⟨⟨h1, h2, h3, h4, h5, h6⟩, h7⟩ := h
  exact ⟨⟨h1, h2, h3, h4, h5, hq.copy⟩, h7⟩
theorem IVa.kc {a b L : Nat} {S : maS} (h : IVa a b L S) : IVa a b L (kcf S) := by
  unfold kcf
  split
  · exact h.dur
  · exact h
theorem PN.nm {L N : Nat} {p : maS × Nat × Nat} (h : PN L N p) : NM (mQ p.1).1 (mQ p.1).2 L := by
  obtain ⟨p1, nu, n1, n2, n3, n4⟩ := h
  exact ⟨nu, n1, n2⟩
