def bmN (G : Nat → Nat) (l : Nat) : Nat → Nat
  | 0 => 0
  | j + 1 => bmN G l j ||| 2 ^ G (4 * l + j)
def RAl (g : Nat → Nat) (A : moA) : Prop := ∃ G N : Nat → Nat, RG G N A ∧ ∀ l, l < 8 → pp_c (g l) 64 = N l ∧ g l = bmN G l (N l)
def RTr (t : jTr) (f : Nat → Int32) (w16 w17 w19 : Int32) : Prop := w16 = t.1 ∧ (t.1 = 0 ∨ t.1 = 1) ∧ w19 = nI t.2.2.1 ∧ t.2.2.1 ≤ 4 ∧ (∀ k, k < t.2.2.1 → f k = t.2.2.2.1 k ∧ t.2.2.2.2 k = 1) ∧ wad t.2.2.1 t.2.2.2.1 ∧ (t.1 = 1 → w17 = t.2.1 ∧ (t.2.1 = -1 ∨ ∃ u, u < 64 ∧ t.2.1 = nI u))
def RQw (p : Nat × (Nat → jMsg)) (f : Nat → Int32) (x : Int32) : Prop := x = nI p.1 ∧ RQ p.1 p.2 f
def RLe (L : jDe) (f9 f10 f11 f12 : Nat → Int32) : Prop := (∀ k, k < 64 → f9 k = L.1 k) ∧ (∀ k, k < 64 → f10 k = L.2.1 k) ∧ (∀ k, k < 64 → f11 k = L.2.2.1 k) ∧ ∀ k, k < 8 → f12 k = L.2.2.2 k
def RV (v w : Nat → Int32) : Prop := w 0 = v 0 ∧ w 1 = v 1 ∧ w 2 = v 2 ∧ w 9 = v 10 ∧ w 10 = v 11 ∧ w 15 = v 12
/-- the class's state and the reference's -/
def RS (S : maS) (A : moA) (w : Nat → Int32) : Prop := RV (mv S) w ∧ RAl (mg S) A ∧ (∀ d, 0 < d → d < 8 → RDo (mR S d) A d) ∧ (∀ k, k < 8 → A 5 k = mh S k) ∧ RTr (mT S) (A 8) (w 16) (w 17) (w 19) ∧ RQw (mQ S) (A 6) (w 12) ∧ RQw (mD S) (A 7) (w 14) ∧ RLe (mL S) (A 9) (A 10) (A 11) (A 12)
section RSp
variable {S : maS} {A : moA} {w : Nat → Int32}
theorem RS.v (h : RS S A w) : RV (mv S) w := h.1
theorem RS.al (h : RS S A w) : RAl (mg S) A := h.2.1
theorem RS.ro (h : RS S A w) : ∀ d, 0 < d → d < 8 → RDo (mR S d) A d := h.2.2.1
theorem RS.ho (h : RS S A w) : ∀ k, k < 8 → A 5 k = mh S k := h.2.2.2.1
theorem RS.tr (h : RS S A w) : RTr (mT S) (A 8) (w 16) (w 17) (w 19) := h.2.2.2.2.1
theorem RS.qu (h : RS S A w) : RQw (mQ S) (A 6) (w 12) := h.2.2.2.2.2.1
theorem RS.du (h : RS S A w) : RQw (mD S) (A 7) (w 14) := h.2.2.2.2.2.2.1
theorem RS.le (h : RS S A w) : RLe (mL S) (A 9) (A 10) (A 11) (A 12) := h.2.2.2.2.2.2.2
theorem RS.v0 (h : RS S A w) : w 0 = mv S 0 := h.v.1
theorem RS.v1 (h : RS S A w) : w 1 = mv S 1 := h.v.2.1
theorem RS.v2 (h : RS S A w) : w 2 = mv S 2 := h.v.2.2.1
theorem RS.v9 (h : RS S A w) : w 9 = mv S 10 := h.v.2.2.2.1
theorem RS.v10 (h : RS S A w) : w 10 = mv S 11 := h.v.2.2.2.2.1
theorem RS.v15 (h : RS S A w) : w 15 = mv S 12 := h.v.2.2.2.2.2
theorem RS.qn (h : RS S A w) : w 12 = nI (mQ S).1 := h.qu.1
theorem RS.q (h : RS S A w) : RQ (mQ S).1 (mQ S).2 (A 6) := h.qu.2
theorem RS.at (h : RS S A w) {i : Nat} (hi : i < (mQ S).1) : R16 ((mQ S).2 i) (A 6) (16 * i) := h.q.2 i hi
/-- one message of the queue changes -/
theorem RS.uQ (h : RS S A w) {i : Nat} {y : jMsg} {f : Nat → Int32} (hq : RQ (mQ S).1 (va_up (mQ S).2 i y) f) : RS (setQi S i y) (va_up A 6 f) w := ⟨h.v, h.al, h.ro, h.ho, h.tr, ⟨h.qn, hq⟩, h.du, h.le⟩
theorem RS.uC (h : RS S A w) (x : Int32) : RS (upd (mv S) 12 x, S.2) A (upd w 15 x) := ⟨⟨h.v0, h.v1, h.v2, h.v9, h.v10, rfl⟩, h.al, h.ro, h.ho, h.tr, h.qu, h.du, h.le⟩
theorem RS.uL (h : RS S A w) {L : jDe} {f9 f10 f11 f12 : Nat → Int32} (hl : RLe L f9 f10 f11 f12) : RS (setL S L) (va_up (va_up (va_up (va_up A 9 f9) 10 f10) 11 f11) 12 f12) w := ⟨h.v, h.al, h.ro, h.ho, h.tr, h.qu, h.du, hl⟩
end RSp
theorem R16.congr {m : jMsg} {f f' : Nat → Int32} {b : Nat} (h : R16 m f b) (he : ∀ j, b ≤ j → j < b + 16 → f' j = f j) : R16 m f' b := by
  have h4 := h.le
  refine ⟨h4, ?_, ?_, ?_, ?_, fun k hk => ?_, fun k hk => ?_, ?_, ?_, ?_, ?_⟩
  · rw [he _ (by omega) (by omega)]; exact h.c0
  · rw [he _ (by omega) (by omega)]; exact h.c1
  · rw [he _ (by omega) (by omega)]; exact h.c2
  · rw [he _ (by omega) (by omega)]; exact h.c3
  · rw [he _ (by omega) (by omega)]; exact h.ad k hk
  · rw [he _ (by omega) (by omega)]; exact h.st k hk
  · rw [he _ (by omega) (by omega)]; exact h.c12
  · rw [he _ (by omega) (by omega)]; exact h.c13
  · rw [he _ (by omega) (by omega)]; exact h.c14
  · rw [he _ (by omega) (by omega)]; exact h.c15
theorem RQ.set {n i : Nat} {Q : Nat → jMsg} {f f' : Nat → Int32} {y : jMsg} (h : RQ n Q f) (hy : R16 y f' (16 * i)) (he : ∀ j, j < 16 * i ∨ 16 * i + 16 ≤ j → f' j = f j) : RQ n (va_up Q i y) f' := by
  refine ⟨h.1, fun j hj => ?_⟩
  by_cases e : j = i
  · rw [e, va_up_self]; exact hy
  · rw [va_up_ne _ _ e]
    exact (h.2 j hj).congr (fun q h1 h2 => he q (by omega))
theorem R16.state {m : jMsg} {f : Nat → Int32} {b k : Nat} (h : R16 m f b) (hk : k < m.2.1) (v : Int32) : R16 (m.1, m.2.1, m.2.2.1, upd m.2.2.2 k v) (upd f (b + 8 + k) v) b := by
  have h4 := h.le
  refine ⟨h4, ?_, ?_, ?_, ?_, fun j hj => ?_, fun j hj => ?_, ?_, ?_, ?_, ?_⟩
  · rw [pk_un (by omega)]; exact h.c0
  · rw [pk_un (by omega)]; exact h.c1
  · rw [pk_un (by omega)]; exact h.c2
  · rw [pk_un (by omega)]; exact h.c3
  · have hj : j < m.2.1 := hj
    rw [pk_un (by omega)]; exact h.ad j hj
  · have hj : j < m.2.1 := hj
    by_cases e : j = k
    · rw [e, pk_us]; exact pk_us.symm
    · rw [pk_un (by omega)]
      show f (b + 8 + j) = upd m.2.2.2 k v j
      rw [pk_un e]
      exact h.st j hj
  · rw [pk_un (by omega)]; exact h.c12
  · rw [pk_un (by omega)]; exact h.c13
  · rw [pk_un (by omega)]; exact h.c14
  · rw [pk_un (by omega)]; exact h.c15
theorem RS.state {S : maS} {A : moA} {w : Nat → Int32} (h : RS S A w) {i k : Nat} (hi : i < (mQ S).1) (hk : k < ((mQ S).2 i).2.1) (v : Int32) : RS (setQi S i (((mQ S).2 i).1, ((mQ S).2 i).2.1, ((mQ S).2 i).2.2.1, upd ((mQ S).2 i).2.2.2 k v)) (va_up A 6 (upd (A 6) (16 * i + 8 + k) v)) w := by
  have h4 := (h.at hi).le
  exact h.uQ (h.q.set ((h.at hi).state hk v) (fun j hj => pk_un (by omega)))
/-- what deliver and the count of hosts lay down -/
theorem RLe.note {L : jDe} {f9 f10 f11 f12 : Nat → Int32} (h : RLe L f9 f10 f11 f12) {u : Nat} {m : jMsg} : RLe (noteL L u m) (if m.1 7 = 1 then f9 else upd f9 u (f9 u + 1)) (if m.1 7 = 1 then upd f10 u (f10 u + 1) else f10) (upd f11 u (m.1 1)) f12 := by
  obtain ⟨h1, h2, h3, h4⟩ := h
  unfold noteL
  refine ⟨fun k hk => ?_, fun k hk => ?_, fun k hk => ?_, h4⟩
  · show (if m.1 7 = 1 then f9 else upd f9 u (f9 u + 1)) k = (if m.1 7 = 1 then L.1 else upd L.1 u (L.1 u + 1)) k
    split
    · exact h1 k hk
    · by_cases e : k = u
      · subst e; rw [pk_us, pk_us, h1 k hk]
      · rw [pk_un e, pk_un e]; exact h1 k hk
  · show (if m.1 7 = 1 then upd f10 u (f10 u + 1) else f10) k = (if m.1 7 = 1 then upd L.2.1 u (L.2.1 u + 1) else L.2.1) k
    split
    · by_cases e : k = u
      · subst e; rw [pk_us, pk_us, h2 k hk]
      · rw [pk_un e, pk_un e]; exact h2 k hk
    · exact h2 k hk
  · show upd f11 u (m.1 1) k = upd L.2.2.1 u (m.1 1) k
    by_cases e : k = u
    · subst e; rw [pk_us, pk_us]
    · rw [pk_un e, pk_un e]; exact h3 k hk
theorem RLe.car {L : jDe} {f9 f10 f11 f12 : Nat → Int32} (h : RLe L f9 f10 f11 f12) {x : Nat} : RLe (L.1, L.2.1, L.2.2.1, upd L.2.2.2 x (L.2.2.2 x + 1)) f9 f10 f11 (upd f12 x (f12 x + 1)) := by
  obtain ⟨h1, h2, h3, h4⟩ := h
  refine ⟨h1, h2, h3, fun k hk => ?_⟩
  show upd f12 x (f12 x + 1) k = upd L.2.2.2 x (L.2.2.2 x + 1) k
  by_cases e : k = x
  · subst e; rw [pk_us, pk_us, h4 k hk]
  · rw [pk_un e, pk_un e]; exact h4 k hk
def dlA (A : moA) (b u : Nat) : moA := if A 6 (b + 15) = 1 then va_up (va_up A 10 (upd (A 10) u (A 10 u + 1))) 11 (upd (A 11) u (A 6 b)) else va_up (va_up A 9 (upd (A 9) u (A 9 u + 1))) 11 (upd (A 11) u (A 6 b))
theorem RS.dl {S : maS} {A : moA} {w : Nat → Int32} (h : RS S A w) {m : jMsg} {b u : Nat} (h15 : A 6 (b + 15) = m.1 7) (h0 : A 6 b = m.1 1) : RS (setL S (noteL (mL S) u m)) (dlA A b u) w := by
  have hl := h.le.note (u := u) (m := m)
  unfold dlA
  rw [h15, h0]
  by_cases e : m.1 7 = 1
  · rw [if_pos e]
    rw [if_pos e, if_pos e] at hl
    exact ⟨h.v, h.al, h.ro, h.ho, h.tr, h.qu, h.du, hl⟩
  · rw [if_neg e]
    rw [if_neg e, if_neg e] at hl
    exact ⟨h.v, h.al, h.ro, h.ho, h.tr, h.qu, h.du, hl⟩
theorem RS.ca {S : maS} {A : moA} {w : Nat → Int32} (h : RS S A w) (x : Nat) : RS (setL S ((mL S).1, (mL S).2.1, (mL S).2.2.1, upd (mL S).2.2.2 x ((mL S).2.2.2 x + 1))) (va_up A 12 (upd (A 12) x (A 12 x + 1))) w := ⟨h.v, h.al, h.ro, h.ho, h.tr, h.qu, h.du, h.le.car⟩
section TR
variable {S : maS} {A : moA} {w : Nat → Int32} {i k u : Nat}
theorem tr1_of (h1 : ((mQ S).2 i).2.2.2 k = 1) (hu : u < 64) (ha : ((mQ S).2 i).2.2.1 k = nI u) : tr1 S i k = tr4 S i k u := by
  unfold tr1
  rw [if_pos h1, ha, nI_clamp (by omega)]
theorem tr_no (h1 : ¬ ((mQ S).2 i).2.2.2 k = 1) : tr1 S i k = (S, 0) := if_neg h1
theorem upd_id {f : Nat → Int32} {k : Nat} {x : Int32} (h : f k = x) : upd f k x = f := upd_same h
theorem setQi_id : setQi S i ((mQ S).2 i) = S := by
  unfold setQi
  have e : va_up (mQ S).2 i ((mQ S).2 i) = (mQ S).2 := by
    funext j
    by_cases q : j = i
    · rw [q, va_up_self]
    · rw [va_up_ne _ _ q]
  rw [e]
theorem tr_1 (h1 : ((mQ S).2 i).2.2.2 k = 1) (hu : u < 64) (ha : ((mQ S).2 i).2.2.1 k = nI u) (hc : caF S u = (1, none)) : tr1 S i k = (S, 0) := by
  rw [tr1_of h1 hu ha]
  unfold tr4 tr3 tr2
  rw [caS_none (by rw [hc]), hc]
  rw [if_neg (by decide), if_pos rfl]
  show (setQi S i (((mQ S).2 i).1, ((mQ S).2 i).2.1, ((mQ S).2 i).2.2.1, upd ((mQ S).2 i).2.2.2 k 1), 0) = _
  rw [upd_id h1, setQi_id]
theorem tr_3 (h1 : ((mQ S).2 i).2.2.2 k = 1) (hu : u < 64) (ha : ((mQ S).2 i).2.2.1 k = nI u) (hc : caF S u = (3, none)) : tr1 S i k = ((upd (mv S) 12 (mv S 12 + 1), (setQi S i (((mQ S).2 i).1, ((mQ S).2 i).2.1, ((mQ S).2 i).2.2.1, upd ((mQ S).2 i).2.2.2 k 3)).2), 0) := by
  rw [tr1_of h1 hu ha]
  unfold tr4 tr3 tr2
  rw [caS_none (by rw [hc]), hc]
  rw [if_neg (by decide), if_neg (by decide)]
theorem tr_2n (h1 : ((mQ S).2 i).2.2.2 k = 1) (hu : u < 64) (ha : ((mQ S).2 i).2.2.1 k = nI u) (hc : caF S u = (2, none)) : tr1 S i k = (setL (upd (mv S) 12 (mv S 12 + 1), (setQi S i (((mQ S).2 i).1, ((mQ S).2 i).2.1, ((mQ S).2 i).2.2.1, upd ((mQ S).2 i).2.2.2 k 2)).2) (noteL (mL S) u ((mQ S).2 i)), 1) := by
  rw [tr1_of h1 hu ha]
  unfold tr4 tr3 tr2
  rw [caS_none (by rw [hc]), hc]
  rw [if_pos rfl, if_neg (by decide)]
  rfl
theorem tr_2s {x : Nat} (h1 : ((mQ S).2 i).2.2.2 k = 1) (hu : u < 64) (ha : ((mQ S).2 i).2.2.1 k = nI u) (hc : caF S u = (2, some x)) : tr1 S i k = (setL (upd (mv S) 12 (mv S 12 + 1), (setQi S i (((mQ S).2 i).1, ((mQ S).2 i).2.1, ((mQ S).2 i).2.2.1, upd ((mQ S).2 i).2.2.2 k 2)).2) (noteL ((mL S).1, (mL S).2.1, (mL S).2.2.1, upd (mL S).2.2.2 x ((mL S).2.2.2 x + 1)) u ((mQ S).2 i)), 1) := by
  rw [tr1_of h1 hu ha]
  unfold tr4 tr3 tr2 caS
  rw [hc]
  rw [if_pos rfl, if_neg (show ¬ (2 : Int32) = 1 by decide)]
  rfl
theorem RS.tr3 (h : RS S A w) (hi : i < (mQ S).1) (hk : k < ((mQ S).2 i).2.1) (v : Int32) : RS (upd (mv S) 12 (mv S 12 + 1), (setQi S i (((mQ S).2 i).1, ((mQ S).2 i).2.1, ((mQ S).2 i).2.2.1, upd ((mQ S).2 i).2.2.2 k v)).2) (va_up A 6 (upd (A 6) (16 * i + 8 + k) v)) (upd w 15 (w 15 + 1)) := by
  have h1 := (h.state hi hk v).uC (w 15 + 1)
  rw [h.v15] at h1 ⊢
  exact h1
theorem RS.tr2n (h : RS S A w) (hi : i < (mQ S).1) (hk : k < ((mQ S).2 i).2.1) : RS (setL (upd (mv S) 12 (mv S 12 + 1), (setQi S i (((mQ S).2 i).1, ((mQ S).2 i).2.1, ((mQ S).2 i).2.2.1, upd ((mQ S).2 i).2.2.2 k 2)).2) (noteL (mL S) u ((mQ S).2 i))) (dlA (va_up A 6 (upd (A 6) (16 * i + 8 + k) 2)) (16 * i) u) (upd w 15 (w 15 + 1)) := by
  have h4 := (h.at hi).le
  refine (h.tr3 hi hk 2).dl (m := (mQ S).2 i) ?_ ?_
  · show upd (A 6) (16 * i + 8 + k) 2 (16 * i + 15) = _
    rw [pk_un (by omega)]; exact (h.at hi).c15
  · show upd (A 6) (16 * i + 8 + k) 2 (16 * i) = _
    rw [pk_un (by omega)]; exact (h.at hi).c0
theorem RS.tr2s {x : Nat} (h : RS S A w) (hi : i < (mQ S).1) (hk : k < ((mQ S).2 i).2.1) {A2 : moA} (hA2 : A2 = dlA (va_up A 6 (upd (A 6) (16 * i + 8 + k) 2)) (16 * i) u) : RS (setL (upd (mv S) 12 (mv S 12 + 1), (setQi S i (((mQ S).2 i).1, ((mQ S).2 i).2.1, ((mQ S).2 i).2.2.1, upd ((mQ S).2 i).2.2.2 k 2)).2) (noteL ((mL S).1, (mL S).2.1, (mL S).2.2.1, upd (mL S).2.2.2 x ((mL S).2.2.2 x + 1)) u ((mQ S).2 i))) (va_up A2 12 (upd (A2 12) x (A2 12 x + 1))) (upd w 15 (w 15 + 1)) := by
  have h1 := (h.tr2n (u := u) hi hk).ca x
  rw [← hA2] at h1
  exact h1
end TR
