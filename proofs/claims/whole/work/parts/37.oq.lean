section DaF
variable {f t w : Nat → Int32} {z : Int32} {b k : Nat}
theorem daF_lo {j : Nat} (hk : k ≤ 4) (hj : j < 4) : daF f t w z b k (b + j) = daG f w z b (b + j) := by
  unfold daF
  rw [pk_un (by omega), pk_un (by omega), pk_un (by omega), pk_un (by omega)]
  unfold ldF
  rw [if_neg (by omega), if_neg (by omega)]
theorem daF_0 (hk : k ≤ 4) : daF f t w z b k b = w 10 + 1 := by
  rw [show daF f t w z b k b = daF f t w z b k (b + 0) from rfl, daF_lo hk (by omega)]
  unfold daG
  rw [pk_un (by omega), pk_un (by omega), pk_un (by omega)]
  exact pk_us
theorem daF_1 (hk : k ≤ 4) : daF f t w z b k (b + 1) = w 17 := by
  rw [daF_lo hk (by omega)]
  unfold daG
  rw [pk_un (by omega), pk_un (by omega), pk_us]
theorem daF_2 (hk : k ≤ 4) : daF f t w z b k (b + 2) = z := by
  rw [daF_lo hk (by omega)]
  unfold daG
  rw [pk_un (by omega), pk_us]
theorem daF_3 (hk : k ≤ 4) : daF f t w z b k (b + 3) = w 19 := by
  rw [daF_lo hk (by omega)]
  unfold daG
  rw [pk_us]
theorem daF_a {j : Nat} (hk : k ≤ 4) (hj : j < k) : daF f t w z b k (b + 4 + j) = t j := by
  unfold daF
  rw [pk_un (by omega), pk_un (by omega), pk_un (by omega), pk_un (by omega)]
  unfold ldF
  rw [if_pos (by omega), show b + 4 + j - b - 4 = j by omega]
theorem daF_s {j : Nat} (hk : k ≤ 4) (hj : j < k) : daF f t w z b k (b + 8 + j) = 1 := by
  unfold daF
  rw [pk_un (by omega), pk_un (by omega), pk_un (by omega), pk_un (by omega)]
  unfold ldF
  rw [if_neg (by omega), if_pos (by omega)]
theorem daF_12 : daF f t w z b k (b + 12) = w 9 := by
  unfold daF
  rw [pk_un (by omega), pk_un (by omega), pk_un (by omega), pk_us]
theorem daF_13 : daF f t w z b k (b + 13) = w 9 := by
  unfold daF
  rw [pk_un (by omega), pk_un (by omega), pk_us]
theorem daF_14 : daF f t w z b k (b + 14) = w 0 := by
  unfold daF
  rw [pk_un (by omega), pk_us]
theorem daF_15 : daF f t w z b k (b + 15) = 0 := pk_us
theorem daF_o {j : Nat} (hk : k ≤ 4) (hj : j < b ∨ b + 16 ≤ j) : daF f t w z b k j = f j := by
  unfold daF
  rw [pk_un (by omega), pk_un (by omega), pk_un (by omega), pk_un (by omega)]
  unfold ldF
  rw [if_neg (by omega), if_neg (by omega)]
  unfold daG
  rw [pk_un (by omega), pk_un (by omega), pk_un (by omega), pk_un (by omega)]
end DaF
theorem IVa.uC {a b L : Nat} {T : maS} (h : IVa a b L T) (x : Int32) : IVa a b L (upd (mv T) 12 x, T.2) := ⟨⟨h.1.1, h.1.2.1, h.1.2.2.1, h.1.2.2.2.1, h.1.2.2.2.2.1, h.1.2.2.2.2.2⟩, h.2⟩
theorem NM.rem {n i L : Nat} {Q : Nat → jMsg} (h : NM n Q L) (hi : i < n) : NM (n - 1) (fun j => Q (rho i n j)) L := by
  obtain ⟨nu, n1, n2⟩ := h
  refine ⟨fun j => nu (rho i n j), fun j hj => n1 _ (by unfold rho; (repeat' split) <;> omega), fun p q hpq hq => n2 _ _ (by unfold rho; (repeat' split) <;> omega) (by unfold rho; (repeat' split) <;> omega)⟩
theorem IVa.rem {a b L : Nat} {T : maS} (h : IVa a b L T) {i : Nat} (hi : i < (mQ T).1) : IVa a b L (remS T i) := ⟨h.1.rem hi, h.2.rem hi⟩
theorem IVa.hu {a b L : Nat} {S : maS} (h : IVa a b L S) {i : Nat} (hi : i < (mQ S).1) : IVa a b L (setQi S i (huM S i)) := by
  obtain ⟨⟨v1, v2, v3, v4, v5, v6⟩, nu, n1, n2⟩ := h
  refine ⟨⟨v1, v2, v3, v4.qi (okM_up (v4.1 i hi) (by decide) (by decide)), fun j hj => ?_, v6⟩, nu, fun j hj => ?_, n2⟩
  · show okG a b (va_up (mQ S).2 i (huM S i) j)
    by_cases e : j = i
    · rw [e, va_up_self]; exact v5 i hi
    · rw [va_up_ne _ _ e]; exact v5 j hj
  · show (va_up (mQ S).2 i (huM S i) j).1 1 = _ ∧ _
    by_cases e : j = i
    · rw [e, va_up_self]; exact n1 i hi
    · rw [va_up_ne _ _ e]; exact n1 j hj
theorem RS.new {S : maS} {A : moA} {w : Nat → Int32} (h : RS S A w) (z : Int32) (hop : (mT S).1 = 1) (h5 : (mQ S).1 < 6) : RS (upd (mv S) 11 (mv S 11 + 1), S.2.1, S.2.2.1, S.2.2.2.1, (0, (mT S).2), ((mQ S).1 + 1, va_up (mQ S).2 (mQ S).1 (newM S z)), S.2.2.2.2.2.2) (va_up A 6 (daF (A 6) (A 8) w z (16 * (mQ S).1) (mT S).2.2.1)) (daW w (mQ S).1) := by
  obtain ⟨t1, t2, t3, t4, t5, t6, t7⟩ := h.tr
  refine ⟨⟨h.v0, h.v1, h.v2, h.v9, ?_, h.v15⟩, h.al, h.ro, h.ho, ⟨rfl, Or.inl rfl, t3, t4, t5, t6, fun q => absurd q (show ¬ (0 : Int32) = 1 by decide)⟩, ⟨rfl, by show (mQ S).1 + 1 ≤ 6; omega, fun i hi => ?_⟩, h.du, h.le⟩
  · show w 10 + 1 = mv S 11 + 1
    rw [h.v10]
  · have hi : i < (mQ S).1 + 1 := hi
    show R16 (va_up (mQ S).2 (mQ S).1 (newM S z) i) (daF (A 6) (A 8) w z (16 * (mQ S).1) (mT S).2.2.1) (16 * i)
    by_cases e : i = (mQ S).1
    · rw [e, va_up_self]
      refine ⟨t4, ?_, ?_, ?_, ?_, fun k hk => ?_, fun k hk => ?_, ?_, ?_, ?_, ?_⟩
      · rw [daF_0 t4, h.v10]; rfl
      · rw [daF_1 t4, (t7 hop).1]; rfl
      · rw [daF_2 t4]; rfl
      · rw [daF_3 t4, t3]; rfl
      · have hk : k < (mT S).2.2.1 := hk
        rw [daF_a t4 hk, (t5 k hk).1]
        exact (if_pos hk : cp _ (mT S).2.2.2.1 (mT S).2.2.1 k = _).symm
      · have hk : k < (mT S).2.2.1 := hk
        rw [daF_s t4 hk]
        exact ((if_pos hk : cp _ (mT S).2.2.2.2 (mT S).2.2.1 k = _).trans (t5 k hk).2).symm
      · rw [daF_12, h.v9]; rfl
      · rw [daF_13, h.v9]; rfl
      · rw [daF_14, h.v0]; rfl
      · rw [daF_15]; rfl
    · rw [va_up_ne _ _ e]
      exact (h.at (i := i) (by omega)).congr (fun j h1 h2 => daF_o t4 (by omega))
theorem IVa.new {a b L : Nat} {S : maS} {A : moA} {w : Nat → Int32} (h : IVa a b L S) (hR : RS S A w) (z : Int32) (hop : (mT S).1 = 1) (h1 : 1 ≤ a) (h2 : a ≤ b) : IVa a b (L + 1) (upd (mv S) 11 (mv S 11 + 1), S.2.1, S.2.2.1, S.2.2.2.1, (0, (mT S).2), ((mQ S).1 + 1, va_up (mQ S).2 (mQ S).1 (newM S z)), S.2.2.2.2.2.2) := by
  obtain ⟨t1, t2, t3, t4, t5, t6, t7⟩ := hR.tr
  obtain ⟨⟨v1, v2, v3, v4, v5, v6⟩, nu, n1, n2⟩ := h
  have hL1 : mv S 11 + 1 = nI (L + 1) := by rw [v3, nI_1]
  refine ⟨⟨v1, v2, hL1, ⟨fun i hi => ?_, v4.2⟩, fun i hi => ?_, v6.1, ?_⟩, fun j => if j = (mQ S).1 then L + 1 else nu j, fun j hj => ?_, fun i j hij hj => ?_⟩
  · have hi : i < (mQ S).1 + 1 := hi
    show okM (va_up (mQ S).2 (mQ S).1 (newM S z) i)
    by_cases e : i = (mQ S).1
    · rw [e, va_up_self]
      refine ⟨Or.inl rfl, fun k hk => ?_, (t7 hop).2⟩
      have hk : k < (mT S).2.2.1 := hk
      obtain ⟨u, hu, eu⟩ := t6 k hk
      exact ⟨u, hu, (if_pos hk : cp _ (mT S).2.2.2.1 (mT S).2.2.1 k = _).trans eu⟩
    · rw [va_up_ne _ _ e]; exact v4.1 i (by omega)
  · have hi : i < (mQ S).1 + 1 := hi
    show okG a b (va_up (mQ S).2 (mQ S).1 (newM S z) i)
    by_cases e : i = (mQ S).1
    · rw [e, va_up_self]
      exact ⟨a, Nat.le_refl _, h2, v1⟩
    · rw [va_up_ne _ _ e]; exact v5 i (by omega)
  · obtain ⟨mu, m1, m2⟩ := v6.2
    exact ⟨mu, fun j hj => ⟨(m1 j hj).1, (m1 j hj).2.1, by have := (m1 j hj).2.2; omega⟩, m2⟩
  · have hj : j < (mQ S).1 + 1 := hj
    show (va_up (mQ S).2 (mQ S).1 (newM S z) j).1 1 = nI (if j = (mQ S).1 then L + 1 else nu j) ∧ 1 ≤ (if j = (mQ S).1 then L + 1 else nu j) ∧ (if j = (mQ S).1 then L + 1 else nu j) ≤ L + 1
    by_cases e : j = (mQ S).1
    · rw [if_pos e, e, va_up_self]
      exact ⟨hL1, by omega, Nat.le_refl _⟩
    · rw [if_neg e, va_up_ne _ _ e]
      have q := n1 j (by omega)
      exact ⟨q.1, q.2.1, by omega⟩
  · have hj : j < (mQ S).1 + 1 := hj
    show (if i = (mQ S).1 then L + 1 else nu i) < (if j = (mQ S).1 then L + 1 else nu j)
    rw [if_neg (show ¬ i = (mQ S).1 by omega)]
    by_cases e : j = (mQ S).1
    · rw [if_pos e]
      have := (n1 i (by omega)).2.2
      omega
    · rw [if_neg e]; exact n2 i j hij (by omega)
section Ops2
variable {l : Launch} {E : jE} {S : maS} {A : moA} {w : Nat → Int32} {N : Nat}
theorem INV.wf (hI : INV N S A w) : WF S := by
  obtain ⟨_, a, b, L, q1, q2, q3, q4, q5⟩ := hI
  exact q5.1.2.2.2.1
theorem op_data (hI : INV N S A w) (z : Int32) : opS l E M_Ma_data M_Mo_data 5 2 [.int z] S A w N := by
  have hR := hI.1
  have hb := hI.wf.b7
  obtain ⟨t1, t2, t3, t4, t5, t6, t7⟩ := hR.tr
  have h6 := hR.q.1
  by_cases hz : ¬ (¬ z < 0 ∧ ¬ 41 ≤ z)
  · exact ⟨-501, S, fun h sz b m => c_Ma_data_bad l E m z hz, moC.of (fun _ _ _ => c_Mo_data_bad l E z hz) hI.up⟩
  · have hz : ¬ z < 0 ∧ ¬ 41 ≤ z := Decidable.by_contra hz
    by_cases hs : (mT S).1 = 0 ∨ (mT S).2.2.1 = 0
    · exact ⟨-503, S, fun h sz b m => c_Ma_data_seq l E m z hz hs, moC.of (fun _ _ _ => c_Mo_data_seq l E z hz (hs.imp (fun e => t1.trans e) (fun e => by rw [t3, e]; rfl))) hI.up⟩
    · have hop : ¬ (mT S).1 = 0 := fun e => hs (Or.inl e)
      have hn0 : 0 < (mT S).2.2.1 := Nat.pos_of_ne_zero (fun e => hs (Or.inr e))
      have hop2 : ¬ w 16 = 0 := fun e => hop (t1.symm.trans e)
      have hn2 : ¬ w 19 = 0 := by rw [t3]; exact nI_ne0 hn0 (by omega)
      by_cases hfl : 6 ≤ (mQ S).1 ∨ ¬ csQ (mQ S).2 (mQ S).1 + (z + nI (mT S).2.2.1 + 1) ≤ 60
      · exact ⟨-452, S, fun h sz b m => c_Ma_data_full l E m z hz hop hn0 hfl, moC.of (fun _ _ _ => c_Mo_data_full l E z hz hR.qn hR.q hop2 hn2 (by rw [t3]; exact hfl)) hI.up⟩
      · have h5 : (mQ S).1 < 6 := Nat.lt_of_not_le (fun e => hfl (Or.inl e))
        have hcs : csQ (mQ S).2 (mQ S).1 + (z + nI (mT S).2.2.1 + 1) ≤ 60 := Decidable.by_contra (fun e => hfl (Or.inr e))
        have hop1 : (mT S).1 = 1 := t2.resolve_left hop
        refine ⟨_, _, fun h sz b m => c_Ma_data l E m z hz hop hn0 h5 hcs hb, moC.of (fun _ _ _ => by rw [← hR.v10]; exact c_Mo_data l E z hz hR.qn hR.q hop2 hn2 t3 t4 h5 (by rw [t3]; exact hcs)) ?_⟩
        obtain ⟨_, a, b, L, q1, q2, q3, q4, q5⟩ := hI
        exact ⟨(hR.new z hop1 h5).dur, a, b, L + 1, q1, q2, q3, by omega, (q5.new hR z hop1 q1 q2).dur⟩
theorem op_tick (hI : INV N S A w) (hN : N < 1000000) (p : Int32) : opS l E M_Ma_tick M_Mo_tick 5 3 [.int p] S A w N := by
  have hR := hI.1
  by_cases hb : p < mv S 10 ∨ ¬ p ≤ 1000000
  · exact ⟨-501, S, fun h sz b m => c_Ma_tick_bad l E m p hb, moC.of (fun _ _ _ => c_Mo_tick_bad l E p (by rw [hR.v9]; exact hb)) hI.up⟩
  · have hok : ¬ p < mv S 10 ∧ p ≤ 1000000 := ⟨fun e => hb (Or.inl e), Decidable.by_contra (fun e => hb (Or.inr e))⟩
    have hW := hI.wf
    obtain ⟨_, a, b, L, q1, q2, q3, q4, q5⟩ := hI
    refine ⟨_, _, fun h sz b m => c_Ma_tick l E m p hok hW, fun h0 sz c => (c_Mo_tick l E q1 q2 q3 (by omega) hR q5 p hok).weaken (fun r h' sz' g => ?_)⟩
    obtain ⟨g1, ⟨A', w', g2, g3, g4⟩, g5⟩ := g
    exact ⟨g1, ⟨A', w', g2, g3, a, b, L, q1, q2, q3, by omega, g4⟩, g5⟩
theorem op_sync (hI : INV N S A w) : opS l E M_Ma_sync M_Mo_sync 4 1 [] S A w N := by
  have hR := hI.1
  refine ⟨_, _, fun h sz b m => c_Ma_sync l E m hI.wf.b7, moC.of (fun _ _ _ => by rw [← hR.v15]; exact c_Mo_sync l E) ?_⟩
  obtain ⟨_, a, b, L, q1, q2, q3, q4, q5⟩ := hI
  exact ⟨hR.dur, a, b, L, q1, q2, q3, by omega, q5.dur⟩
theorem op_crash (hI : INV N S A w) : opS l E M_Ma_crash M_Mo_crash 3 0 [] S A w N := by
  have hR := hI.1
  obtain ⟨_, a, b, L, q1, q2, q3, q4, ⟨⟨v1, v2, v3, v4, v5, v6⟩, v7⟩⟩ := hI
  refine ⟨_, _, fun h sz b m => c_Ma_crash l E m (fun i hi => (v6.1 i hi).1.1), moC.of (fun _ _ _ => by rw [← hR.v15]; exact c_Mo_crash l E) ?_⟩
  obtain ⟨t1, t2, t3, t4, t5, t6, t7⟩ := hR.tr
  have hc := v6.copy (D := (mQ S).2)
  refine ⟨⟨⟨hR.v0, hR.v1, hR.v2, hR.v9, hR.v10, rfl⟩, hR.al, hR.ro, hR.ho, ⟨rfl, Or.inl rfl, t3, t4, t5, t6, fun q => absurd q (show ¬ (0 : Int32) = 1 by decide)⟩, ⟨hR.du.1, hR.du.2.copy⟩, hR.du, hR.le⟩, a, b, L, q1, q2, q3, by omega, ⟨⟨v1, v2, v3, ⟨fun i hi => (hc.1 i hi).1, v4.2⟩, fun i hi => (hc.1 i hi).2, v6⟩, hc.2⟩⟩
theorem op_drop (hI : INV N S A w) (v : Int32) : opS l E M_Ma_drop M_Mo_drop 5 2 [.int v] S A w N := by
  have hR := hI.1
  have hb := hI.wf.b7
  rcases sG_case (fun j => ((mQ S).2 j).1 1) v (mQ S).1 with ⟨hx, _⟩ | ⟨i, hi, _, hx⟩
  · exact ⟨_, _, fun h sz b m => c_Ma_drop_no l E m v (hx _ _), moC.of (fun _ _ _ => c_Mo_drop_no l E hR.qn hR.q v (hx _ _)) hI.up⟩
  · refine ⟨_, _, fun h sz b m => c_Ma_drop l E m v (hx _ _) hi hb, moC.of (fun _ _ _ => c_Mo_drop l E hR.qn hR.q v (hx _ _) hi) ?_⟩
    obtain ⟨_, a, b, L, q1, q2, q3, q4, q5⟩ := hI
    have e : rmW w 15 = mv S 12 := hR.v15
    rw [e]
    exact ⟨((hR.rem hi).uC (mv S 12 + 1)).kc, a, b, L, q1, q2, q3, by omega, ((q5.rem hi).uC (mv S 12 + 1)).kc⟩
theorem op_hurry (hI : INV N S A w) (v : Int32) : opS l E M_Ma_hurry M_Mo_hurry 5 2 [.int v] S A w N := by
  have hR := hI.1
  have hb := hI.wf.b7
  rcases sG_case (fun j => ((mQ S).2 j).1 1) v (mQ S).1 with ⟨hx, _⟩ | ⟨i, hi, _, hx⟩
  · exact ⟨_, _, fun h sz b m => c_Ma_hurry_no l E m v (hx _ _), moC.of (fun _ _ _ => c_Mo_hurry_no l E hR.qn hR.q v (hx _ _)) hI.up⟩
  · refine ⟨_, _, fun h sz b m => c_Ma_hurry l E m v (hx _ _) hi hb, moC.of (fun _ _ _ => c_Mo_hurry l E hR.qn hR.q v (hx _ _) hi) ?_⟩
    obtain ⟨_, a, b, L, q1, q2, q3, q4, q5⟩ := hI
    have hq : RQ (mQ S).1 (va_up (mQ S).2 i (huM S i)) (upd (A 6) (16 * i + 13) (mv S 10)) := hR.q.set ((hR.at hi).hu (mv S 10)) (fun j hj => pk_un (by omega))
    rw [hR.v9, hR.v15]
    exact ⟨((hR.uQ hq).uC (mv S 12 + 1)).kc, a, b, L, q1, q2, q3, by omega, ((q5.hu hi).uC (mv S 12 + 1)).kc⟩
theorem op_sender (hI : INV N S A w) (v : Int32) : opS l E M_Ma_sender M_Mo_sender 1 1 [.int v] S A w N := by
  have hR := hI.1
  rcases sG_case (fun j => ((mQ S).2 j).1 1) v (mQ S).1 with ⟨hx, _⟩ | ⟨i, hi, _, hx⟩
  · exact ⟨_, _, fun h sz b m => c_Ma_sender_no l E m v (hx _ _), moC.of (fun _ _ _ => c_Mo_sender_no l E hR.qn hR.q v (hx _ _)) hI.up⟩
  · exact ⟨_, _, fun h sz b m => c_Ma_sender l E m v (hx _ _) hi, moC.of (fun _ _ _ => c_Mo_sender l E hR.qn hR.q v (hx _ _) hi) hI.up⟩
theorem op_due (hI : INV N S A w) (v : Int32) : opS l E M_Ma_due M_Mo_due 1 1 [.int v] S A w N := by
  have hR := hI.1
  rcases sG_case (fun j => ((mQ S).2 j).1 1) v (mQ S).1 with ⟨hx, _⟩ | ⟨i, hi, _, hx⟩
  · exact ⟨_, _, fun h sz b m => c_Ma_due_no l E m v (hx _ _), moC.of (fun _ _ _ => c_Mo_due_no l E hR.qn hR.q v (hx _ _)) hI.up⟩
  · exact ⟨_, _, fun h sz b m => c_Ma_due l E m v (hx _ _) hi, moC.of (fun _ _ _ => c_Mo_due l E hR.qn hR.q v (hx _ _) hi) hI.up⟩
theorem op_status (hI : INV N S A w) (v y : Int32) : opS l E M_Ma_status M_Mo_status 1 1 [.int v, .int y] S A w N := by
  have hR := hI.1
  rcases sG_case (fun j => ((mQ S).2 j).1 1) v (mQ S).1 with ⟨hx, _⟩ | ⟨i, hi, _, hx⟩
  · exact ⟨_, _, fun h sz b m => c_Ma_status_no l E m v (hx _ _) y, moC.of (fun _ _ _ => c_Mo_status_no l E hR.qn hR.q v (hx _ _) y) hI.up⟩
  · exact ⟨_, _, fun h sz b m => c_Ma_status l E m v (hx _ _) hi y, moC.of (fun _ _ _ => c_Mo_status l E hR.qn hR.q v (hx _ _) hi y) hI.up⟩
theorem op_message (hI : INV N S A w) (p : Int32) : opS l E M_Ma_message M_Mo_message 1 0 [.int p] S A w N := by
  have hR := hI.1
  have h6 := hR.q.1
  by_cases hb : ¬ (¬ p < 0 ∧ ¬ nI (mQ S).1 ≤ p)
  · exact ⟨_, _, fun h sz b m => c_Ma_message_bad l E m p hb, moC.of (fun _ _ _ => c_Mo_message_bad l E hR.qn hR.q p hb) hI.up⟩
  · obtain ⟨i, hi, rfl⟩ := inR (n := (mQ S).1) (by omega) rfl (Decidable.by_contra hb)
    exact ⟨_, _, fun h sz b m => c_Ma_message l E m hi, moC.of (fun _ _ _ => c_Mo_message l E hR.qn hR.q hi) hI.up⟩
theorem op_count (hI : INV N S A w) (p : Int32) : opS l E M_Ma_count M_Mo_count 2 1 [.int p] S A w N := by
  have hR := hI.1
  obtain ⟨t1, t2, t3, t4, t5, t6, t7⟩ := hR.tr
  by_cases hb : p.toInt < 0 ∨ 6 < p.toInt
  · exact ⟨_, _, fun h sz b m => c_Ma_count_bad l E m p hb, moC.of (fun _ _ _ => c_Mo_count_bad l E hR.qn hR.q p hb) hI.up⟩
  · obtain ⟨k, hk, rfl⟩ := inR (x := p) (n := 7) (by decide) (N := 7) rfl (by
      rw [Int32.lt_iff_toInt_lt, Int32.le_iff_toInt_le, show (7 : Int32).toInt = 7 from by decide, show (0 : Int32).toInt = 0 from by decide]
      omega)
    rcases (show k = 0 ∨ k = 1 ∨ k = 2 ∨ k = 3 ∨ k = 4 ∨ k = 5 ∨ k = 6 by omega) with rfl | rfl | rfl | rfl | rfl | rfl | rfl
    · exact ⟨_, _, fun h sz b m => c_Ma_count_0 l E m, moC.of (fun _ _ _ => c_Mo_count_0 l E hR.qn hR.q) hI.up⟩
    · exact ⟨_, _, fun h sz b m => c_Ma_count_1 l E m, moC.of (fun _ _ _ => c_Mo_count_1 l E hR.qn hR.q) hI.up⟩
    · exact ⟨_, _, fun h sz b m => c_Ma_count_2 l E m, moC.of (fun _ _ _ => c_Mo_count_2 l E hR.qn hR.q) hI.up⟩
    · exact ⟨_, _, fun h sz b m => c_Ma_count_3 l E m, moC.of (fun _ _ _ => by rw [← hR.v15]; exact c_Mo_count_3 l E hR.qn hR.q) hI.up⟩
    · exact ⟨_, _, fun h sz b m => c_Ma_count_4 l E m, moC.of (fun _ _ _ => by rw [← hR.v9]; exact c_Mo_count_4 l E hR.qn hR.q) hI.up⟩
    · exact ⟨_, _, fun h sz b m => c_Ma_count_5 l E m, moC.of (fun _ _ _ => by rw [← hR.v10]; exact c_Mo_count_5 l E hR.qn hR.q) hI.up⟩
    · exact ⟨_, _, fun h sz b m => c_Ma_count_6 l E m, moC.of (fun _ _ _ => by rw [← t1, ← t3]; exact c_Mo_count_6 l E hR.qn hR.q) hI.up⟩
theorem op_received (hI : INV N S A w) (p q : Int32) : opS l E M_Ma_received M_Mo_received 2 1 [.int p, .int q] S A w N := by
  have hR := hI.1
  obtain ⟨l1, l2, l3, l4⟩ := hR.le
  by_cases hb : ¬ (¬ p < 0 ∧ ¬ (if q = 3 then 8 else 64) ≤ p)
  · exact ⟨_, _, fun h sz b m => c_Ma_received_bad l E m p q hb, moC.of (fun _ _ _ => c_Mo_received_bad l E p q (Or.inr hb)) hI.up⟩
  · have hp := Decidable.by_contra hb
    by_cases hq : ¬ (¬ q < 0 ∧ ¬ 4 ≤ q)
    · have h3 : ¬ q = 3 := fun e => hq (by rw [e]; decide)
      rw [if_neg h3] at hp
      obtain ⟨k, hk, rfl⟩ := inR (n := 64) (by decide) (N := 64) rfl hp
      exact ⟨_, _, fun h sz b m => c_Ma_received_what l E m q hk (whI.mpr hq), moC.of (fun _ _ _ => c_Mo_received_bad l E (nI k) q (Or.inl hq)) hI.up⟩
    · obtain ⟨j, hj, rfl⟩ := inR (n := 4) (by decide) (N := 4) rfl (Decidable.by_contra hq)
      rcases (show j = 0 ∨ j = 1 ∨ j = 2 ∨ j = 3 by omega) with rfl | rfl | rfl | rfl
      · rw [if_neg (by decide)] at hp
        obtain ⟨k, hk, rfl⟩ := inR (n := 64) (by decide) (N := 64) rfl hp
        exact ⟨_, _, fun h sz b m => c_Ma_received_0 l E m hk, moC.of (fun _ _ _ => by rw [← l1 k hk]; exact c_Mo_received_0 l E hk) hI.up⟩
      · rw [if_neg (by decide)] at hp
        obtain ⟨k, hk, rfl⟩ := inR (n := 64) (by decide) (N := 64) rfl hp
        exact ⟨_, _, fun h sz b m => c_Ma_received_1 l E m hk, moC.of (fun _ _ _ => by rw [← l2 k hk]; exact c_Mo_received_1 l E hk) hI.up⟩
      · rw [if_neg (by decide)] at hp
        obtain ⟨k, hk, rfl⟩ := inR (n := 64) (by decide) (N := 64) rfl hp
        exact ⟨_, _, fun h sz b m => c_Ma_received_2 l E m hk, moC.of (fun _ _ _ => by rw [← l3 k hk]; exact c_Mo_received_2 l E hk) hI.up⟩
      · rw [if_pos (by decide)] at hp
        obtain ⟨k, hk, rfl⟩ := inR (n := 8) (by decide) (N := 8) rfl hp
        exact ⟨_, _, fun h sz b m => c_Ma_received_3 l E m hk, moC.of (fun _ _ _ => by rw [← l4 k hk]; exact c_Mo_received_3 l E hk) hI.up⟩
end Ops2
theorem INV_0 (p q s : Int32) : INV 0 (inS p q s) (fun _ _ => 0) (in3 (wth p 1 60) (wth q (wth p 1 60) 600) (wth s (wth q (wth p 1 60) 600) 6000)) := by
  have b1 := wth_b (v := p) (lo := 1) (hi := 60) (by decide)
  obtain ⟨x, ex⟩ : ∃ x, x = wth p 1 60 := ⟨_, rfl⟩
  rw [← ex] at b1 ⊢
  have l1 : x ≤ 600 := Int32.le_trans b1.2 (by decide)
  have b2 := wth_b (v := q) (lo := x) (hi := 600) l1
  obtain ⟨y, ey⟩ : ∃ y, y = wth q x 600 := ⟨_, rfl⟩
  rw [← ey] at b2 ⊢
  have l2 : y ≤ 6000 := Int32.le_trans b2.2 (by decide)
  obtain ⟨z, ez⟩ : ∃ z, z = wth s y 6000 := ⟨_, rfl⟩
  rw [← ez]
  have i0 : mv (inS p q s) 0 = x := by show iv p q s 0 = x; rw [iv_0, ex, wth_e (by decide)]
  have i1 : mv (inS p q s) 1 = y := by show iv p q s 1 = y; rw [iv_1, ey, wth_e l1, ex, wth_e (by decide)]
  have i2 : mv (inS p q s) 2 = z := by show iv p q s 2 = z; rw [iv_2, ez, wth_e l2, ey, wth_e l1, ex, wth_e (by decide)]
  have ik : ∀ k, 3 ≤ k → mv (inS p q s) k = 0 := fun k hk => iv_k p q s hk
  obtain ⟨a, ha, ea⟩ := inR (x := x) (n := 61) (by decide) (N := 61) rfl (by
    have c1 := b1.1
    have c2 := b1.2
    rw [Int32.le_iff_toInt_le, show (1 : Int32).toInt = 1 from by decide] at c1
    rw [Int32.le_iff_toInt_le, show (60 : Int32).toInt = 60 from by decide] at c2
    rw [Int32.lt_iff_toInt_lt, Int32.le_iff_toInt_le, show (61 : Int32).toInt = 61 from by decide, show (0 : Int32).toInt = 0 from by decide]
    omega)
  obtain ⟨b, hb, eb⟩ := inR (x := y) (n := 601) (by decide) (N := 601) rfl (by
    have c0 := b1.1
    have c1 := b2.1
    have c2 := b2.2
    rw [Int32.le_iff_toInt_le, show (1 : Int32).toInt = 1 from by decide] at c0
    rw [Int32.le_iff_toInt_le] at c1
    rw [Int32.le_iff_toInt_le, show (600 : Int32).toInt = 600 from by decide] at c2
    rw [Int32.lt_iff_toInt_lt, Int32.le_iff_toInt_le, show (601 : Int32).toInt = 601 from by decide, show (0 : Int32).toInt = 0 from by decide]
    omega)
  have a1 : 1 ≤ a := by
    have c := b1.1
    rw [ea] at c
    exact (nI_leI (a := 1) (by decide) (by omega)).mp c
  have ab : a ≤ b := by
    have c := b2.1
    rw [ea, eb] at c
    exact (nI_leI (by omega) (by omega)).mp c
  refine ⟨⟨⟨i0.symm, i1.symm, i2.symm, (ik 10 (by decide)).symm, (ik 11 (by decide)).symm, (ik 12 (by decide)).symm⟩, ⟨fun _ => 0, fun _ => 0, fun l hl => ⟨rfl, Nat.zero_le _, fun j hj => absurd hj (Nat.not_lt_zero j)⟩, fun l hl => ⟨pp_zero 64, rfl⟩⟩, fun d _ _ => ⟨Nat.zero_le _, rfl, fun _ => 0, fun _ => 0, fun i hi => absurd hi (Nat.not_lt_zero i), fun i j _ hj => absurd hj (Nat.not_lt_zero j), fun i hi => absurd hi (Nat.not_lt_zero i)⟩, fun k hk => rfl, ⟨rfl, Or.inl rfl, rfl, Nat.zero_le _, fun k hk => absurd hk (Nat.not_lt_zero k), fun k hk => absurd hk (Nat.not_lt_zero k), fun e => absurd e (show ¬ (0 : Int32) = 1 by decide)⟩, ⟨rfl, Nat.zero_le _, fun i hi => absurd hi (Nat.not_lt_zero i)⟩, ⟨rfl, Nat.zero_le _, fun i hi => absurd hi (Nat.not_lt_zero i)⟩, ⟨fun _ _ => rfl, fun _ _ => rfl, fun _ _ => rfl, fun _ _ => rfl⟩⟩, a, b, 0, a1, ab, by omega, Nat.le_refl _, ⟨⟨i0.trans ea, i1.trans eb, ik 11 (by decide), ⟨fun i hi => absurd hi (Nat.not_lt_zero i), fun d _ i hi => absurd hi (Nat.not_lt_zero i)⟩, fun i hi => absurd hi (Nat.not_lt_zero i), fun i hi => absurd hi (Nat.not_lt_zero i), fun _ => 0, fun j hj => absurd hj (Nat.not_lt_zero j), fun i j _ hj => absurd hj (Nat.not_lt_zero j)⟩, fun _ => 0, fun j hj => absurd hj (Nat.not_lt_zero j), fun i j _ hj => absurd hj (Nat.not_lt_zero j)⟩⟩
