theorem j_sz {x : jX} {M : jM} {E : jE} {Q : State → Prop} {h : jH} {sz ce sl pc : Nat} {lv : List (Nat × Value)} {st : List Value} (z c l : Nat) (e : sz = z) (e2 : ce = c) (e3 : sl = l) (kk : jJ x M E Q h z c l lv pc st) : jJ x M E Q h sz ce sl lv pc st := by subst e; subst e2; subst e3; exact kk
def iv (p q s : Int32) : Nat → Int32 := fun k => if k = 0 then jmax 1 (jmin p 60) else if k = 1 then jmax (jmax 1 (jmin p 60)) (jmin q 600) else if k = 2 then jmax (jmax (jmax 1 (jmin p 60)) (jmin q 600)) (jmin s 6000) else 0
theorem iv_0 (p q s : Int32) : iv p q s 0 = jmax 1 (jmin p 60) := if_pos rfl
theorem iv_1 (p q s : Int32) : iv p q s 1 = jmax (jmax 1 (jmin p 60)) (jmin q 600) := by unfold iv; rw [if_neg (by decide), if_pos rfl]
theorem iv_2 (p q s : Int32) : iv p q s 2 = jmax (jmax (jmax 1 (jmin p 60)) (jmin q 600)) (jmin s 6000) := by unfold iv; rw [if_neg (by decide), if_neg (by decide), if_pos rfl]
theorem iv_k (p q s : Int32) {k : Nat} (hk : 3 ≤ k) : iv p q s k = 0 := by unfold iv; rw [if_neg (by omega), if_neg (by omega), if_neg (by omega)]
def inS (p q s : Int32) : maS := (iv p q s, fun _ => 0, fun _ => (0, fun _ => 0, fun _ => 0), fun _ => 0, (0, -1, 0, fun _ => 0, fun _ => 0), (0, fun _ => mz), (0, fun _ => mz), (fun _ => 0, fun _ => 0, fun _ => 0, fun _ => 0))
def inP (E : jE) (b : Nat) (p q s : Int32) (hc : jH) : Option Value → jH → Nat → Prop := fun r h' sz' => r = none ∧ isMA E h' b (inS p q s) ∧ (∀ q, q < b → h' q = hc q) ∧ sz' = b + 90
set_option maxHeartbeats 4000000 in
set_option maxRecDepth 100000 in
theorem ma_init_3 {x : jX} (E : jE) {b : Nat} (p q s : Int32) {h12 hc : jH} (C0 : jOk x M_Ma_init E 4 89 559) (f12 : h12 b = some (jO 7 [.int (jmax 1 (jmin p 60)), .int (jmax (jmax 1 (jmin p 60)) (jmin q 600)), .int (jmax (jmax (jmax 1 (jmin p 60)) (jmin q 600)) (jmin s 6000)), .ref (b + 1), .ref (b + 3), .ref (b + 28), .ref (b + 29), .ref (b + 33), .ref (b + 59), .null, .int 0, .int 0, .int 0])) (al12 : isAl E h12 (b + 1) (fun _ => 0)) (ra12 : h12 (b + 3) = some (jQa E 3 8 (fun k => if k < 8 then some (b + 4 + 3 * k) else none))) (ro12 : ∀ k, k < 8 → isRo E h12 (b + 4 + 3 * k) 0 (fun _ => 0) (fun _ => 0)) (hs12 : h12 (b + 28) = some (jI E 8 (fun _ => 0))) (tr12 : isTr E h12 (b + 29) 0 (-1) 0 (fun _ => 0) (fun _ => 0)) (qu12 : isQu E h12 (b + 33) 0 (fun _ => mz)) (du12 : isQu E h12 (b + 59) 0 (fun _ => mz)) (k12 : ∀ q, q < b → h12 q = hc q) : jJ x M_Ma_init E (jQ x E 89 559 (inP E b p q s hc)) h12 (b + 85) 84 355 [(0, .ref b)] 136 [] := by
  refine j_aload_n C0 d_Ma_init_136 rfl (by rfl) ?_
  refine j_new C0 d_Ma_init_137 nw_Ma_58 (by omega) (by omega) ?_
  refine j_dup C0 d_Ma_init_140 rfl ?_
  refine j_callIN C0 d_Ma_init_141 cn_Ma_60 cn_Ma_60v rfl rfl (c_De_init _ E jset_s rfl) rfl rfl ⟨by decide, by decide⟩ ⟨by omega, by omega⟩ (Nat.le_of_ble_eq_true rfl) (fun r_ h13 z_ hp_ => ?_)
  obtain ⟨rfl, de13, u13, rfl⟩ := hp_
  have b13 : h13 b = h12 b := by rw [u13 _ (by omega), jset_n (by omega)]
  rw [f12] at b13
  refine j_putF C0 d_Ma_init_144 fp_Ma_61 (by (repeat (first | rw [jset_s] | rw [jset_n (by omega)] | rw [reH_0] | rw [reH_1] | rw [reH_2] | rw [reH_n (by omega)])) <;> first | rfl | assumption) (Nat.le_of_ble_eq_true rfl) (by rfl) (by rfl) rfl ?_
  refine j_aload_n C0 d_Ma_init_147 rfl (by rfl) ?_
  refine j_iconst C0 d_Ma_init_148 (v := 0) (by decide) ?_
  refine j_putf C0 d_Ma_init_149 fp_Ma_65 (by (repeat (first | rw [jset_s] | rw [jset_n (by omega)] | rw [reH_0] | rw [reH_1] | rw [reH_2] | rw [reH_n (by omega)])) <;> first | rfl | assumption) (Nat.le_of_ble_eq_true rfl) (by rfl) (by rfl) ?_
  refine j_aload_n C0 d_Ma_init_152 rfl (by rfl) ?_
  refine j_iconst C0 d_Ma_init_153 (v := 0) (by decide) ?_
  refine j_putf C0 d_Ma_init_154 fp_Ma_68 (by (repeat (first | rw [jset_s] | rw [jset_n (by omega)] | rw [reH_0] | rw [reH_1] | rw [reH_2] | rw [reH_n (by omega)])) <;> first | rfl | assumption) (Nat.le_of_ble_eq_true rfl) (by rfl) (by rfl) ?_
  refine j_aload_n C0 d_Ma_init_157 rfl (by rfl) ?_
  refine j_iconst C0 d_Ma_init_158 (v := 0) (by decide) ?_
  refine j_putf C0 d_Ma_init_159 fp_Ma_71 (by (repeat (first | rw [jset_s] | rw [jset_n (by omega)] | rw [reH_0] | rw [reH_1] | rw [reH_2] | rw [reH_n (by omega)])) <;> first | rfl | assumption) (Nat.le_of_ble_eq_true rfl) (by rfl) (by rfl) ?_
  refine j_heap (fun h14 eh => ?_)
  have f14 : h14 b = some (jO 7 [.int (jmax 1 (jmin p 60)), .int (jmax (jmax 1 (jmin p 60)) (jmin q 600)), .int (jmax (jmax (jmax 1 (jmin p 60)) (jmin q 600)) (jmin s 6000)), .ref (b + 1), .ref (b + 3), .ref (b + 28), .ref (b + 29), .ref (b + 33), .ref (b + 59), .ref (b + 85), .int 0, .int 0, .int 0]) := by rw [eh, jset_s]; rfl
  have g14 : ∀ q, q ≠ b → q < b + 85 → h14 q = h12 q := fun q h1 h2 => by rw [eh, jset_n h1, jset_n h1, jset_n h1, jset_n h1, u13 _ (by omega), jset_n (by omega)]
  have al14 := al12.keep (h' := h14) (fun q u1 u2 => g14 q (by omega) (by omega))
  have ra14 : h14 (b + 3) = _ := (g14 _ (by omega) (by omega)).trans ra12
  have ro14 : ∀ k, k < 8 → isRo E h14 (b + 4 + 3 * k) 0 (fun _ => 0) (fun _ => 0) := fun k hk => (ro12 k hk).keep (fun q u1 u2 => g14 q (by omega) (by omega))
  have hs14 : h14 (b + 28) = some (jI E 8 (fun _ => 0)) := (g14 _ (by omega) (by omega)).trans hs12
  have tr14 := tr12.keep (h' := h14) (fun q u1 u2 => g14 q (by omega) (by omega))
  have qu14 := qu12.keep (h' := h14) (fun q u1 u2 => g14 q (by omega) (by omega))
  have du14 := du12.keep (h' := h14) (fun q u1 u2 => g14 q (by omega) (by omega))
  have k14 : ∀ q, q < b → h14 q = hc q := fun q hq => (g14 q (by omega) (by omega)).trans (k12 q hq)
  have de14 := de13.keep (h' := h14) (fun q u1 u2 => by rw [eh, jset_n (by omega), jset_n (by omega), jset_n (by omega), jset_n (by omega)])
  clear eh
  exact j_vret C0 d_Ma_init_162 rfl (by omega) (by omega) ⟨rfl, ⟨by show h14 b = some (jO 7 [.int (iv p q s 0), .int (iv p q s 1), .int (iv p q s 2), .ref (b + 1), .ref (b + 3), .ref (b + 28), .ref (b + 29), .ref (b + 33), .ref (b + 59), .ref (b + 85), .int (iv p q s 10), .int (iv p q s 11), .int (iv p q s 12)]); rw [iv_0, iv_1, iv_2, iv_k _ _ _ (show 3 ≤ 10 by decide), iv_k _ _ _ (show 3 ≤ 11 by decide), iv_k _ _ _ (show 3 ≤ 12 by decide)]; exact f14, al14, ⟨_, ra14, fun d hd => if_pos hd⟩, ro14, hs14, tr14, qu14, du14, de14⟩, k14, rfl⟩
set_option maxHeartbeats 4000000 in
set_option maxRecDepth 100000 in
theorem ma_init_2 {x : jX} (E : jE) {b : Nat} (p q s : Int32) {h8 hc : jH} (C0 : jOk x M_Ma_init E 4 89 559) (f8 : h8 b = some (jO 7 [.int (jmax 1 (jmin p 60)), .int (jmax (jmax 1 (jmin p 60)) (jmin q 600)), .int (jmax (jmax (jmax 1 (jmin p 60)) (jmin q 600)) (jmin s 6000)), .ref (b + 1), .ref (b + 3), .ref (b + 28), .ref (b + 29), .null, .null, .null, .int 0, .int 0, .int 0])) (al8 : isAl E h8 (b + 1) (fun _ => 0)) (ra8 : h8 (b + 3) = some (jQa E 3 8 (fun k => if k < 8 then some (b + 4 + 3 * k) else none))) (ro8 : ∀ k, k < 8 → isRo E h8 (b + 4 + 3 * k) 0 (fun _ => 0) (fun _ => 0)) (hs8 : h8 (b + 28) = some (jI E 8 (fun _ => 0))) (tr8 : isTr E h8 (b + 29) 0 (-1) 0 (fun _ => 0) (fun _ => 0)) (k8 : ∀ q, q < b → h8 q = hc q) : jJ x M_Ma_init E (jQ x E 89 559 (inP E b p q s hc)) h8 (b + 33) 32 111 [(0, .ref b)] 114 [] := by
  refine j_aload_n C0 d_Ma_init_114 rfl (by rfl) ?_
  refine j_new C0 d_Ma_init_115 nw_Ma_48 (by omega) (by omega) ?_
  refine j_dup C0 d_Ma_init_118 rfl ?_
  refine j_callI C0 d_Ma_init_119 cl_Ma_50 cl_Ma_50v rfl rfl (c_Qu_init _ E jset_s rfl) rfl rfl ⟨by decide, by decide⟩ ⟨by omega, by omega⟩ (Nat.le_of_ble_eq_true rfl) (fun r_ h9 z_ hp_ => ?_)
  obtain ⟨rfl, qu9, u9, rfl⟩ := hp_
  have b9 : h9 b = h8 b := by rw [u9 _ (by omega), jset_n (by omega)]
  rw [f8] at b9
  refine j_putF C0 d_Ma_init_122 fp_Ma_51 (by (repeat (first | rw [jset_s] | rw [jset_n (by omega)] | rw [reH_0] | rw [reH_1] | rw [reH_2] | rw [reH_n (by omega)])) <;> first | rfl | assumption) (Nat.le_of_ble_eq_true rfl) (by rfl) (by rfl) rfl ?_
  refine j_heap (fun h10 eh => ?_)
  have f10 : h10 b = some (jO 7 [.int (jmax 1 (jmin p 60)), .int (jmax (jmax 1 (jmin p 60)) (jmin q 600)), .int (jmax (jmax (jmax 1 (jmin p 60)) (jmin q 600)) (jmin s 6000)), .ref (b + 1), .ref (b + 3), .ref (b + 28), .ref (b + 29), .ref (b + 33), .null, .null, .int 0, .int 0, .int 0]) := by rw [eh, jset_s]; rfl
  have g10 : ∀ q, q ≠ b → q < b + 33 → h10 q = h8 q := fun q h1 h2 => by rw [eh, jset_n h1, u9 _ (by omega), jset_n (by omega)]
  have al10 := al8.keep (h' := h10) (fun q u1 u2 => g10 q (by omega) (by omega))
  have ra10 : h10 (b + 3) = _ := (g10 _ (by omega) (by omega)).trans ra8
  have ro10 : ∀ k, k < 8 → isRo E h10 (b + 4 + 3 * k) 0 (fun _ => 0) (fun _ => 0) := fun k hk => (ro8 k hk).keep (fun q u1 u2 => g10 q (by omega) (by omega))
  have hs10 : h10 (b + 28) = some (jI E 8 (fun _ => 0)) := (g10 _ (by omega) (by omega)).trans hs8
  have tr10 := tr8.keep (h' := h10) (fun q u1 u2 => g10 q (by omega) (by omega))
  have k10 : ∀ q, q < b → h10 q = hc q := fun q hq => (g10 q (by omega) (by omega)).trans (k8 q hq)
  have qu10 := qu9.keep (h' := h10) (fun q u1 u2 => by rw [eh, jset_n (by omega)])
  clear eh
  refine j_sz (b + 59) 58 233 (by omega) (by omega) (by omega) ?_
  refine j_aload_n C0 d_Ma_init_125 rfl (by rfl) ?_
  refine j_new C0 d_Ma_init_126 nw_Ma_48 (by omega) (by omega) ?_
  refine j_dup C0 d_Ma_init_129 rfl ?_
  refine j_callI C0 d_Ma_init_130 cl_Ma_50 cl_Ma_50v rfl rfl (c_Qu_init _ E jset_s rfl) rfl rfl ⟨by decide, by decide⟩ ⟨by omega, by omega⟩ (Nat.le_of_ble_eq_true rfl) (fun r_ h11 z_ hp_ => ?_)
  obtain ⟨rfl, du11, u11, rfl⟩ := hp_
  have b11 : h11 b = h10 b := by rw [u11 _ (by omega), jset_n (by omega)]
  rw [f10] at b11
  refine j_putF C0 d_Ma_init_133 fp_Ma_55 (by (repeat (first | rw [jset_s] | rw [jset_n (by omega)] | rw [reH_0] | rw [reH_1] | rw [reH_2] | rw [reH_n (by omega)])) <;> first | rfl | assumption) (Nat.le_of_ble_eq_true rfl) (by rfl) (by rfl) rfl ?_
  refine j_heap (fun h12 eh => ?_)
  have f12 : h12 b = some (jO 7 [.int (jmax 1 (jmin p 60)), .int (jmax (jmax 1 (jmin p 60)) (jmin q 600)), .int (jmax (jmax (jmax 1 (jmin p 60)) (jmin q 600)) (jmin s 6000)), .ref (b + 1), .ref (b + 3), .ref (b + 28), .ref (b + 29), .ref (b + 33), .ref (b + 59), .null, .int 0, .int 0, .int 0]) := by rw [eh, jset_s]; rfl
  have g12 : ∀ q, q ≠ b → q < b + 59 → h12 q = h10 q := fun q h1 h2 => by rw [eh, jset_n h1, u11 _ (by omega), jset_n (by omega)]
  have al12 := al10.keep (h' := h12) (fun q u1 u2 => g12 q (by omega) (by omega))
  have ra12 : h12 (b + 3) = _ := (g12 _ (by omega) (by omega)).trans ra10
  have ro12 : ∀ k, k < 8 → isRo E h12 (b + 4 + 3 * k) 0 (fun _ => 0) (fun _ => 0) := fun k hk => (ro10 k hk).keep (fun q u1 u2 => g12 q (by omega) (by omega))
  have hs12 : h12 (b + 28) = some (jI E 8 (fun _ => 0)) := (g12 _ (by omega) (by omega)).trans hs10
  have tr12 := tr10.keep (h' := h12) (fun q u1 u2 => g12 q (by omega) (by omega))
  have qu12 := qu10.keep (h' := h12) (fun q u1 u2 => g12 q (by omega) (by omega))
  have k12 : ∀ q, q < b → h12 q = hc q := fun q hq => (g12 q (by omega) (by omega)).trans (k10 q hq)
  have du12 := du11.keep (h' := h12) (fun q u1 u2 => by rw [eh, jset_n (by omega)])
  clear eh
  refine j_sz (b + 85) 84 355 (by omega) (by omega) (by omega) ?_
  exact j_to (ma_init_3 E p q s C0 f12 al12 ra12 ro12 hs12 tr12 qu12 du12 k12) rfl ⟨rfl, trivial⟩
set_option maxHeartbeats 4000000 in
set_option maxRecDepth 100000 in
theorem ma_init_1 {x : jX} (E : jE) {b : Nat} (p q s : Int32) {hh hc : jH} (C0 : jOk x M_Ma_init E 4 89 559) (f4 : hh b = some (jO 7 [.int (jmax 1 (jmin p 60)), .int (jmax (jmax 1 (jmin p 60)) (jmin q 600)), .int (jmax (jmax (jmax 1 (jmin p 60)) (jmin q 600)) (jmin s 6000)), .ref (b + 1), .ref (b + 3), .null, .null, .null, .null, .null, .int 0, .int 0, .int 0])) (al4 : isAl E hh (b + 1) (fun _ => 0)) (ra4 : hh (b + 3) = some (jQa E 3 8 (fun k => if k < 8 then some (b + 4 + 3 * k) else none))) (ro4 : ∀ k, k < 8 → isRo E hh (b + 4 + 3 * k) 0 (fun _ => 0) (fun _ => 0)) (k4 : ∀ q, q < b → hh q = hc q) : jJ x M_Ma_init E (jQ x E 89 559 (inP E b p q s hc)) hh (b + 28) 27 89 [(0, .ref b)] 95 [] := by
  refine j_aload_n C0 d_Ma_init_95 rfl (by rfl) ?_
  refine j_bipush C0 d_Ma_init_96 (v := 8) (by decide) ?_
  refine j_newi C0 (N := 8) d_Ma_init_98 w_1_59 rfl (by decide) (by omega) (by omega) ?_
  refine j_putF C0 d_Ma_init_100 fp_Ma_37 (by (repeat (first | rw [jset_s] | rw [jset_n (by omega)] | rw [reH_0] | rw [reH_1] | rw [reH_2] | rw [reH_n (by omega)])) <;> first | rfl | assumption) (Nat.le_of_ble_eq_true rfl) (by rfl) (by rfl) rfl ?_
  refine j_heap (fun h6 eh => ?_)
  have f6 : h6 b = some (jO 7 [.int (jmax 1 (jmin p 60)), .int (jmax (jmax 1 (jmin p 60)) (jmin q 600)), .int (jmax (jmax (jmax 1 (jmin p 60)) (jmin q 600)) (jmin s 6000)), .ref (b + 1), .ref (b + 3), .ref (b + 28), .null, .null, .null, .null, .int 0, .int 0, .int 0]) := by rw [eh, jset_s]; rfl
  have g6 : ∀ q, q ≠ b → q < b + 28 → h6 q = hh q := fun q h1 h2 => by rw [eh, jset_n h1, jset_n (by omega)]
  have al6 := al4.keep (h' := h6) (fun q u1 u2 => g6 q (by omega) (by omega))
  have ra6 : h6 (b + 3) = _ := (g6 _ (by omega) (by omega)).trans ra4
  have ro6 : ∀ k, k < 8 → isRo E h6 (b + 4 + 3 * k) 0 (fun _ => 0) (fun _ => 0) := fun k hk => (ro4 k hk).keep (fun q u1 u2 => g6 q (by omega) (by omega))
  have k6 : ∀ q, q < b → h6 q = hc q := fun q hq => (g6 q (by omega) (by omega)).trans (k4 q hq)
  have hs6 : h6 (b + 28) = some (jI E 8 (fun _ => 0)) := by rw [eh, jset_n (by omega), jset_s]
  clear eh
  refine j_sz (b + 29) 28 97 (by omega) (by omega) (by omega) ?_
  refine j_aload_n C0 d_Ma_init_103 rfl (by rfl) ?_
  refine j_new C0 d_Ma_init_104 nw_Ma_41 (by omega) (by omega) ?_
  refine j_dup C0 d_Ma_init_107 rfl ?_
  refine j_callIN C0 d_Ma_init_108 cn_Ma_43 cn_Ma_43v rfl rfl (c_Tr_init _ E jset_s rfl) rfl rfl ⟨by decide, by decide⟩ ⟨by omega, by omega⟩ (Nat.le_of_ble_eq_true rfl) (fun r_ h7 z_ hp_ => ?_)
  obtain ⟨rfl, hh7, rfl⟩ := hp_
  have b7 : h7 b = h6 b := by rw [hh7, reH_n (by omega), jset_n (by omega), jset_n (by omega)]
  rw [f6] at b7
  refine j_putF C0 d_Ma_init_111 fp_Ma_44 (by (repeat (first | rw [jset_s] | rw [jset_n (by omega)] | rw [reH_0] | rw [reH_1] | rw [reH_2] | rw [reH_n (by omega)])) <;> first | rfl | assumption) (Nat.le_of_ble_eq_true rfl) (by rfl) (by rfl) rfl ?_
  refine j_heap (fun h8 eh => ?_)
  have f8 : h8 b = some (jO 7 [.int (jmax 1 (jmin p 60)), .int (jmax (jmax 1 (jmin p 60)) (jmin q 600)), .int (jmax (jmax (jmax 1 (jmin p 60)) (jmin q 600)) (jmin s 6000)), .ref (b + 1), .ref (b + 3), .ref (b + 28), .ref (b + 29), .null, .null, .null, .int 0, .int 0, .int 0]) := by rw [eh, jset_s]; rfl
  have g8 : ∀ q, q ≠ b → q < b + 29 → h8 q = h6 q := fun q h1 h2 => by rw [eh, jset_n h1, hh7, reH_n (by omega), jset_n (by omega), jset_n (by omega)]
  have al8 := al6.keep (h' := h8) (fun q u1 u2 => g8 q (by omega) (by omega))
  have ra8 : h8 (b + 3) = _ := (g8 _ (by omega) (by omega)).trans ra6
  have ro8 : ∀ k, k < 8 → isRo E h8 (b + 4 + 3 * k) 0 (fun _ => 0) (fun _ => 0) := fun k hk => (ro6 k hk).keep (fun q u1 u2 => g8 q (by omega) (by omega))
  have hs8 : h8 (b + 28) = some (jI E 8 (fun _ => 0)) := (g8 _ (by omega) (by omega)).trans hs6
  have k8 : ∀ q, q < b → h8 q = hc q := fun q hq => (g8 q (by omega) (by omega)).trans (k6 q hq)
  have tr8 : isTr E h8 (b + 29) 0 (-1) 0 (fun _ => 0) (fun _ => 0) := ⟨by rw [eh, jset_n (by omega), hh7, reH_n (by omega), jset_s], (reH_is (E := E) (h := jset (jset h6 (b + 29) (jO 6 [.null, .int 0, .int 0])) (b + 29) (trO (b + 29) 0 (-1))) (a := b + 29 + 1) (n := 0) (ad := (fun _ => 0)) (st := (fun _ => 0)) (by decide)).keep (fun q u1 u2 => by rw [eh, jset_n (by omega), hh7])⟩
  clear eh hh7
  refine j_sz (b + 33) 32 111 (by omega) (by omega) (by omega) ?_
  exact j_to (ma_init_2 E p q s C0 f8 al8 ra8 ro8 hs8 tr8 k8) rfl ⟨rfl, trivial⟩
set_option maxHeartbeats 4000000 in
set_option maxRecDepth 100000 in
theorem c_Ma_init (l : Launch) (E : jE) {h : jH} {sz b : Nat} (p q s : Int32) (e0 : h b = some (jO 7 [.int 0, .int 0, .int 0, .null, .null, .null, .null, .null, .null, .null, .int 0, .int 0, .int 0])) (hz : sz = b + 1) : jC l M_Ma_init 4 E [.ref b, .int p, .int q, .int s] h sz 89 559 (fun r h' sz' => r = none ∧ isMA E h' b (inS p q s) ∧ (∀ q, q < b → h' q = h q) ∧ sz' = b + 90) := by
  subst hz
  refine jC.of (by decide) (Nat.le_of_ble_eq_true rfl) ?_
  intro x C0 hx
  subst hx

  refine j_aload_n C0 d_Ma_init_0 rfl (by rfl) ?_
  refine j_obj C0 d_Ma_init_1 w_1_17 w_1_18 w_1_19 (by omega) (Nat.le_of_ble_eq_true rfl) ?_
  refine j_aload_n C0 d_Ma_init_4 rfl (by rfl) ?_
  refine j_iload_n C0 d_Ma_init_5 rfl (by rfl) ?_
  refine j_iconst C0 d_Ma_init_6 (v := 1) (by decide) ?_
  refine j_bipush C0 d_Ma_init_7 (v := 60) (by decide) ?_
  refine j_callS C0 d_Ma_init_9 cl_Ma_7 cl_Ma_7v (c_Ma_clamp _ E _ _ _) rfl rfl ⟨by decide, by decide⟩ ⟨by omega, by omega⟩ (Nat.le_of_ble_eq_true rfl) (fun r_ hc z_ hp_ => ?_)
  obtain ⟨rfl, rfl, rfl⟩ := hp_
  refine j_putF C0 d_Ma_init_12 fp_Ma_13 (by (repeat (first | rw [jset_s] | rw [jset_n (by omega)] | rw [reH_0] | rw [reH_1] | rw [reH_2] | rw [reH_n (by omega)])) <;> first | rfl | assumption) (Nat.le_of_ble_eq_true rfl) (by rfl) (by rfl) rfl ?_
  refine j_aload_n C0 d_Ma_init_15 rfl (by rfl) ?_
  refine j_iload_n C0 d_Ma_init_16 rfl (by rfl) ?_
  refine j_aload_n C0 d_Ma_init_17 rfl (by rfl) ?_
  refine j_getf C0 d_Ma_init_18 fl_Ma_13 (by (repeat (first | rw [jset_s] | rw [jset_n (by omega)] | rw [reH_0] | rw [reH_1] | rw [reH_2] | rw [reH_n (by omega)])) <;> first | rfl | assumption) (by rfl) ?_
  refine j_sipush C0 d_Ma_init_21 (v := 600) (by decide) ?_
  refine j_callS C0 d_Ma_init_24 cl_Ma_7 cl_Ma_7v (c_Ma_clamp _ E _ _ _) rfl rfl ⟨by decide, by decide⟩ ⟨by omega, by omega⟩ (Nat.le_of_ble_eq_true rfl) (fun r_ h_ z_ hp_ => ?_)
  obtain ⟨rfl, rfl, rfl⟩ := hp_
  refine j_putF C0 d_Ma_init_27 fp_Ma_17 (by (repeat (first | rw [jset_s] | rw [jset_n (by omega)] | rw [reH_0] | rw [reH_1] | rw [reH_2] | rw [reH_n (by omega)])) <;> first | rfl | assumption) (Nat.le_of_ble_eq_true rfl) (by rfl) (by rfl) rfl ?_
  refine j_aload_n C0 d_Ma_init_30 rfl (by rfl) ?_
  refine j_iload_n C0 d_Ma_init_31 rfl (by rfl) ?_
  refine j_aload_n C0 d_Ma_init_32 rfl (by rfl) ?_
  refine j_getf C0 d_Ma_init_33 fl_Ma_17 (by (repeat (first | rw [jset_s] | rw [jset_n (by omega)] | rw [reH_0] | rw [reH_1] | rw [reH_2] | rw [reH_n (by omega)])) <;> first | rfl | assumption) (by rfl) ?_
  refine j_sipush C0 d_Ma_init_36 (v := 6000) (by decide) ?_
  refine j_callS C0 d_Ma_init_39 cl_Ma_7 cl_Ma_7v (c_Ma_clamp _ E _ _ _) rfl rfl ⟨by decide, by decide⟩ ⟨by omega, by omega⟩ (Nat.le_of_ble_eq_true rfl) (fun r_ h_ z_ hp_ => ?_)
  obtain ⟨rfl, rfl, rfl⟩ := hp_
  refine j_putF C0 d_Ma_init_42 fp_Ma_20 (by (repeat (first | rw [jset_s] | rw [jset_n (by omega)] | rw [reH_0] | rw [reH_1] | rw [reH_2] | rw [reH_n (by omega)])) <;> first | rfl | assumption) (Nat.le_of_ble_eq_true rfl) (by rfl) (by rfl) rfl ?_
  refine j_heap (fun h0 eh => ?_)
  have f0 : h0 b = some (jO 7 [.int (jmax 1 (jmin p 60)), .int (jmax (jmax 1 (jmin p 60)) (jmin q 600)), .int (jmax (jmax (jmax 1 (jmin p 60)) (jmin q 600)) (jmin s 6000)), .null, .null, .null, .null, .null, .null, .null, .int 0, .int 0, .int 0]) := by rw [eh, jset_s]; rfl
  have k0 : ∀ q, q < b → h0 q = hc q := fun q hq => by rw [eh, jset_n (by omega), jset_n (by omega), jset_n (by omega)]
  clear eh
  refine j_aload_n C0 d_Ma_init_45 rfl (by rfl) ?_
  refine j_new C0 d_Ma_init_46 nw_Ma_23 (by omega) (by omega) ?_
  refine j_dup C0 d_Ma_init_49 rfl ?_
  refine j_callIN C0 d_Ma_init_50 cn_Ma_25 cn_Ma_25v rfl rfl (c_Al_init _ E jset_s rfl) rfl rfl ⟨by decide, by decide⟩ ⟨by omega, by omega⟩ (Nat.le_of_ble_eq_true rfl) (fun r_ h1 z_ hp_ => ?_)
  obtain ⟨rfl, al1, k1, rfl⟩ := hp_
  have f1 : h1 b = h0 b := by rw [k1 b (by omega), jset_n (by omega)]
  rw [f0] at f1
  refine j_putF C0 d_Ma_init_53 fp_Ma_26 (by (repeat (first | rw [jset_s] | rw [jset_n (by omega)] | rw [reH_0] | rw [reH_1] | rw [reH_2] | rw [reH_n (by omega)])) <;> first | rfl | assumption) (Nat.le_of_ble_eq_true rfl) (by rfl) (by rfl) rfl ?_
  refine j_heap (fun h2 eh => ?_)
  have f2 : h2 b = some (jO 7 [.int (jmax 1 (jmin p 60)), .int (jmax (jmax 1 (jmin p 60)) (jmin q 600)), .int (jmax (jmax (jmax 1 (jmin p 60)) (jmin q 600)) (jmin s 6000)), .ref (b + 1), .null, .null, .null, .null, .null, .null, .int 0, .int 0, .int 0]) := by rw [eh, jset_s]; rfl
  have al2 : isAl E h2 (b + 1) (fun _ => 0) := al1.keep (fun q g1 g2 => by rw [eh, jset_n (by omega)])
  have k2 : ∀ q, q < b → h2 q = hc q := fun q hq => by rw [eh, jset_n (by omega), k1 q (by omega), jset_n (by omega)]; exact k0 q hq
  clear eh
  refine j_sz (b + 3) 2 9 (by omega) (by omega) (by omega) ?_
  refine j_aload_n C0 d_Ma_init_56 rfl (by rfl) ?_
  refine j_bipush C0 d_Ma_init_57 (v := 8) (by decide) ?_
  refine j_newq C0 (N := 8) (t := 3) d_Ma_init_59 w_1_40 (by decide) rfl rfl (by decide) (by omega) (by omega) ?_
  refine j_putF C0 d_Ma_init_62 fp_Ma_32 (by (repeat (first | rw [jset_s] | rw [jset_n (by omega)] | rw [reH_0] | rw [reH_1] | rw [reH_2] | rw [reH_n (by omega)])) <;> first | rfl | assumption) (Nat.le_of_ble_eq_true rfl) (by rfl) (by rfl) rfl ?_
  refine j_heap (fun h3 eh => ?_)
  have f3 : h3 b = some (jO 7 [.int (jmax 1 (jmin p 60)), .int (jmax (jmax 1 (jmin p 60)) (jmin q 600)), .int (jmax (jmax (jmax 1 (jmin p 60)) (jmin q 600)) (jmin s 6000)), .ref (b + 1), .ref (b + 3), .null, .null, .null, .null, .null, .int 0, .int 0, .int 0]) := by rw [eh, jset_s]; rfl
  have al3 : isAl E h3 (b + 1) (fun _ => 0) := al2.keep (fun q g1 g2 => by rw [eh, jset_n (by omega), jset_n (by omega)])
  have ra3 : h3 (b + 3) = some (jQa E 3 8 (fun k => if k < 0 then some (b + 4 + 3 * k) else none)) := by rw [eh, jset_n (by omega), jset_s]; rfl
  have k3 : ∀ q, q < b → h3 q = hc q := fun q hq => by rw [eh, jset_n (by omega), jset_n (by omega)]; exact k2 q hq
  clear eh
  refine j_sz (b + 4) 3 17 (by omega) (by omega) (by omega) ?_
  refine j_iconst C0 d_Ma_init_65 (v := 0) (by decide) ?_
  refine j_istore C0 d_Ma_init_66 (Nat.le_of_ble_eq_true rfl) ?_
  refine j_lv (lv' := [(0, .ref b), (1, .int p), (2, .int q), (3, .int s), (4, .int (nI 0))]) ⟨rfl, rfl, rfl, rfl, rfl, trivial⟩ ?_
  refine j_forR 8 (fun i hh => hh b = some (jO 7 [.int (jmax 1 (jmin p 60)), .int (jmax (jmax 1 (jmin p 60)) (jmin q 600)), .int (jmax (jmax (jmax 1 (jmin p 60)) (jmin q 600)) (jmin s 6000)), .ref (b + 1), .ref (b + 3), .null, .null, .null, .null, .null, .int 0, .int 0, .int 0]) ∧ isAl E hh (b + 1) (fun _ => 0) ∧ hh (b + 3) = some (jQa E 3 8 (fun k => if k < i then some (b + 4 + 3 * k) else none)) ∧ (∀ k, k < i → isRo E hh (b + 4 + 3 * k) 0 (fun _ => 0) (fun _ => 0)) ∧ ∀ q, q < b → hh q = hc q) (fun i => b + 4 + 3 * i) (fun i => 3 + 3 * i) (fun i => 17 + 9 * i) (fun i => [(0, .ref b), (1, .int p), (2, .int q), (3, .int s), (4, .int (nI i))]) ?_ ?_ 0 h3 (by decide) ⟨f3, al3, ra3, fun k hk => absurd hk (by omega), k3⟩
  · intro i hh hi hI ih
    obtain ⟨f4, al4, ra4, ro4, k4⟩ := hI
    refine j_iload C0 d_Ma_init_68 (by rfl) ?_
    refine j_bipush C0 d_Ma_init_70 (v := 8) (by decide) ?_
    refine j_icmp_ge C0 d_Ma_init_72 (tgt := 95) (by decide) (fun c_72 => ?_) (fun c_72 => ?_)
    · exact absurd c_72 (nI_ge (b := 8) hi (by decide))
    · refine j_aload_n C0 d_Ma_init_75 rfl (by rfl) ?_
      refine j_getf C0 d_Ma_init_76 fl_Ma_32 (by (repeat (first | rw [jset_s] | rw [jset_n (by omega)] | rw [reH_0] | rw [reH_1] | rw [reH_2] | rw [reH_n (by omega)])) <;> first | rfl | assumption) (by rfl) ?_
      refine j_iload C0 d_Ma_init_79 (by rfl) ?_
      refine j_new C0 d_Ma_init_81 nw_Ma_30 (by omega) (by omega) ?_
      refine j_dup C0 d_Ma_init_84 rfl ?_
      refine j_callIN C0 d_Ma_init_85 cn_Ma_36 cn_Ma_36v rfl rfl (c_Ro_init _ E jset_s rfl) rfl rfl ⟨by decide, by decide⟩ ⟨by omega, by omega⟩ (Nat.le_of_ble_eq_true rfl) (fun r_ h5 z_ hp_ => ?_)
      obtain ⟨rfl, ro5, k5, rfl⟩ := hp_
      have g5 : ∀ q, q < b + 4 + 3 * i → h5 q = hh q := fun q hq => by rw [k5 q hq, jset_n (by omega)]
      refine j_aast C0 d_Ma_init_88 (by rw [g5 _ (by omega)]; exact ra4) ro5.1 rfl rfl rfl (by omega) (by decide) ?_
      refine j_iinc C0 d_Ma_init_89 (by rfl) (jinc _) (Nat.le_of_ble_eq_true rfl) ?_
      refine j_goto C0 d_Ma_init_92 (tgt := 68) (by decide) ?_
      refine j_lv (lv' := [(0, .ref b), (1, .int p), (2, .int q), (3, .int s), (4, .int (nI (i + 1)))]) ⟨rfl, rfl, rfl, rfl, rfl, trivial⟩ ?_
      refine j_eq (ih _ ?_) rfl (by omega) (by omega) (by omega) rfl rfl rfl
      refine ⟨by rw [jset_n (by omega), g5 _ (by omega)]; exact f4, al4.keep (fun q u1 u2 => by rw [jset_n (by omega), g5 _ (by omega)]), ?_, fun k hk => ?_, fun q hq => by rw [jset_n (by omega), g5 _ (by omega)]; exact k4 q hq⟩
      · rw [jset_s]
        congr 6
        funext k
        unfold va_up
        by_cases hk : k = i
        · subst hk; simp
        · by_cases hl : k < i
          · simp [hk, hl, show k < i + 1 by omega]
          · simp [hk, hl, show ¬ k < i + 1 by omega]
      · by_cases hki : k = i
        · subst hki
          exact ro5.keep (fun q u1 u2 => jset_n (by omega))
        · exact (ro4 k (by omega)).keep (fun q u1 u2 => by rw [jset_n (by omega), g5 _ (by omega)])
  · intro hh hI
    obtain ⟨f4, al4, ra4, ro4, k4⟩ := hI
    refine j_iload C0 d_Ma_init_68 (by rfl) ?_
    refine j_bipush C0 d_Ma_init_70 (v := 8) (by decide) ?_
    refine j_icmp_ge C0 d_Ma_init_72 (tgt := 95) (by decide) (fun c_72 => ?_) (fun c_72 => ?_)
    · refine j_sz (b + 28) 27 89 (by omega) (by omega) (by omega) ?_
      exact j_to (ma_init_1 E p q s C0 f4 al4 ra4 ro4 k4) rfl ⟨rfl, trivial⟩
    · exact absurd (nI_le (Nat.le_refl 8) (by decide)) c_72
