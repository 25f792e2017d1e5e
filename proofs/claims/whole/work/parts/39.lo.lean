theorem moH_of {E : jE} {h0 h1 : jH} {c : Nat} {A : moA} {w : Nat → Int32} (h : ∀ q, c ≤ q → q < c + 14 → h1 q = moH E h0 c A w q) : h1 = moH E h1 c A w := by
  funext q
  by_cases hq : c ≤ q ∧ q < c + 14
  · rw [h q hq.1 hq.2]
    unfold moH
    by_cases e : q = c
    · rw [if_pos e, if_pos e]
    · rw [if_neg e, if_neg e, if_pos (by omega), if_pos (by omega)]
  · rw [mo_out (by omega)]
/-- between two calls of the law: the class at B, the reference at B + 90, and they agree -/
def lwI (E : jE) (B N : Nat) (h : jH) : Prop := ∃ (S : maS) (A : moA) (w : Nat → Int32) (h0 : jH), h = moH E h0 (B + 90) A w ∧ isMA E h B S ∧ INV N S A w
abbrev lwV (b B t : Nat) : List (Nat × Value) := [(0, .ref b), (1, .ref B), (2, .ref (B + 90)), (3, .int (nI (3 + 4 * t)))]
theorem lwI.next {E : jE} {B N : Nat} {h1 : jH} {S : maS} {A : moA} {w : Nat → Int32} (m : isMA E h1 B S) (hI : INV N S A w) : lwI E B N (moH E h1 (B + 90) A w) := ⟨S, A, w, h1, rfl, m.keep (fun q h1 h2 => mo_out (by omega)), hI⟩
set_option maxHeartbeats 4000000 in
set_option maxRecDepth 100000 in
theorem lw_alias {x : jX} {E : jE} {Q : State → Prop} {b B L t : Nat} {xs : Nat → Int32} {nm : String} {h : jH} (C0 : jOk x (M_law nm) E 6 600000 7302250) (hX : jXs x E b L xs) (hL : L ≤ 2051) (ht : 4 * t + 7 ≤ L) (hI : lwI E B t h) (ih : ∀ h', lwI E B (t + 1) h' → jJ x (M_law nm) E Q h' (B + 104) 104 1096 (lwV b B (t + 1)) 48 []) : jJ x (M_law nm) E Q h (B + 104) 104 1096 (lwV b B t) 152 [] := by
  obtain ⟨S, A, w, h0, rfl, m, hI⟩ := hI
  obtain ⟨ans, S', hMa, hMo⟩ := op_alias (l := x.2.1) (E := E) hI (xs (3 + 4 * t + 1)) (xs (3 + 4 * t + 2))
  refine j_aload_n C0 d_law_152 rfl (by rfl) ?_
  refine j_aload_n C0 d_law_153 rfl (by rfl) ?_
  refine j_iload_n C0 d_law_154 rfl (by rfl) ?_
  refine j_iconst C0 d_law_155 (v := 1) (by decide) ?_
  refine j_iadd C0 d_law_156 ?_
  refine j_sld C0 hX d_law_157 (nI_add (3 + 4 * t) 1) (by omega) ?_
  refine j_aload_n C0 d_law_158 rfl (by rfl) ?_
  refine j_iload_n C0 d_law_159 rfl (by rfl) ?_
  refine j_iconst C0 d_law_160 (v := 2) (by decide) ?_
  refine j_iadd C0 d_law_161 ?_
  refine j_sld C0 hX d_law_162 (nI_add (3 + 4 * t) 2) (by omega) ?_
  refine j_callV C0 d_law_163 cl_La_21 cl_La_21v (hMa _ (B + 104) B m) m.obj rfl rfl rfl ⟨by decide, by decide⟩ ⟨by decide, by decide⟩ (Nat.le_of_ble_eq_true rfl) (fun r_ h1 z_ hp_ => ?_)
  obtain ⟨rfl, m1, k1, rfl⟩ := hp_
  refine j_heapE (moH_of (E := E) (h0 := h0) (c := B + 90) (A := A) (w := w) (fun q q1 q2 => k1 q (by omega))) ?_
  refine j_aload_n C0 d_law_166 rfl (by rfl) ?_
  refine j_aload_n C0 d_law_167 rfl (by rfl) ?_
  refine j_iload_n C0 d_law_168 rfl (by rfl) ?_
  refine j_iconst C0 d_law_169 (v := 1) (by decide) ?_
  refine j_iadd C0 d_law_170 ?_
  refine j_sld C0 hX d_law_171 (nI_add (3 + 4 * t) 1) (by omega) ?_
  refine j_aload_n C0 d_law_172 rfl (by rfl) ?_
  refine j_iload_n C0 d_law_173 rfl (by rfl) ?_
  refine j_iconst C0 d_law_174 (v := 2) (by decide) ?_
  refine j_iadd C0 d_law_175 ?_
  refine j_sld C0 hX d_law_176 (nI_add (3 + 4 * t) 2) (by omega) ?_
  refine j_callV C0 d_law_177 cl_La_25 cl_La_25v (hMo h1 (B + 104) (B + 90)) mo_this rfl rfl rfl ⟨by decide, by decide⟩ ⟨by decide, by decide⟩ (Nat.le_of_ble_eq_true rfl) (fun r_ h2 z_ hp_ => ?_)
  obtain ⟨rfl, ⟨A', w', rfl, hI'⟩, rfl⟩ := hp_
  refine j_icmp_eq C0 d_law_180 (tgt := 629) (by decide) (fun _ => ?_) (fun c_ => absurd rfl c_)
  refine j_iinc C0 d_law_629 (by rfl) (show _ = nI (3 + 4 * (t + 1)) from nI_add (3 + 4 * t) 4) (Nat.le_of_ble_eq_true rfl) ?_
  refine j_goto C0 d_law_632 (tgt := 48) (by decide) ?_
  exact j_to (ih _ (lwI.next m1 hI')) rfl ⟨rfl, rfl, rfl, rfl, trivial⟩
set_option maxHeartbeats 4000000 in
set_option maxRecDepth 100000 in
theorem lw_unalias {x : jX} {E : jE} {Q : State → Prop} {b B L t : Nat} {xs : Nat → Int32} {nm : String} {h : jH} (C0 : jOk x (M_law nm) E 6 600000 7302250) (hX : jXs x E b L xs) (hL : L ≤ 2051) (ht : 4 * t + 7 ≤ L) (hI : lwI E B t h) (ih : ∀ h', lwI E B (t + 1) h' → jJ x (M_law nm) E Q h' (B + 104) 104 1096 (lwV b B (t + 1)) 48 []) : jJ x (M_law nm) E Q h (B + 104) 104 1096 (lwV b B t) 185 [] := by
  obtain ⟨S, A, w, h0, rfl, m, hI⟩ := hI
  obtain ⟨ans, S', hMa, hMo⟩ := op_unalias (l := x.2.1) (E := E) hI (xs (3 + 4 * t + 1))
  refine j_aload_n C0 d_law_185 rfl (by rfl) ?_
  refine j_aload_n C0 d_law_186 rfl (by rfl) ?_
  refine j_iload_n C0 d_law_187 rfl (by rfl) ?_
  refine j_iconst C0 d_law_188 (v := 1) (by decide) ?_
  refine j_iadd C0 d_law_189 ?_
  refine j_sld C0 hX d_law_190 (nI_add (3 + 4 * t) 1) (by omega) ?_
  refine j_callV C0 d_law_191 cl_La_26 cl_La_26v (hMa _ (B + 104) B m) m.obj rfl rfl rfl ⟨by decide, by decide⟩ ⟨by decide, by decide⟩ (Nat.le_of_ble_eq_true rfl) (fun r_ h1 z_ hp_ => ?_)
  obtain ⟨rfl, m1, k1, rfl⟩ := hp_
  refine j_heapE (moH_of (E := E) (h0 := h0) (c := B + 90) (A := A) (w := w) (fun q q1 q2 => k1 q (by omega))) ?_
  refine j_aload_n C0 d_law_194 rfl (by rfl) ?_
  refine j_aload_n C0 d_law_195 rfl (by rfl) ?_
  refine j_iload_n C0 d_law_196 rfl (by rfl) ?_
  refine j_iconst C0 d_law_197 (v := 1) (by decide) ?_
  refine j_iadd C0 d_law_198 ?_
  refine j_sld C0 hX d_law_199 (nI_add (3 + 4 * t) 1) (by omega) ?_
  refine j_callV C0 d_law_200 cl_La_30 cl_La_30v (hMo h1 (B + 104) (B + 90)) mo_this rfl rfl rfl ⟨by decide, by decide⟩ ⟨by decide, by decide⟩ (Nat.le_of_ble_eq_true rfl) (fun r_ h2 z_ hp_ => ?_)
  obtain ⟨rfl, ⟨A', w', rfl, hI'⟩, rfl⟩ := hp_
  refine j_icmp_eq C0 d_law_203 (tgt := 629) (by decide) (fun _ => ?_) (fun c_ => absurd rfl c_)
  refine j_iinc C0 d_law_629 (by rfl) (show _ = nI (3 + 4 * (t + 1)) from nI_add (3 + 4 * t) 4) (Nat.le_of_ble_eq_true rfl) ?_
  refine j_goto C0 d_law_632 (tgt := 48) (by decide) ?_
  exact j_to (ih _ (lwI.next m1 hI')) rfl ⟨rfl, rfl, rfl, rfl, trivial⟩
set_option maxHeartbeats 4000000 in
set_option maxRecDepth 100000 in
theorem lw_route {x : jX} {E : jE} {Q : State → Prop} {b B L t : Nat} {xs : Nat → Int32} {nm : String} {h : jH} (C0 : jOk x (M_law nm) E 6 600000 7302250) (hX : jXs x E b L xs) (hL : L ≤ 2051) (ht : 4 * t + 7 ≤ L) (hI : lwI E B t h) (ih : ∀ h', lwI E B (t + 1) h' → jJ x (M_law nm) E Q h' (B + 104) 104 1096 (lwV b B (t + 1)) 48 []) : jJ x (M_law nm) E Q h (B + 104) 104 1096 (lwV b B t) 208 [] := by
  obtain ⟨S, A, w, h0, rfl, m, hI⟩ := hI
  obtain ⟨ans, S', hMa, hMo⟩ := op_route (l := x.2.1) (E := E) hI (xs (3 + 4 * t + 1)) (xs (3 + 4 * t + 2)) (xs (3 + 4 * t + 3))
  refine j_aload_n C0 d_law_208 rfl (by rfl) ?_
  refine j_aload_n C0 d_law_209 rfl (by rfl) ?_
  refine j_iload_n C0 d_law_210 rfl (by rfl) ?_
  refine j_iconst C0 d_law_211 (v := 1) (by decide) ?_
  refine j_iadd C0 d_law_212 ?_
  refine j_sld C0 hX d_law_213 (nI_add (3 + 4 * t) 1) (by omega) ?_
  refine j_aload_n C0 d_law_214 rfl (by rfl) ?_
  refine j_iload_n C0 d_law_215 rfl (by rfl) ?_
  refine j_iconst C0 d_law_216 (v := 2) (by decide) ?_
  refine j_iadd C0 d_law_217 ?_
  refine j_sld C0 hX d_law_218 (nI_add (3 + 4 * t) 2) (by omega) ?_
  refine j_aload_n C0 d_law_219 rfl (by rfl) ?_
  refine j_iload_n C0 d_law_220 rfl (by rfl) ?_
  refine j_iconst C0 d_law_221 (v := 3) (by decide) ?_
  refine j_iadd C0 d_law_222 ?_
  refine j_sld C0 hX d_law_223 (nI_add (3 + 4 * t) 3) (by omega) ?_
  refine j_callV C0 d_law_224 cl_La_31 cl_La_31v (hMa _ (B + 104) B m) m.obj rfl rfl rfl ⟨by decide, by decide⟩ ⟨by decide, by decide⟩ (Nat.le_of_ble_eq_true rfl) (fun r_ h1 z_ hp_ => ?_)
  obtain ⟨rfl, m1, k1, rfl⟩ := hp_
  refine j_heapE (moH_of (E := E) (h0 := h0) (c := B + 90) (A := A) (w := w) (fun q q1 q2 => k1 q (by omega))) ?_
  refine j_aload_n C0 d_law_227 rfl (by rfl) ?_
  refine j_aload_n C0 d_law_228 rfl (by rfl) ?_
  refine j_iload_n C0 d_law_229 rfl (by rfl) ?_
  refine j_iconst C0 d_law_230 (v := 1) (by decide) ?_
  refine j_iadd C0 d_law_231 ?_
  refine j_sld C0 hX d_law_232 (nI_add (3 + 4 * t) 1) (by omega) ?_
  refine j_aload_n C0 d_law_233 rfl (by rfl) ?_
  refine j_iload_n C0 d_law_234 rfl (by rfl) ?_
  refine j_iconst C0 d_law_235 (v := 2) (by decide) ?_
  refine j_iadd C0 d_law_236 ?_
  refine j_sld C0 hX d_law_237 (nI_add (3 + 4 * t) 2) (by omega) ?_
  refine j_aload_n C0 d_law_238 rfl (by rfl) ?_
  refine j_iload_n C0 d_law_239 rfl (by rfl) ?_
  refine j_iconst C0 d_law_240 (v := 3) (by decide) ?_
  refine j_iadd C0 d_law_241 ?_
  refine j_sld C0 hX d_law_242 (nI_add (3 + 4 * t) 3) (by omega) ?_
  refine j_callV C0 d_law_243 cl_La_35 cl_La_35v (hMo h1 (B + 104) (B + 90)) mo_this rfl rfl rfl ⟨by decide, by decide⟩ ⟨by decide, by decide⟩ (Nat.le_of_ble_eq_true rfl) (fun r_ h2 z_ hp_ => ?_)
  obtain ⟨rfl, ⟨A', w', rfl, hI'⟩, rfl⟩ := hp_
  refine j_icmp_eq C0 d_law_246 (tgt := 629) (by decide) (fun _ => ?_) (fun c_ => absurd rfl c_)
  refine j_iinc C0 d_law_629 (by rfl) (show _ = nI (3 + 4 * (t + 1)) from nI_add (3 + 4 * t) 4) (Nat.le_of_ble_eq_true rfl) ?_
  refine j_goto C0 d_law_632 (tgt := 48) (by decide) ?_
  exact j_to (ih _ (lwI.next m1 hI')) rfl ⟨rfl, rfl, rfl, rfl, trivial⟩
set_option maxHeartbeats 4000000 in
set_option maxRecDepth 100000 in
theorem lw_unroute {x : jX} {E : jE} {Q : State → Prop} {b B L t : Nat} {xs : Nat → Int32} {nm : String} {h : jH} (C0 : jOk x (M_law nm) E 6 600000 7302250) (hX : jXs x E b L xs) (hL : L ≤ 2051) (ht : 4 * t + 7 ≤ L) (hI : lwI E B t h) (ih : ∀ h', lwI E B (t + 1) h' → jJ x (M_law nm) E Q h' (B + 104) 104 1096 (lwV b B (t + 1)) 48 []) : jJ x (M_law nm) E Q h (B + 104) 104 1096 (lwV b B t) 251 [] := by
  obtain ⟨S, A, w, h0, rfl, m, hI⟩ := hI
  obtain ⟨ans, S', hMa, hMo⟩ := op_unroute (l := x.2.1) (E := E) hI (xs (3 + 4 * t + 1))
  refine j_aload_n C0 d_law_251 rfl (by rfl) ?_
  refine j_aload_n C0 d_law_252 rfl (by rfl) ?_
  refine j_iload_n C0 d_law_253 rfl (by rfl) ?_
  refine j_iconst C0 d_law_254 (v := 1) (by decide) ?_
  refine j_iadd C0 d_law_255 ?_
  refine j_sld C0 hX d_law_256 (nI_add (3 + 4 * t) 1) (by omega) ?_
  refine j_callV C0 d_law_257 cl_La_36 cl_La_36v (hMa _ (B + 104) B m) m.obj rfl rfl rfl ⟨by decide, by decide⟩ ⟨by decide, by decide⟩ (Nat.le_of_ble_eq_true rfl) (fun r_ h1 z_ hp_ => ?_)
  obtain ⟨rfl, m1, k1, rfl⟩ := hp_
  refine j_heapE (moH_of (E := E) (h0 := h0) (c := B + 90) (A := A) (w := w) (fun q q1 q2 => k1 q (by omega))) ?_
  refine j_aload_n C0 d_law_260 rfl (by rfl) ?_
  refine j_aload_n C0 d_law_261 rfl (by rfl) ?_
  refine j_iload_n C0 d_law_262 rfl (by rfl) ?_
  refine j_iconst C0 d_law_263 (v := 1) (by decide) ?_
  refine j_iadd C0 d_law_264 ?_
  refine j_sld C0 hX d_law_265 (nI_add (3 + 4 * t) 1) (by omega) ?_
  refine j_callV C0 d_law_266 cl_La_39 cl_La_39v (hMo h1 (B + 104) (B + 90)) mo_this rfl rfl rfl ⟨by decide, by decide⟩ ⟨by decide, by decide⟩ (Nat.le_of_ble_eq_true rfl) (fun r_ h2 z_ hp_ => ?_)
  obtain ⟨rfl, ⟨A', w', rfl, hI'⟩, rfl⟩ := hp_
  refine j_icmp_eq C0 d_law_269 (tgt := 629) (by decide) (fun _ => ?_) (fun c_ => absurd rfl c_)
  refine j_iinc C0 d_law_629 (by rfl) (show _ = nI (3 + 4 * (t + 1)) from nI_add (3 + 4 * t) 4) (Nat.le_of_ble_eq_true rfl) ?_
  refine j_goto C0 d_law_632 (tgt := 48) (by decide) ?_
  exact j_to (ih _ (lwI.next m1 hI')) rfl ⟨rfl, rfl, rfl, rfl, trivial⟩
set_option maxHeartbeats 4000000 in
set_option maxRecDepth 100000 in
theorem lw_host {x : jX} {E : jE} {Q : State → Prop} {b B L t : Nat} {xs : Nat → Int32} {nm : String} {h : jH} (C0 : jOk x (M_law nm) E 6 600000 7302250) (hX : jXs x E b L xs) (hL : L ≤ 2051) (ht : 4 * t + 7 ≤ L) (hI : lwI E B t h) (ih : ∀ h', lwI E B (t + 1) h' → jJ x (M_law nm) E Q h' (B + 104) 104 1096 (lwV b B (t + 1)) 48 []) : jJ x (M_law nm) E Q h (B + 104) 104 1096 (lwV b B t) 274 [] := by
  obtain ⟨S, A, w, h0, rfl, m, hI⟩ := hI
  obtain ⟨ans, S', hMa, hMo⟩ := op_host (l := x.2.1) (E := E) hI (xs (3 + 4 * t + 1)) (xs (3 + 4 * t + 2))
  refine j_aload_n C0 d_law_274 rfl (by rfl) ?_
  refine j_aload_n C0 d_law_275 rfl (by rfl) ?_
  refine j_iload_n C0 d_law_276 rfl (by rfl) ?_
  refine j_iconst C0 d_law_277 (v := 1) (by decide) ?_
  refine j_iadd C0 d_law_278 ?_
  refine j_sld C0 hX d_law_279 (nI_add (3 + 4 * t) 1) (by omega) ?_
  refine j_aload_n C0 d_law_280 rfl (by rfl) ?_
  refine j_iload_n C0 d_law_281 rfl (by rfl) ?_
  refine j_iconst C0 d_law_282 (v := 2) (by decide) ?_
  refine j_iadd C0 d_law_283 ?_
  refine j_sld C0 hX d_law_284 (nI_add (3 + 4 * t) 2) (by omega) ?_
  refine j_callV C0 d_law_285 cl_La_40 cl_La_40v (hMa _ (B + 104) B m) m.obj rfl rfl rfl ⟨by decide, by decide⟩ ⟨by decide, by decide⟩ (Nat.le_of_ble_eq_true rfl) (fun r_ h1 z_ hp_ => ?_)
  obtain ⟨rfl, m1, k1, rfl⟩ := hp_
  refine j_heapE (moH_of (E := E) (h0 := h0) (c := B + 90) (A := A) (w := w) (fun q q1 q2 => k1 q (by omega))) ?_
  refine j_aload_n C0 d_law_288 rfl (by rfl) ?_
  refine j_aload_n C0 d_law_289 rfl (by rfl) ?_
  refine j_iload_n C0 d_law_290 rfl (by rfl) ?_
  refine j_iconst C0 d_law_291 (v := 1) (by decide) ?_
  refine j_iadd C0 d_law_292 ?_
  refine j_sld C0 hX d_law_293 (nI_add (3 + 4 * t) 1) (by omega) ?_
  refine j_aload_n C0 d_law_294 rfl (by rfl) ?_
  refine j_iload_n C0 d_law_295 rfl (by rfl) ?_
  refine j_iconst C0 d_law_296 (v := 2) (by decide) ?_
  refine j_iadd C0 d_law_297 ?_
  refine j_sld C0 hX d_law_298 (nI_add (3 + 4 * t) 2) (by omega) ?_
  refine j_callV C0 d_law_299 cl_La_43 cl_La_43v (hMo h1 (B + 104) (B + 90)) mo_this rfl rfl rfl ⟨by decide, by decide⟩ ⟨by decide, by decide⟩ (Nat.le_of_ble_eq_true rfl) (fun r_ h2 z_ hp_ => ?_)
  obtain ⟨rfl, ⟨A', w', rfl, hI'⟩, rfl⟩ := hp_
  refine j_icmp_eq C0 d_law_302 (tgt := 629) (by decide) (fun _ => ?_) (fun c_ => absurd rfl c_)
  refine j_iinc C0 d_law_629 (by rfl) (show _ = nI (3 + 4 * (t + 1)) from nI_add (3 + 4 * t) 4) (Nat.le_of_ble_eq_true rfl) ?_
  refine j_goto C0 d_law_632 (tgt := 48) (by decide) ?_
  exact j_to (ih _ (lwI.next m1 hI')) rfl ⟨rfl, rfl, rfl, rfl, trivial⟩
set_option maxHeartbeats 4000000 in
set_option maxRecDepth 100000 in
theorem lw_from {x : jX} {E : jE} {Q : State → Prop} {b B L t : Nat} {xs : Nat → Int32} {nm : String} {h : jH} (C0 : jOk x (M_law nm) E 6 600000 7302250) (hX : jXs x E b L xs) (hL : L ≤ 2051) (ht : 4 * t + 7 ≤ L) (hI : lwI E B t h) (ih : ∀ h', lwI E B (t + 1) h' → jJ x (M_law nm) E Q h' (B + 104) 104 1096 (lwV b B (t + 1)) 48 []) : jJ x (M_law nm) E Q h (B + 104) 104 1096 (lwV b B t) 307 [] := by
  obtain ⟨S, A, w, h0, rfl, m, hI⟩ := hI
  obtain ⟨ans, S', hMa, hMo⟩ := op_from (l := x.2.1) (E := E) hI (xs (3 + 4 * t + 1))
  refine j_aload_n C0 d_law_307 rfl (by rfl) ?_
  refine j_aload_n C0 d_law_308 rfl (by rfl) ?_
  refine j_iload_n C0 d_law_309 rfl (by rfl) ?_
  refine j_iconst C0 d_law_310 (v := 1) (by decide) ?_
  refine j_iadd C0 d_law_311 ?_
  refine j_sld C0 hX d_law_312 (nI_add (3 + 4 * t) 1) (by omega) ?_
  refine j_callV C0 d_law_313 cl_La_44 cl_La_44v (hMa _ (B + 104) B m) m.obj rfl rfl rfl ⟨by decide, by decide⟩ ⟨by decide, by decide⟩ (Nat.le_of_ble_eq_true rfl) (fun r_ h1 z_ hp_ => ?_)
  obtain ⟨rfl, m1, k1, rfl⟩ := hp_
  refine j_heapE (moH_of (E := E) (h0 := h0) (c := B + 90) (A := A) (w := w) (fun q q1 q2 => k1 q (by omega))) ?_
  refine j_aload_n C0 d_law_316 rfl (by rfl) ?_
  refine j_aload_n C0 d_law_317 rfl (by rfl) ?_
  refine j_iload_n C0 d_law_318 rfl (by rfl) ?_
  refine j_iconst C0 d_law_319 (v := 1) (by decide) ?_
  refine j_iadd C0 d_law_320 ?_
  refine j_sld C0 hX d_law_321 (nI_add (3 + 4 * t) 1) (by omega) ?_
  refine j_callV C0 d_law_322 cl_La_47 cl_La_47v (hMo h1 (B + 104) (B + 90)) mo_this rfl rfl rfl ⟨by decide, by decide⟩ ⟨by decide, by decide⟩ (Nat.le_of_ble_eq_true rfl) (fun r_ h2 z_ hp_ => ?_)
  obtain ⟨rfl, ⟨A', w', rfl, hI'⟩, rfl⟩ := hp_
  refine j_icmp_eq C0 d_law_325 (tgt := 629) (by decide) (fun _ => ?_) (fun c_ => absurd rfl c_)
  refine j_iinc C0 d_law_629 (by rfl) (show _ = nI (3 + 4 * (t + 1)) from nI_add (3 + 4 * t) 4) (Nat.le_of_ble_eq_true rfl) ?_
  refine j_goto C0 d_law_632 (tgt := 48) (by decide) ?_
  exact j_to (ih _ (lwI.next m1 hI')) rfl ⟨rfl, rfl, rfl, rfl, trivial⟩
set_option maxHeartbeats 4000000 in
set_option maxRecDepth 100000 in
theorem lw_to {x : jX} {E : jE} {Q : State → Prop} {b B L t : Nat} {xs : Nat → Int32} {nm : String} {h : jH} (C0 : jOk x (M_law nm) E 6 600000 7302250) (hX : jXs x E b L xs) (hL : L ≤ 2051) (ht : 4 * t + 7 ≤ L) (hI : lwI E B t h) (ih : ∀ h', lwI E B (t + 1) h' → jJ x (M_law nm) E Q h' (B + 104) 104 1096 (lwV b B (t + 1)) 48 []) : jJ x (M_law nm) E Q h (B + 104) 104 1096 (lwV b B t) 330 [] := by
  obtain ⟨S, A, w, h0, rfl, m, hI⟩ := hI
  obtain ⟨ans, S', hMa, hMo⟩ := op_to (l := x.2.1) (E := E) hI (xs (3 + 4 * t + 1))
  refine j_aload_n C0 d_law_330 rfl (by rfl) ?_
  refine j_aload_n C0 d_law_331 rfl (by rfl) ?_
  refine j_iload_n C0 d_law_332 rfl (by rfl) ?_
  refine j_iconst C0 d_law_333 (v := 1) (by decide) ?_
  refine j_iadd C0 d_law_334 ?_
  refine j_sld C0 hX d_law_335 (nI_add (3 + 4 * t) 1) (by omega) ?_
  refine j_callV C0 d_law_336 cl_La_48 cl_La_48v (hMa _ (B + 104) B m) m.obj rfl rfl rfl ⟨by decide, by decide⟩ ⟨by decide, by decide⟩ (Nat.le_of_ble_eq_true rfl) (fun r_ h1 z_ hp_ => ?_)
  obtain ⟨rfl, m1, k1, rfl⟩ := hp_
  refine j_heapE (moH_of (E := E) (h0 := h0) (c := B + 90) (A := A) (w := w) (fun q q1 q2 => k1 q (by omega))) ?_
  refine j_aload_n C0 d_law_339 rfl (by rfl) ?_
  refine j_aload_n C0 d_law_340 rfl (by rfl) ?_
  refine j_iload_n C0 d_law_341 rfl (by rfl) ?_
  refine j_iconst C0 d_law_342 (v := 1) (by decide) ?_
  refine j_iadd C0 d_law_343 ?_
  refine j_sld C0 hX d_law_344 (nI_add (3 + 4 * t) 1) (by omega) ?_
  refine j_callV C0 d_law_345 cl_La_51 cl_La_51v (hMo h1 (B + 104) (B + 90)) mo_this rfl rfl rfl ⟨by decide, by decide⟩ ⟨by decide, by decide⟩ (Nat.le_of_ble_eq_true rfl) (fun r_ h2 z_ hp_ => ?_)
  obtain ⟨rfl, ⟨A', w', rfl, hI'⟩, rfl⟩ := hp_
  refine j_icmp_eq C0 d_law_348 (tgt := 629) (by decide) (fun _ => ?_) (fun c_ => absurd rfl c_)
  refine j_iinc C0 d_law_629 (by rfl) (show _ = nI (3 + 4 * (t + 1)) from nI_add (3 + 4 * t) 4) (Nat.le_of_ble_eq_true rfl) ?_
  refine j_goto C0 d_law_632 (tgt := 48) (by decide) ?_
  exact j_to (ih _ (lwI.next m1 hI')) rfl ⟨rfl, rfl, rfl, rfl, trivial⟩
set_option maxHeartbeats 4000000 in
set_option maxRecDepth 100000 in
theorem lw_data {x : jX} {E : jE} {Q : State → Prop} {b B L t : Nat} {xs : Nat → Int32} {nm : String} {h : jH} (C0 : jOk x (M_law nm) E 6 600000 7302250) (hX : jXs x E b L xs) (hL : L ≤ 2051) (ht : 4 * t + 7 ≤ L) (hI : lwI E B t h) (ih : ∀ h', lwI E B (t + 1) h' → jJ x (M_law nm) E Q h' (B + 104) 104 1096 (lwV b B (t + 1)) 48 []) : jJ x (M_law nm) E Q h (B + 104) 104 1096 (lwV b B t) 353 [] := by
  obtain ⟨S, A, w, h0, rfl, m, hI⟩ := hI
  obtain ⟨ans, S', hMa, hMo⟩ := op_data (l := x.2.1) (E := E) hI (xs (3 + 4 * t + 1))
  refine j_aload_n C0 d_law_353 rfl (by rfl) ?_
  refine j_aload_n C0 d_law_354 rfl (by rfl) ?_
  refine j_iload_n C0 d_law_355 rfl (by rfl) ?_
  refine j_iconst C0 d_law_356 (v := 1) (by decide) ?_
  refine j_iadd C0 d_law_357 ?_
  refine j_sld C0 hX d_law_358 (nI_add (3 + 4 * t) 1) (by omega) ?_
  refine j_callV C0 d_law_359 cl_La_52 cl_La_52v (hMa _ (B + 104) B m) m.obj rfl rfl rfl ⟨by decide, by decide⟩ ⟨by decide, by decide⟩ (Nat.le_of_ble_eq_true rfl) (fun r_ h1 z_ hp_ => ?_)
  obtain ⟨rfl, m1, k1, rfl⟩ := hp_
  refine j_heapE (moH_of (E := E) (h0 := h0) (c := B + 90) (A := A) (w := w) (fun q q1 q2 => k1 q (by omega))) ?_
  refine j_aload_n C0 d_law_362 rfl (by rfl) ?_
  refine j_aload_n C0 d_law_363 rfl (by rfl) ?_
  refine j_iload_n C0 d_law_364 rfl (by rfl) ?_
  refine j_iconst C0 d_law_365 (v := 1) (by decide) ?_
  refine j_iadd C0 d_law_366 ?_
  refine j_sld C0 hX d_law_367 (nI_add (3 + 4 * t) 1) (by omega) ?_
  refine j_callV C0 d_law_368 cl_La_55 cl_La_55v (hMo h1 (B + 104) (B + 90)) mo_this rfl rfl rfl ⟨by decide, by decide⟩ ⟨by decide, by decide⟩ (Nat.le_of_ble_eq_true rfl) (fun r_ h2 z_ hp_ => ?_)
  obtain ⟨rfl, ⟨A', w', rfl, hI'⟩, rfl⟩ := hp_
  refine j_icmp_eq C0 d_law_371 (tgt := 629) (by decide) (fun _ => ?_) (fun c_ => absurd rfl c_)
  refine j_iinc C0 d_law_629 (by rfl) (show _ = nI (3 + 4 * (t + 1)) from nI_add (3 + 4 * t) 4) (Nat.le_of_ble_eq_true rfl) ?_
  refine j_goto C0 d_law_632 (tgt := 48) (by decide) ?_
  exact j_to (ih _ (lwI.next m1 hI')) rfl ⟨rfl, rfl, rfl, rfl, trivial⟩
set_option maxHeartbeats 4000000 in
set_option maxRecDepth 100000 in
theorem lw_tick {x : jX} {E : jE} {Q : State → Prop} {b B L t : Nat} {xs : Nat → Int32} {nm : String} {h : jH} (C0 : jOk x (M_law nm) E 6 600000 7302250) (hX : jXs x E b L xs) (hL : L ≤ 2051) (ht : 4 * t + 7 ≤ L) (hI : lwI E B t h) (ih : ∀ h', lwI E B (t + 1) h' → jJ x (M_law nm) E Q h' (B + 104) 104 1096 (lwV b B (t + 1)) 48 []) : jJ x (M_law nm) E Q h (B + 104) 104 1096 (lwV b B t) 376 [] := by
  obtain ⟨S, A, w, h0, rfl, m, hI⟩ := hI
  obtain ⟨ans, S', hMa, hMo⟩ := op_tick (l := x.2.1) (E := E) hI (by omega) (xs (3 + 4 * t + 1))
  refine j_aload_n C0 d_law_376 rfl (by rfl) ?_
  refine j_aload_n C0 d_law_377 rfl (by rfl) ?_
  refine j_iload_n C0 d_law_378 rfl (by rfl) ?_
  refine j_iconst C0 d_law_379 (v := 1) (by decide) ?_
  refine j_iadd C0 d_law_380 ?_
  refine j_sld C0 hX d_law_381 (nI_add (3 + 4 * t) 1) (by omega) ?_
  refine j_callV C0 d_law_382 cl_La_56 cl_La_56v (hMa _ (B + 104) B m) m.obj rfl rfl rfl ⟨by decide, by decide⟩ ⟨by decide, by decide⟩ (Nat.le_of_ble_eq_true rfl) (fun r_ h1 z_ hp_ => ?_)
  obtain ⟨rfl, m1, k1, rfl⟩ := hp_
  refine j_heapE (moH_of (E := E) (h0 := h0) (c := B + 90) (A := A) (w := w) (fun q q1 q2 => k1 q (by omega))) ?_
  refine j_aload_n C0 d_law_385 rfl (by rfl) ?_
  refine j_aload_n C0 d_law_386 rfl (by rfl) ?_
  refine j_iload_n C0 d_law_387 rfl (by rfl) ?_
  refine j_iconst C0 d_law_388 (v := 1) (by decide) ?_
  refine j_iadd C0 d_law_389 ?_
  refine j_sld C0 hX d_law_390 (nI_add (3 + 4 * t) 1) (by omega) ?_
  refine j_callV C0 d_law_391 cl_La_59 cl_La_59v (hMo h1 (B + 104) (B + 90)) mo_this rfl rfl rfl ⟨by decide, by decide⟩ ⟨by decide, by decide⟩ (Nat.le_of_ble_eq_true rfl) (fun r_ h2 z_ hp_ => ?_)
  obtain ⟨rfl, ⟨A', w', rfl, hI'⟩, rfl⟩ := hp_
  refine j_icmp_eq C0 d_law_394 (tgt := 629) (by decide) (fun _ => ?_) (fun c_ => absurd rfl c_)
  refine j_iinc C0 d_law_629 (by rfl) (show _ = nI (3 + 4 * (t + 1)) from nI_add (3 + 4 * t) 4) (Nat.le_of_ble_eq_true rfl) ?_
  refine j_goto C0 d_law_632 (tgt := 48) (by decide) ?_
  exact j_to (ih _ (lwI.next m1 hI')) rfl ⟨rfl, rfl, rfl, rfl, trivial⟩
set_option maxHeartbeats 4000000 in
set_option maxRecDepth 100000 in
theorem lw_sync {x : jX} {E : jE} {Q : State → Prop} {b B L t : Nat} {xs : Nat → Int32} {nm : String} {h : jH} (C0 : jOk x (M_law nm) E 6 600000 7302250) (hX : jXs x E b L xs) (hL : L ≤ 2051) (ht : 4 * t + 7 ≤ L) (hI : lwI E B t h) (ih : ∀ h', lwI E B (t + 1) h' → jJ x (M_law nm) E Q h' (B + 104) 104 1096 (lwV b B (t + 1)) 48 []) : jJ x (M_law nm) E Q h (B + 104) 104 1096 (lwV b B t) 399 [] := by
  obtain ⟨S, A, w, h0, rfl, m, hI⟩ := hI
  obtain ⟨ans, S', hMa, hMo⟩ := op_sync (l := x.2.1) (E := E) hI 
  refine j_aload_n C0 d_law_399 rfl (by rfl) ?_
  refine j_callV C0 d_law_400 cl_La_60 cl_La_60v (hMa _ (B + 104) B m) m.obj rfl rfl rfl ⟨by decide, by decide⟩ ⟨by decide, by decide⟩ (Nat.le_of_ble_eq_true rfl) (fun r_ h1 z_ hp_ => ?_)
  obtain ⟨rfl, m1, k1, rfl⟩ := hp_
  refine j_heapE (moH_of (E := E) (h0 := h0) (c := B + 90) (A := A) (w := w) (fun q q1 q2 => k1 q (by omega))) ?_
  refine j_aload_n C0 d_law_403 rfl (by rfl) ?_
  refine j_callV C0 d_law_404 cl_La_64 cl_La_64v (hMo h1 (B + 104) (B + 90)) mo_this rfl rfl rfl ⟨by decide, by decide⟩ ⟨by decide, by decide⟩ (Nat.le_of_ble_eq_true rfl) (fun r_ h2 z_ hp_ => ?_)
  obtain ⟨rfl, ⟨A', w', rfl, hI'⟩, rfl⟩ := hp_
  refine j_icmp_eq C0 d_law_407 (tgt := 629) (by decide) (fun _ => ?_) (fun c_ => absurd rfl c_)
  refine j_iinc C0 d_law_629 (by rfl) (show _ = nI (3 + 4 * (t + 1)) from nI_add (3 + 4 * t) 4) (Nat.le_of_ble_eq_true rfl) ?_
  refine j_goto C0 d_law_632 (tgt := 48) (by decide) ?_
  exact j_to (ih _ (lwI.next m1 hI')) rfl ⟨rfl, rfl, rfl, rfl, trivial⟩
set_option maxHeartbeats 4000000 in
set_option maxRecDepth 100000 in
theorem lw_crash {x : jX} {E : jE} {Q : State → Prop} {b B L t : Nat} {xs : Nat → Int32} {nm : String} {h : jH} (C0 : jOk x (M_law nm) E 6 600000 7302250) (hX : jXs x E b L xs) (hL : L ≤ 2051) (ht : 4 * t + 7 ≤ L) (hI : lwI E B t h) (ih : ∀ h', lwI E B (t + 1) h' → jJ x (M_law nm) E Q h' (B + 104) 104 1096 (lwV b B (t + 1)) 48 []) : jJ x (M_law nm) E Q h (B + 104) 104 1096 (lwV b B t) 412 [] := by
  obtain ⟨S, A, w, h0, rfl, m, hI⟩ := hI
  obtain ⟨ans, S', hMa, hMo⟩ := op_crash (l := x.2.1) (E := E) hI 
  refine j_aload_n C0 d_law_412 rfl (by rfl) ?_
  refine j_callV C0 d_law_413 cl_La_65 cl_La_65v (hMa _ (B + 104) B m) m.obj rfl rfl rfl ⟨by decide, by decide⟩ ⟨by decide, by decide⟩ (Nat.le_of_ble_eq_true rfl) (fun r_ h1 z_ hp_ => ?_)
  obtain ⟨rfl, m1, k1, rfl⟩ := hp_
  refine j_heapE (moH_of (E := E) (h0 := h0) (c := B + 90) (A := A) (w := w) (fun q q1 q2 => k1 q (by omega))) ?_
  refine j_aload_n C0 d_law_416 rfl (by rfl) ?_
  refine j_callV C0 d_law_417 cl_La_68 cl_La_68v (hMo h1 (B + 104) (B + 90)) mo_this rfl rfl rfl ⟨by decide, by decide⟩ ⟨by decide, by decide⟩ (Nat.le_of_ble_eq_true rfl) (fun r_ h2 z_ hp_ => ?_)
  obtain ⟨rfl, ⟨A', w', rfl, hI'⟩, rfl⟩ := hp_
  refine j_icmp_eq C0 d_law_420 (tgt := 629) (by decide) (fun _ => ?_) (fun c_ => absurd rfl c_)
  refine j_iinc C0 d_law_629 (by rfl) (show _ = nI (3 + 4 * (t + 1)) from nI_add (3 + 4 * t) 4) (Nat.le_of_ble_eq_true rfl) ?_
  refine j_goto C0 d_law_632 (tgt := 48) (by decide) ?_
  exact j_to (ih _ (lwI.next m1 hI')) rfl ⟨rfl, rfl, rfl, rfl, trivial⟩
set_option maxHeartbeats 4000000 in
set_option maxRecDepth 100000 in
theorem lw_drop {x : jX} {E : jE} {Q : State → Prop} {b B L t : Nat} {xs : Nat → Int32} {nm : String} {h : jH} (C0 : jOk x (M_law nm) E 6 600000 7302250) (hX : jXs x E b L xs) (hL : L ≤ 2051) (ht : 4 * t + 7 ≤ L) (hI : lwI E B t h) (ih : ∀ h', lwI E B (t + 1) h' → jJ x (M_law nm) E Q h' (B + 104) 104 1096 (lwV b B (t + 1)) 48 []) : jJ x (M_law nm) E Q h (B + 104) 104 1096 (lwV b B t) 425 [] := by
  obtain ⟨S, A, w, h0, rfl, m, hI⟩ := hI
  obtain ⟨ans, S', hMa, hMo⟩ := op_drop (l := x.2.1) (E := E) hI (xs (3 + 4 * t + 1))
  refine j_aload_n C0 d_law_425 rfl (by rfl) ?_
  refine j_aload_n C0 d_law_426 rfl (by rfl) ?_
  refine j_iload_n C0 d_law_427 rfl (by rfl) ?_
  refine j_iconst C0 d_law_428 (v := 1) (by decide) ?_
  refine j_iadd C0 d_law_429 ?_
  refine j_sld C0 hX d_law_430 (nI_add (3 + 4 * t) 1) (by omega) ?_
  refine j_callV C0 d_law_431 cl_La_69 cl_La_69v (hMa _ (B + 104) B m) m.obj rfl rfl rfl ⟨by decide, by decide⟩ ⟨by decide, by decide⟩ (Nat.le_of_ble_eq_true rfl) (fun r_ h1 z_ hp_ => ?_)
  obtain ⟨rfl, m1, k1, rfl⟩ := hp_
  refine j_heapE (moH_of (E := E) (h0 := h0) (c := B + 90) (A := A) (w := w) (fun q q1 q2 => k1 q (by omega))) ?_
  refine j_aload_n C0 d_law_434 rfl (by rfl) ?_
  refine j_aload_n C0 d_law_435 rfl (by rfl) ?_
  refine j_iload_n C0 d_law_436 rfl (by rfl) ?_
  refine j_iconst C0 d_law_437 (v := 1) (by decide) ?_
  refine j_iadd C0 d_law_438 ?_
  refine j_sld C0 hX d_law_439 (nI_add (3 + 4 * t) 1) (by omega) ?_
  refine j_callV C0 d_law_440 cl_La_72 cl_La_72v (hMo h1 (B + 104) (B + 90)) mo_this rfl rfl rfl ⟨by decide, by decide⟩ ⟨by decide, by decide⟩ (Nat.le_of_ble_eq_true rfl) (fun r_ h2 z_ hp_ => ?_)
  obtain ⟨rfl, ⟨A', w', rfl, hI'⟩, rfl⟩ := hp_
  refine j_icmp_eq C0 d_law_443 (tgt := 629) (by decide) (fun _ => ?_) (fun c_ => absurd rfl c_)
  refine j_iinc C0 d_law_629 (by rfl) (show _ = nI (3 + 4 * (t + 1)) from nI_add (3 + 4 * t) 4) (Nat.le_of_ble_eq_true rfl) ?_
  refine j_goto C0 d_law_632 (tgt := 48) (by decide) ?_
  exact j_to (ih _ (lwI.next m1 hI')) rfl ⟨rfl, rfl, rfl, rfl, trivial⟩
set_option maxHeartbeats 4000000 in
set_option maxRecDepth 100000 in
theorem lw_hurry {x : jX} {E : jE} {Q : State → Prop} {b B L t : Nat} {xs : Nat → Int32} {nm : String} {h : jH} (C0 : jOk x (M_law nm) E 6 600000 7302250) (hX : jXs x E b L xs) (hL : L ≤ 2051) (ht : 4 * t + 7 ≤ L) (hI : lwI E B t h) (ih : ∀ h', lwI E B (t + 1) h' → jJ x (M_law nm) E Q h' (B + 104) 104 1096 (lwV b B (t + 1)) 48 []) : jJ x (M_law nm) E Q h (B + 104) 104 1096 (lwV b B t) 448 [] := by
  obtain ⟨S, A, w, h0, rfl, m, hI⟩ := hI
  obtain ⟨ans, S', hMa, hMo⟩ := op_hurry (l := x.2.1) (E := E) hI (xs (3 + 4 * t + 1))
  refine j_aload_n C0 d_law_448 rfl (by rfl) ?_
  refine j_aload_n C0 d_law_449 rfl (by rfl) ?_
  refine j_iload_n C0 d_law_450 rfl (by rfl) ?_
  refine j_iconst C0 d_law_451 (v := 1) (by decide) ?_
  refine j_iadd C0 d_law_452 ?_
  refine j_sld C0 hX d_law_453 (nI_add (3 + 4 * t) 1) (by omega) ?_
  refine j_callV C0 d_law_454 cl_La_73 cl_La_73v (hMa _ (B + 104) B m) m.obj rfl rfl rfl ⟨by decide, by decide⟩ ⟨by decide, by decide⟩ (Nat.le_of_ble_eq_true rfl) (fun r_ h1 z_ hp_ => ?_)
  obtain ⟨rfl, m1, k1, rfl⟩ := hp_
  refine j_heapE (moH_of (E := E) (h0 := h0) (c := B + 90) (A := A) (w := w) (fun q q1 q2 => k1 q (by omega))) ?_
  refine j_aload_n C0 d_law_457 rfl (by rfl) ?_
  refine j_aload_n C0 d_law_458 rfl (by rfl) ?_
  refine j_iload_n C0 d_law_459 rfl (by rfl) ?_
  refine j_iconst C0 d_law_460 (v := 1) (by decide) ?_
  refine j_iadd C0 d_law_461 ?_
  refine j_sld C0 hX d_law_462 (nI_add (3 + 4 * t) 1) (by omega) ?_
  refine j_callV C0 d_law_463 cl_La_76 cl_La_76v (hMo h1 (B + 104) (B + 90)) mo_this rfl rfl rfl ⟨by decide, by decide⟩ ⟨by decide, by decide⟩ (Nat.le_of_ble_eq_true rfl) (fun r_ h2 z_ hp_ => ?_)
  obtain ⟨rfl, ⟨A', w', rfl, hI'⟩, rfl⟩ := hp_
  refine j_icmp_eq C0 d_law_466 (tgt := 629) (by decide) (fun _ => ?_) (fun c_ => absurd rfl c_)
  refine j_iinc C0 d_law_629 (by rfl) (show _ = nI (3 + 4 * (t + 1)) from nI_add (3 + 4 * t) 4) (Nat.le_of_ble_eq_true rfl) ?_
  refine j_goto C0 d_law_632 (tgt := 48) (by decide) ?_
  exact j_to (ih _ (lwI.next m1 hI')) rfl ⟨rfl, rfl, rfl, rfl, trivial⟩
set_option maxHeartbeats 4000000 in
set_option maxRecDepth 100000 in
theorem lw_count {x : jX} {E : jE} {Q : State → Prop} {b B L t : Nat} {xs : Nat → Int32} {nm : String} {h : jH} (C0 : jOk x (M_law nm) E 6 600000 7302250) (hX : jXs x E b L xs) (hL : L ≤ 2051) (ht : 4 * t + 7 ≤ L) (hI : lwI E B t h) (ih : ∀ h', lwI E B (t + 1) h' → jJ x (M_law nm) E Q h' (B + 104) 104 1096 (lwV b B (t + 1)) 48 []) : jJ x (M_law nm) E Q h (B + 104) 104 1096 (lwV b B t) 471 [] := by
  obtain ⟨S, A, w, h0, rfl, m, hI⟩ := hI
  obtain ⟨ans, S', hMa, hMo⟩ := op_count (l := x.2.1) (E := E) hI (xs (3 + 4 * t + 1))
  refine j_aload_n C0 d_law_471 rfl (by rfl) ?_
  refine j_aload_n C0 d_law_472 rfl (by rfl) ?_
  refine j_iload_n C0 d_law_473 rfl (by rfl) ?_
  refine j_iconst C0 d_law_474 (v := 1) (by decide) ?_
  refine j_iadd C0 d_law_475 ?_
  refine j_sld C0 hX d_law_476 (nI_add (3 + 4 * t) 1) (by omega) ?_
  refine j_callV C0 d_law_477 cl_La_77 cl_La_77v (hMa _ (B + 104) B m) m.obj rfl rfl rfl ⟨by decide, by decide⟩ ⟨by decide, by decide⟩ (Nat.le_of_ble_eq_true rfl) (fun r_ h1 z_ hp_ => ?_)
  obtain ⟨rfl, m1, k1, rfl⟩ := hp_
  refine j_heapE (moH_of (E := E) (h0 := h0) (c := B + 90) (A := A) (w := w) (fun q q1 q2 => k1 q (by omega))) ?_
  refine j_aload_n C0 d_law_480 rfl (by rfl) ?_
  refine j_aload_n C0 d_law_481 rfl (by rfl) ?_
  refine j_iload_n C0 d_law_482 rfl (by rfl) ?_
  refine j_iconst C0 d_law_483 (v := 1) (by decide) ?_
  refine j_iadd C0 d_law_484 ?_
  refine j_sld C0 hX d_law_485 (nI_add (3 + 4 * t) 1) (by omega) ?_
  refine j_callV C0 d_law_486 cl_La_80 cl_La_80v (hMo h1 (B + 104) (B + 90)) mo_this rfl rfl rfl ⟨by decide, by decide⟩ ⟨by decide, by decide⟩ (Nat.le_of_ble_eq_true rfl) (fun r_ h2 z_ hp_ => ?_)
  obtain ⟨rfl, ⟨A', w', rfl, hI'⟩, rfl⟩ := hp_
  refine j_icmp_eq C0 d_law_489 (tgt := 629) (by decide) (fun _ => ?_) (fun c_ => absurd rfl c_)
  refine j_iinc C0 d_law_629 (by rfl) (show _ = nI (3 + 4 * (t + 1)) from nI_add (3 + 4 * t) 4) (Nat.le_of_ble_eq_true rfl) ?_
  refine j_goto C0 d_law_632 (tgt := 48) (by decide) ?_
  exact j_to (ih _ (lwI.next m1 hI')) rfl ⟨rfl, rfl, rfl, rfl, trivial⟩
set_option maxHeartbeats 4000000 in
set_option maxRecDepth 100000 in
theorem lw_message {x : jX} {E : jE} {Q : State → Prop} {b B L t : Nat} {xs : Nat → Int32} {nm : String} {h : jH} (C0 : jOk x (M_law nm) E 6 600000 7302250) (hX : jXs x E b L xs) (hL : L ≤ 2051) (ht : 4 * t + 7 ≤ L) (hI : lwI E B t h) (ih : ∀ h', lwI E B (t + 1) h' → jJ x (M_law nm) E Q h' (B + 104) 104 1096 (lwV b B (t + 1)) 48 []) : jJ x (M_law nm) E Q h (B + 104) 104 1096 (lwV b B t) 494 [] := by
  obtain ⟨S, A, w, h0, rfl, m, hI⟩ := hI
  obtain ⟨ans, S', hMa, hMo⟩ := op_message (l := x.2.1) (E := E) hI (xs (3 + 4 * t + 1))
  refine j_aload_n C0 d_law_494 rfl (by rfl) ?_
  refine j_aload_n C0 d_law_495 rfl (by rfl) ?_
  refine j_iload_n C0 d_law_496 rfl (by rfl) ?_
  refine j_iconst C0 d_law_497 (v := 1) (by decide) ?_
  refine j_iadd C0 d_law_498 ?_
  refine j_sld C0 hX d_law_499 (nI_add (3 + 4 * t) 1) (by omega) ?_
  refine j_callV C0 d_law_500 cl_La_81 cl_La_81v (hMa _ (B + 104) B m) m.obj rfl rfl rfl ⟨by decide, by decide⟩ ⟨by decide, by decide⟩ (Nat.le_of_ble_eq_true rfl) (fun r_ h1 z_ hp_ => ?_)
  obtain ⟨rfl, m1, k1, rfl⟩ := hp_
  refine j_heapE (moH_of (E := E) (h0 := h0) (c := B + 90) (A := A) (w := w) (fun q q1 q2 => k1 q (by omega))) ?_
  refine j_aload_n C0 d_law_503 rfl (by rfl) ?_
  refine j_aload_n C0 d_law_504 rfl (by rfl) ?_
  refine j_iload_n C0 d_law_505 rfl (by rfl) ?_
  refine j_iconst C0 d_law_506 (v := 1) (by decide) ?_
  refine j_iadd C0 d_law_507 ?_
  refine j_sld C0 hX d_law_508 (nI_add (3 + 4 * t) 1) (by omega) ?_
  refine j_callV C0 d_law_509 cl_La_84 cl_La_84v (hMo h1 (B + 104) (B + 90)) mo_this rfl rfl rfl ⟨by decide, by decide⟩ ⟨by decide, by decide⟩ (Nat.le_of_ble_eq_true rfl) (fun r_ h2 z_ hp_ => ?_)
  obtain ⟨rfl, ⟨A', w', rfl, hI'⟩, rfl⟩ := hp_
  refine j_icmp_eq C0 d_law_512 (tgt := 629) (by decide) (fun _ => ?_) (fun c_ => absurd rfl c_)
  refine j_iinc C0 d_law_629 (by rfl) (show _ = nI (3 + 4 * (t + 1)) from nI_add (3 + 4 * t) 4) (Nat.le_of_ble_eq_true rfl) ?_
  refine j_goto C0 d_law_632 (tgt := 48) (by decide) ?_
  exact j_to (ih _ (lwI.next m1 hI')) rfl ⟨rfl, rfl, rfl, rfl, trivial⟩
set_option maxHeartbeats 4000000 in
set_option maxRecDepth 100000 in
theorem lw_status {x : jX} {E : jE} {Q : State → Prop} {b B L t : Nat} {xs : Nat → Int32} {nm : String} {h : jH} (C0 : jOk x (M_law nm) E 6 600000 7302250) (hX : jXs x E b L xs) (hL : L ≤ 2051) (ht : 4 * t + 7 ≤ L) (hI : lwI E B t h) (ih : ∀ h', lwI E B (t + 1) h' → jJ x (M_law nm) E Q h' (B + 104) 104 1096 (lwV b B (t + 1)) 48 []) : jJ x (M_law nm) E Q h (B + 104) 104 1096 (lwV b B t) 517 [] := by
  obtain ⟨S, A, w, h0, rfl, m, hI⟩ := hI
  obtain ⟨ans, S', hMa, hMo⟩ := op_status (l := x.2.1) (E := E) hI (xs (3 + 4 * t + 1)) (xs (3 + 4 * t + 2))
  refine j_aload_n C0 d_law_517 rfl (by rfl) ?_
  refine j_aload_n C0 d_law_518 rfl (by rfl) ?_
  refine j_iload_n C0 d_law_519 rfl (by rfl) ?_
  refine j_iconst C0 d_law_520 (v := 1) (by decide) ?_
  refine j_iadd C0 d_law_521 ?_
  refine j_sld C0 hX d_law_522 (nI_add (3 + 4 * t) 1) (by omega) ?_
  refine j_aload_n C0 d_law_523 rfl (by rfl) ?_
  refine j_iload_n C0 d_law_524 rfl (by rfl) ?_
  refine j_iconst C0 d_law_525 (v := 2) (by decide) ?_
  refine j_iadd C0 d_law_526 ?_
  refine j_sld C0 hX d_law_527 (nI_add (3 + 4 * t) 2) (by omega) ?_
  refine j_callV C0 d_law_528 cl_La_85 cl_La_85v (hMa _ (B + 104) B m) m.obj rfl rfl rfl ⟨by decide, by decide⟩ ⟨by decide, by decide⟩ (Nat.le_of_ble_eq_true rfl) (fun r_ h1 z_ hp_ => ?_)
  obtain ⟨rfl, m1, k1, rfl⟩ := hp_
  refine j_heapE (moH_of (E := E) (h0 := h0) (c := B + 90) (A := A) (w := w) (fun q q1 q2 => k1 q (by omega))) ?_
  refine j_aload_n C0 d_law_531 rfl (by rfl) ?_
  refine j_aload_n C0 d_law_532 rfl (by rfl) ?_
  refine j_iload_n C0 d_law_533 rfl (by rfl) ?_
  refine j_iconst C0 d_law_534 (v := 1) (by decide) ?_
  refine j_iadd C0 d_law_535 ?_
  refine j_sld C0 hX d_law_536 (nI_add (3 + 4 * t) 1) (by omega) ?_
  refine j_aload_n C0 d_law_537 rfl (by rfl) ?_
  refine j_iload_n C0 d_law_538 rfl (by rfl) ?_
  refine j_iconst C0 d_law_539 (v := 2) (by decide) ?_
  refine j_iadd C0 d_law_540 ?_
  refine j_sld C0 hX d_law_541 (nI_add (3 + 4 * t) 2) (by omega) ?_
  refine j_callV C0 d_law_542 cl_La_88 cl_La_88v (hMo h1 (B + 104) (B + 90)) mo_this rfl rfl rfl ⟨by decide, by decide⟩ ⟨by decide, by decide⟩ (Nat.le_of_ble_eq_true rfl) (fun r_ h2 z_ hp_ => ?_)
  obtain ⟨rfl, ⟨A', w', rfl, hI'⟩, rfl⟩ := hp_
  refine j_icmp_eq C0 d_law_545 (tgt := 629) (by decide) (fun _ => ?_) (fun c_ => absurd rfl c_)
  refine j_iinc C0 d_law_629 (by rfl) (show _ = nI (3 + 4 * (t + 1)) from nI_add (3 + 4 * t) 4) (Nat.le_of_ble_eq_true rfl) ?_
  refine j_goto C0 d_law_632 (tgt := 48) (by decide) ?_
  exact j_to (ih _ (lwI.next m1 hI')) rfl ⟨rfl, rfl, rfl, rfl, trivial⟩
set_option maxHeartbeats 4000000 in
set_option maxRecDepth 100000 in
theorem lw_sender {x : jX} {E : jE} {Q : State → Prop} {b B L t : Nat} {xs : Nat → Int32} {nm : String} {h : jH} (C0 : jOk x (M_law nm) E 6 600000 7302250) (hX : jXs x E b L xs) (hL : L ≤ 2051) (ht : 4 * t + 7 ≤ L) (hI : lwI E B t h) (ih : ∀ h', lwI E B (t + 1) h' → jJ x (M_law nm) E Q h' (B + 104) 104 1096 (lwV b B (t + 1)) 48 []) : jJ x (M_law nm) E Q h (B + 104) 104 1096 (lwV b B t) 550 [] := by
  obtain ⟨S, A, w, h0, rfl, m, hI⟩ := hI
  obtain ⟨ans, S', hMa, hMo⟩ := op_sender (l := x.2.1) (E := E) hI (xs (3 + 4 * t + 1))
  refine j_aload_n C0 d_law_550 rfl (by rfl) ?_
  refine j_aload_n C0 d_law_551 rfl (by rfl) ?_
  refine j_iload_n C0 d_law_552 rfl (by rfl) ?_
  refine j_iconst C0 d_law_553 (v := 1) (by decide) ?_
  refine j_iadd C0 d_law_554 ?_
  refine j_sld C0 hX d_law_555 (nI_add (3 + 4 * t) 1) (by omega) ?_
  refine j_callV C0 d_law_556 cl_La_89 cl_La_89v (hMa _ (B + 104) B m) m.obj rfl rfl rfl ⟨by decide, by decide⟩ ⟨by decide, by decide⟩ (Nat.le_of_ble_eq_true rfl) (fun r_ h1 z_ hp_ => ?_)
  obtain ⟨rfl, m1, k1, rfl⟩ := hp_
  refine j_heapE (moH_of (E := E) (h0 := h0) (c := B + 90) (A := A) (w := w) (fun q q1 q2 => k1 q (by omega))) ?_
  refine j_aload_n C0 d_law_559 rfl (by rfl) ?_
  refine j_aload_n C0 d_law_560 rfl (by rfl) ?_
  refine j_iload_n C0 d_law_561 rfl (by rfl) ?_
  refine j_iconst C0 d_law_562 (v := 1) (by decide) ?_
  refine j_iadd C0 d_law_563 ?_
  refine j_sld C0 hX d_law_564 (nI_add (3 + 4 * t) 1) (by omega) ?_
  refine j_callV C0 d_law_565 cl_La_92 cl_La_92v (hMo h1 (B + 104) (B + 90)) mo_this rfl rfl rfl ⟨by decide, by decide⟩ ⟨by decide, by decide⟩ (Nat.le_of_ble_eq_true rfl) (fun r_ h2 z_ hp_ => ?_)
  obtain ⟨rfl, ⟨A', w', rfl, hI'⟩, rfl⟩ := hp_
  refine j_icmp_eq C0 d_law_568 (tgt := 629) (by decide) (fun _ => ?_) (fun c_ => absurd rfl c_)
  refine j_iinc C0 d_law_629 (by rfl) (show _ = nI (3 + 4 * (t + 1)) from nI_add (3 + 4 * t) 4) (Nat.le_of_ble_eq_true rfl) ?_
  refine j_goto C0 d_law_632 (tgt := 48) (by decide) ?_
  exact j_to (ih _ (lwI.next m1 hI')) rfl ⟨rfl, rfl, rfl, rfl, trivial⟩
set_option maxHeartbeats 4000000 in
set_option maxRecDepth 100000 in
theorem lw_due {x : jX} {E : jE} {Q : State → Prop} {b B L t : Nat} {xs : Nat → Int32} {nm : String} {h : jH} (C0 : jOk x (M_law nm) E 6 600000 7302250) (hX : jXs x E b L xs) (hL : L ≤ 2051) (ht : 4 * t + 7 ≤ L) (hI : lwI E B t h) (ih : ∀ h', lwI E B (t + 1) h' → jJ x (M_law nm) E Q h' (B + 104) 104 1096 (lwV b B (t + 1)) 48 []) : jJ x (M_law nm) E Q h (B + 104) 104 1096 (lwV b B t) 573 [] := by
  obtain ⟨S, A, w, h0, rfl, m, hI⟩ := hI
  obtain ⟨ans, S', hMa, hMo⟩ := op_due (l := x.2.1) (E := E) hI (xs (3 + 4 * t + 1))
  refine j_aload_n C0 d_law_573 rfl (by rfl) ?_
  refine j_aload_n C0 d_law_574 rfl (by rfl) ?_
  refine j_iload_n C0 d_law_575 rfl (by rfl) ?_
  refine j_iconst C0 d_law_576 (v := 1) (by decide) ?_
  refine j_iadd C0 d_law_577 ?_
  refine j_sld C0 hX d_law_578 (nI_add (3 + 4 * t) 1) (by omega) ?_
  refine j_callV C0 d_law_579 cl_La_93 cl_La_93v (hMa _ (B + 104) B m) m.obj rfl rfl rfl ⟨by decide, by decide⟩ ⟨by decide, by decide⟩ (Nat.le_of_ble_eq_true rfl) (fun r_ h1 z_ hp_ => ?_)
  obtain ⟨rfl, m1, k1, rfl⟩ := hp_
  refine j_heapE (moH_of (E := E) (h0 := h0) (c := B + 90) (A := A) (w := w) (fun q q1 q2 => k1 q (by omega))) ?_
  refine j_aload_n C0 d_law_582 rfl (by rfl) ?_
  refine j_aload_n C0 d_law_583 rfl (by rfl) ?_
  refine j_iload_n C0 d_law_584 rfl (by rfl) ?_
  refine j_iconst C0 d_law_585 (v := 1) (by decide) ?_
  refine j_iadd C0 d_law_586 ?_
  refine j_sld C0 hX d_law_587 (nI_add (3 + 4 * t) 1) (by omega) ?_
  refine j_callV C0 d_law_588 cl_La_96 cl_La_96v (hMo h1 (B + 104) (B + 90)) mo_this rfl rfl rfl ⟨by decide, by decide⟩ ⟨by decide, by decide⟩ (Nat.le_of_ble_eq_true rfl) (fun r_ h2 z_ hp_ => ?_)
  obtain ⟨rfl, ⟨A', w', rfl, hI'⟩, rfl⟩ := hp_
  refine j_icmp_eq C0 d_law_591 (tgt := 629) (by decide) (fun _ => ?_) (fun c_ => absurd rfl c_)
  refine j_iinc C0 d_law_629 (by rfl) (show _ = nI (3 + 4 * (t + 1)) from nI_add (3 + 4 * t) 4) (Nat.le_of_ble_eq_true rfl) ?_
  refine j_goto C0 d_law_632 (tgt := 48) (by decide) ?_
  exact j_to (ih _ (lwI.next m1 hI')) rfl ⟨rfl, rfl, rfl, rfl, trivial⟩
set_option maxHeartbeats 4000000 in
set_option maxRecDepth 100000 in
theorem lw_received {x : jX} {E : jE} {Q : State → Prop} {b B L t : Nat} {xs : Nat → Int32} {nm : String} {h : jH} (C0 : jOk x (M_law nm) E 6 600000 7302250) (hX : jXs x E b L xs) (hL : L ≤ 2051) (ht : 4 * t + 7 ≤ L) (hI : lwI E B t h) (ih : ∀ h', lwI E B (t + 1) h' → jJ x (M_law nm) E Q h' (B + 104) 104 1096 (lwV b B (t + 1)) 48 []) : jJ x (M_law nm) E Q h (B + 104) 104 1096 (lwV b B t) 596 [] := by
  obtain ⟨S, A, w, h0, rfl, m, hI⟩ := hI
  obtain ⟨ans, S', hMa, hMo⟩ := op_received (l := x.2.1) (E := E) hI (xs (3 + 4 * t + 1)) (xs (3 + 4 * t + 2))
  refine j_aload_n C0 d_law_596 rfl (by rfl) ?_
  refine j_aload_n C0 d_law_597 rfl (by rfl) ?_
  refine j_iload_n C0 d_law_598 rfl (by rfl) ?_
  refine j_iconst C0 d_law_599 (v := 1) (by decide) ?_
  refine j_iadd C0 d_law_600 ?_
  refine j_sld C0 hX d_law_601 (nI_add (3 + 4 * t) 1) (by omega) ?_
  refine j_aload_n C0 d_law_602 rfl (by rfl) ?_
  refine j_iload_n C0 d_law_603 rfl (by rfl) ?_
  refine j_iconst C0 d_law_604 (v := 2) (by decide) ?_
  refine j_iadd C0 d_law_605 ?_
  refine j_sld C0 hX d_law_606 (nI_add (3 + 4 * t) 2) (by omega) ?_
  refine j_callV C0 d_law_607 cl_La_97 cl_La_97v (hMa _ (B + 104) B m) m.obj rfl rfl rfl ⟨by decide, by decide⟩ ⟨by decide, by decide⟩ (Nat.le_of_ble_eq_true rfl) (fun r_ h1 z_ hp_ => ?_)
  obtain ⟨rfl, m1, k1, rfl⟩ := hp_
  refine j_heapE (moH_of (E := E) (h0 := h0) (c := B + 90) (A := A) (w := w) (fun q q1 q2 => k1 q (by omega))) ?_
  refine j_aload_n C0 d_law_610 rfl (by rfl) ?_
  refine j_aload_n C0 d_law_611 rfl (by rfl) ?_
  refine j_iload_n C0 d_law_612 rfl (by rfl) ?_
  refine j_iconst C0 d_law_613 (v := 1) (by decide) ?_
  refine j_iadd C0 d_law_614 ?_
  refine j_sld C0 hX d_law_615 (nI_add (3 + 4 * t) 1) (by omega) ?_
  refine j_aload_n C0 d_law_616 rfl (by rfl) ?_
  refine j_iload_n C0 d_law_617 rfl (by rfl) ?_
  refine j_iconst C0 d_law_618 (v := 2) (by decide) ?_
  refine j_iadd C0 d_law_619 ?_
  refine j_sld C0 hX d_law_620 (nI_add (3 + 4 * t) 2) (by omega) ?_
  refine j_callV C0 d_law_621 cl_La_100 cl_La_100v (hMo h1 (B + 104) (B + 90)) mo_this rfl rfl rfl ⟨by decide, by decide⟩ ⟨by decide, by decide⟩ (Nat.le_of_ble_eq_true rfl) (fun r_ h2 z_ hp_ => ?_)
  obtain ⟨rfl, ⟨A', w', rfl, hI'⟩, rfl⟩ := hp_
  refine j_icmp_eq C0 d_law_624 (tgt := 629) (by decide) (fun _ => ?_) (fun c_ => absurd rfl c_)
  refine j_iinc C0 d_law_629 (by rfl) (show _ = nI (3 + 4 * (t + 1)) from nI_add (3 + 4 * t) 4) (Nat.le_of_ble_eq_true rfl) ?_
  refine j_goto C0 d_law_632 (tgt := 48) (by decide) ?_
  exact j_to (ih _ (lwI.next m1 hI')) rfl ⟨rfl, rfl, rfl, rfl, trivial⟩
