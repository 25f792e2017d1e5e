def atS (S : maS) (i : Nat) : maS := if (seS (foS (trS S i ((mQ S).2 i).2.1).1 i) i).2 then (seS (foS (trS S i ((mQ S).2 i).2.1).1 i) i).1 else remS (seS (foS (trS S i ((mQ S).2 i).2.1).1 i) i).1 i
def gpM (S : maS) (i : Nat) : Prop := ∃ a b g : Nat, 1 ≤ a ∧ a ≤ g ∧ g ≤ b ∧ b ≤ 600 ∧ mv S 0 = nI a ∧ mv S 1 = nI b ∧ ((mQ S).2 i).1 6 = nI g
theorem j_heapE {x : jX} {M : jM} {E : jE} {Q : State → Prop} {h h2 : jH} {sz ce sl pc : Nat} {lv : List (Nat × Value)} {st : List Value} (e : h = h2) (kk : jJ x M E Q h2 sz ce sl lv pc st) : jJ x M E Q h sz ce sl lv pc st := e ▸ kk
set_option maxHeartbeats 4000000 in
set_option maxRecDepth 100000 in
theorem mo_at_3 {x : jX} (E : jE) {h0 : jH} {sz c : Nat} {S : maS} {i : Nat} {d : Nat} {A : moA} {w : Nat → Int32} {S2 : maS} (C0 : jOk x M_Mo_attempt E 1 0 0) (e2 : S2 = foS (trS S i ((mQ S).2 i).2.1).1 i) (hR : RS S2 A w) (hi : i < (mQ S2).1) (hg : gpM S2 i) : jJ x M_Mo_attempt E (jQ x E 0 0 (fun r h' sz' => r = some (.int (nI (trS S i ((mQ S).2 i).2.1).2)) ∧ (∃ A' w', h' = moH E h0 c A' w' ∧ RS (atS S i) A' w') ∧ sz' = sz)) (moH E h0 c A w) sz 0 0 [(0, .ref c), (1, .int (nI (16 * i))), (2, .int (nI (trS S i ((mQ S).2 i).2.1).2))] 212 [] := by
  have hr := hR.at hi
  have h4 := hr.le
  have h6 := hR.q.1
  have hc1 := cnt_le ((mQ S2).2 i).2.2.2 1 ((mQ S2).2 i).2.1
  have hc3 := cnt_le ((mQ S2).2 i).2.2.2 3 ((mQ S2).2 i).2.1
  obtain ⟨ga, gb, gg, g1, g2, g3, g4, g5, g6, g7⟩ := hg
  have hR3 : RS (bmp (mv S2), S2.2) A (upd w 15 (w 15 + 1)) := by
    have h1 := hR.uC (w 15 + 1)
    rw [hR.v15] at h1 ⊢
    exact h1
  have eA : atS S i = if (seS S2 i).2 then (seS S2 i).1 else remS (seS S2 i).1 i := by rw [e2]; rfl
  have hPO : RS (bmp (mv S2), (setQi S2 i (poM S2 i)).2) (va_up A 6 (upd (upd (A 6) (16 * i + 13) (mv S2 10 + ((mQ S2).2 i).1 6)) (16 * i + 14) (jmin (nI gg * 2) (nI gb)))) (upd w 15 (w 15 + 1)) := by
    have hpo := hr.po (mv S2 10 + ((mQ S2).2 i).1 6) (jmin (((mQ S2).2 i).1 6 * 2) (mv S2 1))
    have hq : RQ (mQ S2).1 (va_up (mQ S2).2 i (poM S2 i)) (upd (upd (A 6) (16 * i + 13) (mv S2 10 + ((mQ S2).2 i).1 6)) (16 * i + 14) (jmin (((mQ S2).2 i).1 6 * 2) (mv S2 1))) := hR.q.set hpo (fun j hj => by rw [pk_un (by omega), pk_un (by omega)])
    have e : jmin (((mQ S2).2 i).1 6 * 2) (mv S2 1) = jmin (nI gg * 2) (nI gb) := by rw [g6, g7]
    rw [e] at hq
    exact hR3.uQ (i := i) (y := poM S2 i) hq
  have hRP : RS (bmp (mv S2), (setQi S2 i (rpM S2 i)).2) (va_up A 6 (rpF (A 6) (16 * i) (((mQ S2).2 i).1 2) (mv S2 10) (mv S2 0))) (upd w 15 (w 15 + 1)) := by
    have hq : RQ (mQ S2).1 (va_up (mQ S2).2 i (rpM S2 i)) (rpF (A 6) (16 * i) (((mQ S2).2 i).1 2) (mv S2 10) (mv S2 0)) := hR.q.set (hr.rp (mv S2 10) (mv S2 0)) (fun j hj => by unfold rpF; rw [pk_un (by omega), pk_un (by omega), pk_un (by omega), pk_un (by omega), pk_un (by omega), pk_un (by omega), pk_un (by omega), pk_un (by omega), pk_un (by omega)])
    exact hR3.uQ (i := i) (y := rpM S2 i) hq
  have hRM := hR3.rem (i := i) hi
  refine j_aload_n C0 d_Mo_attempt_212 rfl (by rfl) ?_
  refine j_dup C0 d_Mo_attempt_213 rfl ?_
  refine mo_get C0 d_Mo_attempt_214 fl_Mo_88 (by rfl) ?_
  refine j_iconst C0 d_Mo_attempt_217 (v := 1) (by decide) ?_
  refine j_iadd C0 d_Mo_attempt_218 ?_
  refine mo_put C0 d_Mo_attempt_219 fp_Mo_88 (by decide) rfl (by rfl) (by rfl) ?_
  refine j_aload_n C0 d_Mo_attempt_222 rfl (by rfl) ?_
  refine j_iload_n C0 d_Mo_attempt_223 rfl (by rfl) ?_
  refine j_iconst C0 d_Mo_attempt_224 (v := 1) (by decide) ?_
  refine j_callV C0 d_Mo_attempt_225 cl_Mo_118 cl_Mo_118v (c_Mo_states _ E (b := 16 * i) (by omega) hr 1) mo_this rfl rfl rfl ⟨by decide, by decide⟩ ⟨by omega, by omega⟩ (Nat.le_of_ble_eq_true rfl) (fun r_ h_ z_ hp_ => ?_)
  obtain ⟨rfl, rfl, rfl⟩ := hp_
  refine j_if_le C0 d_Mo_attempt_228 (tgt := 288) (by decide) (fun c_228 => ?_) (fun c_228 => ?_)
  · have hA : ¬ 0 < cnt ((mQ S2).2 i).2.2.2 1 ((mQ S2).2 i).2.1 := fun q => nI_nle q (by omega) c_228
    refine j_aload_n C0 d_Mo_attempt_288 rfl (by rfl) ?_
    refine j_iload_n C0 d_Mo_attempt_289 rfl (by rfl) ?_
    refine j_iconst C0 d_Mo_attempt_290 (v := 3) (by decide) ?_
    refine j_callV C0 d_Mo_attempt_291 cl_Mo_118 cl_Mo_118v (c_Mo_states _ E (b := 16 * i) (by omega) hr 3) mo_this rfl rfl rfl ⟨by decide, by decide⟩ ⟨by omega, by omega⟩ (Nat.le_of_ble_eq_true rfl) (fun r_ h_ z_ hp_ => ?_)
    obtain ⟨rfl, rfl, rfl⟩ := hp_
    refine j_if_le C0 d_Mo_attempt_294 (tgt := 414) (by decide) (fun c_294 => ?_) (fun c_294 => ?_)
    · have hB : ¬ (0 < cnt ((mQ S2).2 i).2.2.2 3 ((mQ S2).2 i).2.1 ∧ ¬ ((mQ S2).2 i).1 2 = -1) := fun q => nI_nle q.1 (by omega) c_294
      have eS : seS S2 i = ((bmp (mv S2), S2.2), false) := by unfold seS; rw [if_neg hA, if_neg hB]
      refine j_aload_n C0 d_Mo_attempt_414 rfl (by rfl) ?_
      refine j_iload_n C0 d_Mo_attempt_415 rfl (by rfl) ?_
      refine j_callV C0 d_Mo_attempt_416 cl_Mo_122 cl_Mo_122v (c_Mo_remove _ E (b := 16 * i) (by omega)) mo_this rfl rfl rfl ⟨by decide, by decide⟩ ⟨by omega, by omega⟩ (Nat.le_of_ble_eq_true rfl) (fun r_ h_ z_ hp_ => ?_)
      obtain ⟨rfl, rfl, rfl⟩ := hp_
      refine j_iload_n C0 d_Mo_attempt_419 rfl (by rfl) ?_
      exact j_iret C0 d_Mo_attempt_420 rfl (by omega) (by omega) (⟨rfl, ⟨_, _, rfl, by
          rw [eA, eS]
          first | exact hRM | exact hRP | exact hPO⟩, rfl⟩)
    · have hB : 0 < cnt ((mQ S2).2 i).2.2.2 3 ((mQ S2).2 i).2.1 := Nat.pos_of_ne_zero (fun q => c_294 (by show nI (cnt ((mQ S2).2 i).2.2.2 3 ((mQ S2).2 i).2.1) ≤ 0; rw [q]; decide))
      refine j_aload_n C0 d_Mo_attempt_297 rfl (by rfl) ?_
      refine mo_get C0 d_Mo_attempt_298 fl_Mo_28 (by rfl) ?_
      refine j_iload_n C0 d_Mo_attempt_301 rfl (by rfl) ?_
      refine j_iconst C0 d_Mo_attempt_302 (v := 1) (by decide) ?_
      refine j_iadd C0 d_Mo_attempt_303 ?_
      refine mo_ld C0 (i := 6) (k := 16 * i + 1) d_Mo_attempt_304 (by simp only [jn0, jn1, jn2, jn3, jn4, jn8, jn12, jn13, jn14, jn15, jn16, pk_mul, nI_add]) (by show _ < 96; omega) (by decide) ?_
      refine j_top1 (show _ = ((mQ S2).2 i).1 2 from hr.c1) ?_
      refine j_iconst C0 d_Mo_attempt_305 (v := -1) (by decide) ?_
      refine j_icmp_eq C0 d_Mo_attempt_306 (tgt := 414) (by decide) (fun c_306 => ?_) (fun c_306 => ?_)
      · have hC : ¬ (0 < cnt ((mQ S2).2 i).2.2.2 3 ((mQ S2).2 i).2.1 ∧ ¬ ((mQ S2).2 i).1 2 = -1) := fun q => q.2 c_306
        have eS : seS S2 i = ((bmp (mv S2), S2.2), false) := by unfold seS; rw [if_neg hA, if_neg hC]
        refine j_aload_n C0 d_Mo_attempt_414 rfl (by rfl) ?_
        refine j_iload_n C0 d_Mo_attempt_415 rfl (by rfl) ?_
        refine j_callV C0 d_Mo_attempt_416 cl_Mo_122 cl_Mo_122v (c_Mo_remove _ E (b := 16 * i) (by omega)) mo_this rfl rfl rfl ⟨by decide, by decide⟩ ⟨by omega, by omega⟩ (Nat.le_of_ble_eq_true rfl) (fun r_ h_ z_ hp_ => ?_)
        obtain ⟨rfl, rfl, rfl⟩ := hp_
        refine j_iload_n C0 d_Mo_attempt_419 rfl (by rfl) ?_
        exact j_iret C0 d_Mo_attempt_420 rfl (by omega) (by omega) (⟨rfl, ⟨_, _, rfl, by
            rw [eA, eS]
            first | exact hRM | exact hRP | exact hPO⟩, rfl⟩)
      · have eS : seS S2 i = ((bmp (mv S2), (setQi S2 i (rpM S2 i)).2), true) := by unfold seS; rw [if_neg hA, if_pos ⟨hB, c_306⟩]
        refine j_aload_n C0 d_Mo_attempt_309 rfl (by rfl) ?_
        refine mo_get C0 d_Mo_attempt_310 fl_Mo_28 (by rfl) ?_
        refine j_iload_n C0 d_Mo_attempt_313 rfl (by rfl) ?_
        refine j_iconst C0 d_Mo_attempt_314 (v := 4) (by decide) ?_
        refine j_iadd C0 d_Mo_attempt_315 ?_
        refine j_aload_n C0 d_Mo_attempt_316 rfl (by rfl) ?_
        refine mo_get C0 d_Mo_attempt_317 fl_Mo_28 (by rfl) ?_
        refine j_iload_n C0 d_Mo_attempt_320 rfl (by rfl) ?_
        refine j_iconst C0 d_Mo_attempt_321 (v := 1) (by decide) ?_
        refine j_iadd C0 d_Mo_attempt_322 ?_
        refine mo_ld C0 (i := 6) (k := 16 * i + 1) d_Mo_attempt_323 (by simp only [jn0, jn1, jn2, jn3, jn4, jn8, jn12, jn13, jn14, jn15, jn16, pk_mul, nI_add]) (by show _ < 96; omega) (by decide) ?_
        refine j_top1 (show _ = ((mQ S2).2 i).1 2 from hr.c1) ?_
        refine mo_st C0 (i := 6) (k := 16 * i + 4) d_Mo_attempt_324 (by simp only [jn0, jn1, jn2, jn3, jn4, jn8, jn12, jn13, jn14, jn15, jn16, pk_mul, nI_add]) (by show _ < 96; omega) (by decide) ?_
        refine j_aload_n C0 d_Mo_attempt_325 rfl (by rfl) ?_
        refine mo_get C0 d_Mo_attempt_326 fl_Mo_28 (by rfl) ?_
        refine j_iload_n C0 d_Mo_attempt_329 rfl (by rfl) ?_
        refine j_bipush C0 d_Mo_attempt_330 (v := 8) (by decide) ?_
        refine j_iadd C0 d_Mo_attempt_332 ?_
        refine j_iconst C0 d_Mo_attempt_333 (v := 1) (by decide) ?_
        refine mo_st C0 (i := 6) (k := 16 * i + 8) d_Mo_attempt_334 (by simp only [jn0, jn1, jn2, jn3, jn4, jn8, jn12, jn13, jn14, jn15, jn16, pk_mul, nI_add]) (by show _ < 96; omega) (by decide) ?_
        rw [vv_up, va_up_self]
        refine j_aload_n C0 d_Mo_attempt_335 rfl (by rfl) ?_
        refine mo_get C0 d_Mo_attempt_336 fl_Mo_28 (by rfl) ?_
        refine j_iload_n C0 d_Mo_attempt_339 rfl (by rfl) ?_
        refine j_iconst C0 d_Mo_attempt_340 (v := 1) (by decide) ?_
        refine j_iadd C0 d_Mo_attempt_341 ?_
        refine j_iconst C0 d_Mo_attempt_342 (v := -1) (by decide) ?_
        refine mo_st C0 (i := 6) (k := 16 * i + 1) d_Mo_attempt_343 (by simp only [jn0, jn1, jn2, jn3, jn4, jn8, jn12, jn13, jn14, jn15, jn16, pk_mul, nI_add]) (by show _ < 96; omega) (by decide) ?_
        rw [vv_up, va_up_self]
        refine j_aload_n C0 d_Mo_attempt_344 rfl (by rfl) ?_
        refine mo_get C0 d_Mo_attempt_345 fl_Mo_28 (by rfl) ?_
        refine j_iload_n C0 d_Mo_attempt_348 rfl (by rfl) ?_
        refine j_iconst C0 d_Mo_attempt_349 (v := 2) (by decide) ?_
        refine j_iadd C0 d_Mo_attempt_350 ?_
        refine j_iconst C0 d_Mo_attempt_351 (v := 0) (by decide) ?_
        refine mo_st C0 (i := 6) (k := 16 * i + 2) d_Mo_attempt_352 (by simp only [jn0, jn1, jn2, jn3, jn4, jn8, jn12, jn13, jn14, jn15, jn16, pk_mul, nI_add]) (by show _ < 96; omega) (by decide) ?_
        rw [vv_up, va_up_self]
        refine j_aload_n C0 d_Mo_attempt_353 rfl (by rfl) ?_
        refine mo_get C0 d_Mo_attempt_354 fl_Mo_28 (by rfl) ?_
        refine j_iload_n C0 d_Mo_attempt_357 rfl (by rfl) ?_
        refine j_iconst C0 d_Mo_attempt_358 (v := 3) (by decide) ?_
        refine j_iadd C0 d_Mo_attempt_359 ?_
        refine j_iconst C0 d_Mo_attempt_360 (v := 1) (by decide) ?_
        refine mo_st C0 (i := 6) (k := 16 * i + 3) d_Mo_attempt_361 (by simp only [jn0, jn1, jn2, jn3, jn4, jn8, jn12, jn13, jn14, jn15, jn16, pk_mul, nI_add]) (by show _ < 96; omega) (by decide) ?_
        rw [vv_up, va_up_self]
        refine j_aload_n C0 d_Mo_attempt_362 rfl (by rfl) ?_
        refine mo_get C0 d_Mo_attempt_363 fl_Mo_28 (by rfl) ?_
        refine j_iload_n C0 d_Mo_attempt_366 rfl (by rfl) ?_
        refine j_bipush C0 d_Mo_attempt_367 (v := 12) (by decide) ?_
        refine j_iadd C0 d_Mo_attempt_369 ?_
        refine j_aload_n C0 d_Mo_attempt_370 rfl (by rfl) ?_
        refine mo_get C0 d_Mo_attempt_371 fl_Mo_101 (by rfl) ?_
        refine j_top1 (show upd w 15 (w 15 + 1) 9 = mv S2 10 from hR.v9) ?_
        refine mo_st C0 (i := 6) (k := 16 * i + 12) d_Mo_attempt_374 (by simp only [jn0, jn1, jn2, jn3, jn4, jn8, jn12, jn13, jn14, jn15, jn16, pk_mul, nI_add]) (by show _ < 96; omega) (by decide) ?_
        rw [vv_up, va_up_self]
        refine j_aload_n C0 d_Mo_attempt_375 rfl (by rfl) ?_
        refine mo_get C0 d_Mo_attempt_376 fl_Mo_28 (by rfl) ?_
        refine j_iload_n C0 d_Mo_attempt_379 rfl (by rfl) ?_
        refine j_bipush C0 d_Mo_attempt_380 (v := 13) (by decide) ?_
        refine j_iadd C0 d_Mo_attempt_382 ?_
        refine j_aload_n C0 d_Mo_attempt_383 rfl (by rfl) ?_
        refine mo_get C0 d_Mo_attempt_384 fl_Mo_101 (by rfl) ?_
        refine j_top1 (show upd w 15 (w 15 + 1) 9 = mv S2 10 from hR.v9) ?_
        refine mo_st C0 (i := 6) (k := 16 * i + 13) d_Mo_attempt_387 (by simp only [jn0, jn1, jn2, jn3, jn4, jn8, jn12, jn13, jn14, jn15, jn16, pk_mul, nI_add]) (by show _ < 96; omega) (by decide) ?_
        rw [vv_up, va_up_self]
        refine j_aload_n C0 d_Mo_attempt_388 rfl (by rfl) ?_
        refine mo_get C0 d_Mo_attempt_389 fl_Mo_28 (by rfl) ?_
        refine j_iload_n C0 d_Mo_attempt_392 rfl (by rfl) ?_
        refine j_bipush C0 d_Mo_attempt_393 (v := 14) (by decide) ?_
        refine j_iadd C0 d_Mo_attempt_395 ?_
        refine j_aload_n C0 d_Mo_attempt_396 rfl (by rfl) ?_
        refine mo_get C0 d_Mo_attempt_397 fl_Mo_53 (by rfl) ?_
        refine j_top1 (show upd w 15 (w 15 + 1) 0 = mv S2 0 from hR.v0) ?_
        refine mo_st C0 (i := 6) (k := 16 * i + 14) d_Mo_attempt_400 (by simp only [jn0, jn1, jn2, jn3, jn4, jn8, jn12, jn13, jn14, jn15, jn16, pk_mul, nI_add]) (by show _ < 96; omega) (by decide) ?_
        rw [vv_up, va_up_self]
        refine j_aload_n C0 d_Mo_attempt_401 rfl (by rfl) ?_
        refine mo_get C0 d_Mo_attempt_402 fl_Mo_28 (by rfl) ?_
        refine j_iload_n C0 d_Mo_attempt_405 rfl (by rfl) ?_
        refine j_bipush C0 d_Mo_attempt_406 (v := 15) (by decide) ?_
        refine j_iadd C0 d_Mo_attempt_408 ?_
        refine j_iconst C0 d_Mo_attempt_409 (v := 1) (by decide) ?_
        refine mo_st C0 (i := 6) (k := 16 * i + 15) d_Mo_attempt_410 (by simp only [jn0, jn1, jn2, jn3, jn4, jn8, jn12, jn13, jn14, jn15, jn16, pk_mul, nI_add]) (by show _ < 96; omega) (by decide) ?_
        rw [vv_up, va_up_self]
        refine j_goto C0 d_Mo_attempt_411 (tgt := 419) (by decide) ?_
        refine j_iload_n C0 d_Mo_attempt_419 rfl (by rfl) ?_
        exact j_iret C0 d_Mo_attempt_420 rfl (by omega) (by omega) (⟨rfl, ⟨_, _, rfl, by
            rw [eA, eS]
            first | exact hRM | exact hRP | exact hPO⟩, rfl⟩)
  · have hA : 0 < cnt ((mQ S2).2 i).2.2.2 1 ((mQ S2).2 i).2.1 := Nat.pos_of_ne_zero (fun q => c_228 (by show nI (cnt ((mQ S2).2 i).2.2.2 1 ((mQ S2).2 i).2.1) ≤ 0; rw [q]; decide))
    have eS : seS S2 i = ((bmp (mv S2), (setQi S2 i (poM S2 i)).2), true) := if_pos hA
    refine j_aload_n C0 d_Mo_attempt_231 rfl (by rfl) ?_
    refine mo_get C0 d_Mo_attempt_232 fl_Mo_28 (by rfl) ?_
    refine j_iload_n C0 d_Mo_attempt_235 rfl (by rfl) ?_
    refine j_bipush C0 d_Mo_attempt_236 (v := 13) (by decide) ?_
    refine j_iadd C0 d_Mo_attempt_238 ?_
    refine j_aload_n C0 d_Mo_attempt_239 rfl (by rfl) ?_
    refine mo_get C0 d_Mo_attempt_240 fl_Mo_101 (by rfl) ?_
    refine j_top1 (show upd w 15 (w 15 + 1) 9 = mv S2 10 from hR.v9) ?_
    refine j_aload_n C0 d_Mo_attempt_243 rfl (by rfl) ?_
    refine mo_get C0 d_Mo_attempt_244 fl_Mo_28 (by rfl) ?_
    refine j_iload_n C0 d_Mo_attempt_247 rfl (by rfl) ?_
    refine j_bipush C0 d_Mo_attempt_248 (v := 14) (by decide) ?_
    refine j_iadd C0 d_Mo_attempt_250 ?_
    refine mo_ld C0 (i := 6) (k := 16 * i + 14) d_Mo_attempt_251 (by simp only [jn0, jn1, jn2, jn3, jn4, jn8, jn12, jn13, jn14, jn15, jn16, pk_mul, nI_add]) (by show _ < 96; omega) (by decide) ?_
    refine j_top1 (show _ = ((mQ S2).2 i).1 6 from hr.c14) ?_
    refine j_iadd C0 d_Mo_attempt_252 ?_
    refine mo_st C0 (i := 6) (k := 16 * i + 13) d_Mo_attempt_253 (by simp only [jn0, jn1, jn2, jn3, jn4, jn8, jn12, jn13, jn14, jn15, jn16, pk_mul, nI_add]) (by show _ < 96; omega) (by decide) ?_
    refine j_aload_n C0 d_Mo_attempt_254 rfl (by rfl) ?_
    refine mo_get C0 d_Mo_attempt_255 fl_Mo_28 (by rfl) ?_
    refine j_iload_n C0 d_Mo_attempt_258 rfl (by rfl) ?_
    refine j_bipush C0 d_Mo_attempt_259 (v := 14) (by decide) ?_
    refine j_iadd C0 d_Mo_attempt_261 ?_
    refine j_iconst C0 d_Mo_attempt_262 (v := 2) (by decide) ?_
    refine j_aload_n C0 d_Mo_attempt_263 rfl (by rfl) ?_
    refine mo_get C0 d_Mo_attempt_264 fl_Mo_28 (by rfl) ?_
    refine j_iload_n C0 d_Mo_attempt_267 rfl (by rfl) ?_
    refine j_bipush C0 d_Mo_attempt_268 (v := 14) (by decide) ?_
    refine j_iadd C0 d_Mo_attempt_270 ?_
    refine mo_ld C0 (i := 6) (k := 16 * i + 14) d_Mo_attempt_271 (by simp only [jn0, jn1, jn2, jn3, jn4, jn8, jn12, jn13, jn14, jn15, jn16, pk_mul, nI_add]) (by show _ < 96; omega) (by decide) ?_
    refine j_top1 (show _ = nI gg from (pk_un (by omega)).trans (hr.c14.trans g7)) ?_
    refine j_imul C0 d_Mo_attempt_272 ?_
    refine j_aload_n C0 d_Mo_attempt_273 rfl (by rfl) ?_
    refine mo_get C0 d_Mo_attempt_274 fl_Mo_53 (by rfl) ?_
    refine j_top1 (show upd w 15 (w 15 + 1) 0 = nI ga from hR.v0.trans g5) ?_
    refine j_aload_n C0 d_Mo_attempt_277 rfl (by rfl) ?_
    refine mo_get C0 d_Mo_attempt_278 fl_Mo_57 (by rfl) ?_
    refine j_top1 (show upd w 15 (w 15 + 1) 1 = nI gb from hR.v1.trans g6) ?_
    refine j_callS C0 d_Mo_attempt_281 cl_Mo_49 cl_Mo_49v (c_Mo_within _ E _ _ _) rfl rfl ⟨by decide, by decide⟩ ⟨by omega, by omega⟩ (Nat.le_of_ble_eq_true rfl) (fun r_ h_ z_ hp_ => ?_)
    obtain ⟨rfl, rfl, rfl⟩ := hp_
    rw [gapI g1 g2 g3 g4]
    refine mo_st C0 (i := 6) (k := 16 * i + 14) d_Mo_attempt_284 (by simp only [jn0, jn1, jn2, jn3, jn4, jn8, jn12, jn13, jn14, jn15, jn16, pk_mul, nI_add]) (by show _ < 96; omega) (by decide) ?_
    rw [vv_up, va_up_self]
    refine j_goto C0 d_Mo_attempt_285 (tgt := 419) (by decide) ?_
    refine j_iload_n C0 d_Mo_attempt_419 rfl (by rfl) ?_
    exact j_iret C0 d_Mo_attempt_420 rfl (by omega) (by omega) (⟨rfl, ⟨_, _, rfl, by
        rw [eA, eS]
        first | exact hRM | exact hRP | exact hPO⟩, rfl⟩)
