/-! Walking kit: abstract heaps (an address to a cell), one judgement jJ for a method's body, one row an instruction, contracts jC. -/
abbrev jH : Type := Nat → Option va_E
def jset (h : jH) (a : Nat) (e : va_E) : jH := fun q => if q = a then some e else h q
theorem jset_s {h : jH} {a : Nat} {e : va_E} : jset h a e a = some e := if_pos rfl
theorem jset_n {h : jH} {a q : Nat} {e : va_E} (hq : q ≠ a) : jset h a e q = h q := if_neg hq
abbrev jE : Type := va_G × (Nat → ClassId) × Nat
abbrev jI (E : jE) (n : Nat) (f : Nat → Int32) : va_E := .inl (E.2.1 0, n, .inl f)
abbrev jL (E : jE) (n : Nat) (f : Nat → Int64) : va_E := .inl (E.2.1 1, n, .inr (.inl f))
abbrev jQa (E : jE) (t n : Nat) (f : Nat → Option Nat) : va_E := .inl (E.2.1 t, n, .inr (.inr (.inr (.inr f))))
abbrev jO (ci : Nat) (fs : List Value) : va_E := .inr (ci, fs)
def jR (E : jE) (h : jH) (sz : Nat) (H : Heap) : Prop := H.size = sz ∧ ∀ (a : Nat) (e : va_E), h a = some e → E.2.2 ≤ a ∧ va_at E.1 jCl (a, e) H
def jK (E : jE) (U : State) : Prop := va_K E.1 jCl (jTys E.2.1) U ∧ (∀ q ∈ jNM, va_Nw (.methodLinkNest q.1 q.2.1 q.2.2.1 q.2.2.2) U) ∧ ∀ C ∈ jAO, va_AO C U
theorem jK.warm {E : jE} {s U : State} (hW : s.WarmedH U.vm) (h : jK E s) : jK E U :=
  ⟨va_K.moved hW.alike h.1, fun q hq => va_Nw.warmM hW (h.2.1 q hq), fun C hC => va_AO.moved hW.alike (h.2.2 C hC)⟩
theorem jK.same {E : jE} {u U : State} (hv : u.vm = U.vm) (h : jK E u) : jK E U :=
  ⟨va_K.moved (by rw [← hv]; exact Vm.Alike.refl _) h.1, fun q hq => va_Nw.same rfl hv (h.2.1 q hq), fun C hC => va_AO.moved (by rw [← hv]; exact Vm.Alike.refl _) (h.2.2 C hC)⟩
theorem jR.set {E : jE} {h : jH} {sz a : Nat} {e0 e : va_E} {H H1 : Heap} (hR : jR E h sz H) (ha : h a = some e0) (he : va_at E.1 jCl (a, e) H1) (z : H1.size = H.size) (oq : ∀ q : Nat, q ≠ a → H1[q]? = H[q]?) : jR E (jset h a e) sz H1 := by
  refine ⟨z.trans hR.1, fun b e1 hb => ?_⟩
  by_cases hba : b = a
  · subst hba
    rw [jset_s] at hb
    cases hb
    exact ⟨(hR.2 b e0 ha).1, he⟩
  · rw [jset_n hba] at hb
    exact ⟨(hR.2 b e1 hb).1, (hR.2 b e1 hb).2.kept (oq b hba)⟩
theorem jR.push {E : jE} {h : jH} {sz : Nat} {e : va_E} {H H1 : Heap} (hR : jR E h sz H) (hB : E.2.2 ≤ sz) (he : va_at E.1 jCl (sz, e) H1) (z : H1.size = sz + 1) (oq : ∀ q : Nat, q < sz → H1[q]? = H[q]?) : jR E (jset h sz e) (sz + 1) H1 := by
  refine ⟨z, fun b e1 hb => ?_⟩
  by_cases hba : b = sz
  · subst hba
    rw [jset_s] at hb
    cases hb
    exact ⟨hB, he⟩
  · rw [jset_n hba] at hb
    have hlt : b < sz := by have := (hR.2 b e1 hb).2.lt; rw [hR.1] at this; exact this
    exact ⟨(hR.2 b e1 hb).1, (hR.2 b e1 hb).2.kept (oq b hlt)⟩
theorem jR.one {E : jE} {h : jH} {sz a : Nat} {e : va_E} {H : Heap} (hR : jR E h sz H) (ha : h a = some e) : va_P E.1 jCl [(a, e)] H := by
  intro k q hk
  cases k with
  | zero => rw [List.getElem?_cons_zero] at hk; cases hk; exact (hR.2 a e ha).2
  | succ n => simp at hk
/-- the context of a method's body -/
abbrev jX : Type := Program × Launch × Env × Room × State × MethodId × Array Value × List Frame × Method × Code
abbrev jxR (x : jX) : Room := x.2.2.2.1
abbrev jxs (x : jX) : State := x.2.2.2.2.1
abbrev jxm (x : jX) : MethodId := x.2.2.2.2.2.1
abbrev jxa (x : jX) : Array Value := x.2.2.2.2.2.2.1
abbrev jxb (x : jX) : List Frame := x.2.2.2.2.2.2.2.1
abbrev jxe (x : jX) : Method := x.2.2.2.2.2.2.2.2.1
abbrev jxc (x : jX) : Code := x.2.2.2.2.2.2.2.2.2
abbrev jW (x : jX) (H : Heap) (locs : List Loc) (ce sl : Nat) (Q : State → Prop) (g : JFrame) : Prop := W x.1 x.2.1 x.2.2.1 (jxR x) (jxs x) (jxm x) (jxa x) (jxb x) (jxe x) (jxc x) H locs ce sl Q g
/-- a method: name, code, locals, return type -/
abbrev jM : Type := jM0
def jOk (x : jX) (M : jM) (E : jE) (d mc ms : Nat) : Prop :=
  x.1.tables.exec = Jvm.exec ∧ (jxc x).code = M.2.1 ∧ (jxc x).maxLocals = M.2.2.1 ∧ (jxs x).vm.findClass M.1.cls = some (jxm x).cls ∧ (∀ w ∈ jTG, w.before (jxa x) (jxs x) = true) ∧ jK E (jxs x) ∧
  (d ≤ (jxR x).frames ∧ 40 * d ≤ (jxR x).locals ∧ mc ≤ (jxR x).cells ∧ ms ≤ (jxR x).slots) ∧ (jxe x).sig.returnType = M.2.2.2 ∧ (jxe x).locks = false ∧ E.2.2 ≤ (jxs x).heap.size ∧ (jxe x).name = M.1.name
theorem jOk.exec {x : jX} {M : jM} {E : jE} {d mc ms : Nat} (h : jOk x M E d mc ms) : x.1.tables.exec = Jvm.exec := h.1
theorem jOk.code {x : jX} {M : jM} {E : jE} {d mc ms : Nat} (h : jOk x M E d mc ms) : (jxc x).code = M.2.1 := h.2.1
theorem jOk.maxl {x : jX} {M : jM} {E : jE} {d mc ms : Nat} (h : jOk x M E d mc ms) : (jxc x).maxLocals = M.2.2.1 := h.2.2.1
theorem jOk.own {x : jX} {M : jM} {E : jE} {d mc ms : Nat} (h : jOk x M E d mc ms) : (jxs x).vm.findClass M.1.cls = some (jxm x).cls := h.2.2.2.1
theorem jOk.ts {x : jX} {M : jM} {E : jE} {d mc ms : Nat} (h : jOk x M E d mc ms) : ∀ w ∈ jTG, w.before (jxa x) (jxs x) = true := h.2.2.2.2.1
theorem jOk.K {x : jX} {M : jM} {E : jE} {d mc ms : Nat} (h : jOk x M E d mc ms) : jK E (jxs x) := h.2.2.2.2.2.1
theorem jOk.room {x : jX} {M : jM} {E : jE} {d mc ms : Nat} (h : jOk x M E d mc ms) : d ≤ (jxR x).frames ∧ 40 * d ≤ (jxR x).locals ∧ mc ≤ (jxR x).cells ∧ ms ≤ (jxR x).slots := h.2.2.2.2.2.2.1
theorem jOk.ret {x : jX} {M : jM} {E : jE} {d mc ms : Nat} (h : jOk x M E d mc ms) : (jxe x).sig.returnType = M.2.2.2 := h.2.2.2.2.2.2.2.1
theorem jOk.locks {x : jX} {M : jM} {E : jE} {d mc ms : Nat} (h : jOk x M E d mc ms) : (jxe x).locks = false := h.2.2.2.2.2.2.2.2.1
theorem jOk.base {x : jX} {M : jM} {E : jE} {d mc ms : Nat} (h : jOk x M E d mc ms) : E.2.2 ≤ (jxs x).heap.size := h.2.2.2.2.2.2.2.2.2.1
theorem jOk.name {x : jX} {M : jM} {E : jE} {d mc ms : Nat} (h : jOk x M E d mc ms) : (jxe x).name = M.1.name := h.2.2.2.2.2.2.2.2.2.2
def jJ (x : jX) (M : jM) (E : jE) (Q : State → Prop) (h : jH) (sz ce sl : Nat) (lv : List (Nat × Value)) (pc : Nat) (st : List Value) : Prop :=
  ∀ (H : Heap) (locs : List Loc) (ls : Array Slot), jR E h sz H → va_S (fun q => E.2.2 ≤ q) (jxs x).heap H locs → lv_has ls M.2.2.1 lv → jW x H locs ce sl Q (F0 (jxm x) pc ls st)
def jlv (lv : List (Nat × Value)) (i : Nat) : Option Value := (lv.find? (fun q => q.1 == i)).map (fun q => q.2)
def jst1 (lv : List (Nat × Value)) (i : Nat) (v : Value) : List (Nat × Value) := (i, v) :: lv.filter (fun q => !(q.1 == i) && !(q.1 + 1 == i && q.2.category == 2))
def jst2 (lv : List (Nat × Value)) (i : Nat) (v : Value) : List (Nat × Value) := (i, v) :: lv.filter (fun q => !(q.1 == i) && (!(q.1 == i + 1) && !(q.1 + 1 == i && q.2.category == 2)))
theorem jlv_mem {lv : List (Nat × Value)} {i : Nat} {v : Value} (h : jlv lv i = some v) : (i, v) ∈ lv := by
  unfold jlv at h
  cases hf : lv.find? (fun q => q.1 == i) with
  | none => rw [hf] at h; cases h
  | some q =>
    rw [hf] at h
    have h1 := List.find?_some hf
    have h2 := List.mem_of_find?_eq_some hf
    have h3 : q.1 = i := by simpa using h1
    have h4 : q.2 = v := by simpa using h
    rw [← h3, ← h4]
    exact h2
theorem jlv_at {ls : Array Slot} {nL : Nat} {lv : List (Nat × Value)} {i : Nat} {v : Value} (hl : lv_has ls nL lv) (h : jlv lv i = some v) : ls[i]? = some (.val v) := hl.2.2 (i, v) (jlv_mem h)
/-- the locals lv bear at least what lv' says -/
def jSub (lv : List (Nat × Value)) : List (Nat × Value) → Prop
  | [] => True
  | q :: r => jlv lv q.1 = some q.2 ∧ jSub lv r
theorem jSub_all {lv : List (Nat × Value)} : ∀ {lv' : List (Nat × Value)}, jSub lv lv' → ∀ q ∈ lv', q ∈ lv
  | [], _, q, hq => absurd hq List.not_mem_nil
  | r :: lv', h, q, hq => by
    rcases List.mem_cons.mp hq with e | e
    · subst e; exact jlv_mem h.1
    · exact jSub_all h.2 q e
section JRules
variable {x : jX} {M : jM} {E : jE} {Q : State → Prop} {h : jH} {sz ce sl d mc ms pc : Nat} {lv : List (Nat × Value)} {st : List Value}
theorem j_lv {lv' : List (Nat × Value)} (hs : jSub lv lv') (kk : jJ x M E Q h sz ce sl lv' pc st) : jJ x M E Q h sz ce sl lv pc st := fun H locs ls hR hS hl => kk H locs ls hR hS ⟨hl.1, hl.2.1, fun q hq => hl.2.2 q (jSub_all hs q hq)⟩
theorem j_cs {ce' sl' : Nat} (h1 : ce ≤ ce') (h2 : sl ≤ sl') (kk : jJ x M E Q h sz ce' sl' lv pc st) : jJ x M E Q h sz ce sl lv pc st := fun H locs ls hR hS hl => W.widen h1 h2 (kk H locs ls hR hS hl)
theorem j_eq {h' : jH} {sz' ce' sl' pc' : Nat} {lv' : List (Nat × Value)} {st' : List Value} (kk : jJ x M E Q h' sz' ce' sl' lv' pc' st') (e1 : h = h') (e2 : sz = sz') (e3 : ce = ce') (e4 : sl = sl') (e5 : lv = lv') (e6 : pc = pc') (e7 : st = st') : jJ x M E Q h sz ce sl lv pc st := by
  subst e1; subst e2; subst e3; subst e4; subst e5; subst e6; subst e7; exact kk
theorem j_top {v v' : Value} (e : v = v') (kk : jJ x M E Q h sz ce sl lv pc (v' :: st)) : jJ x M E Q h sz ce sl lv pc (v :: st) := e ▸ kk
theorem j_iconst (C0 : jOk x M E d mc ms) {n : Int} {v : Int32} (hd : decode M.2.1 pc = .ok (.iconst n, 1)) (hv : Int32.ofInt n = v) (kk : jJ x M E Q h sz ce sl lv (pc + 1) (.int v :: st)) : jJ x M E Q h sz ce sl lv pc (st) := fun H locs ls hR hS hl => lv_iconst C0.exec C0.code hd hv (kk H locs ls hR hS hl)
theorem j_bipush (C0 : jOk x M E d mc ms) {n : Int} {v : Int32} (hd : decode M.2.1 pc = .ok (.bipush n, 2)) (hv : (Int8.ofInt n).toInt32 = v) (kk : jJ x M E Q h sz ce sl lv (pc + 2) (.int v :: st)) : jJ x M E Q h sz ce sl lv pc (st) := fun H locs ls hR hS hl => lv_bipush C0.exec C0.code hd hv (kk H locs ls hR hS hl)
theorem j_sipush (C0 : jOk x M E d mc ms) {n : Int} {v : Int32} (hd : decode M.2.1 pc = .ok (.sipush n, 3)) (hv : (Int16.ofInt n).toInt32 = v) (kk : jJ x M E Q h sz ce sl lv (pc + 3) (.int v :: st)) : jJ x M E Q h sz ce sl lv pc (st) := fun H locs ls hR hS hl => lv_sipush C0.exec C0.code hd hv (kk H locs ls hR hS hl)
theorem j_lconst (C0 : jOk x M E d mc ms) {n : Fin 2} {v : Int64} (hd : decode M.2.1 pc = .ok (.lconst n, 1)) (hv : Int64.ofNat (n : Nat) = v) (kk : jJ x M E Q h sz ce sl lv (pc + 1) (.long v :: st)) : jJ x M E Q h sz ce sl lv pc (st) := fun H locs ls hR hS hl => lv_lconst C0.exec C0.code hd hv (kk H locs ls hR hS hl)
theorem j_ldc (C0 : jOk x M E d mc ms) {idx : Nat} {v : Int32} (hd : decode M.2.1 pc = .ok (.ldc idx, 2)) (hw : Cond.constant M.1.cls idx v ∈ jTG) (kk : jJ x M E Q h sz ce sl lv (pc + 2) (.int v :: st)) : jJ x M E Q h sz ce sl lv pc (st) := fun H locs ls hR hS hl => lv_ldc C0.exec C0.code C0.own (C0.ts _ hw) hd (kk H locs ls hR hS hl)
theorem j_ldc2 (C0 : jOk x M E d mc ms) {idx : Nat} {v : Int64} (hd : decode M.2.1 pc = .ok (.ldc2_w idx, 3)) (hw : Cond.constantLong M.1.cls idx v ∈ jTG) (kk : jJ x M E Q h sz ce sl lv (pc + 3) (.long v :: st)) : jJ x M E Q h sz ce sl lv pc (st) := fun H locs ls hR hS hl => lv_ldc2 C0.exec C0.code C0.own (C0.ts _ hw) hd (kk H locs ls hR hS hl)
theorem j_iload_n (C0 : jOk x M E d mc ms) {k : Fin 4} {i : Nat} {v : Int32} (hd : decode M.2.1 pc = .ok (.iload_n k, 1)) (hi : (k : Nat) = i) (hv : jlv lv i = some (.int v)) (kk : jJ x M E Q h sz ce sl lv (pc + 1) (.int v :: st)) : jJ x M E Q h sz ce sl lv pc (st) := fun H locs ls hR hS hl => lv_iload_n C0.exec C0.code hd hi (jlv_at hl hv) (kk H locs ls hR hS hl)
theorem j_iload (C0 : jOk x M E d mc ms) {i : Nat} {v : Int32} (hd : decode M.2.1 pc = .ok (.iload i, 2)) (hv : jlv lv i = some (.int v)) (kk : jJ x M E Q h sz ce sl lv (pc + 2) (.int v :: st)) : jJ x M E Q h sz ce sl lv pc (st) := fun H locs ls hR hS hl => lv_iload C0.exec C0.code hd (jlv_at hl hv) (kk H locs ls hR hS hl)
theorem j_istore_n (C0 : jOk x M E d mc ms) {k : Fin 4} {i : Nat} {v : Int32} (hd : decode M.2.1 pc = .ok (.istore_n k, 1)) (hi : (k : Nat) = i) (hn : i < M.2.2.1) (kk : jJ x M E Q h sz ce sl (jst1 lv i (.int v)) (pc + 1) (st)) : jJ x M E Q h sz ce sl lv pc (.int v :: st) := fun H locs ls hR hS hl => lv_istore_n C0.exec C0.code hd hi hl hn rfl (fun ls hl => kk H locs ls hR hS hl)
theorem j_istore (C0 : jOk x M E d mc ms) {i : Nat} {v : Int32} (hd : decode M.2.1 pc = .ok (.istore i, 2)) (hn : i < M.2.2.1) (kk : jJ x M E Q h sz ce sl (jst1 lv i (.int v)) (pc + 2) (st)) : jJ x M E Q h sz ce sl lv pc (.int v :: st) := fun H locs ls hR hS hl => lv_istore C0.exec C0.code hd hl hn rfl (fun ls hl => kk H locs ls hR hS hl)
theorem j_lload_n (C0 : jOk x M E d mc ms) {k : Fin 4} {i : Nat} {v : Int64} (hd : decode M.2.1 pc = .ok (.lload_n k, 1)) (hi : (k : Nat) = i) (hv : jlv lv i = some (.long v)) (kk : jJ x M E Q h sz ce sl lv (pc + 1) (.long v :: st)) : jJ x M E Q h sz ce sl lv pc (st) := fun H locs ls hR hS hl => lv_lload_n C0.exec C0.code hd hi (jlv_at hl hv) (kk H locs ls hR hS hl)
theorem j_lload (C0 : jOk x M E d mc ms) {i : Nat} {v : Int64} (hd : decode M.2.1 pc = .ok (.lload i, 2)) (hv : jlv lv i = some (.long v)) (kk : jJ x M E Q h sz ce sl lv (pc + 2) (.long v :: st)) : jJ x M E Q h sz ce sl lv pc (st) := fun H locs ls hR hS hl => lv_lload C0.exec C0.code hd (jlv_at hl hv) (kk H locs ls hR hS hl)
theorem j_lstore_n (C0 : jOk x M E d mc ms) {k : Fin 4} {i : Nat} {v : Int64} (hd : decode M.2.1 pc = .ok (.lstore_n k, 1)) (hi : (k : Nat) = i) (hn : i + 1 < M.2.2.1) (kk : jJ x M E Q h sz ce sl (jst2 lv i (.long v)) (pc + 1) (st)) : jJ x M E Q h sz ce sl lv pc (.long v :: st) := fun H locs ls hR hS hl => lv_lstore_n C0.exec C0.code hd hi hl hn rfl (fun ls hl => kk H locs ls hR hS hl)
theorem j_lstore (C0 : jOk x M E d mc ms) {i : Nat} {v : Int64} (hd : decode M.2.1 pc = .ok (.lstore i, 2)) (hn : i + 1 < M.2.2.1) (kk : jJ x M E Q h sz ce sl (jst2 lv i (.long v)) (pc + 2) (st)) : jJ x M E Q h sz ce sl lv pc (.long v :: st) := fun H locs ls hR hS hl => lv_lstore C0.exec C0.code hd hl hn rfl (fun ls hl => kk H locs ls hR hS hl)
theorem j_aload_n (C0 : jOk x M E d mc ms) {k : Fin 4} {i : Nat} {v : Nat} (hd : decode M.2.1 pc = .ok (.aload_n k, 1)) (hi : (k : Nat) = i) (hv : jlv lv i = some (.ref v)) (kk : jJ x M E Q h sz ce sl lv (pc + 1) (.ref v :: st)) : jJ x M E Q h sz ce sl lv pc (st) := fun H locs ls hR hS hl => lv_aload_n C0.exec C0.code hd hi (jlv_at hl hv) (kk H locs ls hR hS hl)
theorem j_aload (C0 : jOk x M E d mc ms) {i : Nat} {v : Nat} (hd : decode M.2.1 pc = .ok (.aload i, 2)) (hv : jlv lv i = some (.ref v)) (kk : jJ x M E Q h sz ce sl lv (pc + 2) (.ref v :: st)) : jJ x M E Q h sz ce sl lv pc (st) := fun H locs ls hR hS hl => lv_aload C0.exec C0.code hd (jlv_at hl hv) (kk H locs ls hR hS hl)
theorem j_astore_n (C0 : jOk x M E d mc ms) {k : Fin 4} {i : Nat} {v : Nat} (hd : decode M.2.1 pc = .ok (.astore_n k, 1)) (hi : (k : Nat) = i) (hn : i < M.2.2.1) (kk : jJ x M E Q h sz ce sl (jst1 lv i (.ref v)) (pc + 1) (st)) : jJ x M E Q h sz ce sl lv pc (.ref v :: st) := fun H locs ls hR hS hl => lv_astore_n C0.exec C0.code hd hi hl hn rfl (fun ls hl => kk H locs ls hR hS hl)
theorem j_astore (C0 : jOk x M E d mc ms) {i : Nat} {v : Nat} (hd : decode M.2.1 pc = .ok (.astore i, 2)) (hn : i < M.2.2.1) (kk : jJ x M E Q h sz ce sl (jst1 lv i (.ref v)) (pc + 2) (st)) : jJ x M E Q h sz ce sl lv pc (.ref v :: st) := fun H locs ls hR hS hl => lv_astore C0.exec C0.code hd hl hn rfl (fun ls hl => kk H locs ls hR hS hl)
theorem j_iinc (C0 : jOk x M E d mc ms) {i : Nat} {n : Int} {v v' : Int32} (hd : decode M.2.1 pc = .ok (.iinc i n, 3)) (hv : jlv lv i = some (.int v)) (hv' : v + Int32.ofInt n = v') (hn : i < M.2.2.1) (kk : jJ x M E Q h sz ce sl (jst1 lv i (.int v')) (pc + 3) st) : jJ x M E Q h sz ce sl lv pc st := by
  intro H locs ls hR hS hl
  obtain ⟨k, hk⟩ := List.getElem?_of_mem (jlv_mem hv)
  exact lv_iinc C0.exec C0.code hd hl hk hv' hn rfl (fun ls hl => kk H locs ls hR hS hl)
theorem j_iadd (C0 : jOk x M E d mc ms) {v w : Int32} (hd : decode M.2.1 pc = .ok (.iadd, 1)) (kk : jJ x M E Q h sz ce sl lv (pc + 1) (.int (v + w) :: st)) : jJ x M E Q h sz ce sl lv pc (.int w :: .int v :: st) := fun H locs ls hR hS hl => lv_iadd C0.exec C0.code hd (kk H locs ls hR hS hl)
theorem j_isub (C0 : jOk x M E d mc ms) {v w : Int32} (hd : decode M.2.1 pc = .ok (.isub, 1)) (kk : jJ x M E Q h sz ce sl lv (pc + 1) (.int (v - w) :: st)) : jJ x M E Q h sz ce sl lv pc (.int w :: .int v :: st) := fun H locs ls hR hS hl => lv_isub C0.exec C0.code hd (kk H locs ls hR hS hl)
theorem j_imul (C0 : jOk x M E d mc ms) {v w : Int32} (hd : decode M.2.1 pc = .ok (.imul, 1)) (kk : jJ x M E Q h sz ce sl lv (pc + 1) (.int (v * w) :: st)) : jJ x M E Q h sz ce sl lv pc (.int w :: .int v :: st) := fun H locs ls hR hS hl => lv_imul C0.exec C0.code hd (kk H locs ls hR hS hl)
theorem j_iand (C0 : jOk x M E d mc ms) {v w : Int32} (hd : decode M.2.1 pc = .ok (.iand, 1)) (kk : jJ x M E Q h sz ce sl lv (pc + 1) (.int (v &&& w) :: st)) : jJ x M E Q h sz ce sl lv pc (.int w :: .int v :: st) := fun H locs ls hR hS hl => lv_iand C0.exec C0.code hd (kk H locs ls hR hS hl)
theorem j_ior (C0 : jOk x M E d mc ms) {v w : Int32} (hd : decode M.2.1 pc = .ok (.ior, 1)) (kk : jJ x M E Q h sz ce sl lv (pc + 1) (.int (v ||| w) :: st)) : jJ x M E Q h sz ce sl lv pc (.int w :: .int v :: st) := fun H locs ls hR hS hl => lv_ior C0.exec C0.code hd (kk H locs ls hR hS hl)
theorem j_ixor (C0 : jOk x M E d mc ms) {v w : Int32} (hd : decode M.2.1 pc = .ok (.ixor, 1)) (kk : jJ x M E Q h sz ce sl lv (pc + 1) (.int (v ^^^ w) :: st)) : jJ x M E Q h sz ce sl lv pc (.int w :: .int v :: st) := fun H locs ls hR hS hl => lv_ixor C0.exec C0.code hd (kk H locs ls hR hS hl)
theorem j_ladd (C0 : jOk x M E d mc ms) {v w : Int64} (hd : decode M.2.1 pc = .ok (.ladd, 1)) (kk : jJ x M E Q h sz ce sl lv (pc + 1) (.long (v + w) :: st)) : jJ x M E Q h sz ce sl lv pc (.long w :: .long v :: st) := fun H locs ls hR hS hl => lv_ladd C0.exec C0.code hd (kk H locs ls hR hS hl)
theorem j_lsub (C0 : jOk x M E d mc ms) {v w : Int64} (hd : decode M.2.1 pc = .ok (.lsub, 1)) (kk : jJ x M E Q h sz ce sl lv (pc + 1) (.long (v - w) :: st)) : jJ x M E Q h sz ce sl lv pc (.long w :: .long v :: st) := fun H locs ls hR hS hl => lv_lsub C0.exec C0.code hd (kk H locs ls hR hS hl)
theorem j_lmul (C0 : jOk x M E d mc ms) {v w : Int64} (hd : decode M.2.1 pc = .ok (.lmul, 1)) (kk : jJ x M E Q h sz ce sl lv (pc + 1) (.long (v * w) :: st)) : jJ x M E Q h sz ce sl lv pc (.long w :: .long v :: st) := fun H locs ls hR hS hl => lv_lmul C0.exec C0.code hd (kk H locs ls hR hS hl)
theorem j_land (C0 : jOk x M E d mc ms) {v w : Int64} (hd : decode M.2.1 pc = .ok (.land, 1)) (kk : jJ x M E Q h sz ce sl lv (pc + 1) (.long (v &&& w) :: st)) : jJ x M E Q h sz ce sl lv pc (.long w :: .long v :: st) := fun H locs ls hR hS hl => lv_land C0.exec C0.code hd (kk H locs ls hR hS hl)
theorem j_lor (C0 : jOk x M E d mc ms) {v w : Int64} (hd : decode M.2.1 pc = .ok (.lor, 1)) (kk : jJ x M E Q h sz ce sl lv (pc + 1) (.long (v ||| w) :: st)) : jJ x M E Q h sz ce sl lv pc (.long w :: .long v :: st) := fun H locs ls hR hS hl => lv_lor C0.exec C0.code hd (kk H locs ls hR hS hl)
theorem j_lxor (C0 : jOk x M E d mc ms) {v w : Int64} (hd : decode M.2.1 pc = .ok (.lxor, 1)) (kk : jJ x M E Q h sz ce sl lv (pc + 1) (.long (v ^^^ w) :: st)) : jJ x M E Q h sz ce sl lv pc (.long w :: .long v :: st) := fun H locs ls hR hS hl => lv_lxor C0.exec C0.code hd (kk H locs ls hR hS hl)
theorem j_ineg (C0 : jOk x M E d mc ms) {v : Int32} (hd : decode M.2.1 pc = .ok (.ineg, 1)) (kk : jJ x M E Q h sz ce sl lv (pc + 1) (.int (-v) :: st)) : jJ x M E Q h sz ce sl lv pc (.int v :: st) := fun H locs ls hR hS hl => lv_ineg C0.exec C0.code hd (kk H locs ls hR hS hl)
theorem j_idiv (C0 : jOk x M E d mc ms) {v w : Int32} (hd : decode M.2.1 pc = .ok (.idiv, 1)) (hne : ¬ w = 0) (kk : jJ x M E Q h sz ce sl lv (pc + 1) (.int (v / w) :: st)) : jJ x M E Q h sz ce sl lv pc (.int w :: .int v :: st) := fun H locs ls hR hS hl => lv_idiv C0.exec C0.code hd hne (kk H locs ls hR hS hl)
theorem j_irem (C0 : jOk x M E d mc ms) {v w : Int32} (hd : decode M.2.1 pc = .ok (.irem, 1)) (hne : ¬ w = 0) (kk : jJ x M E Q h sz ce sl lv (pc + 1) (.int (v - v / w * w) :: st)) : jJ x M E Q h sz ce sl lv pc (.int w :: .int v :: st) := fun H locs ls hR hS hl => lv_irem C0.exec C0.code hd hne (kk H locs ls hR hS hl)
theorem j_ishl (C0 : jOk x M E d mc ms) {v w : Int32} (hd : decode M.2.1 pc = .ok (.ishl, 1)) (kk : jJ x M E Q h sz ce sl lv (pc + 1) (.int (v <<< (w &&& 31)) :: st)) : jJ x M E Q h sz ce sl lv pc (.int w :: .int v :: st) := fun H locs ls hR hS hl => lv_ishl C0.exec C0.code hd (kk H locs ls hR hS hl)
theorem j_ishr (C0 : jOk x M E d mc ms) {v w : Int32} (hd : decode M.2.1 pc = .ok (.ishr, 1)) (kk : jJ x M E Q h sz ce sl lv (pc + 1) (.int (v >>> (w &&& 31)) :: st)) : jJ x M E Q h sz ce sl lv pc (.int w :: .int v :: st) := fun H locs ls hR hS hl => lv_ishr C0.exec C0.code hd (kk H locs ls hR hS hl)
theorem j_iushr (C0 : jOk x M E d mc ms) {v w u : Int32} (hd : decode M.2.1 pc = .ok (.iushr, 1)) (hv : (v.toUInt32 >>> (w.toUInt32 &&& Int32.toUInt32 31)).toInt32 = u) (kk : jJ x M E Q h sz ce sl lv (pc + 1) (.int u :: st)) : jJ x M E Q h sz ce sl lv pc (.int w :: .int v :: st) := fun H locs ls hR hS hl => lv_iushr C0.exec C0.code hd hv (kk H locs ls hR hS hl)
theorem j_lshl (C0 : jOk x M E d mc ms) {v u : Int64} {w : Int32} (hd : decode M.2.1 pc = .ok (.lshl, 1)) (hv : v <<< (w.toInt64 &&& 63) = u) (kk : jJ x M E Q h sz ce sl lv (pc + 1) (.long u :: st)) : jJ x M E Q h sz ce sl lv pc (.int w :: .long v :: st) := fun H locs ls hR hS hl => lv_lshl C0.exec C0.code hd hv (kk H locs ls hR hS hl)
theorem j_lshr (C0 : jOk x M E d mc ms) {v u : Int64} {w : Int32} (hd : decode M.2.1 pc = .ok (.lshr, 1)) (hv : v >>> (w.toInt64 &&& 63) = u) (kk : jJ x M E Q h sz ce sl lv (pc + 1) (.long u :: st)) : jJ x M E Q h sz ce sl lv pc (.int w :: .long v :: st) := fun H locs ls hR hS hl => lv_lshr C0.exec C0.code hd hv (kk H locs ls hR hS hl)
theorem j_lushr (C0 : jOk x M E d mc ms) {v u : Int64} {w : Int32} (hd : decode M.2.1 pc = .ok (.lushr, 1)) (hv : (v.toUInt64 >>> (w.toInt64.toUInt64 &&& Int64.toUInt64 63)).toInt64 = u) (kk : jJ x M E Q h sz ce sl lv (pc + 1) (.long u :: st)) : jJ x M E Q h sz ce sl lv pc (.int w :: .long v :: st) := fun H locs ls hR hS hl => lv_lushr C0.exec C0.code hd hv (kk H locs ls hR hS hl)
theorem j_i2l (C0 : jOk x M E d mc ms) {v : Int32} {u : Int64} (hd : decode M.2.1 pc = .ok (.i2l, 1)) (hv : v.toInt64 = u) (kk : jJ x M E Q h sz ce sl lv (pc + 1) (.long u :: st)) : jJ x M E Q h sz ce sl lv pc (.int v :: st) := fun H locs ls hR hS hl => lv_i2l C0.exec C0.code hd hv (kk H locs ls hR hS hl)
theorem j_l2i (C0 : jOk x M E d mc ms) {v : Int64} {u : Int32} (hd : decode M.2.1 pc = .ok (.l2i, 1)) (hv : v.toInt32 = u) (kk : jJ x M E Q h sz ce sl lv (pc + 1) (.int u :: st)) : jJ x M E Q h sz ce sl lv pc (.long v :: st) := fun H locs ls hR hS hl => lv_l2i C0.exec C0.code hd hv (kk H locs ls hR hS hl)
theorem j_lcmp (C0 : jOk x M E d mc ms) {v w : Int64} (hd : decode M.2.1 pc = .ok (.lcmp, 1)) (kk : jJ x M E Q h sz ce sl lv (pc + 1) (.int (lg_cmp v w) :: st)) : jJ x M E Q h sz ce sl lv pc (.long w :: .long v :: st) := fun H locs ls hR hS hl => W.lcmp C0.exec C0.code hd (kk H locs ls hR hS hl)
theorem j_dup (C0 : jOk x M E d mc ms) {va : Value} (hd : decode M.2.1 pc = .ok (.dup, 1)) (ha : va.category = 1) (kk : jJ x M E Q h sz ce sl lv (pc + 1) (va :: va :: st)) : jJ x M E Q h sz ce sl lv pc (va :: st) := fun H locs ls hR hS hl => lv_dup C0.exec C0.code hd ha (kk H locs ls hR hS hl)
theorem j_pop (C0 : jOk x M E d mc ms) {va : Value} (hd : decode M.2.1 pc = .ok (.pop, 1)) (ha : va.category = 1) (kk : jJ x M E Q h sz ce sl lv (pc + 1) (st)) : jJ x M E Q h sz ce sl lv pc (va :: st) := fun H locs ls hR hS hl => lv_pop C0.exec C0.code hd ha (kk H locs ls hR hS hl)
theorem j_dup_x1 (C0 : jOk x M E d mc ms) {va vb : Value} (hd : decode M.2.1 pc = .ok (.dup_x1, 1)) (ha : va.category = 1) (hb : vb.category = 1) (kk : jJ x M E Q h sz ce sl lv (pc + 1) (va :: vb :: va :: st)) : jJ x M E Q h sz ce sl lv pc (va :: vb :: st) := fun H locs ls hR hS hl => lv_dup_x1 C0.exec C0.code hd ha hb (kk H locs ls hR hS hl)
theorem j_dup_x2 (C0 : jOk x M E d mc ms) {va vb vd : Value} (hd : decode M.2.1 pc = .ok (.dup_x2, 1)) (ha : va.category = 1) (hb : vb.category = 1) (hc : vd.category = 1) (kk : jJ x M E Q h sz ce sl lv (pc + 1) (va :: vb :: vd :: va :: st)) : jJ x M E Q h sz ce sl lv pc (va :: vb :: vd :: st) := fun H locs ls hR hS hl => lv_dup_x2 C0.exec C0.code hd ha hb hc (kk H locs ls hR hS hl)
theorem j_dup2_11 (C0 : jOk x M E d mc ms) {va vb : Value} (hd : decode M.2.1 pc = .ok (.dup2, 1)) (ha : va.category = 1) (hb : vb.category = 1) (kk : jJ x M E Q h sz ce sl lv (pc + 1) (va :: vb :: va :: vb :: st)) : jJ x M E Q h sz ce sl lv pc (va :: vb :: st) := fun H locs ls hR hS hl => lv_dup2_11 C0.exec C0.code hd ha hb (kk H locs ls hR hS hl)
theorem j_dup2_2 (C0 : jOk x M E d mc ms) {va : Value} (hd : decode M.2.1 pc = .ok (.dup2, 1)) (ha : va.category = 2) (kk : jJ x M E Q h sz ce sl lv (pc + 1) (va :: va :: st)) : jJ x M E Q h sz ce sl lv pc (va :: st) := fun H locs ls hR hS hl => lv_dup2_2 C0.exec C0.code hd ha (kk H locs ls hR hS hl)
theorem j_dup2_x1_2 (C0 : jOk x M E d mc ms) {va vb : Value} (hd : decode M.2.1 pc = .ok (.dup2_x1, 1)) (ha : va.category = 2) (hb : vb.category = 1) (kk : jJ x M E Q h sz ce sl lv (pc + 1) (va :: vb :: va :: st)) : jJ x M E Q h sz ce sl lv pc (va :: vb :: st) := fun H locs ls hR hS hl => lv_dup2_x1_2 C0.exec C0.code hd ha hb (kk H locs ls hR hS hl)
theorem j_dup2_x2_2 (C0 : jOk x M E d mc ms) {va vb vd : Value} (hd : decode M.2.1 pc = .ok (.dup2_x2, 1)) (ha : va.category = 2) (hb : vb.category = 1) (hc : vd.category = 1) (kk : jJ x M E Q h sz ce sl lv (pc + 1) (va :: vb :: vd :: va :: st)) : jJ x M E Q h sz ce sl lv pc (va :: vb :: vd :: st) := fun H locs ls hR hS hl => lv_dup2_x2_2 C0.exec C0.code hd ha hb hc (kk H locs ls hR hS hl)
theorem j_if_eq (C0 : jOk x M E d mc ms) {v : Int32} {off : Int} {tgt : Nat} (hd : decode M.2.1 pc = .ok (.ifCond .eq off, 3)) (ht : (pc : Int) + off = (tgt : Int)) (kt : v = 0 → jJ x M E Q h sz ce sl lv tgt st) (kf : ¬ v = 0 → jJ x M E Q h sz ce sl lv (pc + 3) st) : jJ x M E Q h sz ce sl lv pc (.int v :: st) := fun H locs ls hR hS hl => lv_if_eq C0.exec C0.code hd ht (fun hc => kt hc H locs ls hR hS hl) (fun hc => kf hc H locs ls hR hS hl)
theorem j_icmp_eq (C0 : jOk x M E d mc ms) {v w : Int32} {off : Int} {tgt : Nat} (hd : decode M.2.1 pc = .ok (.if_icmp .eq off, 3)) (ht : (pc : Int) + off = (tgt : Int)) (kt : v = w → jJ x M E Q h sz ce sl lv tgt st) (kf : ¬ v = w → jJ x M E Q h sz ce sl lv (pc + 3) st) : jJ x M E Q h sz ce sl lv pc (.int w :: .int v :: st) := fun H locs ls hR hS hl => lv_icmp_eq C0.exec C0.code hd ht (fun hc => kt hc H locs ls hR hS hl) (fun hc => kf hc H locs ls hR hS hl)
theorem j_if_ne (C0 : jOk x M E d mc ms) {v : Int32} {off : Int} {tgt : Nat} (hd : decode M.2.1 pc = .ok (.ifCond .ne off, 3)) (ht : (pc : Int) + off = (tgt : Int)) (kt : ¬ v = 0 → jJ x M E Q h sz ce sl lv tgt st) (kf : v = 0 → jJ x M E Q h sz ce sl lv (pc + 3) st) : jJ x M E Q h sz ce sl lv pc (.int v :: st) := fun H locs ls hR hS hl => lv_if_ne C0.exec C0.code hd ht (fun hc => kt hc H locs ls hR hS hl) (fun hc => kf hc H locs ls hR hS hl)
theorem j_icmp_ne (C0 : jOk x M E d mc ms) {v w : Int32} {off : Int} {tgt : Nat} (hd : decode M.2.1 pc = .ok (.if_icmp .ne off, 3)) (ht : (pc : Int) + off = (tgt : Int)) (kt : ¬ v = w → jJ x M E Q h sz ce sl lv tgt st) (kf : v = w → jJ x M E Q h sz ce sl lv (pc + 3) st) : jJ x M E Q h sz ce sl lv pc (.int w :: .int v :: st) := fun H locs ls hR hS hl => lv_icmp_ne C0.exec C0.code hd ht (fun hc => kt hc H locs ls hR hS hl) (fun hc => kf hc H locs ls hR hS hl)
theorem j_if_lt (C0 : jOk x M E d mc ms) {v : Int32} {off : Int} {tgt : Nat} (hd : decode M.2.1 pc = .ok (.ifCond .lt off, 3)) (ht : (pc : Int) + off = (tgt : Int)) (kt : v < 0 → jJ x M E Q h sz ce sl lv tgt st) (kf : ¬ v < 0 → jJ x M E Q h sz ce sl lv (pc + 3) st) : jJ x M E Q h sz ce sl lv pc (.int v :: st) := fun H locs ls hR hS hl => lv_if_lt C0.exec C0.code hd ht (fun hc => kt hc H locs ls hR hS hl) (fun hc => kf hc H locs ls hR hS hl)
theorem j_icmp_lt (C0 : jOk x M E d mc ms) {v w : Int32} {off : Int} {tgt : Nat} (hd : decode M.2.1 pc = .ok (.if_icmp .lt off, 3)) (ht : (pc : Int) + off = (tgt : Int)) (kt : v < w → jJ x M E Q h sz ce sl lv tgt st) (kf : ¬ v < w → jJ x M E Q h sz ce sl lv (pc + 3) st) : jJ x M E Q h sz ce sl lv pc (.int w :: .int v :: st) := fun H locs ls hR hS hl => lv_icmp_lt C0.exec C0.code hd ht (fun hc => kt hc H locs ls hR hS hl) (fun hc => kf hc H locs ls hR hS hl)
theorem j_if_ge (C0 : jOk x M E d mc ms) {v : Int32} {off : Int} {tgt : Nat} (hd : decode M.2.1 pc = .ok (.ifCond .ge off, 3)) (ht : (pc : Int) + off = (tgt : Int)) (kt : 0 ≤ v → jJ x M E Q h sz ce sl lv tgt st) (kf : ¬ 0 ≤ v → jJ x M E Q h sz ce sl lv (pc + 3) st) : jJ x M E Q h sz ce sl lv pc (.int v :: st) := fun H locs ls hR hS hl => lv_if_ge C0.exec C0.code hd ht (fun hc => kt hc H locs ls hR hS hl) (fun hc => kf hc H locs ls hR hS hl)
theorem j_icmp_ge (C0 : jOk x M E d mc ms) {v w : Int32} {off : Int} {tgt : Nat} (hd : decode M.2.1 pc = .ok (.if_icmp .ge off, 3)) (ht : (pc : Int) + off = (tgt : Int)) (kt : w ≤ v → jJ x M E Q h sz ce sl lv tgt st) (kf : ¬ w ≤ v → jJ x M E Q h sz ce sl lv (pc + 3) st) : jJ x M E Q h sz ce sl lv pc (.int w :: .int v :: st) := fun H locs ls hR hS hl => lv_icmp_ge C0.exec C0.code hd ht (fun hc => kt hc H locs ls hR hS hl) (fun hc => kf hc H locs ls hR hS hl)
theorem j_if_gt (C0 : jOk x M E d mc ms) {v : Int32} {off : Int} {tgt : Nat} (hd : decode M.2.1 pc = .ok (.ifCond .gt off, 3)) (ht : (pc : Int) + off = (tgt : Int)) (kt : 0 < v → jJ x M E Q h sz ce sl lv tgt st) (kf : ¬ 0 < v → jJ x M E Q h sz ce sl lv (pc + 3) st) : jJ x M E Q h sz ce sl lv pc (.int v :: st) := fun H locs ls hR hS hl => lv_if_gt C0.exec C0.code hd ht (fun hc => kt hc H locs ls hR hS hl) (fun hc => kf hc H locs ls hR hS hl)
theorem j_icmp_gt (C0 : jOk x M E d mc ms) {v w : Int32} {off : Int} {tgt : Nat} (hd : decode M.2.1 pc = .ok (.if_icmp .gt off, 3)) (ht : (pc : Int) + off = (tgt : Int)) (kt : w < v → jJ x M E Q h sz ce sl lv tgt st) (kf : ¬ w < v → jJ x M E Q h sz ce sl lv (pc + 3) st) : jJ x M E Q h sz ce sl lv pc (.int w :: .int v :: st) := fun H locs ls hR hS hl => lv_icmp_gt C0.exec C0.code hd ht (fun hc => kt hc H locs ls hR hS hl) (fun hc => kf hc H locs ls hR hS hl)
theorem j_if_le (C0 : jOk x M E d mc ms) {v : Int32} {off : Int} {tgt : Nat} (hd : decode M.2.1 pc = .ok (.ifCond .le off, 3)) (ht : (pc : Int) + off = (tgt : Int)) (kt : v ≤ 0 → jJ x M E Q h sz ce sl lv tgt st) (kf : ¬ v ≤ 0 → jJ x M E Q h sz ce sl lv (pc + 3) st) : jJ x M E Q h sz ce sl lv pc (.int v :: st) := fun H locs ls hR hS hl => lv_if_le C0.exec C0.code hd ht (fun hc => kt hc H locs ls hR hS hl) (fun hc => kf hc H locs ls hR hS hl)
theorem j_icmp_le (C0 : jOk x M E d mc ms) {v w : Int32} {off : Int} {tgt : Nat} (hd : decode M.2.1 pc = .ok (.if_icmp .le off, 3)) (ht : (pc : Int) + off = (tgt : Int)) (kt : v ≤ w → jJ x M E Q h sz ce sl lv tgt st) (kf : ¬ v ≤ w → jJ x M E Q h sz ce sl lv (pc + 3) st) : jJ x M E Q h sz ce sl lv pc (.int w :: .int v :: st) := fun H locs ls hR hS hl => lv_icmp_le C0.exec C0.code hd ht (fun hc => kt hc H locs ls hR hS hl) (fun hc => kf hc H locs ls hR hS hl)
theorem j_goto (C0 : jOk x M E d mc ms) {off : Int} {tgt : Nat} (hd : decode M.2.1 pc = .ok (.goto off, 3)) (ht : (pc : Int) + off = (tgt : Int)) (kk : jJ x M E Q h sz ce sl lv tgt st) : jJ x M E Q h sz ce sl lv pc st := fun H locs ls hR hS hl => lv_goto C0.exec C0.code hd ht (kk H locs ls hR hS hl)
theorem j_tableOut (C0 : jOk x M E d mc ms) {dflt lo hi : Int} {offs : Array Int} {len : Nat} {v : Int32} {tgt : Nat} (hd : decode M.2.1 pc = .ok (.tableswitch dflt lo hi offs, len)) (hv : v.toInt < lo ∨ hi < v.toInt) (ht : (pc : Int) + dflt = (tgt : Int)) (kk : jJ x M E Q h sz ce sl lv tgt st) : jJ x M E Q h sz ce sl lv pc (.int v :: st) := fun H locs ls hR hS hl => lv_tableOut C0.exec C0.code hd hv ht (kk H locs ls hR hS hl)
theorem j_tableIn (C0 : jOk x M E d mc ms) {dflt lo hi : Int} {offs : Array Int} {len : Nat} {v : Int32} {off : Int} {tgt : Nat} (hd : decode M.2.1 pc = .ok (.tableswitch dflt lo hi offs, len)) (h1 : ¬ v.toInt < lo) (h2 : ¬ hi < v.toInt) (ho : offs[(v.toInt - lo).toNat]? = some off) (ht : (pc : Int) + off = (tgt : Int)) (kk : jJ x M E Q h sz ce sl lv tgt st) : jJ x M E Q h sz ce sl lv pc (.int v :: st) := fun H locs ls hR hS hl => lv_tableIn C0.exec C0.code hd h1 h2 ho ht (kk H locs ls hR hS hl)
/-- field links: in class own, pool place idx means field k of class number ci -/
def jFL (own : String) (idx ci k : Nat) : Prop := ∃ (C : String) (T : u_T) (N : Nat), jCl[ci]? = some (C, T, N) ∧ k < N ∧ (∀ w ∈ u_ws C T N, w ∈ jTG) ∧ Cond.fieldLink own idx (T k).1 (T k).2.1 (T k).2.2.1 ∈ jTG
def jFP (own : String) (idx ci k : Nat) (ty : FieldType) (fin : Bool) : Prop := ∃ (C : String) (T : u_T) (N : Nat) (ty0 : Nat → FieldType), jCl[ci]? = some (C, T, N) ∧ k < N ∧ (∀ w ∈ u_ws C T N, w ∈ jTG) ∧ Cond.fieldLink own idx (T k).1 (T k).2.1 (T k).2.2.1 ∈ jTG ∧ (T k).2.2.2 = fin ∧ parseFieldDescriptor (T k).2.2.1 = some ty ∧ (∀ k, k < N → parseFieldDescriptor (T k).2.2.1 = some (ty0 k)) ∧ (∀ a, a < N → ∀ b, b < N → a ≠ b → (T a).2.1 ≠ (T b).2.1) ∧ (fin = true → (T k).1 = own)
theorem j_getf (C0 : jOk x M E d mc ms) {idx a ci k : Nat} {fs : List Value} {v : Value} (hd : decode M.2.1 pc = .ok (.getfield idx, 3)) (hf : jFL M.1.cls idx ci k) (ha : h a = some (.inr (ci, fs))) (hv : fs[k]? = some v) (kk : jJ x M E Q h sz ce sl lv (pc + 3) (v :: st)) : jJ x M E Q h sz ce sl lv pc (.ref a :: st) := by
  intro H locs ls hR hS hl
  obtain ⟨C, T, N, h1, h2, h3, h4⟩ := hf
  exact va_get C0.exec C0.code C0.ts h3 C0.own C0.K.1 (hR.one ha) 0 rfl h1 k h2 (C0.ts _ h4) (fun _ q => q) hv hd (kk H locs ls hR hS hl)
theorem j_putf (C0 : jOk x M E d mc ms) {idx a ci k : Nat} {fs : List Value} {ty : FieldType} {v : Value} (hd : decode M.2.1 pc = .ok (.putfield idx, 3)) (hf : jFP M.1.cls idx ci k ty false) (ha : h a = some (.inr (ci, fs))) (hlen : k < fs.length) (hn : narrow ty v = v) (hfit : fits ty v = true) (kk : jJ x M E Q (jset h a (.inr (ci, fs.set k v))) sz ce sl lv (pc + 3) st) : jJ x M E Q h sz ce sl lv pc (v :: .ref a :: st) := by
  intro H locs ls hR hS hl
  obtain ⟨C, T, N, ty0, hc, hk, hin1, hlk, hfin, hpd, hty, hnm, hdecl⟩ := hf
  have hts := C0.ts
  have hK := C0.K.1
  have hown := C0.own
  have hap := va_apart (own := M.1.cls) hts hin1 ty0 hty hnm hK hc
  obtain ⟨r, h1, cell, q1, q2, q3, q4⟩ := (hR.2 a _ ha).2
  have hr : r = (C, T, N) := Option.some.inj (h1.symm.trans hc)
  subst hr
  obtain ⟨hSl, hfc, kC, hkC, hkind⟩ := hK.1 ci _ hc
  obtain ⟨cf, kf, fi, f, hi, hsl⟩ := hSl k hk
  have hlay := hts _ (hin1 _ (u_in_lay hk))
  unfold u_lay at hlay
  have hst := (u_facts hfc hkC (u_lays hts hin1 hk) hi).1
  rw [if_neg (by rw [hfin]; decide)] at hlay
  have h6 := u_store hfc hkC hkind hlay hi hpd hn hfit
  refine W.putK C0.exec C0.code (f := f) ⟨hown, hts _ hlk, ⟨_, _, _, hi⟩, hst⟩ (by rw [q2]; exact h6) q1 q3 (by rw [hsl]; exact k2_hasslot (q4 k hk)) rfl rfl hd fun H' e1 e2 e3 => ?_
  rw [hsl] at e1 ⊢
  exact kk H' _ ls (hR.set ha ⟨_, hc, t_OB.to (V := updV (vp_V fs) k v) ⟨_, e1, q2, q3, t_set q4 hap hk v⟩ (fun j _ => vp_updV_set hlen v j)⟩ e2 e3) (hS.put e2 e3 (hR.2 a _ ha).1) hl
theorem j_putF (C0 : jOk x M E d mc ms) {idx a ci k : Nat} {fs : List Value} {ty : FieldType} {v : Value} (hd : decode M.2.1 pc = .ok (.putfield idx, 3)) (hf : jFP M.1.cls idx ci k ty true) (ha : h a = some (.inr (ci, fs))) (hlen : k < fs.length) (hn : narrow ty v = v) (hfit : fits ty v = true) (hin : M.1.name = "<init>") (kk : jJ x M E Q (jset h a (.inr (ci, fs.set k v))) sz ce sl lv (pc + 3) st) : jJ x M E Q h sz ce sl lv pc (v :: .ref a :: st) := by
  intro H locs ls hR hS hl
  obtain ⟨C, T, N, ty0, hc, hk, hin1, hlk, hfin, hpd, hty, hnm, hdecl⟩ := hf
  have hts := C0.ts
  have hK := C0.K.1
  have hown := C0.own
  have hap := va_apart (own := M.1.cls) hts hin1 ty0 hty hnm hK hc
  obtain ⟨r, h1, cell, q1, q2, q3, q4⟩ := (hR.2 a _ ha).2
  have hr : r = (C, T, N) := Option.some.inj (h1.symm.trans hc)
  subst hr
  obtain ⟨hSl, hfc, kC, hkC, hkind⟩ := hK.1 ci _ hc
  obtain ⟨cf, kf, fi, f, hi, hsl⟩ := hSl k hk
  have hlay := hts _ (hin1 _ (u_in_lay hk))
  unfold u_lay at hlay
  have hst := (u_facts hfc hkC (u_lays hts hin1 hk) hi).1
  rw [if_pos hfin] at hlay
  have hcf : (jxm x).cls = cf := by
    obtain ⟨_, _, c', _, _, _, -, -, hf', -, -, -, hown2, -⟩ := Cond.laysFinal_spec hlay
    have e1 : c' = cf := by have := hi.symm.trans hf'; simp at this; exact this.1.symm
    rw [hdecl rfl] at hown2
    rw [← e1]; exact Option.some.inj (hown.symm.trans hown2)
  have h6 := u_fits hfc hkC hkind (Or.inr hlay) hi hpd hn hfit
  refine W.putFinK C0.exec C0.code hown (hts _ hlk) hi hst hcf (C0.name.trans hin) (by rw [q2]; exact h6) q1 q3 (by rw [hsl]; exact k2_hasslot (q4 k hk)) rfl rfl hd fun H' e1 e2 e3 => ?_
  rw [hsl] at e1 ⊢
  exact kk H' _ ls (hR.set ha ⟨_, hc, t_OB.to (V := updV (vp_V fs) k v) ⟨_, e1, q2, q3, t_set q4 hap hk v⟩ (fun j _ => vp_updV_set hlen v j)⟩ e2 e3) (hS.put e2 e3 (hR.2 a _ ha).1) hl
theorem j_iald (C0 : jOk x M E d mc ms) {a n k : Nat} {f : Nat → Int32} {i : Int32} (hd : decode M.2.1 pc = .ok (.iaload, 1)) (ha : h a = some (jI E n f)) (hi : i = nI k) (hk : k < n) (hn : n < 2 ^ 31) (kk : jJ x M E Q h sz ce sl lv (pc + 1) (.int (f k) :: st)) : jJ x M E Q h sz ce sl lv pc (.int i :: .ref a :: st) := by
  intro H locs ls hR hS hl
  subst hi
  have hcl : (nI k).toNatClampNeg = k := nI_clamp (by omega)
  refine va_iald (i := nI k) C0.exec C0.code C0.K.1 (hR.one ha) 0 0 rfl rfl (vp_in_nI hk hn) hd ?_
  rw [hcl]
  exact kk H locs ls hR hS hl
theorem j_lald (C0 : jOk x M E d mc ms) {a n k : Nat} {f : Nat → Int64} {i : Int32} (hd : decode M.2.1 pc = .ok (.laload, 1)) (ha : h a = some (jL E n f)) (hi : i = nI k) (hk : k < n) (hn : n < 2 ^ 31) (kk : jJ x M E Q h sz ce sl lv (pc + 1) (.long (f k) :: st)) : jJ x M E Q h sz ce sl lv pc (.int i :: .ref a :: st) := by
  intro H locs ls hR hS hl
  subst hi
  have hcl : (nI k).toNatClampNeg = k := nI_clamp (by omega)
  refine va_lald (i := nI k) C0.exec C0.code C0.K.1 (hR.one ha) 0 1 rfl rfl (vp_in_nI hk hn) hd ?_
  rw [hcl]
  exact kk H locs ls hR hS hl
theorem j_iast (C0 : jOk x M E d mc ms) {a n k : Nat} {f : Nat → Int32} {i : Int32} {w : Int32} (hd : decode M.2.1 pc = .ok (.iastore, 1)) (ha : h a = some (jI E n f)) (hi : i = nI k) (hk : k < n) (hn : n < 2 ^ 31) (kk : jJ x M E Q (jset h a (jI E n (upd f k (w)))) sz ce sl lv (pc + 1) st) : jJ x M E Q h sz ce sl lv pc (.int w :: .int i :: .ref a :: st) := by
  intro H locs ls hR hS hl
  subst hi
  have hcl : (nI k).toNatClampNeg = k := nI_clamp (by omega)
  have hin := vp_in_nI hk hn
  refine W.iast C0.exec C0.code (hR.2 a _ ha).2 ((C0.K.1.2 0 _ rfl).1 n (fun j => .int (f j))) (fun q => by cases q) (by show ¬ (nI k < 0 ∨ (arrV _ _ _).slots.size ≤ _); rw [arrV_size]; exact hin) rfl rfl hd fun H1 e z oq => ?_
  refine kk H1 _ ls (hR.set ha ?_ z oq) (hS.put z oq (hR.2 a _ ha).1) hl
  show H1[a]? = some (vp_cell _ _)
  rw [e, hcl]
  rw [vp_cell_i, vp_cell_i, arrV_store]
  congr 2
  funext q
  by_cases hq : q = k
  · subst hq
    simp [updV, upd]
    try rfl
  · simp [updV, upd, hq]
theorem j_last (C0 : jOk x M E d mc ms) {a n k : Nat} {f : Nat → Int64} {i : Int32} {w : Int64} (hd : decode M.2.1 pc = .ok (.lastore, 1)) (ha : h a = some (jL E n f)) (hi : i = nI k) (hk : k < n) (hn : n < 2 ^ 31) (kk : jJ x M E Q (jset h a (jL E n (vp_updL f k (w)))) sz ce sl lv (pc + 1) st) : jJ x M E Q h sz ce sl lv pc (.long w :: .int i :: .ref a :: st) := by
  intro H locs ls hR hS hl
  subst hi
  have hcl : (nI k).toNatClampNeg = k := nI_clamp (by omega)
  have hin := vp_in_nI hk hn
  refine W.last C0.exec C0.code (hR.2 a _ ha).2 ((C0.K.1.2 1 _ rfl).1 n (fun j => .long (f j))) (fun q => by cases q) (by show ¬ (nI k < 0 ∨ (arrV _ _ _).slots.size ≤ _); rw [arrV_size]; exact hin) rfl rfl hd fun H1 e z oq => ?_
  refine kk H1 _ ls (hR.set ha ?_ z oq) (hS.put z oq (hR.2 a _ ha).1) hl
  show H1[a]? = some (vp_cell _ _)
  rw [e, hcl]
  rw [vp_cell_l, vp_cell_l, arrV_store]
  congr 2
  funext q
  by_cases hq : q = k
  · subst hq
    simp [updV, vp_updL]
    try rfl
  · simp [updV, vp_updL, hq]
theorem j_alen (C0 : jOk x M E d mc ms) {a t : Nat} {y : vp_A} {ty : FieldType} {v : Int32} (hd : decode M.2.1 pc = .ok (.arraylength, 1)) (ha : h a = some (.inl (E.2.1 t, y))) (ht : (jTys E.2.1)[t]? = some (E.2.1 t, ty)) (hv : Int32.ofNat y.1 = v) (kk : jJ x M E Q h sz ce sl lv (pc + 1) (.int v :: st)) : jJ x M E Q h sz ce sl lv pc (.ref a :: st) :=
  fun H locs ls hR hS hl => va_alen C0.exec C0.code C0.K.1 (hR.one ha) 0 t rfl ht hv hd (kk H locs ls hR hS hl)
theorem j_aald (C0 : jOk x M E d mc ms) {a t n k q : Nat} {C : String} {f : Nat → Option Nat} {i : Int32} (hd : decode M.2.1 pc = .ok (.aaload, 1)) (ha : h a = some (jQa E t n f)) (ht : (jTys E.2.1)[t]? = some (E.2.1 t, .object C)) (hi : i = nI k) (hk : k < n) (hn : n < 2 ^ 31) (hq : f k = some q) (kk : jJ x M E Q h sz ce sl lv (pc + 1) (.ref q :: st)) : jJ x M E Q h sz ce sl lv pc (.int i :: .ref a :: st) := by
  intro H locs ls hR hS hl
  subst hi
  have hcl : (nI k).toNatClampNeg = k := nI_clamp (by omega)
  refine va_aldq (i := nI k) C0.exec C0.code C0.K.1 (hR.one ha) 0 t rfl ht (vp_in_nI hk hn) hd ?_
  rw [hcl, hq]
  exact kk H locs ls hR hS hl
theorem j_aast (C0 : jOk x M E d mc ms) {a v t n k ci : Nat} {f : Nat → Option Nat} {vs : List Value} {r : vw_C} {i : Int32} (hd : decode M.2.1 pc = .ok (.aastore, 1)) (ha : h a = some (jQa E t n f)) (hv : h v = some (.inr (ci, vs))) (hc : jCl[ci]? = some r) (ht : (jTys E.2.1)[t]? = some (E.2.1 t, .object r.1)) (hi : i = nI k) (hk : k < n) (hn : n < 2 ^ 31) (kk : jJ x M E Q (jset h a (jQa E t n (va_up f k (some v)))) sz ce sl lv (pc + 1) st) : jJ x M E Q h sz ce sl lv pc (.ref v :: .int i :: .ref a :: st) := by
  intro H locs ls hR hS hl
  subst hi
  have hcl : (nI k).toNatClampNeg = k := nI_clamp (by omega)
  obtain ⟨r', hr', cellV, g1, g2, g3, -⟩ := (hR.2 v _ hv).2
  have hcls := (C0.K.1.1 ci r hc).2
  obtain ⟨kA, comp, k1, k2, k3, -⟩ := (C0.K.1.2 t _ ht).2
  have hcomp : comp = E.1.1 ci := Option.some.inj (k3.symm.trans hcls.1)
  subst hcomp
  obtain ⟨kC, hkC, -⟩ := hcls.2
  refine W.aast C0.exec C0.code (hR.2 a _ ha).2 (fun q h => by cases h) (fun h => by cases h) k1 k2 rfl hkC ⟨nI_pos (by omega), by rw [hcl]; show _ < (arrV _ _ _).slots.size; rw [arrV_size]; exact hk⟩ g1 (fun q h => by rw [g3] at h; cases h) (by rw [g2]; exact hkC) (by rw [g2]; exact va_assign hcls) rfl rfl hd fun H1 e z oq => ?_
  refine kk H1 _ ls (hR.set ha ?_ z oq) (hS.put z oq (hR.2 a _ ha).1) hl
  show H1[a]? = some (vp_cell _ _)
  rw [e, hcl]
  rw [vp_cell_q, vp_cell_q, arrV_store]
  congr 2
  funext q
  by_cases hq : q = k
  · subst hq
    simp [updV, va_up, va_rf]
  · simp [updV, va_up, hq]
theorem j_newi (C0 : jOk x M E d mc ms) {n : Int32} {N : Nat} (hd : decode M.2.1 pc = .ok (.newarray .int, 2)) (hw : Cond.arrayClass .int ∈ jTG) (hn : n = nI N) (hN : N < 1000000) (hce : ce + 1 ≤ mc) (hsl : sl + N ≤ ms) (kk : jJ x M E Q (jset h sz (jI E N (fun _ => 0))) (sz + 1) (ce + 1) (sl + N) lv (pc + 2) (.ref sz :: st)) : jJ x M E Q h sz ce sl lv pc (.int n :: st) := by
  intro H locs ls hR hS hl
  subst hn
  have hsz : H.size = sz := hR.1
  have hB : E.2.2 ≤ sz := by rw [← hsz]; exact Nat.le_trans C0.base hS.1
  refine va_newaK (atype := .int) C0.exec C0.code (C0.ts _ hw) rfl hd rfl (nI_pos (by omega)) (nI_clamp (by omega)) (by show N * 4 ≤ _; omega) (Nat.le_trans hce C0.room.2.2.1) (Nat.le_trans hsl C0.room.2.2.2) hsz fun H1 cA e1 z1 o1 _ hNm => ?_
  have hcA : cA = E.2.1 0 := Option.some.inj (hNm.symm.trans (C0.K.1.2 0 _ rfl).2)
  subst hcA
  exact kk H1 locs ls (hR.push hB e1 z1 (fun q hq => o1 q hq)) ⟨by rw [z1]; exact Nat.le_trans hS.1 (by rw [hsz]; omega), fun q g1 g2 => (o1 q (by rw [← hsz]; exact Nat.lt_of_lt_of_le g1 hS.1)).trans (hS.2.1 q g1 g2), hS.2.2⟩ hl
theorem j_newl (C0 : jOk x M E d mc ms) {n : Int32} {N : Nat} (hd : decode M.2.1 pc = .ok (.newarray .long, 2)) (hw : Cond.arrayClass .long ∈ jTG) (hn : n = nI N) (hN : N < 1000000) (hce : ce + 1 ≤ mc) (hsl : sl + N ≤ ms) (kk : jJ x M E Q (jset h sz (jL E N (fun _ => 0))) (sz + 1) (ce + 1) (sl + N) lv (pc + 2) (.ref sz :: st)) : jJ x M E Q h sz ce sl lv pc (.int n :: st) := by
  intro H locs ls hR hS hl
  subst hn
  have hsz : H.size = sz := hR.1
  have hB : E.2.2 ≤ sz := by rw [← hsz]; exact Nat.le_trans C0.base hS.1
  refine va_newaK (atype := .long) C0.exec C0.code (C0.ts _ hw) rfl hd rfl (nI_pos (by omega)) (nI_clamp (by omega)) (by show N * 8 ≤ _; omega) (Nat.le_trans hce C0.room.2.2.1) (Nat.le_trans hsl C0.room.2.2.2) hsz fun H1 cA e1 z1 o1 _ hNm => ?_
  have hcA : cA = E.2.1 1 := Option.some.inj (hNm.symm.trans (C0.K.1.2 1 _ rfl).2)
  subst hcA
  exact kk H1 locs ls (hR.push hB e1 z1 (fun q hq => o1 q hq)) ⟨by rw [z1]; exact Nat.le_trans hS.1 (by rw [hsz]; omega), fun q g1 g2 => (o1 q (by rw [← hsz]; exact Nat.lt_of_lt_of_le g1 hS.1)).trans (hS.2.1 q g1 g2), hS.2.2⟩ hl
theorem j_newq (C0 : jOk x M E d mc ms) {idx t N : Nat} {n : Int32} {C : String} (hd : decode M.2.1 pc = .ok (.anewarray idx, 3)) (hw : Cond.classLink M.1.cls idx C ∈ jTG) (ho : C ∈ jAO) (ht : (jTys E.2.1)[t]? = some (E.2.1 t, .object C)) (hn : n = nI N) (hN : N < 1000000) (hce : ce + 1 ≤ mc) (hsl : sl + N ≤ ms) (kk : jJ x M E Q (jset h sz (jQa E t N (fun _ => none))) (sz + 1) (ce + 1) (sl + N) lv (pc + 3) (.ref sz :: st)) : jJ x M E Q h sz ce sl lv pc (.int n :: st) := by
  intro H locs ls hR hS hl
  subst hn
  have hsz : H.size = sz := hR.1
  have hB : E.2.2 ≤ sz := by rw [← hsz]; exact Nat.le_trans C0.base hS.1
  have hcl : (nI N).toNatClampNeg = N := nI_clamp (by omega)
  refine W.anew C0.exec C0.code C0.own (C0.ts _ hw) (va_AO.use (C0.K.2.2 C ho)) rfl hd rfl (nI_pos (by omega)) (by rw [hcl]; omega) (Nat.le_trans hce C0.room.2.2.1) (by rw [hcl]; exact Nat.le_trans hsl C0.room.2.2.2) fun cA kA comp f1 f2 f3 f4 => ?_
  rw [hcl, hsz]
  obtain ⟨kA', comp', _, _, _, g4⟩ := (C0.K.1.2 t _ ht).2
  have hcA : cA = E.2.1 t := Option.some.inj (f1.symm.trans g4)
  subst hcA
  generalize hH1 : H.push ({ cls := E.2.1 t, slots := Array.replicate N .null, vm := .none } : Cell) = H1
  have z1 : H1.size = sz + 1 := by rw [← hH1, Array.size_push, hsz]
  have e1 : H1[sz]? = some (arrV (E.2.1 t) N (fun _ => .null)) := by rw [← hH1, ← hsz, Array.getElem?_push_size, ← arrV_new]
  have o1 : ∀ q : Nat, q < sz → H1[q]? = H[q]? := fun q hq => by rw [← hH1, Array.getElem?_push, if_neg (by rw [hsz]; exact Nat.ne_of_lt hq)]
  exact kk H1 locs ls (hR.push hB e1 z1 o1) ⟨by rw [z1]; exact Nat.le_trans hS.1 (by rw [hsz]; omega), fun q g1 g2 => (o1 q (by rw [← hsz]; exact Nat.lt_of_lt_of_le g1 hS.1)).trans (hS.2.1 q g1 g2), hS.2.2⟩ hl
def jNW (own : String) (idx ci N : Nat) (fs : List Value) : Prop := ∃ (C : String) (T : u_T) (ty : Nat → FieldType), jCl[ci]? = some (C, T, N) ∧ (∀ w ∈ u_ws C T N, w ∈ jTG) ∧ (∀ k, k < N → parseFieldDescriptor (T k).2.2.1 = some (ty k)) ∧ Cond.classLink own idx C ∈ jTG ∧ Cond.instantiable C N ∈ jTG ∧ Cond.initialized C ∈ jTG ∧ ∀ j, j < N → defaultValue (ty j) = vp_V fs j
theorem j_new (C0 : jOk x M E d mc ms) {idx ci N : Nat} {fs : List Value} (hd : decode M.2.1 pc = .ok (.new idx, 3)) (hf : jNW M.1.cls idx ci N fs) (hce : ce + 1 ≤ mc) (hsl : sl + N ≤ ms) (kk : jJ x M E Q (jset h sz (.inr (ci, fs))) (sz + 1) (ce + 1) (sl + N) lv (pc + 3) (.ref sz :: st)) : jJ x M E Q h sz ce sl lv pc st := by
  intro H locs ls hR hS hl
  obtain ⟨C, T, ty, hc, hin, hty, w1, w2, w3, hfs⟩ := hf
  have hsz : H.size = sz := hR.1
  have hB : E.2.2 ≤ sz := by rw [← hsz]; exact Nat.le_trans C0.base hS.1
  have hKn := C0.K.1.1 ci _ hc
  refine W.newcK C0.exec C0.code C0.own (C0.ts _ w1) (C0.ts _ w2) (C0.ts _ w3) rfl hd (Nat.le_trans hce C0.room.2.2.1) (Nat.le_trans hsl C0.room.2.2.2) hKn.2.1 hsz fun H1 kC hkC e1 z1 o1 => ?_
  exact kk H1 locs ls (hR.push hB ⟨_, hc, (u_born ty C0.ts hin hKn hkC e1 hty).to hfs⟩ z1 o1) ⟨by rw [z1]; exact Nat.le_trans hS.1 (by rw [hsz]; omega), fun q g1 g2 => (o1 q (by rw [← hsz]; exact Nat.lt_of_lt_of_le g1 hS.1)).trans (hS.2.1 q g1 g2), hS.2.2⟩ hl
theorem j_obj (C0 : jOk x M E d mc ms) {idx a : Nat} (hd : decode M.2.1 pc = .ok (.invokespecial idx, 3)) (w1 : Cond.methodLink M.1.cls idx Lib.objectInit ∈ jTG) (w2 : Cond.instanceMethod Lib.objectInit ∈ jTG) (w3 : Cond.code Lib.objectInit ⟨#[0xb1]⟩ 1 none ∈ jTG) (hdd : 1 ≤ d) (hst : (st.map fun v => v.category).sum ≤ 8) (kk : jJ x M E Q h sz ce sl lv (pc + 3) st) : jJ x M E Q h sz ce sl lv pc (.ref a :: st) := by
  intro H locs ls hR hS hl
  exact W.objInit C0.exec C0.code C0.own (C0.ts _ w1) (C0.ts _ w2) (C0.ts _ w3) rfl (by rw [C0.maxl]; exact hl.1) rfl hd (Nat.le_trans hdd C0.room.1) (by have := C0.room.2.1; show 2 * 0 + _ + 12 ≤ _; omega) (kk H locs ls hR hS hl)
/-- what a method's end says, and its contract -/
def jQc (E : jE) (Post : Option Value → jH → Nat → Prop) : Array Value → State → Outcome → State → Prop := fun _ st0 oc t => (∃ (r : Option Value) (h1 : jH), oc = .returned r ∧ Post r h1 t.heap.size ∧ jR E h1 t.heap.size t.heap) ∧ va_F (fun q => E.2.2 ≤ q) st0 t
abbrev jQ (x : jX) (E : jE) (mc ms : Nat) (Post : Option Value → jH → Nat → Prop) : State → Prop := MQ (jxb x) (jQc E Post) (jxa x) (jxs x) mc ms (fun q => E.2.2 ≤ q)
def jC (l : Launch) (M : jM) (d : Nat) (E : jE) (vs : List Value) (h : jH) (sz mc ms : Nat) (Post : Option Value → jH → Nat → Prop) : Prop :=
  Met l M.1 (.code M.1 M.2.1 M.2.2.1 M.2.2.2 :: jTG) { frames := d, cells := mc, slots := ms, locals := 40 * d } (va_Pc vs (fun U => jR E h sz U.heap ∧ jK E U ∧ E.2.2 ≤ sz)) (jQc E Post) mc ms (fun q => E.2.2 ≤ q)
theorem jC.of {l : Launch} {vs : List Value} {Post : Option Value → jH → Nat → Prop} (hy : plainName M.1.cls = true) (hn : (lg_sl vs).length ≤ M.2.2.1) (body : ∀ x : jX, jOk x M E d mc ms → x.2.1 = l → jJ x M E (jQ x E mc ms Post) h sz 0 0 (lv_args 0 vs) 0 []) : jC l M d E vs h sz mc ms Post := by
  refine Met.ofW (cc := M.2.1) (maxL := M.2.2.1) (ret := M.2.2.2) hy rfl ?_
  intro p e s m args below meth c s₁ B hml hv
  obtain ⟨rfl, hR, hK, hB⟩ := hv
  rw [lg_entry_eq]
  have hts := atoms_spec (ws := .code M.1 M.2.1 M.2.2.1 M.2.2.2 :: jTG) B.pre
  exact body (p, l, e, { frames := d, cells := mc, slots := ms, locals := 40 * d }, s, m, vs.toArray, below, meth, c)
    ⟨B.exec, B.bytes, hml, findClass_of_methodNamed B.named, fun w hw => hts w (List.mem_cons_of_mem _ hw), hK, ⟨Nat.le_refl _, Nat.le_refl _, Nat.le_refl _, Nat.le_refl _⟩, B.returns, B.notSynchronized, by rw [← hR.1] at hB; exact hB, (name_of_methodNamed B.named B.method).1⟩ rfl
    s.heap [] _ hR va_S.rf (lv_entry vs hn)
variable {Post : Option Value → jH → Nat → Prop}
theorem j_iret (C0 : jOk x M E d mc ms) {v : Int32} (hd : decode M.2.1 pc = .ok (.ireturn, 1)) (hr : M.2.2.2 = some .int) (hc : ce ≤ mc) (hs : sl ≤ ms) (hp : Post (some (.int v)) h sz) : jJ x M E (jQ x E mc ms Post) h sz ce sl lv pc [.int v] := by
  intro H locs ls hR hS hl
  refine W.widen hc hs ?_
  exact W.iret C0.exec C0.code (C0.ret.trans hr) (fun t ht _ => ⟨⟨_, h, rfl, by rw [ht, hR.1]; exact hp, by rw [ht]; exact ⟨rfl, hR.2⟩⟩, hS.F ht⟩) hS.2.2 hd C0.locks
theorem j_zret (C0 : jOk x M E d mc ms) {v : Int32} (hd : decode M.2.1 pc = .ok (.ireturn, 1)) (hr : M.2.2.2 = some .boolean) (hn : narrow .boolean (.int v) = .int v) (hc : ce ≤ mc) (hs : sl ≤ ms) (hp : Post (some (.int v)) h sz) : jJ x M E (jQ x E mc ms Post) h sz ce sl lv pc [.int v] := by
  intro H locs ls hR hS hl
  refine W.widen hc hs ?_
  exact W.zret C0.exec C0.code (C0.ret.trans hr) hn (fun t ht _ => ⟨⟨_, h, rfl, by rw [ht, hR.1]; exact hp, by rw [ht]; exact ⟨rfl, hR.2⟩⟩, hS.F ht⟩) hS.2.2 hd C0.locks
theorem j_lret (C0 : jOk x M E d mc ms) {v : Int64} (hd : decode M.2.1 pc = .ok (.lreturn, 1)) (hr : M.2.2.2 = some .long) (hc : ce ≤ mc) (hs : sl ≤ ms) (hp : Post (some (.long v)) h sz) : jJ x M E (jQ x E mc ms Post) h sz ce sl lv pc [.long v] := by
  intro H locs ls hR hS hl
  refine W.widen hc hs ?_
  exact W.lret C0.exec C0.code (C0.ret.trans hr) (fun t ht _ => ⟨⟨_, h, rfl, by rw [ht, hR.1]; exact hp, by rw [ht]; exact ⟨rfl, hR.2⟩⟩, hS.F ht⟩) hS.2.2 hd C0.locks
theorem j_aret (C0 : jOk x M E d mc ms) {a : Nat} {C : String} (hd : decode M.2.1 pc = .ok (.areturn, 1)) (hr : M.2.2.2 = some (.object C)) (hc : ce ≤ mc) (hs : sl ≤ ms) (hp : Post (some (.ref a)) h sz) : jJ x M E (jQ x E mc ms Post) h sz ce sl lv pc [.ref a] := by
  intro H locs ls hR hS hl
  refine W.widen hc hs ?_
  exact W.aret C0.exec C0.code (C0.ret.trans hr) (Or.inl ⟨C, rfl⟩) (Or.inr ⟨a, rfl⟩) (fun t ht _ => ⟨⟨_, h, rfl, by rw [ht, hR.1]; exact hp, by rw [ht]; exact ⟨rfl, hR.2⟩⟩, hS.F ht⟩) hS.2.2 hd C0.locks
theorem j_vret (C0 : jOk x M E d mc ms) (hd : decode M.2.1 pc = .ok (.return_, 1)) (hr : M.2.2.2 = none) (hc : ce ≤ mc) (hs : sl ≤ ms) (hp : Post none h sz) : jJ x M E (jQ x E mc ms Post) h sz ce sl lv pc [] := by
  intro H locs ls hR hS hl
  refine W.widen hc hs ?_
  exact W.vret C0.exec C0.code (C0.ret.trans hr) (fun t ht _ => ⟨⟨_, h, rfl, by rw [ht, hR.1]; exact hp, by rw [ht]; exact ⟨rfl, hR.2⟩⟩, hS.F ht⟩) hS.2.2 hd C0.locks
/-- behind a call -/
theorem j_run {a : Array Value} {mc' ms' : Nat} {H : Heap} {locs : List Loc} {ls : Array Slot} {stk : List Value} (hr : va_Run x.1 x.2.1 x.2.2.1 (jxR x) (jxs x) (jxm x) (jxa x) (jxb x) (jxe x) (jxc x) H locs ce sl mc' ms' (F0 (jxm x) pc ls stk) st (jQc E Post a) (fun q => E.2.2 ≤ q)) (hS : va_S (fun q => E.2.2 ≤ q) (jxs x).heap H locs) (hl : lv_has ls M.2.2.1 lv)
    (kk : ∀ (r : Option Value) (h' : jH) (sz' : Nat), Post r h' sz' → jJ x M E Q h' sz' (ce + mc') (sl + ms') lv (pc + 3) (r.toList ++ st)) : jW x H locs ce sl Q (F0 (jxm x) pc ls stk) := by
  intro T hT X
  obtain ⟨v, st₀, t, T', L, h0, X', hL, e1, e2, ⟨⟨r, h', hv, hp, hR'⟩, hz, hk⟩, hst⟩ := hr T hT X
  cases hv
  rw [h0] at hz hk
  obtain ⟨t2, a1, b1⟩ := kk v h' t.heap.size hp T'.heap (locs ++ L) ls (by rw [e1]; exact hR') ⟨Nat.le_trans hS.1 (by rw [e1]; exact hz), fun q g1 g2 => by rw [e1, hk q (Nat.lt_of_lt_of_le g1 hS.1) g2]; exact hS.2.1 q g1 g2, fun q hq => by
      rcases List.mem_append.mp hq with h | h
      · exact hS.2.2 q h
      · exact hL q h⟩ hl T' rfl X'
  exact ⟨t2, hst t2 a1, b1⟩
theorem jBlind {E : jE} {h : jH} {sz : Nat} {vs : List Value} : FrameBlind (va_Pc vs (fun U => jR E h sz U.heap ∧ jK E U ∧ E.2.2 ≤ sz)) :=
  fun _ _ _ _ q => ⟨q.1, q.2.1, jK.same rfl q.2.2.1, q.2.2.2⟩
theorem jTG_in (own : String) (w : Cond) (hw : w ∈ jTG) : w ∈ jTG ∧ ((w.onTables && w.keeps) = true ∨ ∃ ty, w = .arrayClass ty) := ⟨hw, good_of_word (jTG_good w hw)⟩
theorem jGood {M : jM} (hc : Cond.code M.1 M.2.1 M.2.2.1 M.2.2.2 ∈ jTG) : GoodIn jTG (.code M.1 M.2.1 M.2.2.1 M.2.2.2 :: jTG) := by
  intro w hw
  rcases List.mem_cons.mp hw with e | e
  · subst e; exact jTG_in "" _ hc
  · exact jTG_in "" _ e
/-- call links -/
def jCL (own : String) (idx : Nat) (M : jM) (n : Nat) : Prop := Cond.methodLink own idx M.1 ∈ jTG ∧ Cond.initialized M.1.cls ∈ jTG ∧ Cond.code M.1 M.2.1 M.2.2.1 M.2.2.2 ∈ jTG ∧ (M.1.cls ≠ "java/lang/invoke/MethodHandle" ∧ M.1.cls ≠ "java/lang/invoke/VarHandle" ∧ (parseMethodDescriptor M.1.desc).map (fun d => d.parameters.length) = some n)
def jCN (own : String) (idx : Nat) (M : jM) (host : String) (n : Nat) : Prop := (own, idx, M.1, host) ∈ jNM ∧ Cond.initialized M.1.cls ∈ jTG ∧ Cond.code M.1 M.2.1 M.2.2.1 M.2.2.2 ∈ jTG ∧ (M.1.cls ≠ "java/lang/invoke/MethodHandle" ∧ M.1.cls ≠ "java/lang/invoke/VarHandle" ∧ (parseMethodDescriptor M.1.desc).map (fun d => d.parameters.length) = some n)
theorem j_callV (C0 : jOk x M E d mc ms) {idx n : Nat} {Mc : jM} {d' mc' ms' : Nat} {b ci N : Nat} {T : u_T} {fs As stk : List Value} (hd : decode M.2.1 pc = .ok (.invokevirtual idx, 3)) (hcl : jCL M.1.cls idx Mc n) (hv : Cond.instanceMethod Mc.1 ∈ jTG ∧ Cond.selects Mc.1.cls Mc.1 Mc.1 ∈ jTG) (ct : jC x.2.1 Mc d' E (.ref b :: As) h sz mc' ms' Post) (hobj : h b = some (.inr (ci, fs))) (hC : jCl[ci]? = some (Mc.1.cls, T, N)) (hAs : As.length = n) (hstk : stk = As.reverse ++ .ref b :: st) (hR : d' + 1 ≤ d ∧ 8 + (Mc.2.2.1 + 11) + 40 * d' ≤ 40 * d) (hf : ce + mc' ≤ mc ∧ sl + ms' ≤ ms) (hst : (st.map fun v => v.category).sum ≤ 8) (kk : ∀ (r : Option Value) (h' : jH) (sz' : Nat), Post r h' sz' → jJ x M E Q h' sz' (ce + mc') (sl + ms') lv (pc + 3) (r.toList ++ st)) : jJ x M E Q h sz ce sl lv pc stk := by
  intro H locs ls hR0 hS hl
  have hB : E.2.2 ≤ sz := by rw [← hR0.1]; exact Nat.le_trans C0.base hS.1
  obtain ⟨w1, w2, w3, hd3⟩ := hcl
  obtain ⟨r', h1, cell, g1, g2, g3, -⟩ := (hR0.2 b _ hobj).2
  refine j_run (M := M) (a := (Value.ref b :: As).toArray) (va_runV (bytes := Mc.2.1) (maxL := Mc.2.2.1) (ret := Mc.2.2.2) (C := Mc.1.cls) (n := n) ⟨C0.exec, C0.code, C0.maxl, C0.own, C0.ts⟩ ct ⟨callB_of n C0.ts (jGood w3) rfl rfl rfl (C0.ts _ w2) (C0.ts _ w1) hd3 ⟨Nat.le_trans hR.1 C0.room.1, Nat.le_trans hR.2 C0.room.2.1⟩, C0.ts _ hv.1, C0.ts _ hv.2⟩ ⟨jBlind, ⟨cell, g1, by rw [g3]; rfl, by rw [g2]; exact (C0.K.1.1 ci _ hC).2.1⟩, fun U hU hW => ⟨rfl, by rw [hU]; exact hR0, C0.K.warm hW, hB⟩⟩ rfl hAs hl.1 hstk (lv_room hst) hd ⟨Nat.le_trans hf.1 C0.room.2.2.1, Nat.le_trans hf.2 C0.room.2.2.2⟩) hS hl kk
theorem j_callS (C0 : jOk x M E d mc ms) {idx n : Nat} {Mc : jM} {d' mc' ms' : Nat} {As stk : List Value} (hd : decode M.2.1 pc = .ok (.invokestatic idx, 3)) (hcl : jCL M.1.cls idx Mc n) (hv : Cond.static Mc.1 ∈ jTG) (ct : jC x.2.1 Mc d' E As h sz mc' ms' Post) (hAs : As.length = n) (hstk : stk = As.reverse ++ st) (hR : d' + 1 ≤ d ∧ 8 + (Mc.2.2.1 + 11) + 40 * d' ≤ 40 * d) (hf : ce + mc' ≤ mc ∧ sl + ms' ≤ ms) (hst : (st.map fun v => v.category).sum ≤ 8) (kk : ∀ (r : Option Value) (h' : jH) (sz' : Nat), Post r h' sz' → jJ x M E Q h' sz' (ce + mc') (sl + ms') lv (pc + 3) (r.toList ++ st)) : jJ x M E Q h sz ce sl lv pc stk := by
  intro H locs ls hR0 hS hl
  have hB : E.2.2 ≤ sz := by rw [← hR0.1]; exact Nat.le_trans C0.base hS.1
  obtain ⟨w1, w2, w3, hd3⟩ := hcl
  refine j_run (M := M) (a := As.toArray) (va_runS (bytes := Mc.2.1) (maxL := Mc.2.2.1) (ret := Mc.2.2.2) (n := n) ⟨C0.exec, C0.code, C0.maxl, C0.own, C0.ts⟩ ct ⟨callB_of n C0.ts (jGood w3) rfl rfl rfl (C0.ts _ w2) (C0.ts _ w1) hd3 ⟨Nat.le_trans hR.1 C0.room.1, Nat.le_trans hR.2 C0.room.2.1⟩, C0.ts _ hv⟩ ⟨jBlind, fun U hU hW => ⟨rfl, by rw [hU]; exact hR0, C0.K.warm hW, hB⟩⟩ rfl hAs hl.1 hstk (lv_room hst) hd ⟨Nat.le_trans hf.1 C0.room.2.2.1, Nat.le_trans hf.2 C0.room.2.2.2⟩) hS hl kk
theorem j_callI (C0 : jOk x M E d mc ms) {idx n : Nat} {Mc : jM} {d' mc' ms' : Nat} {b : Nat} {As stk : List Value} (hd : decode M.2.1 pc = .ok (.invokespecial idx, 3)) (hcl : jCL M.1.cls idx Mc n) (hv : Cond.instanceMethod Mc.1 ∈ jTG) (hy : Mc.1.name = "<init>") (hret : Mc.2.2.2 = none) (ct : jC x.2.1 Mc d' E (.ref b :: As) h sz mc' ms' Post) (hAs : As.length = n) (hstk : stk = As.reverse ++ .ref b :: st) (hR : d' + 1 ≤ d ∧ 8 + (Mc.2.2.1 + 11) + 40 * d' ≤ 40 * d) (hf : ce + mc' ≤ mc ∧ sl + ms' ≤ ms) (hst : (st.map fun v => v.category).sum ≤ 8) (kk : ∀ (r : Option Value) (h' : jH) (sz' : Nat), Post r h' sz' → jJ x M E Q h' sz' (ce + mc') (sl + ms') lv (pc + 3) (r.toList ++ st)) : jJ x M E Q h sz ce sl lv pc stk := by
  intro H locs ls hR0 hS hl
  have hB : E.2.2 ≤ sz := by rw [← hR0.1]; exact Nat.le_trans C0.base hS.1
  obtain ⟨w1, w2, w3, hd3⟩ := hcl
  have cb := callB_of (own := M.1.cls) (index := idx) (R := jxR x) (mc := mc') (ms := ms') (rm := { frames := d', cells := mc', slots := ms', locals := 40 * d' }) n C0.ts (jGood w3) rfl rfl rfl (C0.ts _ w2) (C0.ts _ w1) hd3 ⟨Nat.le_trans hR.1 C0.room.1, Nat.le_trans hR.2 C0.room.2.1⟩
  have ct' := ct
  unfold jC at ct'
  rw [hret] at cb ct'
  refine j_run (M := M) (a := (Value.ref b :: As).toArray) (va_runI (bytes := Mc.2.1) (maxL := Mc.2.2.1) (n := n) ⟨C0.exec, C0.code, C0.maxl, C0.own, C0.ts⟩ ct' ⟨cb, hy, C0.ts _ hv⟩ ⟨jBlind, fun U hU hW => ⟨rfl, by rw [hU]; exact hR0, C0.K.warm hW, hB⟩⟩ rfl hAs hl.1 hstk (lv_room hst) hd ⟨Nat.le_trans hf.1 C0.room.2.2.1, Nat.le_trans hf.2 C0.room.2.2.2⟩) hS hl kk
theorem j_callIN (C0 : jOk x M E d mc ms) {idx n : Nat} {Mc : jM} {d' mc' ms' : Nat} {b : Nat} {host : String} {As stk : List Value} (hd : decode M.2.1 pc = .ok (.invokespecial idx, 3)) (hcl : jCN M.1.cls idx Mc host n) (hv : Cond.instanceMethod Mc.1 ∈ jTG) (hy : Mc.1.name = "<init>") (hret : Mc.2.2.2 = none) (ct : jC x.2.1 Mc d' E (.ref b :: As) h sz mc' ms' Post) (hAs : As.length = n) (hstk : stk = As.reverse ++ .ref b :: st) (hR : d' + 1 ≤ d ∧ 8 + (Mc.2.2.1 + 11) + 40 * d' ≤ 40 * d) (hf : ce + mc' ≤ mc ∧ sl + ms' ≤ ms) (hst : (st.map fun v => v.category).sum ≤ 8) (kk : ∀ (r : Option Value) (h' : jH) (sz' : Nat), Post r h' sz' → jJ x M E Q h' sz' (ce + mc') (sl + ms') lv (pc + 3) (r.toList ++ st)) : jJ x M E Q h sz ce sl lv pc stk := by
  intro H locs ls hR0 hS hl
  have hB : E.2.2 ≤ sz := by rw [← hR0.1]; exact Nat.le_trans C0.base hS.1
  obtain ⟨w1, w2, w3, hd3⟩ := hcl
  have cb := va_cnB (own := M.1.cls) (host := host) (index := idx) (R := jxR x) (mc := mc') (ms := ms') (rm := { frames := d', cells := mc', slots := ms', locals := 40 * d' }) n C0.ts (jGood w3) rfl rfl rfl (C0.K.2.1 _ w1) (C0.ts _ w2) hd3 ⟨Nat.le_trans hR.1 C0.room.1, Nat.le_trans hR.2 C0.room.2.1⟩
  have ct' := ct
  unfold jC at ct'
  rw [hret] at cb ct'
  refine j_run (M := M) (a := (Value.ref b :: As).toArray) (va_runIN (bytes := Mc.2.1) (maxL := Mc.2.2.1) (n := n) ⟨C0.exec, C0.code, C0.maxl, C0.own, C0.ts⟩ ct' ⟨cb, hy, C0.ts _ hv⟩ ⟨jBlind, fun U hU hW => ⟨rfl, by rw [hU]; exact hR0, C0.K.warm hW, hB⟩⟩ rfl hAs hl.1 hstk (lv_room hst) hd ⟨Nat.le_trans hf.1 C0.room.2.2.1, Nat.le_trans hf.2 C0.room.2.2.2⟩) hS hl kk
theorem j_callSN (C0 : jOk x M E d mc ms) {idx n : Nat} {Mc : jM} {d' mc' ms' : Nat} {host : String} {As stk : List Value} (hd : decode M.2.1 pc = .ok (.invokestatic idx, 3)) (hcl : jCN M.1.cls idx Mc host n) (hv : Cond.static Mc.1 ∈ jTG) (ct : jC x.2.1 Mc d' E As h sz mc' ms' Post) (hAs : As.length = n) (hstk : stk = As.reverse ++ st) (hR : d' + 1 ≤ d ∧ 8 + (Mc.2.2.1 + 11) + 40 * d' ≤ 40 * d) (hf : ce + mc' ≤ mc ∧ sl + ms' ≤ ms) (hst : (st.map fun v => v.category).sum ≤ 8) (kk : ∀ (r : Option Value) (h' : jH) (sz' : Nat), Post r h' sz' → jJ x M E Q h' sz' (ce + mc') (sl + ms') lv (pc + 3) (r.toList ++ st)) : jJ x M E Q h sz ce sl lv pc stk := by
  intro H locs ls hR0 hS hl
  have hB : E.2.2 ≤ sz := by rw [← hR0.1]; exact Nat.le_trans C0.base hS.1
  obtain ⟨w1, w2, w3, hd3⟩ := hcl
  refine j_run (M := M) (a := As.toArray) (va_runSN (bytes := Mc.2.1) (maxL := Mc.2.2.1) (ret := Mc.2.2.2) (n := n) ⟨C0.exec, C0.code, C0.maxl, C0.own, C0.ts⟩ ct ⟨va_cnB n C0.ts (jGood w3) rfl rfl rfl (C0.K.2.1 _ w1) (C0.ts _ w2) hd3 ⟨Nat.le_trans hR.1 C0.room.1, Nat.le_trans hR.2 C0.room.2.1⟩, C0.ts _ hv, trivial⟩ ⟨jBlind, fun U hU hW => ⟨rfl, by rw [hU]; exact hR0, C0.K.warm hW, hB⟩⟩ rfl hAs hl.1 hstk (lv_room hst) hd ⟨Nat.le_trans hf.1 C0.room.2.2.1, Nat.le_trans hf.2 C0.room.2.2.2⟩) hS hl kk
theorem j_mmin (C0 : jOk x M E d mc ms) {idx : Nat} {v w : Int32} (hd : decode M.2.1 pc = .ok (.invokestatic idx, 3)) (w1 : Cond.methodLink M.1.cls idx Lib.Math.min.name ∈ jTG) (w2 : Cond.static Lib.Math.min.name ∈ jTG) (w3 : Cond.initialized "java/lang/Math" ∈ jTG) (w4 : Cond.code Lib.Math.min.name Lib.Math.min.code 2 (some .int) ∈ jTG) (hdd : 1 ≤ d) (hst : (st.map fun v => v.category).sum ≤ 8) (hc : ce ≤ mc) (hs : sl ≤ ms) (kk : jJ x M E Q h sz ce sl lv (pc + 3) (.int (if w < v then w else v) :: st)) : jJ x M E Q h sz ce sl lv pc (.int w :: .int v :: st) :=
  fun H locs ls hR hS hl => va_mmin C0.exec C0.code (C0.maxl.trans hl.1.symm) C0.own (C0.ts _ w1) (C0.ts _ w2) (C0.ts _ w3) (C0.ts _ w4) (Nat.le_trans hdd C0.room.1) (by have := C0.room.2.1; omega) (Nat.le_trans hc C0.room.2.2.1) (Nat.le_trans hs C0.room.2.2.2) hd (kk H locs ls hR hS hl)
theorem j_mmax (C0 : jOk x M E d mc ms) {idx : Nat} {v w : Int32} (hd : decode M.2.1 pc = .ok (.invokestatic idx, 3)) (w1 : Cond.methodLink M.1.cls idx Lib.Math.max.name ∈ jTG) (w2 : Cond.static Lib.Math.max.name ∈ jTG) (w3 : Cond.initialized "java/lang/Math" ∈ jTG) (w4 : Cond.code Lib.Math.max.name Lib.Math.max.code 2 (some .int) ∈ jTG) (hdd : 1 ≤ d) (hst : (st.map fun v => v.category).sum ≤ 8) (hc : ce ≤ mc) (hs : sl ≤ ms) (kk : jJ x M E Q h sz ce sl lv (pc + 3) (.int (if v < w then w else v) :: st)) : jJ x M E Q h sz ce sl lv pc (.int w :: .int v :: st) :=
  fun H locs ls hR hS hl => va_mmax C0.exec C0.code (C0.maxl.trans hl.1.symm) C0.own (C0.ts _ w1) (C0.ts _ w2) (C0.ts _ w3) (C0.ts _ w4) (Nat.le_trans hdd C0.room.1) (by have := C0.room.2.1; omega) (Nat.le_trans hc C0.room.2.2.1) (Nat.le_trans hs C0.room.2.2.2) hd (kk H locs ls hR hS hl)
theorem jC.weaken {l : Launch} {vs : List Value} {Post' : Option Value → jH → Nat → Prop} (ct : jC l M d E vs h sz mc ms Post) (hp : ∀ r h' sz', Post r h' sz' → Post' r h' sz') : jC l M d E vs h sz mc ms Post' := by
  unfold jC Met at ct ⊢
  intro p e ha hc hk s m args below hf happ hP hK
  obtain ⟨k, o, h1, h2, h3, ⟨⟨r, h', e1, e2, e3⟩, hF⟩, L, hL⟩ := ct p e ha hc hk s m args below hf happ hP hK
  exact ⟨k, o, h1, h2, h3, ⟨⟨r, h', e1, hp _ _ _ e2, e3⟩, hF⟩, L, hL⟩
end JRules
