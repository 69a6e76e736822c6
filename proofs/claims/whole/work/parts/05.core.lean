/-! the world's cells: which kind each is (fixed), and what it holds: A k j an int, B k j a long -/
def z_N : Nat := 55
def z_sh : Nat → Nat × Nat × List (Nat × Nat) := fun k => match k with
  | 0 => (2, 5, [(2, 1), (2, 10), (2, 12), (2, 14), (2, 19), (2, 24)])
  | 1 => (3, 2, [(2, 2), (2, 4), (2, 6), (2, 8)])
  | 2 => (2, 2, [(2, 3), (0, 0)])
  | 3 => (0, 16, [])
  | 4 => (2, 2, [(2, 5), (0, 0)])
  | 5 => (0, 24, [])
  | 6 => (2, 2, [(2, 7), (0, 0)])
  | 7 => (0, 32, [])
  | 8 => (2, 2, [(2, 9), (0, 0)])
  | 9 => (0, 64, [])
  | 10 => (2, 2, [(2, 11), (0, 0)])
  | 11 => (0, 64, [])
  | 12 => (2, 2, [(2, 13), (0, 0)])
  | 13 => (0, 64, [])
  | 14 => (2, 0, [(2, 15), (2, 16), (2, 17), (2, 18)])
  | 15 => (0, 256, [])
  | 16 => (0, 176, [])
  | 17 => (0, 16, [])
  | 18 => (0, 16, [])
  | 19 => (3, 3, [(2, 20), (2, 22)])
  | 20 => (2, 1, [(0, 0), (0, 0), (1, 0), (1, 0), (2, 21), (1, 0), (1, 0), (1, 0), (1, 0)])
  | 21 => (0, 16, [])
  | 22 => (2, 1, [(0, 0), (0, 0), (1, 0), (1, 0), (2, 23), (1, 0), (1, 0), (1, 0), (1, 0)])
  | 23 => (0, 16, [])
  | 24 => (3, 4, [(2, 25), (2, 32)])
  | 25 => (2, 4, [(2, 14), (2, 20), (2, 26), (2, 27), (2, 28), (2, 29), (2, 30), (2, 31)])
  | 26 => (0, 16, [])
  | 27 => (0, 16, [])
  | 28 => (0, 16, [])
  | 29 => (0, 16, [])
  | 30 => (0, 16, [])
  | 31 => (0, 16, [])
  | 32 => (2, 3, [(2, 14), (2, 22), (2, 33), (2, 34), (2, 35), (2, 36), (2, 37), (2, 38)])
  | 33 => (0, 16, [])
  | 34 => (0, 16, [])
  | 35 => (0, 16, [])
  | 36 => (0, 16, [])
  | 37 => (0, 16, [])
  | 38 => (0, 16, [])
  | 39 => (2, 6, [(0, 0), (2, 40), (2, 41), (0, 0), (2, 42), (2, 43), (2, 44), (2, 45), (2, 46), (2, 47), (2, 48), (2, 49), (2, 50), (2, 51), (2, 52), (2, 53)])
  | 40 => (0, 320, [])
  | 41 => (0, 4, [])
  | 42 => (0, 64, [])
  | 43 => (0, 176, [])
  | 44 => (0, 16, [])
  | 45 => (0, 16, [])
  | 46 => (0, 256, [])
  | 47 => (0, 16, [])
  | 48 => (0, 16, [])
  | 49 => (0, 128, [])
  | 50 => (0, 128, [])
  | 51 => (0, 256, [])
  | 52 => (0, 16, [])
  | 53 => (0, 16, [])
  | _ => (1, 1, [])
abbrev z_G : Type := va_G × (Nat → ClassId)
abbrev z_A : Type := Nat → Nat → Nat
def z_tys (g : z_G) : List (ClassId × FieldType) := [(g.2 0, .int), (g.2 1, .long), (g.2 2, .object "TwoSeals$Row"), (g.2 3, .object "TwoSeals$Hasher"), (g.2 4, .object "TwoSeals$Way")]
def z_fv (ad : Nat → Nat) (a b : Nat → Nat) (j : Nat) (q : Nat × Nat) : Value := match q.1 with
  | 0 => .int (nI (a j))
  | 1 => .long (lN (b j))
  | _ => .ref (ad q.2)
def z_fs (ad : Nat → Nat) (a b : Nat → Nat) : Nat → List (Nat × Nat) → List Value
  | _, [] => []
  | j, q :: t => z_fv ad a b j q :: z_fs ad a b (j + 1) t
def z_cell (g : z_G) (ad : Nat → Nat) (d : Nat × Nat × List (Nat × Nat)) (a b : Nat → Nat) : va_E := match d.1 with
  | 0 => .inl (g.2 0, d.2.1, .inl (fun j => nI (a j)))
  | 1 => .inl (g.2 1, d.2.1, .inr (.inl (fun j => lN (b j))))
  | 2 => .inr (d.2.1, z_fs ad a b 0 d.2.2)
  | _ => .inl (g.2 d.2.1, d.2.2.length, .inr (.inr (.inr (.inr (fun j => (d.2.2[j]?).map (fun q => ad q.2))))))
def z_w (g : z_G) (ad : Nat → Nat) (A B : z_A) : va_W := (List.range z_N).map (fun k => (ad k, z_cell g ad (z_sh k) (A k) (B k)))
/-- cell k is an int array of length n; an object of class number ci; an array of references -/
def z_ia (k n : Nat) : Prop := k < z_N ∧ z_sh k = (0, n, []) ∧ n < 2 ^ 31
def z_ob (k ci : Nat) (fs : List (Nat × Nat)) : Prop := k < z_N ∧ z_sh k = (2, ci, fs)
def z_ra (k t0 : Nat) (fs : List (Nat × Nat)) : Prop := k < z_N ∧ z_sh k = (3, t0, fs) ∧ fs.length < 2 ^ 31
/-- the world A, but cell k is f from a on, n long -/
def z_seg (A : z_A) (k a n : Nat) (f : Nat → Nat) : z_A := va_up A k (fun j => if a ≤ j ∧ j < a + n then f j else A k j)
def z_set (A : z_A) (k j x : Nat) : z_A := va_up A k (va_up (A k) j x)
theorem z_w_get (g : z_G) (ad : Nat → Nat) (A B : z_A) {k : Nat} (h : k < z_N) : (z_w g ad A B)[k]? = some (ad k, z_cell g ad (z_sh k) (A k) (B k)) := by
  unfold z_w
  rw [List.getElem?_map, List.getElem?_range h]
  rfl
theorem z_w_set (g : z_G) (ad : Nat → Nat) (A B A' B' : z_A) {k : Nat} (h : k < z_N) (hA : ∀ i, i ≠ k → A' i = A i) (hB : ∀ i, i ≠ k → B' i = B i) :
    (z_w g ad A B).set k (ad k, z_cell g ad (z_sh k) (A' k) (B' k)) = z_w g ad A' B' := by
  apply List.ext_getElem?
  intro i
  by_cases hi : i = k
  · subst hi
    rw [List.getElem?_set_self (by unfold z_w; simpa using h), z_w_get g ad A' B' h]
  · rw [List.getElem?_set_ne (fun q => hi q.symm)]
    unfold z_w
    rw [List.getElem?_map, List.getElem?_map]
    cases hr : (List.range z_N)[i]? with
    | none => rfl
    | some j =>
      have hj : j = i := by
        have := List.getElem?_eq_some_iff.mp hr
        obtain ⟨h1, h2⟩ := this
        simpa using h2.symm
      subst hj
      simp only [Option.map_some, hA j hi, hB j hi]
theorem z_D_moves {g : z_G} {ad : Nat → Nat} {A B A' B' : z_A} {F : Nat → Prop} (h : va_D F (z_w g ad A B)) : va_D F (z_w g ad A' B') := by
  have key : ∀ (A B A' B' : z_A) (i : Nat) (q : Nat × va_E), (z_w g ad A' B')[i]? = some q → ∃ q' : Nat × va_E, (z_w g ad A B)[i]? = some q' ∧ q'.1 = q.1 := by
    intro A B A' B' i q hq
    by_cases hi : i < z_N
    · rw [z_w_get g ad A' B' hi] at hq
      exact ⟨_, z_w_get g ad A B hi, by rw [← Option.some.inj hq]⟩
    · exfalso
      have : (z_w g ad A' B').length = z_N := by unfold z_w; simp
      rw [List.getElem?_eq_none (by rw [this]; omega)] at hq
      cases hq
  refine ⟨fun i j p q hp hq e => ?_, fun k q hk => ?_⟩
  · obtain ⟨p', h1, e1⟩ := key A B A' B' i p hp
    obtain ⟨q', h2, e2⟩ := key A B A' B' j q hq
    exact h.1 i j p' q' h1 h2 (by rw [e1, e2, e])
  · obtain ⟨q', h1, e1⟩ := key A B A' B' k q hk
    rw [← e1]
    exact h.2 k q' h1
/-- a method: its name, code, number of locals, type of its answer -/
abbrev z_M : Type := MethodName × ByteArray × Nat × Option FieldType
def z_code (μ : z_M) : Cond := Cond.code μ.1 μ.2.1 μ.2.2.1 μ.2.2.2
/-- words that are no good words, but stay: declared methods, casts, strings -/
def z_bd : List MethodName := [⟨"TwoSeals$Way", "takesNonceOf", "(I)Z"⟩, ⟨"TwoSeals$Way", "useKey", "(LTwoSeals$Row;LTwoSeals$Row;)V"⟩, ⟨"TwoSeals$Way", "sealText", "([LTwoSeals$Row;LTwoSeals$Row;)V"⟩, ⟨"TwoSeals$Way", "openText", "([LTwoSeals$Row;LTwoSeals$Row;)Z"⟩, ⟨"TwoSeals$Way", "count", "(I)V"⟩, ⟨"java/lang/RuntimeException", "<init>", "(Ljava/lang/String;)V"⟩, ⟨"java/lang/Exception", "<init>", "(Ljava/lang/String;)V"⟩, ⟨"java/lang/Throwable", "<init>", "(Ljava/lang/String;)V"⟩]
def z_xcs : List String := ["java/lang/IllegalArgumentException", "java/lang/IllegalStateException", "java/lang/IndexOutOfBoundsException", "java/lang/UnsupportedOperationException"]
def z_sts : List (Nat × String) := [(151, "rows are 0 to 3"), (60, "1 to 8 bytes can be typed"), (75, "the row would be too long"), (81, "a byte is 0 to 255"), (88, "the row has no such byte"), (95, "the result is too long for the row"), (101, "key and text must have 16 bytes"), (153, "ways are 0 and 1"), (114, "the key must have 16 bytes"), (158, "key or nonce is not as the way wants it"), (129, "the text is too long to be sealed"), (138, "the text is too short to end in a seal"), (146, "the seal is another one"), (149, "the result has no such byte")]
def z_ncs : List (String × String) := [("java/lang/IllegalStateException", "java/lang/IllegalArgumentException"), ("java/lang/IndexOutOfBoundsException", "java/lang/IllegalArgumentException"), ("java/lang/UnsupportedOperationException", "java/lang/IllegalArgumentException"), ("java/lang/UnsupportedOperationException", "java/lang/IllegalStateException")]
def z_KK (g : z_G) (s : State) : Prop := va_K g.1 z_cl (z_tys g) s ∧ (∀ x ∈ z_bd, va_Nw (.declares x) s) ∧ (∀ x ∈ z_xcs, va_Nw (.castable x x) s) ∧ (∀ q ∈ z_sts, ∃ a, vk_R "TwoSeals" q.1 q.2 a s) ∧ ∀ q ∈ z_ncs, va_Nc q.1 q.2 s
theorem z_KK.warm {g : z_G} {s U : State} (hW : s.WarmedH U.vm) (h : z_KK g s) : z_KK g U := ⟨va_K.moved hW.alike h.1, fun x hx => va_Nw.warmD hW (h.2.1 x hx), fun x hx => va_Nw.warmC hW (h.2.2.1 x hx), fun q hq => by
  obtain ⟨a, ha⟩ := h.2.2.2.1 q hq
  exact ⟨a, vk_R.warm hW ha⟩, fun q hq => va_Nc.moved hW.alike (h.2.2.2.2 q hq)⟩
theorem z_KK.same {g : z_G} {s U : State} (hv : U.vm = s.vm) (h : z_KK g s) : z_KK g U := ⟨va_K.moved (u := s) (by rw [hv]; exact Vm.Alike.refl s.vm) h.1, fun x hx => va_Nw.same rfl hv.symm (h.2.1 x hx), fun x hx => va_Nw.same rfl hv.symm (h.2.2.1 x hx), fun q hq => by
  obtain ⟨a, ha⟩ := h.2.2.2.1 q hq
  exact ⟨a, vk_R.same hv ha⟩, fun q hq => va_Nc.moved (u := s) (by rw [hv]; exact Vm.Alike.refl s.vm) (h.2.2.2.2 q hq)⟩
/-- the two statics that an exception's constructor reads -/
def z_Zq (F : Nat → Prop) (s : State) (H : Heap) : Prop := vx_Zq Bundle.tN "UNASSIGNED_STACK" Bundle.steD F s H ∧ vx_Zq Bundle.tN "SUPPRESSED_SENTINEL" Bundle.listD F s H
/-- a method with handlers has its table -/
def z_tab (μ : z_M) (c : Code) : Prop := ∀ hh : List (Nat × Nat × Nat × Nat), Cond.codeWith μ.1 μ.2.1 μ.2.2.1 μ.2.2.2 hh ∈ z_TB → c.exceptionTable.toList = tableOf hh
/-- what holds all along a method's body -/
def z_C (g : z_G) (μ : z_M) (p : Program) (s : State) (m : MethodId) (args : Array Value) (meth : Method) (c : Code) : Prop :=
  p.tables.exec = Jvm.exec ∧ c.code = μ.2.1 ∧ c.maxLocals = μ.2.2.1 ∧ (meth.sig.returnType = μ.2.2.2 ∧ z_tab μ c) ∧ s.vm.findClass μ.1.cls = some m.cls ∧ (∀ w ∈ z_TB, w.before args s = true) ∧ z_KK g s
/-- the world in the heap, and what has changed since the method's start -/
def z_H (g : z_G) (ad : Nat → Nat) (A B : z_A) (F : Nat → Prop) (s : State) (H : Heap) (locs : List Loc) : Prop :=
  va_P g.1 z_cl (z_w g ad A B) H ∧ va_D F (z_w g ad A B) ∧ va_S F s.heap H locs ∧ (∀ q, s.heap.size ≤ q → F q) ∧ z_Zq F s s.heap
/-- not a reference: an end 'some (.ref x)' says that exception x is thrown -/
def z_nr (r : Option Value) : Prop := ∀ x, r ≠ some (.ref x)
def z_exc (x : Nat) (s : State) (H : Heap) (q : Nat) : Prop := ∃ (E : String) (ce : Cell), z_xcs[x]? = some E ∧ H[q]? = some ce ∧ ce.vm = .none ∧ s.vm.findClass E = some ce.cls
/-- a throw stands at pc: new, dup, ldc, invokespecial, athrow, with their words -/
def z_nms : List String := ["java/lang/RuntimeException", "java/lang/Exception"]
def z_atok (ic : Nat) (cls : String) : Prop := (∀ w ∈ (vx_atS "TwoSeals" ic cls z_nms).filter goodWord, w ∈ z_TB) ∧ (∀ w ∈ (vx_atS "TwoSeals" ic cls z_nms).filter (fun w => !goodWord w), w ∈ Cond.castable cls cls :: z_bd.map (fun x => Cond.declares x)) ∧ (∀ w ∈ vx_atS "TwoSeals" ic cls z_nms, vx_ot w = true)
def z_thr (μ : z_M) (pc x : Nat) : Prop := ∃ (ik is ic : Nat) (cls text : String), μ.1.cls = "TwoSeals" ∧ z_xcs[x]? = some cls ∧ (is, text) ∈ z_sts ∧ Bundle.fit cls = true ∧ Cond.classLink "TwoSeals" ik cls ∈ z_TB ∧ Cond.initialized cls ∈ z_TB ∧ z_atok ic cls ∧
  decode μ.2.1 pc = .ok (.new ik, 3) ∧ decode μ.2.1 (pc + 3) = .ok (.dup, 1) ∧ decode μ.2.1 (pc + 4) = .ok (.ldc is, 2) ∧ decode μ.2.1 (pc + 6) = .ok (.invokespecial ic, 3) ∧ decode μ.2.1 (pc + 9) = .ok (.athrow, 1)
def z_ri (r : Option Value) : Instr := match r with
  | none => .return_
  | some (.int _) => .ireturn
  | some (.long _) => .lreturn
  | _ => .areturn
/-- THE JUDGEMENT: a body at pc, with locals L and operands S, in any heap that holds the world (A, B), comes to its end; E is what must hold where it returns -/
def z_R (l : Launch) (g : z_G) (ad : Nat → Nat) (μ : z_M) (rm : Room) (E : Option Value → z_A → z_A → Prop) (cn sn : Nat) (pc : Nat) (L : List (Nat × Value)) (S : List Value) (A B : z_A) : Prop :=
  ∀ (p : Program) (e : Env) (s : State) (m : MethodId) (args : Array Value) (below : List Frame) (meth : Method) (c : Code) (H : Heap) (locs : List Loc) (F : Nat → Prop) (Q : State → Prop) (ls : Array Slot),
    z_C g μ p s m args meth c → z_H g ad A B F s H locs → lv_has ls μ.2.2.1 L →
    (∀ (r : Option Value) (A' B' : z_A) (H' : Heap) (locs' : List Loc) (pc' : Nat) (ls' : Array Slot) (cn' sn' : Nat), E r A' B' → z_nr r → z_H g ad A' B' F s H' locs' → decode μ.2.1 pc' = .ok (z_ri r, 1) → cn' ≤ rm.cells → sn' ≤ rm.slots → W p l e rm s m args below meth c H' locs' cn' sn' Q (F0 m pc' ls' r.toList)) →
    (∀ (x : Nat) (A' B' : z_A) (H' : Heap) (locs' : List Loc) (pc' : Nat) (ls' : Array Slot) (S' : List Value) (q cn' sn' : Nat), E (some (.ref x)) A' B' → z_H g ad A' B' F s H' locs' → z_exc x s H' q → cn' ≤ rm.cells → sn' ≤ rm.slots → vx_W p l e rm s m args below meth c H' locs' cn' sn' Q (F0 m pc' ls' S') q) →
    (∀ (x : Nat) (A' B' : z_A) (H' : Heap) (locs' : List Loc) (pc' : Nat) (ls' : Array Slot) (cn' sn' : Nat), E (some (.ref x)) A' B' → z_H g ad A' B' F s H' locs' → ls'.size = μ.2.2.1 → z_thr μ pc' x → cn' + 1 ≤ rm.cells → sn' + 6 ≤ rm.slots → W p l e rm s m args below meth c H' locs' cn' sn' Q (F0 m pc' ls' [])) → (cn ≤ rm.cells ∧ sn ≤ rm.slots) →
    W p l e rm s m args below meth c H locs cn sn Q (F0 m pc ls S)
section ZR
variable {l : Launch} {g : z_G} {ad : Nat → Nat} {μ : z_M} {rm : Room} {E : Option Value → z_A → z_A → Prop} {cn sn pc : Nat} {L : List (Nat × Value)} {S : List Value} {A B : z_A}
theorem z_iconst {n : Int} {v : Nat} (hd : decode μ.2.1 pc = .ok (.iconst n, 1)) (hv : Int32.ofInt n = nI v) (k : z_R l g ad μ rm E cn sn (pc + 1) L (.int (nI v) :: S) A B) : z_R l g ad μ rm E cn sn (pc) L (S) A B := by
  intro p e s m args below meth c H locs F Q ls hC hH hl hr hx hth hcs
  have K := k p e s m args below meth c H locs F Q ls hC hH hl hr hx hth hcs
  exact lv_iconst hC.1 hC.2.1 hd hv K
theorem z_bipush {n : Int} {v : Nat} (hd : decode μ.2.1 pc = .ok (.bipush n, 2)) (hv : (Int8.ofInt n).toInt32 = nI v) (k : z_R l g ad μ rm E cn sn (pc + 2) L (.int (nI v) :: S) A B) : z_R l g ad μ rm E cn sn (pc) L (S) A B := by
  intro p e s m args below meth c H locs F Q ls hC hH hl hr hx hth hcs
  have K := k p e s m args below meth c H locs F Q ls hC hH hl hr hx hth hcs
  exact lv_bipush hC.1 hC.2.1 hd hv K
theorem z_sipush {n : Int} {v : Nat} (hd : decode μ.2.1 pc = .ok (.sipush n, 3)) (hv : (Int16.ofInt n).toInt32 = nI v) (k : z_R l g ad μ rm E cn sn (pc + 3) L (.int (nI v) :: S) A B) : z_R l g ad μ rm E cn sn (pc) L (S) A B := by
  intro p e s m args below meth c H locs F Q ls hC hH hl hr hx hth hcs
  have K := k p e s m args below meth c H locs F Q ls hC hH hl hr hx hth hcs
  exact lv_sipush hC.1 hC.2.1 hd hv K
theorem z_lconst {n : Fin 2} {v : Nat} (hd : decode μ.2.1 pc = .ok (.lconst n, 1)) (hv : Int64.ofNat (n : Nat) = lN v) (k : z_R l g ad μ rm E cn sn (pc + 1) L (.long (lN v) :: S) A B) : z_R l g ad μ rm E cn sn (pc) L (S) A B := by
  intro p e s m args below meth c H locs F Q ls hC hH hl hr hx hth hcs
  have K := k p e s m args below meth c H locs F Q ls hC hH hl hr hx hth hcs
  exact lv_lconst hC.1 hC.2.1 hd hv K
theorem z_ldc2 {idx : Nat} {w : Int64} {v : Nat} (hd : decode μ.2.1 pc = .ok (.ldc2_w idx, 3)) (hw : Cond.constantLong μ.1.cls idx w ∈ z_TB) (hv : w = lN v) (k : z_R l g ad μ rm E cn sn (pc + 3) L (.long (lN v) :: S) A B) : z_R l g ad μ rm E cn sn (pc) L (S) A B := by
  intro p e s m args below meth c H locs F Q ls hC hH hl hr hx hth hcs
  have K := k p e s m args below meth c H locs F Q ls hC hH hl hr hx hth hcs
  exact lv_ldc2 hC.1 hC.2.1 hC.2.2.2.2.1 (hC.2.2.2.2.2.1 _ hw) hd (by subst hv; exact K)
theorem z_iload_n {q : Fin 4} {i : Nat} {x : Int32} (hd : decode μ.2.1 pc = .ok (.iload_n q, 1)) (hi : (q : Nat) = i) (ht : L.find? (fun q => q.1 == i) = some (i, .int x)) (k : z_R l g ad μ rm E cn sn (pc + 1) L (.int x :: S) A B) : z_R l g ad μ rm E cn sn (pc) L (S) A B := by
  intro p e s m args below meth c H locs F Q ls hC hH hl hr hx hth hcs
  have K := k p e s m args below meth c H locs F Q ls hC hH hl hr hx hth hcs
  exact lv_iload_n hC.1 hC.2.1 hd hi (hl.2.2 _ (List.mem_of_find?_eq_some ht)) K
theorem z_iload {i : Nat} {x : Int32} (hd : decode μ.2.1 pc = .ok (.iload i, 2)) (ht : L.find? (fun q => q.1 == i) = some (i, .int x)) (k : z_R l g ad μ rm E cn sn (pc + 2) L (.int x :: S) A B) : z_R l g ad μ rm E cn sn (pc) L (S) A B := by
  intro p e s m args below meth c H locs F Q ls hC hH hl hr hx hth hcs
  have K := k p e s m args below meth c H locs F Q ls hC hH hl hr hx hth hcs
  exact lv_iload hC.1 hC.2.1 hd (hl.2.2 _ (List.mem_of_find?_eq_some ht)) K
theorem z_lload_n {q : Fin 4} {i : Nat} {x : Int64} (hd : decode μ.2.1 pc = .ok (.lload_n q, 1)) (hi : (q : Nat) = i) (ht : L.find? (fun q => q.1 == i) = some (i, .long x)) (k : z_R l g ad μ rm E cn sn (pc + 1) L (.long x :: S) A B) : z_R l g ad μ rm E cn sn (pc) L (S) A B := by
  intro p e s m args below meth c H locs F Q ls hC hH hl hr hx hth hcs
  have K := k p e s m args below meth c H locs F Q ls hC hH hl hr hx hth hcs
  exact lv_lload_n hC.1 hC.2.1 hd hi (hl.2.2 _ (List.mem_of_find?_eq_some ht)) K
theorem z_lload {i : Nat} {x : Int64} (hd : decode μ.2.1 pc = .ok (.lload i, 2)) (ht : L.find? (fun q => q.1 == i) = some (i, .long x)) (k : z_R l g ad μ rm E cn sn (pc + 2) L (.long x :: S) A B) : z_R l g ad μ rm E cn sn (pc) L (S) A B := by
  intro p e s m args below meth c H locs F Q ls hC hH hl hr hx hth hcs
  have K := k p e s m args below meth c H locs F Q ls hC hH hl hr hx hth hcs
  exact lv_lload hC.1 hC.2.1 hd (hl.2.2 _ (List.mem_of_find?_eq_some ht)) K
theorem z_aload_n {q : Fin 4} {i : Nat} {x : Nat} (hd : decode μ.2.1 pc = .ok (.aload_n q, 1)) (hi : (q : Nat) = i) (ht : L.find? (fun q => q.1 == i) = some (i, .ref x)) (k : z_R l g ad μ rm E cn sn (pc + 1) L (.ref x :: S) A B) : z_R l g ad μ rm E cn sn (pc) L (S) A B := by
  intro p e s m args below meth c H locs F Q ls hC hH hl hr hx hth hcs
  have K := k p e s m args below meth c H locs F Q ls hC hH hl hr hx hth hcs
  exact lv_aload_n hC.1 hC.2.1 hd hi (hl.2.2 _ (List.mem_of_find?_eq_some ht)) K
theorem z_aload {i : Nat} {x : Nat} (hd : decode μ.2.1 pc = .ok (.aload i, 2)) (ht : L.find? (fun q => q.1 == i) = some (i, .ref x)) (k : z_R l g ad μ rm E cn sn (pc + 2) L (.ref x :: S) A B) : z_R l g ad μ rm E cn sn (pc) L (S) A B := by
  intro p e s m args below meth c H locs F Q ls hC hH hl hr hx hth hcs
  have K := k p e s m args below meth c H locs F Q ls hC hH hl hr hx hth hcs
  exact lv_aload hC.1 hC.2.1 hd (hl.2.2 _ (List.mem_of_find?_eq_some ht)) K
theorem z_istore_n {q : Fin 4} {i : Nat} {x : Int32} {L' : List (Nat × Value)} (hd : decode μ.2.1 pc = .ok (.istore_n q, 1)) (hi : (q : Nat) = i) (hn : i < μ.2.2.1) (hL : (i, (.int x : Value)) :: L.filter (fun q => !(q.1 == i) && !(q.1 + 1 == i && q.2.category == 2)) = L') (k : z_R l g ad μ rm E cn sn (pc + 1) L' S A B) : z_R l g ad μ rm E cn sn pc L (.int x :: S) A B := by
  intro p e s m args below meth c H locs F Q ls hC hH hl hr hx hth hcs
  exact lv_istore_n hC.1 hC.2.1 hd hi hl hn hL (fun ls' hl' => k p e s m args below meth c H locs F Q ls' hC hH hl' hr hx hth hcs)
theorem z_istore {i : Nat} {x : Int32} {L' : List (Nat × Value)} (hd : decode μ.2.1 pc = .ok (.istore i, 2)) (hn : i < μ.2.2.1) (hL : (i, (.int x : Value)) :: L.filter (fun q => !(q.1 == i) && !(q.1 + 1 == i && q.2.category == 2)) = L') (k : z_R l g ad μ rm E cn sn (pc + 2) L' S A B) : z_R l g ad μ rm E cn sn pc L (.int x :: S) A B := by
  intro p e s m args below meth c H locs F Q ls hC hH hl hr hx hth hcs
  exact lv_istore hC.1 hC.2.1 hd hl hn hL (fun ls' hl' => k p e s m args below meth c H locs F Q ls' hC hH hl' hr hx hth hcs)
theorem z_lstore_n {q : Fin 4} {i : Nat} {x : Int64} {L' : List (Nat × Value)} (hd : decode μ.2.1 pc = .ok (.lstore_n q, 1)) (hi : (q : Nat) = i) (hn : i + 1 < μ.2.2.1) (hL : (i, (.long x : Value)) :: L.filter (fun q => !(q.1 == i) && (!(q.1 == i + 1) && !(q.1 + 1 == i && q.2.category == 2))) = L') (k : z_R l g ad μ rm E cn sn (pc + 1) L' S A B) : z_R l g ad μ rm E cn sn pc L (.long x :: S) A B := by
  intro p e s m args below meth c H locs F Q ls hC hH hl hr hx hth hcs
  exact lv_lstore_n hC.1 hC.2.1 hd hi hl hn hL (fun ls' hl' => k p e s m args below meth c H locs F Q ls' hC hH hl' hr hx hth hcs)
theorem z_lstore {i : Nat} {x : Int64} {L' : List (Nat × Value)} (hd : decode μ.2.1 pc = .ok (.lstore i, 2)) (hn : i + 1 < μ.2.2.1) (hL : (i, (.long x : Value)) :: L.filter (fun q => !(q.1 == i) && (!(q.1 == i + 1) && !(q.1 + 1 == i && q.2.category == 2))) = L') (k : z_R l g ad μ rm E cn sn (pc + 2) L' S A B) : z_R l g ad μ rm E cn sn pc L (.long x :: S) A B := by
  intro p e s m args below meth c H locs F Q ls hC hH hl hr hx hth hcs
  exact lv_lstore hC.1 hC.2.1 hd hl hn hL (fun ls' hl' => k p e s m args below meth c H locs F Q ls' hC hH hl' hr hx hth hcs)
theorem z_astore_n {q : Fin 4} {i : Nat} {x : Nat} {L' : List (Nat × Value)} (hd : decode μ.2.1 pc = .ok (.astore_n q, 1)) (hi : (q : Nat) = i) (hn : i < μ.2.2.1) (hL : (i, (.ref x : Value)) :: L.filter (fun q => !(q.1 == i) && !(q.1 + 1 == i && q.2.category == 2)) = L') (k : z_R l g ad μ rm E cn sn (pc + 1) L' S A B) : z_R l g ad μ rm E cn sn pc L (.ref x :: S) A B := by
  intro p e s m args below meth c H locs F Q ls hC hH hl hr hx hth hcs
  exact lv_astore_n hC.1 hC.2.1 hd hi hl hn hL (fun ls' hl' => k p e s m args below meth c H locs F Q ls' hC hH hl' hr hx hth hcs)
theorem z_astore {i : Nat} {x : Nat} {L' : List (Nat × Value)} (hd : decode μ.2.1 pc = .ok (.astore i, 2)) (hn : i < μ.2.2.1) (hL : (i, (.ref x : Value)) :: L.filter (fun q => !(q.1 == i) && !(q.1 + 1 == i && q.2.category == 2)) = L') (k : z_R l g ad μ rm E cn sn (pc + 2) L' S A B) : z_R l g ad μ rm E cn sn pc L (.ref x :: S) A B := by
  intro p e s m args below meth c H locs F Q ls hC hH hl hr hx hth hcs
  exact lv_astore hC.1 hC.2.1 hd hl hn hL (fun ls' hl' => k p e s m args below meth c H locs F Q ls' hC hH hl' hr hx hth hcs)
theorem z_iinc {i : Nat} {n : Int} {x v : Nat} {L' : List (Nat × Value)} (hd : decode μ.2.1 pc = .ok (.iinc i n, 3)) (ht : L.find? (fun q => q.1 == i) = some (i, .int (nI x))) (hv : Int32.ofInt n = nI v) (hn : i < μ.2.2.1) (hL : (i, Value.int (nI (x + v))) :: L.filter (fun q => !(q.1 == i) && !(q.1 + 1 == i && q.2.category == 2)) = L') (k : z_R l g ad μ rm E cn sn (pc + 3) L' S A B) : z_R l g ad μ rm E cn sn pc L S A B := by
  intro p e s m args below meth c H locs F Q ls hC hH hl hr hx hth hcs
  obtain ⟨t, ht'⟩ := List.getElem?_of_mem (List.mem_of_find?_eq_some ht)
  exact lv_iinc hC.1 hC.2.1 hd hl ht' (by rw [hv]; exact nI_add x v) hn hL (fun ls' hl' => k p e s m args below meth c H locs F Q ls' hC hH hl' hr hx hth hcs)
theorem z_iadd {a b : Nat} (hd : decode μ.2.1 pc = .ok (.iadd, 1))  (k : z_R l g ad μ rm E cn sn (pc + 1) L (.int (nI (a + b)) :: S) A B) : z_R l g ad μ rm E cn sn pc L (.int (nI b) :: .int (nI a) :: S) A B := by
  intro p e s m args below meth c H locs F Q ls hC hH hl hr hx hth hcs
  have K := k p e s m args below meth c H locs F Q ls hC hH hl hr hx hth hcs
  refine lv_iadd hC.1 hC.2.1 hd ?_
  rw [nI_add]
  exact K
theorem z_isub {a b : Nat} (hd : decode μ.2.1 pc = .ok (.isub, 1)) (h : b ≤ a) (k : z_R l g ad μ rm E cn sn (pc + 1) L (.int (nI (a - b)) :: S) A B) : z_R l g ad μ rm E cn sn pc L (.int (nI b) :: .int (nI a) :: S) A B := by
  intro p e s m args below meth c H locs F Q ls hC hH hl hr hx hth hcs
  have K := k p e s m args below meth c H locs F Q ls hC hH hl hr hx hth hcs
  refine lv_isub hC.1 hC.2.1 hd ?_
  rw [pk_sub h]
  exact K
theorem z_imul {a b : Nat} (hd : decode μ.2.1 pc = .ok (.imul, 1))  (k : z_R l g ad μ rm E cn sn (pc + 1) L (.int (nI (a * b)) :: S) A B) : z_R l g ad μ rm E cn sn pc L (.int (nI b) :: .int (nI a) :: S) A B := by
  intro p e s m args below meth c H locs F Q ls hC hH hl hr hx hth hcs
  have K := k p e s m args below meth c H locs F Q ls hC hH hl hr hx hth hcs
  refine lv_imul hC.1 hC.2.1 hd ?_
  rw [pk_mul]
  exact K
theorem z_iand {a b : Nat} (hd : decode μ.2.1 pc = .ok (.iand, 1))  (k : z_R l g ad μ rm E cn sn (pc + 1) L (.int (nI (a &&& b)) :: S) A B) : z_R l g ad μ rm E cn sn pc L (.int (nI b) :: .int (nI a) :: S) A B := by
  intro p e s m args below meth c H locs F Q ls hC hH hl hr hx hth hcs
  have K := k p e s m args below meth c H locs F Q ls hC hH hl hr hx hth hcs
  refine lv_iand hC.1 hC.2.1 hd ?_
  rw [nx_and]
  exact K
theorem z_ixor {a b : Nat} (hd : decode μ.2.1 pc = .ok (.ixor, 1))  (k : z_R l g ad μ rm E cn sn (pc + 1) L (.int (nI (a ^^^ b)) :: S) A B) : z_R l g ad μ rm E cn sn pc L (.int (nI b) :: .int (nI a) :: S) A B := by
  intro p e s m args below meth c H locs F Q ls hC hH hl hr hx hth hcs
  have K := k p e s m args below meth c H locs F Q ls hC hH hl hr hx hth hcs
  refine lv_ixor hC.1 hC.2.1 hd ?_
  rw [nx_xor]
  exact K
theorem z_ior {a b : Nat} (hd : decode μ.2.1 pc = .ok (.ior, 1))  (k : z_R l g ad μ rm E cn sn (pc + 1) L (.int (nI (a ||| b)) :: S) A B) : z_R l g ad μ rm E cn sn pc L (.int (nI b) :: .int (nI a) :: S) A B := by
  intro p e s m args below meth c H locs F Q ls hC hH hl hr hx hth hcs
  have K := k p e s m args below meth c H locs F Q ls hC hH hl hr hx hth hcs
  refine lv_ior hC.1 hC.2.1 hd ?_
  rw [z_nior]
  exact K
theorem z_ladd {a b : Nat} (hd : decode μ.2.1 pc = .ok (.ladd, 1))  (k : z_R l g ad μ rm E cn sn (pc + 1) L (.long (lN (a + b)) :: S) A B) : z_R l g ad μ rm E cn sn pc L (.long (lN b) :: .long (lN a) :: S) A B := by
  intro p e s m args below meth c H locs F Q ls hC hH hl hr hx hth hcs
  have K := k p e s m args below meth c H locs F Q ls hC hH hl hr hx hth hcs
  refine lv_ladd hC.1 hC.2.1 hd ?_
  rw [lN_add]
  exact K
theorem z_lmul {a b : Nat} (hd : decode μ.2.1 pc = .ok (.lmul, 1))  (k : z_R l g ad μ rm E cn sn (pc + 1) L (.long (lN (a * b)) :: S) A B) : z_R l g ad μ rm E cn sn pc L (.long (lN b) :: .long (lN a) :: S) A B := by
  intro p e s m args below meth c H locs F Q ls hC hH hl hr hx hth hcs
  have K := k p e s m args below meth c H locs F Q ls hC hH hl hr hx hth hcs
  refine lv_lmul hC.1 hC.2.1 hd ?_
  rw [lN_mul]
  exact K
theorem z_lxor {a b : Nat} (hd : decode μ.2.1 pc = .ok (.lxor, 1))  (k : z_R l g ad μ rm E cn sn (pc + 1) L (.long (lN (a ^^^ b)) :: S) A B) : z_R l g ad μ rm E cn sn pc L (.long (lN b) :: .long (lN a) :: S) A B := by
  intro p e s m args below meth c H locs F Q ls hC hH hl hr hx hth hcs
  have K := k p e s m args below meth c H locs F Q ls hC hH hl hr hx hth hcs
  refine lv_lxor hC.1 hC.2.1 hd ?_
  rw [lN_xor]
  exact K
theorem z_land {a b : Nat} (hd : decode μ.2.1 pc = .ok (.land, 1))  (k : z_R l g ad μ rm E cn sn (pc + 1) L (.long (lN (a &&& b)) :: S) A B) : z_R l g ad μ rm E cn sn pc L (.long (lN b) :: .long (lN a) :: S) A B := by
  intro p e s m args below meth c H locs F Q ls hC hH hl hr hx hth hcs
  have K := k p e s m args below meth c H locs F Q ls hC hH hl hr hx hth hcs
  refine lv_land hC.1 hC.2.1 hd ?_
  rw [z_land_]
  exact K
theorem z_lor {a b : Nat} (hd : decode μ.2.1 pc = .ok (.lor, 1))  (k : z_R l g ad μ rm E cn sn (pc + 1) L (.long (lN (a ||| b)) :: S) A B) : z_R l g ad μ rm E cn sn pc L (.long (lN b) :: .long (lN a) :: S) A B := by
  intro p e s m args below meth c H locs F Q ls hC hH hl hr hx hth hcs
  have K := k p e s m args below meth c H locs F Q ls hC hH hl hr hx hth hcs
  refine lv_lor hC.1 hC.2.1 hd ?_
  rw [z_lor_]
  exact K
theorem z_idiv {a b : Nat} (hd : decode μ.2.1 pc = .ok (.idiv, 1)) (ha : a < 2 ^ 31) (h0 : 0 < b) (hb : b < 2 ^ 31) (k : z_R l g ad μ rm E cn sn (pc + 1) L (.int (nI (a / b)) :: S) A B) : z_R l g ad μ rm E cn sn pc L (.int (nI b) :: .int (nI a) :: S) A B := by
  intro p e s m args below meth c H locs F Q ls hC hH hl hr hx hth hcs
  have K := k p e s m args below meth c H locs F Q ls hC hH hl hr hx hth hcs
  refine lv_idiv hC.1 hC.2.1 hd (nI_ne0 h0 hb) ?_
  rw [pk_div ha h0 hb]
  exact K
theorem z_irem {a b : Nat} (hd : decode μ.2.1 pc = .ok (.irem, 1)) (ha : a < 2 ^ 31) (h0 : 0 < b) (hb : b < 2 ^ 31) (k : z_R l g ad μ rm E cn sn (pc + 1) L (.int (nI (a % b)) :: S) A B) : z_R l g ad μ rm E cn sn pc L (.int (nI b) :: .int (nI a) :: S) A B := by
  intro p e s m args below meth c H locs F Q ls hC hH hl hr hx hth hcs
  have K := k p e s m args below meth c H locs F Q ls hC hH hl hr hx hth hcs
  refine lv_irem hC.1 hC.2.1 hd (nI_ne0 h0 hb) ?_
  rw [pk_rem ha h0 hb]
  exact K
theorem z_ishl {a b : Nat} (hd : decode μ.2.1 pc = .ok (.ishl, 1)) (hb : b < 32) (k : z_R l g ad μ rm E cn sn (pc + 1) L (.int (nI (a * 2 ^ b)) :: S) A B) : z_R l g ad μ rm E cn sn pc L (.int (nI b) :: .int (nI a) :: S) A B := by
  intro p e s m args below meth c H locs F Q ls hC hH hl hr hx hth hcs
  have K := k p e s m args below meth c H locs F Q ls hC hH hl hr hx hth hcs
  refine lv_ishl hC.1 hC.2.1 hd  ?_
  rw [z_shl_ a hb]
  exact K
theorem z_ishr {a b : Nat} (hd : decode μ.2.1 pc = .ok (.ishr, 1)) (ha : a < 2 ^ 31) (hb : b < 32) (k : z_R l g ad μ rm E cn sn (pc + 1) L (.int (nI (a / 2 ^ b)) :: S) A B) : z_R l g ad μ rm E cn sn pc L (.int (nI b) :: .int (nI a) :: S) A B := by
  intro p e s m args below meth c H locs F Q ls hC hH hl hr hx hth hcs
  have K := k p e s m args below meth c H locs F Q ls hC hH hl hr hx hth hcs
  refine lv_ishr hC.1 hC.2.1 hd  ?_
  rw [z_shr_ ha hb]
  exact K
theorem z_iushr {a b : Nat} (hd : decode μ.2.1 pc = .ok (.iushr, 1)) (ha : a < 2 ^ 32) (hb : b < 32) (k : z_R l g ad μ rm E cn sn (pc + 1) L (.int (nI (a / 2 ^ b)) :: S) A B) : z_R l g ad μ rm E cn sn pc L (.int (nI b) :: .int (nI a) :: S) A B := by
  intro p e s m args below meth c H locs F Q ls hC hH hl hr hx hth hcs
  have K := k p e s m args below meth c H locs F Q ls hC hH hl hr hx hth hcs
  exact lv_iushr hC.1 hC.2.1 hd (z_ushr_ ha hb) K
theorem z_lshl {a b : Nat} (hd : decode μ.2.1 pc = .ok (.lshl, 1)) (hb : b < 64) (k : z_R l g ad μ rm E cn sn (pc + 1) L (.long (lN (a * 2 ^ b)) :: S) A B) : z_R l g ad μ rm E cn sn pc L (.int (nI b) :: .long (lN a) :: S) A B := by
  intro p e s m args below meth c H locs F Q ls hC hH hl hr hx hth hcs
  have K := k p e s m args below meth c H locs F Q ls hC hH hl hr hx hth hcs
  exact lv_lshl hC.1 hC.2.1 hd (wb_shl a hb) K
theorem z_lushr {a b : Nat} (hd : decode μ.2.1 pc = .ok (.lushr, 1)) (ha : a < 2 ^ 64) (hb : b < 64) (k : z_R l g ad μ rm E cn sn (pc + 1) L (.long (lN (a / 2 ^ b)) :: S) A B) : z_R l g ad μ rm E cn sn pc L (.int (nI b) :: .long (lN a) :: S) A B := by
  intro p e s m args below meth c H locs F Q ls hC hH hl hr hx hth hcs
  have K := k p e s m args below meth c H locs F Q ls hC hH hl hr hx hth hcs
  exact lv_lushr hC.1 hC.2.1 hd (wb_shr ha hb) K
theorem z_lshr {x v : Int64} {y : Int32} (hd : decode μ.2.1 pc = .ok (.lshr, 1)) (hv : x >>> (y.toInt64 &&& 63) = v) (k : z_R l g ad μ rm E cn sn (pc + 1) L (.long v :: S) A B) : z_R l g ad μ rm E cn sn pc L (.int y :: .long x :: S) A B := by
  intro p e s m args below meth c H locs F Q ls hC hH hl hr hx hth hcs
  have K := k p e s m args below meth c H locs F Q ls hC hH hl hr hx hth hcs
  exact lv_lshr hC.1 hC.2.1 hd hv K
theorem z_i2l {a : Nat} (hd : decode μ.2.1 pc = .ok (.i2l, 1)) (ha : a < 2 ^ 31) (k : z_R l g ad μ rm E cn sn (pc + 1) L (.long (lN a) :: S) A B) : z_R l g ad μ rm E cn sn pc L (.int (nI a) :: S) A B := by
  intro p e s m args below meth c H locs F Q ls hC hH hl hr hx hth hcs
  have K := k p e s m args below meth c H locs F Q ls hC hH hl hr hx hth hcs
  exact lv_i2l hC.1 hC.2.1 hd (nI_l ha) K
theorem z_l2i {a : Nat} (hd : decode μ.2.1 pc = .ok (.l2i, 1))  (k : z_R l g ad μ rm E cn sn (pc + 1) L (.int (nI a) :: S) A B) : z_R l g ad μ rm E cn sn pc L (.long (lN a) :: S) A B := by
  intro p e s m args below meth c H locs F Q ls hC hH hl hr hx hth hcs
  have K := k p e s m args below meth c H locs F Q ls hC hH hl hr hx hth hcs
  exact lv_l2i hC.1 hC.2.1 hd (lN_i a) K
theorem z_lcmp {x y : Int64} (hd : decode μ.2.1 pc = .ok (.lcmp, 1)) (k : z_R l g ad μ rm E cn sn (pc + 1) L (.int (lg_cmp x y) :: S) A B) : z_R l g ad μ rm E cn sn pc L (.long y :: .long x :: S) A B := by
  intro p e s m args below meth c H locs F Q ls hC hH hl hr hx hth hcs
  exact W.lcmp hC.1 hC.2.1 hd (k p e s m args below meth c H locs F Q ls hC hH hl hr hx hth hcs)
theorem z_top {x y : Value} (h : x = y) (k : z_R l g ad μ rm E cn sn pc L (y :: S) A B) : z_R l g ad μ rm E cn sn pc L (x :: S) A B := by subst h; exact k
theorem z_st {S S' : List Value} (h : S = S') (k : z_R l g ad μ rm E cn sn pc L S' A B) : z_R l g ad μ rm E cn sn pc L S A B := by subst h; exact k
theorem z_wd {A' B' : z_A} (hA : A = A') (hB : B = B') (k : z_R l g ad μ rm E cn sn pc L S A' B') : z_R l g ad μ rm E cn sn pc L S A B := by subst hA; subst hB; exact k
theorem z_ls {L' : List (Nat × Value)} (ks : List Nat) (h : lv_pick L ks = L') (k : z_R l g ad μ rm E cn sn pc L' S A B) : z_R l g ad μ rm E cn sn pc L S A B := by
  intro p e s m args below meth c H locs F Q ls hC hH hl hr hx hth hcs
  exact k p e s m args below meth c H locs F Q ls hC hH (lv_sub hl ks h) hr hx hth hcs
theorem z_dup {v : Value} (hd : decode μ.2.1 pc = .ok (.dup, 1)) (hv : v.category = 1) (k : z_R l g ad μ rm E cn sn (pc + 1) L (v :: v :: S) A B) : z_R l g ad μ rm E cn sn pc L (v :: S) A B := by
  intro p e s m args below meth c H locs F Q ls hC hH hl hr hx hth hcs
  exact lv_dup hC.1 hC.2.1 hd hv (k p e s m args below meth c H locs F Q ls hC hH hl hr hx hth hcs)
theorem z_pop {v : Value} (hd : decode μ.2.1 pc = .ok (.pop, 1)) (hv : v.category = 1) (k : z_R l g ad μ rm E cn sn (pc + 1) L S A B) : z_R l g ad μ rm E cn sn pc L (v :: S) A B := by
  intro p e s m args below meth c H locs F Q ls hC hH hl hr hx hth hcs
  exact lv_pop hC.1 hC.2.1 hd hv (k p e s m args below meth c H locs F Q ls hC hH hl hr hx hth hcs)
theorem z_dup2 {v w : Value} (hd : decode μ.2.1 pc = .ok (.dup2, 1)) (hv : v.category = 1) (hw : w.category = 1) (k : z_R l g ad μ rm E cn sn (pc + 1) L (v :: w :: v :: w :: S) A B) : z_R l g ad μ rm E cn sn pc L (v :: w :: S) A B := by
  intro p e s m args below meth c H locs F Q ls hC hH hl hr hx hth hcs
  exact lv_dup2_11 hC.1 hC.2.1 hd hv hw (k p e s m args below meth c H locs F Q ls hC hH hl hr hx hth hcs)
theorem z_goto {off : Int} {tgt : Nat} (hd : decode μ.2.1 pc = .ok (.goto off, 3)) (ht : (pc : Int) + off = (tgt : Int)) (k : z_R l g ad μ rm E cn sn tgt L S A B) : z_R l g ad μ rm E cn sn pc L S A B := by
  intro p e s m args below meth c H locs F Q ls hC hH hl hr hx hth hcs
  exact lv_goto hC.1 hC.2.1 hd ht (k p e s m args below meth c H locs F Q ls hC hH hl hr hx hth hcs)
theorem z_icmp_eq {a b : Nat} (ha : a < 2 ^ 31) (hb : b < 2 ^ 31) {off : Int} {tgt : Nat} (hd : decode μ.2.1 pc = .ok (.if_icmp .eq off, 3)) (ht : (pc : Int) + off = (tgt : Int)) (kt : a = b → z_R l g ad μ rm E cn sn tgt L S A B) (kf : ¬ (a = b) → z_R l g ad μ rm E cn sn (pc + 3) L S A B) : z_R l g ad μ rm E cn sn pc L (.int (nI b) :: .int (nI a) :: S) A B := by
  intro p e s m args below meth c H locs F Q ls hC hH hl hr hx hth hcs
  exact lv_icmp_eq hC.1 hC.2.1 hd ht (fun h => kt ((nI_eq ha hb).mp h) p e s m args below meth c H locs F Q ls hC hH hl hr hx hth hcs) (fun h => kf (fun q => h ((nI_eq ha hb).mpr q)) p e s m args below meth c H locs F Q ls hC hH hl hr hx hth hcs)
theorem z_if_eq {a : Nat} (ha : a < 2 ^ 31) {off : Int} {tgt : Nat} (hd : decode μ.2.1 pc = .ok (.ifCond .eq off, 3)) (ht : (pc : Int) + off = (tgt : Int)) (kt : a = 0 → z_R l g ad μ rm E cn sn tgt L S A B) (kf : ¬ (a = 0) → z_R l g ad μ rm E cn sn (pc + 3) L S A B) : z_R l g ad μ rm E cn sn pc L (.int (nI a) :: S) A B := by
  intro p e s m args below meth c H locs F Q ls hC hH hl hr hx hth hcs
  exact lv_if_eq hC.1 hC.2.1 hd ht (fun h => kt ((z_iff_eq ha).mp h) p e s m args below meth c H locs F Q ls hC hH hl hr hx hth hcs) (fun h => kf (fun q => h ((z_iff_eq ha).mpr q)) p e s m args below meth c H locs F Q ls hC hH hl hr hx hth hcs)
theorem z_icmpX_eq {x y : Int32} {off : Int} {tgt : Nat} (hd : decode μ.2.1 pc = .ok (.if_icmp .eq off, 3)) (ht : (pc : Int) + off = (tgt : Int)) (kt : x = y → z_R l g ad μ rm E cn sn tgt L S A B) (kf : ¬ (x = y) → z_R l g ad μ rm E cn sn (pc + 3) L S A B) : z_R l g ad μ rm E cn sn pc L (.int y :: .int x :: S) A B := by
  intro p e s m args below meth c H locs F Q ls hC hH hl hr hx hth hcs
  exact lv_icmp_eq hC.1 hC.2.1 hd ht (fun h => kt (h) p e s m args below meth c H locs F Q ls hC hH hl hr hx hth hcs) (fun h => kf (h) p e s m args below meth c H locs F Q ls hC hH hl hr hx hth hcs)
theorem z_ifX_eq {x : Int32} {off : Int} {tgt : Nat} (hd : decode μ.2.1 pc = .ok (.ifCond .eq off, 3)) (ht : (pc : Int) + off = (tgt : Int)) (kt : x = 0 → z_R l g ad μ rm E cn sn tgt L S A B) (kf : ¬ (x = 0) → z_R l g ad μ rm E cn sn (pc + 3) L S A B) : z_R l g ad μ rm E cn sn pc L (.int x :: S) A B := by
  intro p e s m args below meth c H locs F Q ls hC hH hl hr hx hth hcs
  exact lv_if_eq hC.1 hC.2.1 hd ht (fun h => kt (h) p e s m args below meth c H locs F Q ls hC hH hl hr hx hth hcs) (fun h => kf (h) p e s m args below meth c H locs F Q ls hC hH hl hr hx hth hcs)
theorem z_icmp_ne {a b : Nat} (ha : a < 2 ^ 31) (hb : b < 2 ^ 31) {off : Int} {tgt : Nat} (hd : decode μ.2.1 pc = .ok (.if_icmp .ne off, 3)) (ht : (pc : Int) + off = (tgt : Int)) (kt : ¬ (a = b) → z_R l g ad μ rm E cn sn tgt L S A B) (kf : a = b → z_R l g ad μ rm E cn sn (pc + 3) L S A B) : z_R l g ad μ rm E cn sn pc L (.int (nI b) :: .int (nI a) :: S) A B := by
  intro p e s m args below meth c H locs F Q ls hC hH hl hr hx hth hcs
  exact lv_icmp_ne hC.1 hC.2.1 hd ht (fun h => kt (fun q => h ((nI_eq ha hb).mpr q)) p e s m args below meth c H locs F Q ls hC hH hl hr hx hth hcs) (fun h => kf ((nI_eq ha hb).mp h) p e s m args below meth c H locs F Q ls hC hH hl hr hx hth hcs)
theorem z_if_ne {a : Nat} (ha : a < 2 ^ 31) {off : Int} {tgt : Nat} (hd : decode μ.2.1 pc = .ok (.ifCond .ne off, 3)) (ht : (pc : Int) + off = (tgt : Int)) (kt : ¬ (a = 0) → z_R l g ad μ rm E cn sn tgt L S A B) (kf : a = 0 → z_R l g ad μ rm E cn sn (pc + 3) L S A B) : z_R l g ad μ rm E cn sn pc L (.int (nI a) :: S) A B := by
  intro p e s m args below meth c H locs F Q ls hC hH hl hr hx hth hcs
  exact lv_if_ne hC.1 hC.2.1 hd ht (fun h => kt (fun q => h ((z_iff_eq ha).mpr q)) p e s m args below meth c H locs F Q ls hC hH hl hr hx hth hcs) (fun h => kf ((z_iff_eq ha).mp h) p e s m args below meth c H locs F Q ls hC hH hl hr hx hth hcs)
theorem z_icmpX_ne {x y : Int32} {off : Int} {tgt : Nat} (hd : decode μ.2.1 pc = .ok (.if_icmp .ne off, 3)) (ht : (pc : Int) + off = (tgt : Int)) (kt : ¬ (x = y) → z_R l g ad μ rm E cn sn tgt L S A B) (kf : x = y → z_R l g ad μ rm E cn sn (pc + 3) L S A B) : z_R l g ad μ rm E cn sn pc L (.int y :: .int x :: S) A B := by
  intro p e s m args below meth c H locs F Q ls hC hH hl hr hx hth hcs
  exact lv_icmp_ne hC.1 hC.2.1 hd ht (fun h => kt (h) p e s m args below meth c H locs F Q ls hC hH hl hr hx hth hcs) (fun h => kf (h) p e s m args below meth c H locs F Q ls hC hH hl hr hx hth hcs)
theorem z_ifX_ne {x : Int32} {off : Int} {tgt : Nat} (hd : decode μ.2.1 pc = .ok (.ifCond .ne off, 3)) (ht : (pc : Int) + off = (tgt : Int)) (kt : ¬ (x = 0) → z_R l g ad μ rm E cn sn tgt L S A B) (kf : x = 0 → z_R l g ad μ rm E cn sn (pc + 3) L S A B) : z_R l g ad μ rm E cn sn pc L (.int x :: S) A B := by
  intro p e s m args below meth c H locs F Q ls hC hH hl hr hx hth hcs
  exact lv_if_ne hC.1 hC.2.1 hd ht (fun h => kt (h) p e s m args below meth c H locs F Q ls hC hH hl hr hx hth hcs) (fun h => kf (h) p e s m args below meth c H locs F Q ls hC hH hl hr hx hth hcs)
theorem z_icmp_lt {a b : Nat} (ha : a < 2 ^ 31) (hb : b < 2 ^ 31) {off : Int} {tgt : Nat} (hd : decode μ.2.1 pc = .ok (.if_icmp .lt off, 3)) (ht : (pc : Int) + off = (tgt : Int)) (kt : a < b → z_R l g ad μ rm E cn sn tgt L S A B) (kf : ¬ (a < b) → z_R l g ad μ rm E cn sn (pc + 3) L S A B) : z_R l g ad μ rm E cn sn pc L (.int (nI b) :: .int (nI a) :: S) A B := by
  intro p e s m args below meth c H locs F Q ls hC hH hl hr hx hth hcs
  exact lv_icmp_lt hC.1 hC.2.1 hd ht (fun h => kt ((nI_ltI ha hb).mp h) p e s m args below meth c H locs F Q ls hC hH hl hr hx hth hcs) (fun h => kf (fun q => h ((nI_ltI ha hb).mpr q)) p e s m args below meth c H locs F Q ls hC hH hl hr hx hth hcs)
theorem z_if_lt {a : Nat} (ha : a < 2 ^ 31) {off : Int} {tgt : Nat} (hd : decode μ.2.1 pc = .ok (.ifCond .lt off, 3)) (ht : (pc : Int) + off = (tgt : Int)) (kt : a < 0 → z_R l g ad μ rm E cn sn tgt L S A B) (kf : ¬ (a < 0) → z_R l g ad μ rm E cn sn (pc + 3) L S A B) : z_R l g ad μ rm E cn sn pc L (.int (nI a) :: S) A B := by
  intro p e s m args below meth c H locs F Q ls hC hH hl hr hx hth hcs
  exact lv_if_lt hC.1 hC.2.1 hd ht (fun h => kt ((z_iff_lt ha).mp h) p e s m args below meth c H locs F Q ls hC hH hl hr hx hth hcs) (fun h => kf (fun q => h ((z_iff_lt ha).mpr q)) p e s m args below meth c H locs F Q ls hC hH hl hr hx hth hcs)
theorem z_icmpX_lt {x y : Int32} {off : Int} {tgt : Nat} (hd : decode μ.2.1 pc = .ok (.if_icmp .lt off, 3)) (ht : (pc : Int) + off = (tgt : Int)) (kt : x < y → z_R l g ad μ rm E cn sn tgt L S A B) (kf : ¬ (x < y) → z_R l g ad μ rm E cn sn (pc + 3) L S A B) : z_R l g ad μ rm E cn sn pc L (.int y :: .int x :: S) A B := by
  intro p e s m args below meth c H locs F Q ls hC hH hl hr hx hth hcs
  exact lv_icmp_lt hC.1 hC.2.1 hd ht (fun h => kt (h) p e s m args below meth c H locs F Q ls hC hH hl hr hx hth hcs) (fun h => kf (h) p e s m args below meth c H locs F Q ls hC hH hl hr hx hth hcs)
theorem z_ifX_lt {x : Int32} {off : Int} {tgt : Nat} (hd : decode μ.2.1 pc = .ok (.ifCond .lt off, 3)) (ht : (pc : Int) + off = (tgt : Int)) (kt : x < 0 → z_R l g ad μ rm E cn sn tgt L S A B) (kf : ¬ (x < 0) → z_R l g ad μ rm E cn sn (pc + 3) L S A B) : z_R l g ad μ rm E cn sn pc L (.int x :: S) A B := by
  intro p e s m args below meth c H locs F Q ls hC hH hl hr hx hth hcs
  exact lv_if_lt hC.1 hC.2.1 hd ht (fun h => kt (h) p e s m args below meth c H locs F Q ls hC hH hl hr hx hth hcs) (fun h => kf (h) p e s m args below meth c H locs F Q ls hC hH hl hr hx hth hcs)
theorem z_icmp_ge {a b : Nat} (ha : a < 2 ^ 31) (hb : b < 2 ^ 31) {off : Int} {tgt : Nat} (hd : decode μ.2.1 pc = .ok (.if_icmp .ge off, 3)) (ht : (pc : Int) + off = (tgt : Int)) (kt : b ≤ a → z_R l g ad μ rm E cn sn tgt L S A B) (kf : ¬ (b ≤ a) → z_R l g ad μ rm E cn sn (pc + 3) L S A B) : z_R l g ad μ rm E cn sn pc L (.int (nI b) :: .int (nI a) :: S) A B := by
  intro p e s m args below meth c H locs F Q ls hC hH hl hr hx hth hcs
  exact lv_icmp_ge hC.1 hC.2.1 hd ht (fun h => kt ((nI_leI hb ha).mp h) p e s m args below meth c H locs F Q ls hC hH hl hr hx hth hcs) (fun h => kf (fun q => h ((nI_leI hb ha).mpr q)) p e s m args below meth c H locs F Q ls hC hH hl hr hx hth hcs)
theorem z_if_ge {a : Nat} (ha : a < 2 ^ 31) {off : Int} {tgt : Nat} (hd : decode μ.2.1 pc = .ok (.ifCond .ge off, 3)) (ht : (pc : Int) + off = (tgt : Int)) (kt : 0 ≤ a → z_R l g ad μ rm E cn sn tgt L S A B) (kf : ¬ (0 ≤ a) → z_R l g ad μ rm E cn sn (pc + 3) L S A B) : z_R l g ad μ rm E cn sn pc L (.int (nI a) :: S) A B := by
  intro p e s m args below meth c H locs F Q ls hC hH hl hr hx hth hcs
  exact lv_if_ge hC.1 hC.2.1 hd ht (fun h => kt ((z_iff_ge ha).mp h) p e s m args below meth c H locs F Q ls hC hH hl hr hx hth hcs) (fun h => kf (fun q => h ((z_iff_ge ha).mpr q)) p e s m args below meth c H locs F Q ls hC hH hl hr hx hth hcs)
theorem z_icmpX_ge {x y : Int32} {off : Int} {tgt : Nat} (hd : decode μ.2.1 pc = .ok (.if_icmp .ge off, 3)) (ht : (pc : Int) + off = (tgt : Int)) (kt : y ≤ x → z_R l g ad μ rm E cn sn tgt L S A B) (kf : ¬ (y ≤ x) → z_R l g ad μ rm E cn sn (pc + 3) L S A B) : z_R l g ad μ rm E cn sn pc L (.int y :: .int x :: S) A B := by
  intro p e s m args below meth c H locs F Q ls hC hH hl hr hx hth hcs
  exact lv_icmp_ge hC.1 hC.2.1 hd ht (fun h => kt (h) p e s m args below meth c H locs F Q ls hC hH hl hr hx hth hcs) (fun h => kf (h) p e s m args below meth c H locs F Q ls hC hH hl hr hx hth hcs)
theorem z_ifX_ge {x : Int32} {off : Int} {tgt : Nat} (hd : decode μ.2.1 pc = .ok (.ifCond .ge off, 3)) (ht : (pc : Int) + off = (tgt : Int)) (kt : 0 ≤ x → z_R l g ad μ rm E cn sn tgt L S A B) (kf : ¬ (0 ≤ x) → z_R l g ad μ rm E cn sn (pc + 3) L S A B) : z_R l g ad μ rm E cn sn pc L (.int x :: S) A B := by
  intro p e s m args below meth c H locs F Q ls hC hH hl hr hx hth hcs
  exact lv_if_ge hC.1 hC.2.1 hd ht (fun h => kt (h) p e s m args below meth c H locs F Q ls hC hH hl hr hx hth hcs) (fun h => kf (h) p e s m args below meth c H locs F Q ls hC hH hl hr hx hth hcs)
theorem z_icmp_gt {a b : Nat} (ha : a < 2 ^ 31) (hb : b < 2 ^ 31) {off : Int} {tgt : Nat} (hd : decode μ.2.1 pc = .ok (.if_icmp .gt off, 3)) (ht : (pc : Int) + off = (tgt : Int)) (kt : b < a → z_R l g ad μ rm E cn sn tgt L S A B) (kf : ¬ (b < a) → z_R l g ad μ rm E cn sn (pc + 3) L S A B) : z_R l g ad μ rm E cn sn pc L (.int (nI b) :: .int (nI a) :: S) A B := by
  intro p e s m args below meth c H locs F Q ls hC hH hl hr hx hth hcs
  exact lv_icmp_gt hC.1 hC.2.1 hd ht (fun h => kt ((nI_ltI hb ha).mp h) p e s m args below meth c H locs F Q ls hC hH hl hr hx hth hcs) (fun h => kf (fun q => h ((nI_ltI hb ha).mpr q)) p e s m args below meth c H locs F Q ls hC hH hl hr hx hth hcs)
theorem z_if_gt {a : Nat} (ha : a < 2 ^ 31) {off : Int} {tgt : Nat} (hd : decode μ.2.1 pc = .ok (.ifCond .gt off, 3)) (ht : (pc : Int) + off = (tgt : Int)) (kt : 0 < a → z_R l g ad μ rm E cn sn tgt L S A B) (kf : ¬ (0 < a) → z_R l g ad μ rm E cn sn (pc + 3) L S A B) : z_R l g ad μ rm E cn sn pc L (.int (nI a) :: S) A B := by
  intro p e s m args below meth c H locs F Q ls hC hH hl hr hx hth hcs
  exact lv_if_gt hC.1 hC.2.1 hd ht (fun h => kt ((z_iff_gt ha).mp h) p e s m args below meth c H locs F Q ls hC hH hl hr hx hth hcs) (fun h => kf (fun q => h ((z_iff_gt ha).mpr q)) p e s m args below meth c H locs F Q ls hC hH hl hr hx hth hcs)
theorem z_icmpX_gt {x y : Int32} {off : Int} {tgt : Nat} (hd : decode μ.2.1 pc = .ok (.if_icmp .gt off, 3)) (ht : (pc : Int) + off = (tgt : Int)) (kt : y < x → z_R l g ad μ rm E cn sn tgt L S A B) (kf : ¬ (y < x) → z_R l g ad μ rm E cn sn (pc + 3) L S A B) : z_R l g ad μ rm E cn sn pc L (.int y :: .int x :: S) A B := by
  intro p e s m args below meth c H locs F Q ls hC hH hl hr hx hth hcs
  exact lv_icmp_gt hC.1 hC.2.1 hd ht (fun h => kt (h) p e s m args below meth c H locs F Q ls hC hH hl hr hx hth hcs) (fun h => kf (h) p e s m args below meth c H locs F Q ls hC hH hl hr hx hth hcs)
theorem z_ifX_gt {x : Int32} {off : Int} {tgt : Nat} (hd : decode μ.2.1 pc = .ok (.ifCond .gt off, 3)) (ht : (pc : Int) + off = (tgt : Int)) (kt : 0 < x → z_R l g ad μ rm E cn sn tgt L S A B) (kf : ¬ (0 < x) → z_R l g ad μ rm E cn sn (pc + 3) L S A B) : z_R l g ad μ rm E cn sn pc L (.int x :: S) A B := by
  intro p e s m args below meth c H locs F Q ls hC hH hl hr hx hth hcs
  exact lv_if_gt hC.1 hC.2.1 hd ht (fun h => kt (h) p e s m args below meth c H locs F Q ls hC hH hl hr hx hth hcs) (fun h => kf (h) p e s m args below meth c H locs F Q ls hC hH hl hr hx hth hcs)
theorem z_icmp_le {a b : Nat} (ha : a < 2 ^ 31) (hb : b < 2 ^ 31) {off : Int} {tgt : Nat} (hd : decode μ.2.1 pc = .ok (.if_icmp .le off, 3)) (ht : (pc : Int) + off = (tgt : Int)) (kt : a ≤ b → z_R l g ad μ rm E cn sn tgt L S A B) (kf : ¬ (a ≤ b) → z_R l g ad μ rm E cn sn (pc + 3) L S A B) : z_R l g ad μ rm E cn sn pc L (.int (nI b) :: .int (nI a) :: S) A B := by
  intro p e s m args below meth c H locs F Q ls hC hH hl hr hx hth hcs
  exact lv_icmp_le hC.1 hC.2.1 hd ht (fun h => kt ((nI_leI ha hb).mp h) p e s m args below meth c H locs F Q ls hC hH hl hr hx hth hcs) (fun h => kf (fun q => h ((nI_leI ha hb).mpr q)) p e s m args below meth c H locs F Q ls hC hH hl hr hx hth hcs)
theorem z_if_le {a : Nat} (ha : a < 2 ^ 31) {off : Int} {tgt : Nat} (hd : decode μ.2.1 pc = .ok (.ifCond .le off, 3)) (ht : (pc : Int) + off = (tgt : Int)) (kt : a ≤ 0 → z_R l g ad μ rm E cn sn tgt L S A B) (kf : ¬ (a ≤ 0) → z_R l g ad μ rm E cn sn (pc + 3) L S A B) : z_R l g ad μ rm E cn sn pc L (.int (nI a) :: S) A B := by
  intro p e s m args below meth c H locs F Q ls hC hH hl hr hx hth hcs
  exact lv_if_le hC.1 hC.2.1 hd ht (fun h => kt ((z_iff_le ha).mp h) p e s m args below meth c H locs F Q ls hC hH hl hr hx hth hcs) (fun h => kf (fun q => h ((z_iff_le ha).mpr q)) p e s m args below meth c H locs F Q ls hC hH hl hr hx hth hcs)
theorem z_icmpX_le {x y : Int32} {off : Int} {tgt : Nat} (hd : decode μ.2.1 pc = .ok (.if_icmp .le off, 3)) (ht : (pc : Int) + off = (tgt : Int)) (kt : x ≤ y → z_R l g ad μ rm E cn sn tgt L S A B) (kf : ¬ (x ≤ y) → z_R l g ad μ rm E cn sn (pc + 3) L S A B) : z_R l g ad μ rm E cn sn pc L (.int y :: .int x :: S) A B := by
  intro p e s m args below meth c H locs F Q ls hC hH hl hr hx hth hcs
  exact lv_icmp_le hC.1 hC.2.1 hd ht (fun h => kt (h) p e s m args below meth c H locs F Q ls hC hH hl hr hx hth hcs) (fun h => kf (h) p e s m args below meth c H locs F Q ls hC hH hl hr hx hth hcs)
theorem z_ifX_le {x : Int32} {off : Int} {tgt : Nat} (hd : decode μ.2.1 pc = .ok (.ifCond .le off, 3)) (ht : (pc : Int) + off = (tgt : Int)) (kt : x ≤ 0 → z_R l g ad μ rm E cn sn tgt L S A B) (kf : ¬ (x ≤ 0) → z_R l g ad μ rm E cn sn (pc + 3) L S A B) : z_R l g ad μ rm E cn sn pc L (.int x :: S) A B := by
  intro p e s m args below meth c H locs F Q ls hC hH hl hr hx hth hcs
  exact lv_if_le hC.1 hC.2.1 hd ht (fun h => kt (h) p e s m args below meth c H locs F Q ls hC hH hl hr hx hth hcs) (fun h => kf (h) p e s m args below meth c H locs F Q ls hC hH hl hr hx hth hcs)
theorem z_cell_ia {g : z_G} {ad : Nat → Nat} {k n : Nat} {fs : List (Nat × Nat)} (h : z_sh k = (0, n, fs)) (a b : Nat → Nat) : z_cell g ad (z_sh k) a b = .inl (g.2 0, n, .inl (fun j => nI (a j))) := by rw [h]; rfl
theorem z_sh_lt {k : Nat} {d : Nat × Nat × List (Nat × Nat)} (h : z_sh k = d) (hk : k < z_N) : k < z_N := hk
theorem z_iaload {k j n : Nat} (ho : z_ia k n) (hj : j < n) (hd : decode μ.2.1 pc = .ok (.iaload, 1)) (K : z_R l g ad μ rm E cn sn (pc + 1) L (.int (nI (A k j)) :: S) A B) : z_R l g ad μ rm E cn sn pc L (.int (nI j) :: .ref (ad k) :: S) A B := by
  obtain ⟨hk, hs, hn⟩ := ho
  intro p e s m args below meth c H locs F Q ls hC hH hl hr hx hth hcs
  have K := K p e s m args below meth c H locs F Q ls hC hH hl hr hx hth hcs
  refine va_iald hC.1 hC.2.1 hC.2.2.2.2.2.2.1 hH.1 k 0 ((z_w_get g ad A B hk).trans (by rw [z_cell_ia hs])) rfl (vp_in_nI hj hn) hd ?_
  rw [nI_clamp (by omega)]
  exact K
theorem z_iastore {k j n x : Nat} (ho : z_ia k n) (hj : j < n) (hd : decode μ.2.1 pc = .ok (.iastore, 1)) (K : z_R l g ad μ rm E cn sn (pc + 1) L S (z_set A k j x) B) : z_R l g ad μ rm E cn sn pc L (.int (nI x) :: .int (nI j) :: .ref (ad k) :: S) A B := by
  obtain ⟨hk, hs, hn⟩ := ho
  intro p e s m args below meth c H locs F Q ls hC hH hl hr hx hth hcs
  refine va_iast hC.1 hC.2.1 hC.2.2.2.2.2.2.1 hH.1 hH.2.1 hH.2.2.1 k 0 ((z_w_get g ad A B hk).trans (by rw [z_cell_ia hs])) rfl (vp_in_nI hj hn) hd (fun H1 locs1 hP1 hD1 hS1 => ?_)
  have hw : (z_w g ad A B).set k (ad k, .inl (g.2 0, n, .inl (upd (fun j => nI (A k j)) (nI j).toNatClampNeg (nI x)))) = z_w g ad (z_set A k j x) B := by
    rw [← z_w_set g ad A B (z_set A k j x) B hk (fun i hi => va_up_ne _ _ hi) (fun _ _ => rfl), z_cell_ia hs, nI_clamp (by omega)]
    congr 5
    refine congrArg Sum.inl (funext fun i => ?_)
    by_cases hi : i = j
    · subst hi; simp [upd, z_set, va_up]
    · simp [upd, z_set, va_up, hi]
  rw [hw] at hP1 hD1
  exact K p e s m args below meth c H1 locs1 F Q ls hC ⟨hP1, hD1, hS1, hH.2.2.2⟩ hl hr hx hth hcs
theorem z_aaload {k j t0 t tg : Nat} {fs : List (Nat × Nat)} {C : String} (ho : z_ra k t0 fs) (ht : (z_tys g)[t0]? = some (g.2 t0, .object C)) (hj : fs[j]? = some (tg, t)) (hd : decode μ.2.1 pc = .ok (.aaload, 1)) (K : z_R l g ad μ rm E cn sn (pc + 1) L (.ref (ad t) :: S) A B) : z_R l g ad μ rm E cn sn pc L (.int (nI j) :: .ref (ad k) :: S) A B := by
  obtain ⟨hk, hs, hn⟩ := ho
  intro p e s m args below meth c H locs F Q ls hC hH hl hr hx hth hcs
  have K := K p e s m args below meth c H locs F Q ls hC hH hl hr hx hth hcs
  have hlt : j < fs.length := (List.getElem?_eq_some_iff.mp hj).1
  refine va_aldq (C := C) hC.1 hC.2.1 hC.2.2.2.2.2.2.1 hH.1 k t0 (f := fun j => (fs[j]?).map (fun q => ad q.2)) ((z_w_get g ad A B hk).trans (by rw [hs]; rfl)) ht (vp_in_nI hlt hn) hd ?_
  rw [nI_clamp (by omega)]
  show W _ _ _ _ _ _ _ _ _ _ _ _ _ _ _ (F0 m (pc + 1) ls (va_rf ((fs[j]?).map (fun q => ad q.2)) :: S))
  rw [hj]
  exact K
theorem z_alen {k n : Nat} (ho : z_ia k n) (hd : decode μ.2.1 pc = .ok (.arraylength, 1)) (K : z_R l g ad μ rm E cn sn (pc + 1) L (.int (nI n) :: S) A B) : z_R l g ad μ rm E cn sn pc L (.ref (ad k) :: S) A B := by
  obtain ⟨hk, hs, hn⟩ := ho
  intro p e s m args below meth c H locs F Q ls hC hH hl hr hx hth hcs
  exact va_alen hC.1 hC.2.1 hC.2.2.2.2.2.2.1 hH.1 k 0 (show _ = some (ad k, Sum.inl (g.2 0, n, Sum.inl (fun j => nI (A k j)))) from (z_w_get g ad A B hk).trans (by rw [z_cell_ia hs])) rfl rfl hd (K p e s m args below meth c H locs F Q ls hC hH hl hr hx hth hcs)
theorem z_fs_get (ad : Nat → Nat) (a b : Nat → Nat) : ∀ (fs : List (Nat × Nat)) (j0 f : Nat) (q : Nat × Nat), fs[f]? = some q → (z_fs ad a b j0 fs)[f]? = some (z_fv ad a b (j0 + f) q)
  | [], _, _, _, h => by cases h
  | q0 :: t, j0, 0, q, h => by cases h; rfl
  | q0 :: t, j0, f + 1, q, h => by
    have := z_fs_get ad a b t (j0 + 1) f q h
    rw [show j0 + (f + 1) = j0 + 1 + f by omega]
    exact this
/-- a field's words: the class's table, the link, and that the named field is the declared one -/
def z_fw (own : String) (idx ci f : Nat) (C : String) (T : u_T) (Nf : Nat) (ref : String) : Prop :=
  z_cl[ci]? = some (C, T, Nf) ∧ f < Nf ∧ (∀ w ∈ u_ws C T Nf, w ∈ z_TB) ∧ Cond.fieldLink own idx ref (T f).2.1 (T f).2.2.1 ∈ z_TB ∧ ((T f).1 = ref ∨ Cond.sameField ref (T f).1 (T f).2.1 (T f).2.2.1 ∈ z_TB)
def z_pw (own : String) (idx ci f : Nat) (C : String) (T : u_T) (Nf : Nat) (ref : String) (ty0 : Nat → FieldType) (ty : FieldType) : Prop :=
  z_fw own idx ci f C T Nf ref ∧ (∀ k, k < Nf → parseFieldDescriptor (T k).2.2.1 = some (ty0 k)) ∧ (∀ a, a < Nf → ∀ b, b < Nf → a ≠ b → (T a).2.1 ≠ (T b).2.1) ∧ (T f).2.2.2 = false ∧ parseFieldDescriptor (T f).2.2.1 = some ty
theorem z_getV {k ci f idx Nf : Nat} {fs : List (Nat × Nat)} {C ref : String} {T : u_T} {q : Nat × Nat} (ho : z_ob k ci fs) (hf : fs[f]? = some q) (hw : z_fw μ.1.cls idx ci f C T Nf ref) (hd : decode μ.2.1 pc = .ok (.getfield idx, 3)) (K : z_R l g ad μ rm E cn sn (pc + 3) L (z_fv ad (A k) (B k) f q :: S) A B) : z_R l g ad μ rm E cn sn pc L (.ref (ad k) :: S) A B := by
  obtain ⟨hk, hs⟩ := ho
  intro p e s m args below meth c H locs F Q ls hC hH hl hr hx hth hcs
  obtain ⟨h1, h2, h3, h4, h5⟩ := hw
  refine va_get hC.1 hC.2.1 hC.2.2.2.2.2.1 h3 hC.2.2.2.2.1 hC.2.2.2.2.2.2.1 hH.1 k ((z_w_get g ad A B hk).trans (by rw [hs]; rfl)) h1 f h2 (hC.2.2.2.2.2.1 _ h4) (fun x9 h9 => ?_) (v := z_fv ad (A k) (B k) f q) ?_ hd (K p e s m args below meth c H locs F Q ls hC hH hl hr hx hth hcs)
  · rcases h5 with h5 | h5
    · rw [← h5]; exact h9
    · exact u_same (hC.2.2.2.2.2.1 _ h5) x9 h9
  · have := z_fs_get ad (A k) (B k) fs 0 f q hf
    rw [Nat.zero_add] at this
    exact this
theorem z_getI {k ci f idx Nf : Nat} {fs : List (Nat × Nat)} {C ref : String} {T : u_T} (ho : z_ob k ci fs) (hf : fs[f]? = some (0, 0)) (hw : z_fw μ.1.cls idx ci f C T Nf ref) (hd : decode μ.2.1 pc = .ok (.getfield idx, 3)) (K : z_R l g ad μ rm E cn sn (pc + 3) L (.int (nI (A k f)) :: S) A B) : z_R l g ad μ rm E cn sn pc L (.ref (ad k) :: S) A B := z_getV ho hf hw hd K
theorem z_getJ {k ci f idx Nf : Nat} {fs : List (Nat × Nat)} {C ref : String} {T : u_T} (ho : z_ob k ci fs) (hf : fs[f]? = some (1, 0)) (hw : z_fw μ.1.cls idx ci f C T Nf ref) (hd : decode μ.2.1 pc = .ok (.getfield idx, 3)) (K : z_R l g ad μ rm E cn sn (pc + 3) L (.long (lN (B k f)) :: S) A B) : z_R l g ad μ rm E cn sn pc L (.ref (ad k) :: S) A B := z_getV ho hf hw hd K
theorem z_getR {k ci f idx Nf t : Nat} {fs : List (Nat × Nat)} {C ref : String} {T : u_T} (ho : z_ob k ci fs) (hf : fs[f]? = some (2, t)) (hw : z_fw μ.1.cls idx ci f C T Nf ref) (hd : decode μ.2.1 pc = .ok (.getfield idx, 3)) (K : z_R l g ad μ rm E cn sn (pc + 3) L (.ref (ad t) :: S) A B) : z_R l g ad μ rm E cn sn pc L (.ref (ad k) :: S) A B := z_getV ho hf hw hd K
theorem z_fs_set (ad : Nat → Nat) (a b a' b' : Nat → Nat) : ∀ (fs : List (Nat × Nat)) (j0 f : Nat) (q : Nat × Nat), fs[f]? = some q → (∀ i, i ≠ j0 + f → a' i = a i) → (∀ i, i ≠ j0 + f → b' i = b i) → (z_fs ad a b j0 fs).set f (z_fv ad a' b' (j0 + f) q) = z_fs ad a' b' j0 fs
  | [], _, _, _, h, _, _ => by cases h
  | q0 :: t, j0, 0, q, h, ha, hb => by
    cases h
    have key : ∀ (fs : List (Nat × Nat)) (j : Nat), j0 < j → z_fs ad a b j fs = z_fs ad a' b' j fs := by
      intro fs
      induction fs with
      | nil => intro j _; rfl
      | cons q1 t1 ih =>
        intro j hj
        show z_fv ad a b j q1 :: _ = z_fv ad a' b' j q1 :: _
        rw [ih (j + 1) (by omega)]
        unfold z_fv
        rw [ha j (by omega), hb j (by omega)]
    show z_fv ad a' b' (j0 + 0) q0 :: z_fs ad a b (j0 + 1) t = z_fv ad a' b' j0 q0 :: z_fs ad a' b' (j0 + 1) t
    rw [key t (j0 + 1) (by omega)]
    rfl
  | q0 :: t, j0, f + 1, q, h, ha, hb => by
    have ih := z_fs_set ad a b a' b' t (j0 + 1) f q h (fun i hi => ha i (by omega)) (fun i hi => hb i (by omega))
    show z_fv ad a b j0 q0 :: (z_fs ad a b (j0 + 1) t).set f (z_fv ad a' b' (j0 + (f + 1)) q) = z_fv ad a' b' j0 q0 :: z_fs ad a' b' (j0 + 1) t
    rw [show j0 + (f + 1) = j0 + 1 + f by omega, ih]
    congr 1
    unfold z_fv
    rw [ha j0 (by omega), hb j0 (by omega)]
theorem z_putV {k ci f idx Nf : Nat} {fs : List (Nat × Nat)} {C ref : String} {T : u_T} {q : Nat × Nat} {A' B' : z_A} {ty : FieldType} (ty0 : Nat → FieldType) (ho : z_ob k ci fs) (hf : fs[f]? = some q) (hw : z_fw μ.1.cls idx ci f C T Nf ref)
    (hty : ∀ k, k < Nf → parseFieldDescriptor (T k).2.2.1 = some (ty0 k)) (hnm : ∀ a, a < Nf → ∀ b, b < Nf → a ≠ b → (T a).2.1 ≠ (T b).2.1) (hfin : (T f).2.2.2 = false) (hde : parseFieldDescriptor (T f).2.2.1 = some ty)
    (hA : ∀ i, i ≠ k → A' i = A i) (hB : ∀ i, i ≠ k → B' i = B i) (hA2 : ∀ i, i ≠ f → A' k i = A k i) (hB2 : ∀ i, i ≠ f → B' k i = B k i)
    (hn : narrow ty (z_fv ad (A' k) (B' k) f q) = z_fv ad (A' k) (B' k) f q) (hft : fits ty (z_fv ad (A' k) (B' k) f q) = true)
    (hd : decode μ.2.1 pc = .ok (.putfield idx, 3)) (K : z_R l g ad μ rm E cn sn (pc + 3) L S A' B') : z_R l g ad μ rm E cn sn pc L (z_fv ad (A' k) (B' k) f q :: .ref (ad k) :: S) A B := by
  obtain ⟨hk, hs⟩ := ho
  intro p e s m args below meth c H locs F Q ls hC hH hl hr hx hth hcs
  obtain ⟨h1, h2, h3, h4, h5⟩ := hw
  have hlen : f < (z_fs ad (A k) (B k) 0 fs).length := (List.getElem?_eq_some_iff.mp (z_fs_get ad (A k) (B k) fs 0 f q hf)).1
  refine va_put hC.1 hC.2.1 hC.2.2.2.2.2.1 h3 ty0 hty hnm hC.2.2.2.2.1 hC.2.2.2.2.2.2.1 hH.1 hH.2.1 hH.2.2.1 k ((z_w_get g ad A B hk).trans (by rw [hs]; rfl)) h1 f h2 (hC.2.2.2.2.2.1 _ h4) (fun x9 h9 => ?_) hfin hde hn hft hlen hd (fun H1 locs1 hP1 hD1 hS1 => ?_)
  · rcases h5 with h5 | h5
    · rw [← h5]; exact h9
    · exact u_same (hC.2.2.2.2.2.1 _ h5) x9 h9
  · have hw2 : (z_w g ad A B).set k (ad k, .inr (ci, (z_fs ad (A k) (B k) 0 fs).set f (z_fv ad (A' k) (B' k) f q))) = z_w g ad A' B' := by
      have h6 := z_fs_set ad (A k) (B k) (A' k) (B' k) fs 0 f q hf (fun i hi => hA2 i (by omega)) (fun i hi => hB2 i (by omega))
      rw [Nat.zero_add] at h6
      rw [h6, ← z_w_set g ad A B A' B' hk hA hB, hs]
      rfl
    rw [hw2] at hP1 hD1
    exact K p e s m args below meth c H1 locs1 F Q ls hC ⟨hP1, hD1, hS1, hH.2.2.2⟩ hl hr hx hth hcs
theorem z_putI {k ci f idx Nf x : Nat} {fs : List (Nat × Nat)} {C ref : String} {T : u_T} {ty0 : Nat → FieldType} (ho : z_ob k ci fs) (hf : fs[f]? = some (0, 0)) (hp : z_pw μ.1.cls idx ci f C T Nf ref ty0 .int)
    (hd : decode μ.2.1 pc = .ok (.putfield idx, 3)) (K : z_R l g ad μ rm E cn sn (pc + 3) L S (z_set A k f x) B) : z_R l g ad μ rm E cn sn pc L (.int (nI x) :: .ref (ad k) :: S) A B := by
  obtain ⟨hw, hty, hnm, hfin, hde⟩ := hp
  have hx : z_fv ad (z_set A k f x k) (B k) f (0, 0) = .int (nI x) := by simp [z_fv, z_set, va_up]
  have := z_putV (l := l) (g := g) (ad := ad) (rm := rm) (E := E) (cn := cn) (sn := sn) (L := L) (S := S) (A := A) (B := B) (A' := z_set A k f x) (B' := B) ty0 ho hf hw hty hnm hfin hde (fun i hi => va_up_ne _ _ hi) (fun _ _ => rfl) (fun i hi => by simp [z_set, va_up, hi]) (fun _ _ => rfl) (by rw [hx]; rfl) (by rw [hx]; rfl) hd K
  rw [hx] at this
  exact this
theorem z_putJ {k ci f idx Nf x : Nat} {fs : List (Nat × Nat)} {C ref : String} {T : u_T} {ty0 : Nat → FieldType} (ho : z_ob k ci fs) (hf : fs[f]? = some (1, 0)) (hp : z_pw μ.1.cls idx ci f C T Nf ref ty0 .long)
    (hd : decode μ.2.1 pc = .ok (.putfield idx, 3)) (K : z_R l g ad μ rm E cn sn (pc + 3) L S A (z_set B k f x)) : z_R l g ad μ rm E cn sn pc L (.long (lN x) :: .ref (ad k) :: S) A B := by
  obtain ⟨hw, hty, hnm, hfin, hde⟩ := hp
  have hx : z_fv ad (A k) (z_set B k f x k) f (1, 0) = .long (lN x) := by simp [z_fv, z_set, va_up]
  have := z_putV (l := l) (g := g) (ad := ad) (rm := rm) (E := E) (cn := cn) (sn := sn) (L := L) (S := S) (A := A) (B := B) (A' := A) (B' := z_set B k f x) ty0 ho hf hw hty hnm hfin hde (fun _ _ => rfl) (fun i hi => va_up_ne _ _ hi) (fun _ _ => rfl) (fun i hi => by simp [z_set, va_up, hi]) (by rw [hx]; rfl) (by rw [hx]; rfl) hd K
  rw [hx] at this
  exact this
def z_cpw (own : String) (idx : Nat) : Prop := Cond.methodLink own idx arraycopyName ∈ z_TB ∧ Cond.native arraycopyName ∈ z_TB ∧ Cond.static arraycopyName ∈ z_TB ∧ Cond.initialized "java/lang/System" ∈ z_TB
theorem z_copy {k0 k1 n0 n1 sp dp n idx : Nat} (ho0 : z_ia k0 n0) (ho1 : z_ia k1 n1) (h0 : sp + n ≤ n0) (h1 : dp + n ≤ n1)
    (hw : z_cpw μ.1.cls idx) (hfr : 1 ≤ rm.frames) (hw8 : (S.map fun v => v.category).sum ≤ 8) (hlo : 8 + (nativeFrameWords "java/lang/System" "arraycopy" 5 + 11) ≤ rm.locals)
    (hd : decode μ.2.1 pc = .ok (.invokestatic idx, 3)) (K : z_R l g ad μ rm E cn sn (pc + 3) L S (z_seg A k1 dp n (fun j => A k0 (sp + (j - dp)))) B) : z_R l g ad μ rm E cn sn pc L (.int (nI n) :: .int (nI dp) :: .ref (ad k1) :: .int (nI sp) :: .ref (ad k0) :: S) A B := by
  obtain ⟨hk0, hs0, hn0⟩ := ho0
  obtain ⟨hk1, hs1, hn1⟩ := ho1
  intro p e s m args below meth c H locs F Q ls hC hH hl hr hx hth hcs
  have e1 : (nI sp).toNatClampNeg = sp := nI_clamp (by omega)
  have e2 : (nI dp).toNatClampNeg = dp := nI_clamp (by omega)
  have e3 : (nI n).toNatClampNeg = n := nI_clamp (by omega)
  refine va_copyi hC.1 hC.2.1 (hC.2.2.1.trans hl.1.symm) hC.2.2.2.2.1 (hC.2.2.2.2.2.1 _ hw.1) (hC.2.2.2.2.2.1 _ hw.2.1) (hC.2.2.2.2.2.1 _ hw.2.2.1) (hC.2.2.2.2.2.1 _ hw.2.2.2) hC.2.2.2.2.2.2.1 hH.1 hH.2.1 hH.2.2.1 k0 k1 0 0 ((z_w_get g ad A B hk0).trans (by rw [z_cell_ia hs0])) ((z_w_get g ad A B hk1).trans (by rw [z_cell_ia hs1])) rfl rfl rfl (nI_pos (by omega)) (nI_pos (by omega)) (nI_pos (by omega)) (by rw [e1, e3]; exact h0) (by rw [e2, e3]; exact h1) (fun _ _ => rfl) hfr (Nat.le_trans (Nat.add_le_add_right hw8 _) hlo) hd (fun H1 locs1 hP1 hD1 hS1 => ?_)
  have hw2 : (z_w g ad A B).set k1 (ad k1, .inl (g.2 0, n1, .inl (va_cpy (fun j => nI (A k0 j)) (fun j => nI (A k1 j)) (nI sp).toNatClampNeg (nI dp).toNatClampNeg (nI n).toNatClampNeg))) = z_w g ad (va_up A k1 (va_cpy (A k0) (A k1) sp dp n)) B := by
    rw [← z_w_set g ad A B (va_up A k1 (va_cpy (A k0) (A k1) sp dp n)) B hk1 (fun i hi => va_up_ne _ _ hi) (fun _ _ => rfl), z_cell_ia hs1, e1, e2, e3, va_up_self]
    congr 5
    refine congrArg Sum.inl (funext fun i => ?_)
    unfold va_cpy
    split <;> rfl
  rw [hw2] at hP1 hD1
  exact K p e s m args below meth c H1 locs1 F Q ls hC ⟨hP1, hD1, hS1, hH.2.2.2⟩ hl hr hx hth hcs
/-- the end -/
theorem z_return {r : Option Value} (hn : z_nr r) (hd : decode μ.2.1 pc = .ok (z_ri r, 1)) (h : E r A B) : z_R l g ad μ rm E cn sn pc L r.toList A B := by
  intro p e s m args below meth c H locs F Q ls hC hH hl hr hx hth hcs
  exact hr r A B H locs pc ls cn sn h hn hH hd hcs.1 hcs.2
theorem z_throw {x : Nat} (h : z_thr μ pc x) (hE : E (some (.ref x)) A B) (hn : cn + 1 ≤ rm.cells ∧ sn + 6 ≤ rm.slots) : z_R l g ad μ rm E cn sn pc L [] A B := by
  intro p e s m args below meth c H locs F Q ls hC hH hl hr hx hth hcs
  exact hth x A B H locs pc ls cn sn hE hH hl.1 h hn.1 hn.2
theorem z_ret0 (hd : decode μ.2.1 pc = .ok (.return_, 1)) (h : E none A B) : z_R l g ad μ rm E cn sn pc L [] A B := z_return (r := none) (fun _ q => by cases q) hd h
theorem z_reti {x : Int32} (hd : decode μ.2.1 pc = .ok (.ireturn, 1)) (h : E (some (.int x)) A B) : z_R l g ad μ rm E cn sn pc L [.int x] A B := z_return (r := some (.int x)) (fun _ q => by cases q) hd h
theorem z_retl {x : Int64} (hd : decode μ.2.1 pc = .ok (.lreturn, 1)) (h : E (some (.long x)) A B) : z_R l g ad μ rm E cn sn pc L [.long x] A B := z_return (r := some (.long x)) (fun _ q => by cases q) hd h
end ZR
/-- a method's contract, over the whole world: from (A, B) with the arguments av it returns, and E holds -/
def z_Pc (g : z_G) (ad : Nat → Nat) (av : List Value) (A B : z_A) (sz : Nat) : Array Value → State → Prop := va_Pc av (fun U => U.heap.size = sz ∧ va_P g.1 z_cl (z_w g ad A B) U.heap ∧ z_KK g U ∧ va_D (fun _ => True) (z_w g ad A B) ∧ z_Zq (va_A (z_w g ad A B) sz) U U.heap)
def z_Qc (g : z_G) (ad : Nat → Nat) (E : Option Value → z_A → z_A → Prop) (F : Nat → Prop) : Array Value → State → Outcome → State → Prop := fun _ st oc t => (∃ (r : Option Value) (A' B' : z_A), oc = .returned r ∧ E r A' B' ∧ va_P g.1 z_cl (z_w g ad A' B') t.heap) ∧ va_F F st t
def z_ws (μ : z_M) : List Cond := Cond.code μ.1 μ.2.1 μ.2.2.1 μ.2.2.2 :: z_TB
def z_Met (l : Launch) (g : z_G) (ad : Nat → Nat) (μ : z_M) (rm : Room) (av : List Value) (A B : z_A) (E : Option Value → z_A → z_A → Prop) : Prop :=
  ∀ sz : Nat, Met l μ.1 (z_ws μ) rm (z_Pc g ad av A B sz) (z_Qc g ad E (va_A (z_w g ad A B) sz)) 0 0 (va_A (z_w g ad A B) sz)
def z_fit (ret : Option FieldType) (r : Option Value) : Prop := match r with
  | none => ret = none
  | some (.int v) => ret = some .int ∨ (ret = some .boolean ∧ narrow .boolean (.int v) = .int v)
  | some (.long _) => ret = some .long
  | _ => False
theorem z_Met.of {l : Launch} {g : z_G} {ad : Nat → Nat} {μ : z_M} {rm : Room} {av : List Value} {A B : z_A} {E : Option Value → z_A → z_A → Prop} {L : List (Nat × Value)} (hy : plainName μ.1.cls = true) (hav : (lg_sl av).length ≤ μ.2.2.1) (hfit : ∀ r A' B', E r A' B' → z_fit μ.2.2.2 r) (hL : lv_args 0 av = L)
    (hR : ∀ Ex : Option Value → z_A → z_A → Prop, (∀ r A' B', E r A' B' → Ex r A' B') → z_R l g ad μ rm Ex 0 0 0 L [] A B) (hrc : rm.cells = 0 ∧ rm.slots = 0 := by exact ⟨rfl, rfl⟩) : z_Met l g ad μ rm av A B E := by
  intro sz
  refine Met.ofW (cc := μ.2.1) (maxL := μ.2.2.1) (ret := μ.2.2.2) hy rfl ?_
  intro p e s m args below meth c s₁ Bd hml hv
  obtain ⟨rfl, hsz, hP, hK, hD0, hZ⟩ := hv
  have hts := atoms_spec (ws := z_ws μ) Bd.pre
  have hown : s.vm.findClass μ.1.cls = some m.cls := findClass_of_methodNamed Bd.named
  have hlocks := Bd.notSynchronized
  subst hsz
  have hD := hD0.self (sz := s.heap.size)
  have hl := lv_entry av (n := μ.2.2.1) hav
  rw [hL] at hl
  rw [lg_entry_eq]
  generalize (lg_sl av ++ List.replicate (μ.2.2.1 - (lg_sl av).length) Slot.unset).toArray = ls at hl ⊢
  refine hR E (fun _ _ _ h => h) p e s m _ below meth c s.heap [] (va_A (z_w g ad A B) s.heap.size) _ ls ⟨Bd.exec, Bd.bytes, hml, ⟨Bd.returns, fun hh hw => vx_table (x := μ.1) Bd (hts _ (List.mem_cons_of_mem _ hw))⟩, hown, fun w hw => hts w (List.mem_cons_of_mem _ hw), hK⟩ ⟨hP, hD, va_S.rf, fun q h => Or.inr h, hZ⟩ hl ?_ (fun x A' B' H' locs' pc' ls' S' q cn' sn' hE _ _ _ _ => (hfit _ _ _ hE).elim) (fun x A' B' H' locs' pc' ls' cn' sn' hE _ _ _ _ _ => (hfit _ _ _ hE).elim) ⟨Nat.zero_le _, Nat.zero_le _⟩
  intro r A' B' H' locs' pc' ls' cn' sn' hE _ hH' hd' hc' hs'
  rw [hrc.1] at hc'
  rw [hrc.2] at hs'
  obtain rfl : cn' = 0 := by omega
  obtain rfl : sn' = 0 := by omega
  have hq : ∀ t : State, t.heap = H' → s.WarmedH t.vm → z_Qc g ad E (va_A (z_w g ad A B) s.heap.size) av.toArray s (.returned r) t := fun t ht hW => ⟨⟨r, A', B', rfl, hE, by rw [ht]; exact hH'.1⟩, hH'.2.2.1.F ht⟩
  have hf := hfit r A' B' hE
  cases r with
  | none => exact W.vret Bd.exec Bd.bytes (Bd.returns.trans hf) hq hH'.2.2.1.2.2 hd'
  | some x =>
    cases x with
    | int v =>
      rcases hf with hf | ⟨hf, hv⟩
      · exact W.iret Bd.exec Bd.bytes (Bd.returns.trans hf) hq hH'.2.2.1.2.2 hd'
      · exact W.zret Bd.exec Bd.bytes (Bd.returns.trans hf) hv hq hH'.2.2.1.2.2 hd'
    | long v => exact W.lret Bd.exec Bd.bytes (Bd.returns.trans hf) hq hH'.2.2.1.2.2 hd'
    | _ => exact hf.elim
theorem z_good {μ μ' : z_M} (h : z_code μ' ∈ z_TB) : GoodIn (z_ws μ) (z_ws μ') := by
  intro w hw
  rcases List.mem_cons.mp hw with rfl | hw
  · exact ⟨List.mem_cons_of_mem _ h, good_of_word (List.mem_filter.mp h).2⟩
  · exact ⟨List.mem_cons_of_mem _ hw, good_of_word (List.mem_filter.mp hw).2⟩
theorem z_goodT {μ' : z_M} (h : z_code μ' ∈ z_TB) : GoodIn z_TB (z_ws μ') := by
  intro w hw
  rcases List.mem_cons.mp hw with rfl | hw
  · exact ⟨h, good_of_word (List.mem_filter.mp h).2⟩
  · exact ⟨hw, good_of_word (List.mem_filter.mp hw).2⟩
theorem z_blind {g : z_G} {ad : Nat → Nat} {av : List Value} {A B : z_A} {sz : Nat} : FrameBlind (z_Pc g ad av A B sz) := fun a U gf mk q => by
  obtain ⟨q0, q1, qP, qK, qD, qZ⟩ := q
  exact ⟨q0, q1, qP, z_KK.same rfl qK, qD, vx_Zq.moved (u := U) (Vm.Alike.refl U.vm) qZ.1, vx_Zq.moved (u := U) (Vm.Alike.refl U.vm) qZ.2⟩
/-- a method that answers r0 and leaves (A0, B0) -/
def z_eq (r0 : Option Value) (A0 B0 : z_A) : Option Value → z_A → z_A → Prop := fun r A B => r0 = r ∧ A0 = A ∧ B0 = B
theorem z_fit_eq {ret : Option FieldType} {r0 : Option Value} {A0 B0 : z_A} (h : z_fit ret r0) : ∀ r A' B', z_eq r0 A0 B0 r A' B' → z_fit ret r := by
  rintro r A' B' ⟨rfl, _, _⟩
  exact h
/-- a void method -/
def z_vd (P : z_A → z_A → Prop) : Option Value → z_A → z_A → Prop := fun r A B => r = none ∧ P A B
theorem z_fit_vd {P : z_A → z_A → Prop} : ∀ r A' B', z_vd P r A' B' → z_fit none r := by
  rintro r A' B' ⟨rfl, _⟩
  rfl
theorem z_r1 {l : Launch} {g : z_G} {ad : Nat → Nat} {μ : z_M} {rm : Room} {E : Option Value → z_A → z_A → Prop} {cn sn pc : Nat} {L : List (Nat × Value)} {S : List Value} {A B : z_A} {v : Value} (k : z_R l g ad μ rm E cn sn pc L (v :: S) A B) : z_R l g ad μ rm E cn sn pc L ((some v).toList ++ S) A B := k
theorem z_r0 {l : Launch} {g : z_G} {ad : Nat → Nat} {μ : z_M} {rm : Room} {E : Option Value → z_A → z_A → Prop} {cn sn pc : Nat} {L : List (Nat × Value)} {S : List Value} {A B : z_A} (k : z_R l g ad μ rm E cn sn pc L S A B) : z_R l g ad μ rm E cn sn pc L ((none : Option Value).toList ++ S) A B := k
/-- loops: I i is what holds at the head before turn i -/
theorem z_loop {l : Launch} {g : z_G} {ad : Nat → Nat} {μ : z_M} {rm : Room} {E : Option Value → z_A → z_A → Prop} {cn sn pc : Nat} {S : List Value} (n : Nat) (I : Nat → List (Nat × Value) → z_A → z_A → Prop)
    (step : ∀ i L A B, i < n → I i L A B → (∀ L' A' B', I (i + 1) L' A' B' → z_R l g ad μ rm E cn sn pc L' S A' B') → z_R l g ad μ rm E cn sn pc L S A B)
    (out : ∀ L A B, I n L A B → z_R l g ad μ rm E cn sn pc L S A B) : ∀ L A B, I 0 L A B → z_R l g ad μ rm E cn sn pc L S A B := by
  have key : ∀ d i L A B, i + d = n → I i L A B → z_R l g ad μ rm E cn sn pc L S A B := by
    intro d
    induction d with
    | zero =>
      intro i L A B h hI
      have : i = n := by omega
      subst this
      exact out L A B hI
    | succ d ih =>
      intro i L A B h hI
      exact step i L A B (by omega) hI (fun L' A' B' hI' => ih (i + 1) L' A' B' (by omega) hI')
  intro L A B hI
  exact key n 0 L A B (by omega) hI
theorem z_for {l : Launch} {g : z_G} {ad : Nat → Nat} {μ : z_M} {rm : Room} {E : Option Value → z_A → z_A → Prop} {cn sn pc : Nat} {S : List Value} (n : Nat) (Lf : Nat → List (Nat × Value)) (Af Bf : Nat → z_A)
    (step : ∀ i, i < n → z_R l g ad μ rm E cn sn pc (Lf (i + 1)) S (Af (i + 1)) (Bf (i + 1)) → z_R l g ad μ rm E cn sn pc (Lf i) S (Af i) (Bf i))
    (out : z_R l g ad μ rm E cn sn pc (Lf n) S (Af n) (Bf n)) : z_R l g ad μ rm E cn sn pc (Lf 0) S (Af 0) (Bf 0) := by
  refine z_loop n (fun i L A B => L = Lf i ∧ A = Af i ∧ B = Bf i) ?_ ?_ _ _ _ ⟨rfl, rfl, rfl⟩
  · rintro i L A B hi ⟨rfl, rfl, rfl⟩ k
    exact step i hi (k _ _ _ ⟨rfl, rfl, rfl⟩)
  · rintro L A B ⟨rfl, rfl, rfl⟩
    exact out
theorem z_seg_0 (A : z_A) (k a : Nat) (f : Nat → Nat) : z_seg A k a 0 f = A := by
  funext i j
  by_cases h : i = k
  · subst h
    have : ¬ (a ≤ j ∧ j < a + 0) := by omega
    simp only [z_seg, va_up, if_true, this, if_false]
  · simp [z_seg, va_up, h]
theorem z_seg_ne {A : z_A} {k a n : Nat} {f : Nat → Nat} {i : Nat} (h : i ≠ k) : z_seg A k a n f i = A i := by simp [z_seg, va_up, h]
theorem z_seg_in {A : z_A} {k a n : Nat} {f : Nat → Nat} {j : Nat} (h1 : a ≤ j) (h2 : j < a + n) : z_seg A k a n f k j = f j := by simp [z_seg, va_up, h1, h2]
theorem z_seg_out {A : z_A} {k a n : Nat} {f : Nat → Nat} {j : Nat} (h : j < a ∨ a + n ≤ j) : z_seg A k a n f k j = A k j := by
  have : ¬ (a ≤ j ∧ j < a + n) := by omega
  simp only [z_seg, va_up, if_true, this, if_false]
theorem z_seg_set {A : z_A} {k a n : Nat} {f : Nat → Nat} {x : Nat} (h : x = f (a + n)) : z_set (z_seg A k a n f) k (a + n) x = z_seg A k a (n + 1) f := by
  funext i j
  by_cases hi : i = k
  · subst hi
    by_cases hj : j = a + n
    · subst hj
      rw [z_seg_in (by omega) (by omega)]
      simp [z_set, va_up, h]
    · have e : z_set (z_seg A i a n f) i (a + n) x i j = z_seg A i a n f i j := by simp [z_set, va_up, hj]
      rw [e]
      by_cases h3 : a ≤ j ∧ j < a + n
      · rw [z_seg_in h3.1 h3.2, z_seg_in h3.1 (by omega)]
      · rw [z_seg_out (by omega), z_seg_out (by omega)]
  · simp [z_set, z_seg, va_up, hi]
/-- the world A, but cell k is f below n -/
def z_map (A : z_A) (k n : Nat) (f : Nat → Nat) : z_A := va_up A k (fun j => if j < n then f j else A k j)
theorem z_map_0 (A : z_A) (k : Nat) (f : Nat → Nat) : z_map A k 0 f = A := by
  funext i j
  by_cases h : i = k
  · subst h; simp [z_map, va_up]
  · simp [z_map, va_up, h]
theorem z_map_ne {A : z_A} {k n : Nat} {f : Nat → Nat} {i : Nat} (h : i ≠ k) : z_map A k n f i = A i := by simp [z_map, va_up, h]
theorem z_map_lt {A : z_A} {k n : Nat} {f : Nat → Nat} {j : Nat} (h : j < n) : z_map A k n f k j = f j := by simp [z_map, va_up, h]
theorem z_map_ge {A : z_A} {k n : Nat} {f : Nat → Nat} {j : Nat} (h : n ≤ j) : z_map A k n f k j = A k j := by simp [z_map, va_up, Nat.not_lt.mpr h]
theorem z_map_set {A : z_A} {k n : Nat} {f : Nat → Nat} {x : Nat} (h : x = f n) : z_set (z_map A k n f) k n x = z_map A k (n + 1) f := by
  funext i j
  by_cases hi : i = k
  · subst hi
    by_cases hj : j = n
    · subst hj; simp [z_set, z_map, va_up, h]
    · by_cases h3 : j < n
      · simp [z_set, z_map, va_up, hj, h3, Nat.lt_succ_of_lt h3]
      · have : ¬ j < n + 1 := by omega
        simp [z_set, z_map, va_up, hj, h3, this]
  · simp [z_set, z_map, va_up, hi]
theorem z_map_congr {A : z_A} {k n : Nat} {f f' : Nat → Nat} (h : ∀ j, j < n → f j = f' j) : z_map A k n f = z_map A k n f' := by
  unfold z_map
  congr 1
  funext j
  by_cases hj : j < n
  · simp [hj, h j hj]
  · simp [hj]
theorem z_set_ne {A : z_A} {k j x i : Nat} (h : i ≠ k) : z_set A k j x i = A i := by simp [z_set, va_up, h]
theorem z_set_at {A : z_A} {k j x : Nat} : z_set A k j x k j = x := by simp [z_set, va_up]
theorem z_set_nj {A : z_A} {k j x i : Nat} (h : i ≠ j) : z_set A k j x k i = A k i := by simp [z_set, va_up, h]
section ZC
variable {l : Launch} {g : z_G} {ad : Nat → Nat} {μ μ' : z_M} {rm rm' : Room} {E E' : Option Value → z_A → z_A → Prop} {cn sn pc idx : Nat} {L : List (Nat × Value)} {rest : List Value} {A B : z_A}
/-- behind a call -/
theorem z_after {p : Program} {e : Env} {s : State} {m : MethodId} {args : Array Value} {below : List Frame} {meth : Method} {c : Code} {H : Heap} {locs : List Loc} {F : Nat → Prop} {Q : State → Prop} {ls : Array Slot} {st0 : List Value} {a : Array Value}
    (hC : z_C g μ p s m args meth c) (hH : z_H g ad A B F s H locs) (hl : lv_has ls μ.2.2.1 L)
    (hr : ∀ (r : Option Value) (A' B' : z_A) (H' : Heap) (locs' : List Loc) (pc' : Nat) (ls' : Array Slot) (cn' sn' : Nat), E r A' B' → z_nr r → z_H g ad A' B' F s H' locs' → decode μ.2.1 pc' = .ok (z_ri r, 1) → cn' ≤ rm.cells → sn' ≤ rm.slots → W p l e rm s m args below meth c H' locs' cn' sn' Q (F0 m pc' ls' r.toList))
    (hx : ∀ (x : Nat) (A' B' : z_A) (H' : Heap) (locs' : List Loc) (pc' : Nat) (ls' : Array Slot) (S' : List Value) (q cn' sn' : Nat), E (some (.ref x)) A' B' → z_H g ad A' B' F s H' locs' → z_exc x s H' q → cn' ≤ rm.cells → sn' ≤ rm.slots → vx_W p l e rm s m args below meth c H' locs' cn' sn' Q (F0 m pc' ls' S') q)
    (hth : ∀ (x : Nat) (A' B' : z_A) (H' : Heap) (locs' : List Loc) (pc' : Nat) (ls' : Array Slot) (cn' sn' : Nat), E (some (.ref x)) A' B' → z_H g ad A' B' F s H' locs' → ls'.size = μ.2.2.1 → z_thr μ pc' x → cn' + 1 ≤ rm.cells → sn' + 6 ≤ rm.slots → W p l e rm s m args below meth c H' locs' cn' sn' Q (F0 m pc' ls' [])) (hcs : cn ≤ rm.cells ∧ sn ≤ rm.slots)
    (run : va_Run p l e rm s m args below meth c H locs cn sn 0 0 (F0 m pc ls st0) rest (z_Qc g ad E' (va_A (z_w g ad A B) H.size) a) (va_A (z_w g ad A B) H.size))
    (kk : ∀ (r : Option Value) (A' B' : z_A), E' r A' B' → z_R l g ad μ rm E cn sn (pc + 3) L (r.toList ++ rest) A' B') : W p l e rm s m args below meth c H locs cn sn Q (F0 m pc ls st0) := by
  intro T hT X
  obtain ⟨v, st₀, t, T', L1, h0, X', hL, e1, e2, ⟨⟨r, A', B', hv, hE, hP'⟩, hz, hk⟩, st⟩ := run T hT X
  cases hv
  rw [h0] at hz hk
  have hfree : ∀ q, va_A (z_w g ad A B) H.size q → F q := fun q h => by
    rcases h with ⟨k, e9, h⟩ | h
    · exact hH.2.1.2 k (q, e9) h
    · exact hH.2.2.2.1 q (Nat.le_trans hH.2.2.1.1 h)
  have hS' : va_S F s.heap T'.heap (locs ++ L1) := ⟨Nat.le_trans hH.2.2.1.1 (by rw [e1]; exact hz), fun q h1 h2 => by
      rw [e1, hk q (Nat.lt_of_lt_of_le h1 hH.2.2.1.1) (fun z => h2 (hfree q z))]
      exact hH.2.2.1.2.1 q h1 h2, fun q hq => by
      rcases List.mem_append.mp hq with h | h
      · exact hH.2.2.1.2.2 q h
      · exact hfree _ (hL q h)⟩
  obtain ⟨t2, a1, b1⟩ := kk v A' B' hE p e s m args below meth c T'.heap (locs ++ L1) F Q ls hC ⟨by rw [e1]; exact hP', z_D_moves hH.2.1, hS', hH.2.2.2⟩ hl hr hx hth hcs T' rfl X'
  exact ⟨t2, st t2 a1, b1⟩
theorem z_pre {s : State} {H : Heap} {locs : List Loc} {av : List Value} {F : Nat → Prop} (hK : z_KK g s) (hH : z_H g ad A B F s H locs) : ∀ U : State, U.heap = H → s.WarmedH U.vm → z_Pc g ad av A B H.size av.toArray U := fun U hU hW => by
  have hfree : ∀ q, va_A (z_w g ad A B) H.size q → F q := fun q h => by
    rcases h with ⟨k, e9, h⟩ | h
    · exact hH.2.1.2 k (q, e9) h
    · exact hH.2.2.2.1 q (Nat.le_trans hH.2.2.1.1 h)
  have hz := hH.2.2.2.2
  refine ⟨rfl, by rw [hU], by rw [hU]; exact hH.1, z_KK.warm hW hK, hH.2.1.weaken (fun _ _ _ _ => trivial), ?_, ?_⟩
  · rw [hU]; exact (vx_Zq.moved hW.alike (hz.1.kept hH.2.2.1.2.1)).narrow hfree
  · rw [hU]; exact (vx_Zq.moved hW.alike (hz.2.kept hH.2.2.1.2.1)).narrow hfree
/-- what a call's room asks -/
def z_rm (h : Nat) : Room := ⟨h, 0, 0, 32 * h + 32⟩
theorem z_cn0 {rm : Room} : 0 ≤ rm.cells ∧ 0 ≤ rm.slots := ⟨Nat.zero_le _, Nat.zero_le _⟩
abbrev z_room (rm rm' : Room) (μ' : z_M) : Prop := rm'.cells = 0 ∧ rm'.slots = 0 ∧ rm'.frames + 1 ≤ rm.frames ∧ 8 + (μ'.2.2.1 + 11) + rm'.locals ≤ rm.locals
/-- invokestatic -/
def z_cwS (own : String) (idx : Nat) (μ' : z_M) (n : Nat) : Prop := z_code μ' ∈ z_TB ∧ Cond.initialized μ'.1.cls ∈ z_TB ∧ Cond.methodLink own idx μ'.1 ∈ z_TB ∧ Cond.static μ'.1 ∈ z_TB ∧ (μ'.1.cls ≠ "java/lang/invoke/MethodHandle" ∧ μ'.1.cls ≠ "java/lang/invoke/VarHandle" ∧ (parseMethodDescriptor μ'.1.desc).map (fun d => d.parameters.length) = some n)
def z_cwV (own : String) (idx : Nat) (μ' : z_M) (n : Nat) : Prop := z_code μ' ∈ z_TB ∧ Cond.initialized μ'.1.cls ∈ z_TB ∧ Cond.methodLink own idx μ'.1 ∈ z_TB ∧ Cond.instanceMethod μ'.1 ∈ z_TB ∧ Cond.selects μ'.1.cls μ'.1 μ'.1 ∈ z_TB ∧ (μ'.1.cls ≠ "java/lang/invoke/MethodHandle" ∧ μ'.1.cls ≠ "java/lang/invoke/VarHandle" ∧ (parseMethodDescriptor μ'.1.desc).map (fun d => d.parameters.length) = some n)
theorem z_callS {As : List Value} {n : Nat} {st0 : List Value} (hM : z_Met l g ad μ' rm' As A B E') (hrm : z_room rm rm' μ') (hcw : z_cwS μ.1.cls idx μ' n) (hn : As.length = n) (hstk : st0 = As.reverse ++ rest) (hw8 : (rest.map fun v => v.category).sum ≤ 8)
    (hd : decode μ.2.1 pc = .ok (.invokestatic idx, 3)) (kk : ∀ (r : Option Value) (A' B' : z_A), E' r A' B' → z_R l g ad μ rm E cn sn (pc + 3) L (r.toList ++ rest) A' B') : z_R l g ad μ rm E cn sn pc L st0 A B := by
  obtain ⟨hcode, hini, hlink, hst, hd0⟩ := hcw
  intro p e s m args below meth c H locs F Q ls hC hH hl hr hx hth hcs
  have hts := hC.2.2.2.2.2.1
  refine z_after (E' := E') (a := As.toArray) hC hH hl hr hx hth hcs ?_ kk
  exact va_runS (own := μ.1.cls) (bytes := μ'.2.1) (maxL := μ'.2.2.1) (ret := μ'.2.2.2) (ws := z_ws μ') (n := n) ⟨hC.1, hC.2.1, hC.2.2.1, hC.2.2.2.2.1, hts⟩ (hM H.size) ⟨callB_of n hts (z_goodT hcode) rfl hrm.1 hrm.2.1 (hts _ hini) (hts _ hlink) hd0 ⟨hrm.2.2.1, hrm.2.2.2⟩, hts _ hst⟩ ⟨z_blind, z_pre hC.2.2.2.2.2.2 hH⟩ rfl hn hl.1 hstk (lv_room hw8) hd hcs
/-- invokevirtual, the method that the reference names -/
theorem z_callV {As : List Value} {n k ci Nf : Nat} {fs : List (Nat × Nat)} {T : u_T} {st0 : List Value} (hM : z_Met l g ad μ' rm' (.ref (ad k) :: As) A B E') (hrm : z_room rm rm' μ') (ho : z_ob k ci fs) (hc : z_cl[ci]? = some (μ'.1.cls, T, Nf)) (hcw : z_cwV μ.1.cls idx μ' n) (hn : As.length = n) (hstk : st0 = As.reverse ++ .ref (ad k) :: rest) (hw8 : (rest.map fun v => v.category).sum ≤ 8)
    (hd : decode μ.2.1 pc = .ok (.invokevirtual idx, 3)) (kk : ∀ (r : Option Value) (A' B' : z_A), E' r A' B' → z_R l g ad μ rm E cn sn (pc + 3) L (r.toList ++ rest) A' B') : z_R l g ad μ rm E cn sn pc L st0 A B := by
  obtain ⟨hk, hs⟩ := ho
  obtain ⟨hcode, hini, hlink, hin, hsel, hd0⟩ := hcw
  intro p e s m args below meth c H locs F Q ls hC hH hl hr hx hth hcs
  have hts := hC.2.2.2.2.2.1
  refine z_after (E' := E') (a := (.ref (ad k) :: As).toArray) hC hH hl hr hx hth hcs ?_ kk
  exact va_runV (own := μ.1.cls) (C := μ'.1.cls) (bytes := μ'.2.1) (maxL := μ'.2.2.1) (ret := μ'.2.2.2) (ws := z_ws μ') (n := n) ⟨hC.1, hC.2.1, hC.2.2.1, hC.2.2.2.2.1, hts⟩ (hM H.size) ⟨callB_of n hts (z_goodT hcode) rfl hrm.1 hrm.2.1 (hts _ hini) (hts _ hlink) hd0 ⟨hrm.2.2.1, hrm.2.2.2⟩, hts _ hin, hts _ hsel⟩ ⟨z_blind, va_recv hC.2.2.2.2.2.2.1 hH.1 hc ((z_w_get g ad A B hk).trans (by rw [hs]; rfl)), z_pre hC.2.2.2.2.2.2 hH⟩ rfl hn hl.1 hstk (lv_room hw8) hd hcs
/-- invokevirtual of a method that a class C above or below has: x is named, y = μ'.1 is run -/
def z_cwU (own : String) (idx : Nat) (C owner : String) (x : MethodName) (μ' : z_M) (n : Nat) : Prop := z_code μ' ∈ z_TB ∧ Cond.initialized μ'.1.cls ∈ z_TB ∧ Cond.methodLink own idx x ∈ z_TB ∧ Cond.sameMethod x.cls owner x.name x.desc ∈ z_TB ∧
  (∀ (g : z_G) (args : Array Value) (s : State), (∀ w ∈ z_TB, w.before args s = true) → z_KK g s → va_Decl s ⟨owner, x.name, x.desc⟩) ∧ Cond.instanceMethod μ'.1 ∈ z_TB ∧ Cond.selects C x μ'.1 ∈ z_TB ∧
  (owner ≠ "java/lang/invoke/MethodHandle" ∧ owner ≠ "java/lang/invoke/VarHandle" ∧ (parseMethodDescriptor x.desc).map (fun d => d.parameters.length) = some n)
theorem z_callU {As : List Value} {n k ci Nf : Nat} {fs : List (Nat × Nat)} {T : u_T} {C owner : String} {x : MethodName} {st0 : List Value} (hM : z_Met l g ad μ' rm' (.ref (ad k) :: As) A B E') (hrm : z_room rm rm' μ') (ho : z_ob k ci fs) (hc : z_cl[ci]? = some (C, T, Nf)) (hcw : z_cwU μ.1.cls idx C owner x μ' n)
    (hn : As.length = n) (hstk : st0 = As.reverse ++ .ref (ad k) :: rest) (hw8 : (rest.map fun v => v.category).sum ≤ 8)
    (hd : decode μ.2.1 pc = .ok (.invokevirtual idx, 3)) (kk : ∀ (r : Option Value) (A' B' : z_A), E' r A' B' → z_R l g ad μ rm E cn sn (pc + 3) L (r.toList ++ rest) A' B') : z_R l g ad μ rm E cn sn pc L st0 A B := by
  obtain ⟨hk, hs⟩ := ho
  obtain ⟨hcode, hini, hlink, hsame, hdecl, hin, hsel, hd0⟩ := hcw
  intro p e s m args below meth c H locs F Q ls hC hH hl hr hx hth hcs
  have hts := hC.2.2.2.2.2.1
  refine z_after (E' := E') (a := (.ref (ad k) :: As).toArray) hC hH hl hr hx hth hcs ?_ kk
  refine va_runU (own := μ.1.cls) (C := C) (owner := owner) (x := x) (bytes := μ'.2.1) (maxL := μ'.2.2.1) (ret := μ'.2.2.2) (ws := z_ws μ') (n := n) ⟨hC.1, hC.2.1, hC.2.2.1, hC.2.2.2.2.1, hts⟩ (hM H.size) ⟨⟨hrm.1, hrm.2.1, hrm.2.2.1, hrm.2.2.2, pay_in hts (z_goodT hcode), List.mem_cons_self⟩, hts _ hcode, hts _ hini, ⟨hd0.1, hd0.2.1⟩, fun sig h => ?_, hts _ hlink, hts _ hsame, hdecl g _ _ hts hC.2.2.2.2.2.2, hts _ hsel, hts _ hin⟩ ⟨z_blind, va_recv hC.2.2.2.2.2.2.1 hH.1 hc ((z_w_get g ad A B hk).trans (by rw [hs]; rfl)), z_pre hC.2.2.2.2.2.2 hH⟩ rfl hn hl.1 hstk (lv_room hw8) hd hcs
  have h2 := hd0.2.2
  rw [h] at h2
  exact (Option.some.inj h2).symm
end ZC
