/-! rows over an explicit list of cells, in a fixed context -/
def k_R (p : Program) (l : Launch) (e : Env) (s : State) (m : MethodId) (args : Array Value) (below : List Frame) (meth : Method) (c : Code) (F : Nat → Prop) (Q : State → Prop) (g : z_G) (μ : z_M) (rm : Room) (cn sn pc : Nat) (L : List (Nat × Value)) (S : List Value) (ws : va_W) : Prop :=
  ∀ (H : Heap) (locs : List Loc) (ls : Array Slot), va_P g.1 z_cl ws H → va_D F ws → va_S F s.heap H locs → lv_has ls μ.2.2.1 L → W p l e rm s m args below meth c H locs cn sn Q (F0 m pc ls S)
section KR
variable {p : Program} {l : Launch} {e : Env} {s : State} {m : MethodId} {args : Array Value} {below : List Frame} {meth : Method} {c : Code} {F : Nat → Prop} {Q : State → Prop} {g : z_G} {μ : z_M} {rm : Room} {cn sn pc : Nat} {L : List (Nat × Value)} {S : List Value} {ws : va_W}
theorem k_iconst (hC : z_C g μ p s m args meth c) {n : Int} {v : Nat} (hd : decode μ.2.1 pc = .ok (.iconst n, 1)) (hv : Int32.ofInt n = nI v) (k : k_R p l e s m args below meth c F Q g μ rm cn sn (pc + 1) L (.int (nI v) :: S) ws) : k_R p l e s m args below meth c F Q g μ rm cn sn (pc) L (S) ws := by
  intro H locs ls hP hD hS hl
  have K := k H locs ls hP hD hS hl
  exact lv_iconst hC.1 hC.2.1 hd hv K
theorem k_bipush (hC : z_C g μ p s m args meth c) {n : Int} {v : Nat} (hd : decode μ.2.1 pc = .ok (.bipush n, 2)) (hv : (Int8.ofInt n).toInt32 = nI v) (k : k_R p l e s m args below meth c F Q g μ rm cn sn (pc + 2) L (.int (nI v) :: S) ws) : k_R p l e s m args below meth c F Q g μ rm cn sn (pc) L (S) ws := by
  intro H locs ls hP hD hS hl
  have K := k H locs ls hP hD hS hl
  exact lv_bipush hC.1 hC.2.1 hd hv K
theorem k_sipush (hC : z_C g μ p s m args meth c) {n : Int} {v : Nat} (hd : decode μ.2.1 pc = .ok (.sipush n, 3)) (hv : (Int16.ofInt n).toInt32 = nI v) (k : k_R p l e s m args below meth c F Q g μ rm cn sn (pc + 3) L (.int (nI v) :: S) ws) : k_R p l e s m args below meth c F Q g μ rm cn sn (pc) L (S) ws := by
  intro H locs ls hP hD hS hl
  have K := k H locs ls hP hD hS hl
  exact lv_sipush hC.1 hC.2.1 hd hv K
theorem k_lconst (hC : z_C g μ p s m args meth c) {n : Fin 2} {v : Nat} (hd : decode μ.2.1 pc = .ok (.lconst n, 1)) (hv : Int64.ofNat (n : Nat) = lN v) (k : k_R p l e s m args below meth c F Q g μ rm cn sn (pc + 1) L (.long (lN v) :: S) ws) : k_R p l e s m args below meth c F Q g μ rm cn sn (pc) L (S) ws := by
  intro H locs ls hP hD hS hl
  have K := k H locs ls hP hD hS hl
  exact lv_lconst hC.1 hC.2.1 hd hv K
theorem k_ldc2 (hC : z_C g μ p s m args meth c) {idx : Nat} {w : Int64} {v : Nat} (hd : decode μ.2.1 pc = .ok (.ldc2_w idx, 3)) (hw : Cond.constantLong μ.1.cls idx w ∈ z_TB) (hv : w = lN v) (k : k_R p l e s m args below meth c F Q g μ rm cn sn (pc + 3) L (.long (lN v) :: S) ws) : k_R p l e s m args below meth c F Q g μ rm cn sn (pc) L (S) ws := by
  intro H locs ls hP hD hS hl
  have K := k H locs ls hP hD hS hl
  exact lv_ldc2 hC.1 hC.2.1 hC.2.2.2.2.1 (hC.2.2.2.2.2.1 _ hw) hd (by subst hv; exact K)
theorem k_iload_n (hC : z_C g μ p s m args meth c) {q : Fin 4} {i : Nat} {x : Int32} (hd : decode μ.2.1 pc = .ok (.iload_n q, 1)) (hi : (q : Nat) = i) (ht : L.find? (fun q => q.1 == i) = some (i, .int x)) (k : k_R p l e s m args below meth c F Q g μ rm cn sn (pc + 1) L (.int x :: S) ws) : k_R p l e s m args below meth c F Q g μ rm cn sn (pc) L (S) ws := by
  intro H locs ls hP hD hS hl
  have K := k H locs ls hP hD hS hl
  exact lv_iload_n hC.1 hC.2.1 hd hi (hl.2.2 _ (List.mem_of_find?_eq_some ht)) K
theorem k_iload (hC : z_C g μ p s m args meth c) {i : Nat} {x : Int32} (hd : decode μ.2.1 pc = .ok (.iload i, 2)) (ht : L.find? (fun q => q.1 == i) = some (i, .int x)) (k : k_R p l e s m args below meth c F Q g μ rm cn sn (pc + 2) L (.int x :: S) ws) : k_R p l e s m args below meth c F Q g μ rm cn sn (pc) L (S) ws := by
  intro H locs ls hP hD hS hl
  have K := k H locs ls hP hD hS hl
  exact lv_iload hC.1 hC.2.1 hd (hl.2.2 _ (List.mem_of_find?_eq_some ht)) K
theorem k_lload_n (hC : z_C g μ p s m args meth c) {q : Fin 4} {i : Nat} {x : Int64} (hd : decode μ.2.1 pc = .ok (.lload_n q, 1)) (hi : (q : Nat) = i) (ht : L.find? (fun q => q.1 == i) = some (i, .long x)) (k : k_R p l e s m args below meth c F Q g μ rm cn sn (pc + 1) L (.long x :: S) ws) : k_R p l e s m args below meth c F Q g μ rm cn sn (pc) L (S) ws := by
  intro H locs ls hP hD hS hl
  have K := k H locs ls hP hD hS hl
  exact lv_lload_n hC.1 hC.2.1 hd hi (hl.2.2 _ (List.mem_of_find?_eq_some ht)) K
theorem k_lload (hC : z_C g μ p s m args meth c) {i : Nat} {x : Int64} (hd : decode μ.2.1 pc = .ok (.lload i, 2)) (ht : L.find? (fun q => q.1 == i) = some (i, .long x)) (k : k_R p l e s m args below meth c F Q g μ rm cn sn (pc + 2) L (.long x :: S) ws) : k_R p l e s m args below meth c F Q g μ rm cn sn (pc) L (S) ws := by
  intro H locs ls hP hD hS hl
  have K := k H locs ls hP hD hS hl
  exact lv_lload hC.1 hC.2.1 hd (hl.2.2 _ (List.mem_of_find?_eq_some ht)) K
theorem k_aload_n (hC : z_C g μ p s m args meth c) {q : Fin 4} {i : Nat} {x : Nat} (hd : decode μ.2.1 pc = .ok (.aload_n q, 1)) (hi : (q : Nat) = i) (ht : L.find? (fun q => q.1 == i) = some (i, .ref x)) (k : k_R p l e s m args below meth c F Q g μ rm cn sn (pc + 1) L (.ref x :: S) ws) : k_R p l e s m args below meth c F Q g μ rm cn sn (pc) L (S) ws := by
  intro H locs ls hP hD hS hl
  have K := k H locs ls hP hD hS hl
  exact lv_aload_n hC.1 hC.2.1 hd hi (hl.2.2 _ (List.mem_of_find?_eq_some ht)) K
theorem k_aload (hC : z_C g μ p s m args meth c) {i : Nat} {x : Nat} (hd : decode μ.2.1 pc = .ok (.aload i, 2)) (ht : L.find? (fun q => q.1 == i) = some (i, .ref x)) (k : k_R p l e s m args below meth c F Q g μ rm cn sn (pc + 2) L (.ref x :: S) ws) : k_R p l e s m args below meth c F Q g μ rm cn sn (pc) L (S) ws := by
  intro H locs ls hP hD hS hl
  have K := k H locs ls hP hD hS hl
  exact lv_aload hC.1 hC.2.1 hd (hl.2.2 _ (List.mem_of_find?_eq_some ht)) K
theorem k_istore_n (hC : z_C g μ p s m args meth c) {q : Fin 4} {i : Nat} {x : Int32} {L' : List (Nat × Value)} (hd : decode μ.2.1 pc = .ok (.istore_n q, 1)) (hi : (q : Nat) = i) (hn : i < μ.2.2.1) (hL : (i, (.int x : Value)) :: L.filter (fun q => !(q.1 == i) && !(q.1 + 1 == i && q.2.category == 2)) = L') (k : k_R p l e s m args below meth c F Q g μ rm cn sn (pc + 1) L' S ws) : k_R p l e s m args below meth c F Q g μ rm cn sn pc L (.int x :: S) ws := by
  intro H locs ls hP hD hS hl
  exact lv_istore_n hC.1 hC.2.1 hd hi hl hn hL (fun ls' hl' => k H locs ls' hP hD hS hl')
theorem k_istore (hC : z_C g μ p s m args meth c) {i : Nat} {x : Int32} {L' : List (Nat × Value)} (hd : decode μ.2.1 pc = .ok (.istore i, 2)) (hn : i < μ.2.2.1) (hL : (i, (.int x : Value)) :: L.filter (fun q => !(q.1 == i) && !(q.1 + 1 == i && q.2.category == 2)) = L') (k : k_R p l e s m args below meth c F Q g μ rm cn sn (pc + 2) L' S ws) : k_R p l e s m args below meth c F Q g μ rm cn sn pc L (.int x :: S) ws := by
  intro H locs ls hP hD hS hl
  exact lv_istore hC.1 hC.2.1 hd hl hn hL (fun ls' hl' => k H locs ls' hP hD hS hl')
theorem k_lstore_n (hC : z_C g μ p s m args meth c) {q : Fin 4} {i : Nat} {x : Int64} {L' : List (Nat × Value)} (hd : decode μ.2.1 pc = .ok (.lstore_n q, 1)) (hi : (q : Nat) = i) (hn : i + 1 < μ.2.2.1) (hL : (i, (.long x : Value)) :: L.filter (fun q => !(q.1 == i) && (!(q.1 == i + 1) && !(q.1 + 1 == i && q.2.category == 2))) = L') (k : k_R p l e s m args below meth c F Q g μ rm cn sn (pc + 1) L' S ws) : k_R p l e s m args below meth c F Q g μ rm cn sn pc L (.long x :: S) ws := by
  intro H locs ls hP hD hS hl
  exact lv_lstore_n hC.1 hC.2.1 hd hi hl hn hL (fun ls' hl' => k H locs ls' hP hD hS hl')
theorem k_lstore (hC : z_C g μ p s m args meth c) {i : Nat} {x : Int64} {L' : List (Nat × Value)} (hd : decode μ.2.1 pc = .ok (.lstore i, 2)) (hn : i + 1 < μ.2.2.1) (hL : (i, (.long x : Value)) :: L.filter (fun q => !(q.1 == i) && (!(q.1 == i + 1) && !(q.1 + 1 == i && q.2.category == 2))) = L') (k : k_R p l e s m args below meth c F Q g μ rm cn sn (pc + 2) L' S ws) : k_R p l e s m args below meth c F Q g μ rm cn sn pc L (.long x :: S) ws := by
  intro H locs ls hP hD hS hl
  exact lv_lstore hC.1 hC.2.1 hd hl hn hL (fun ls' hl' => k H locs ls' hP hD hS hl')
theorem k_astore_n (hC : z_C g μ p s m args meth c) {q : Fin 4} {i : Nat} {x : Nat} {L' : List (Nat × Value)} (hd : decode μ.2.1 pc = .ok (.astore_n q, 1)) (hi : (q : Nat) = i) (hn : i < μ.2.2.1) (hL : (i, (.ref x : Value)) :: L.filter (fun q => !(q.1 == i) && !(q.1 + 1 == i && q.2.category == 2)) = L') (k : k_R p l e s m args below meth c F Q g μ rm cn sn (pc + 1) L' S ws) : k_R p l e s m args below meth c F Q g μ rm cn sn pc L (.ref x :: S) ws := by
  intro H locs ls hP hD hS hl
  exact lv_astore_n hC.1 hC.2.1 hd hi hl hn hL (fun ls' hl' => k H locs ls' hP hD hS hl')
theorem k_astore (hC : z_C g μ p s m args meth c) {i : Nat} {x : Nat} {L' : List (Nat × Value)} (hd : decode μ.2.1 pc = .ok (.astore i, 2)) (hn : i < μ.2.2.1) (hL : (i, (.ref x : Value)) :: L.filter (fun q => !(q.1 == i) && !(q.1 + 1 == i && q.2.category == 2)) = L') (k : k_R p l e s m args below meth c F Q g μ rm cn sn (pc + 2) L' S ws) : k_R p l e s m args below meth c F Q g μ rm cn sn pc L (.ref x :: S) ws := by
  intro H locs ls hP hD hS hl
  exact lv_astore hC.1 hC.2.1 hd hl hn hL (fun ls' hl' => k H locs ls' hP hD hS hl')
theorem k_iinc (hC : z_C g μ p s m args meth c) {i : Nat} {n : Int} {x v : Nat} {L' : List (Nat × Value)} (hd : decode μ.2.1 pc = .ok (.iinc i n, 3)) (ht : L.find? (fun q => q.1 == i) = some (i, .int (nI x))) (hv : Int32.ofInt n = nI v) (hn : i < μ.2.2.1) (hL : (i, Value.int (nI (x + v))) :: L.filter (fun q => !(q.1 == i) && !(q.1 + 1 == i && q.2.category == 2)) = L') (k : k_R p l e s m args below meth c F Q g μ rm cn sn (pc + 3) L' S ws) : k_R p l e s m args below meth c F Q g μ rm cn sn pc L S ws := by
  intro H locs ls hP hD hS hl
  obtain ⟨t, ht'⟩ := List.getElem?_of_mem (List.mem_of_find?_eq_some ht)
  exact lv_iinc hC.1 hC.2.1 hd hl ht' (by rw [hv]; exact nI_add x v) hn hL (fun ls' hl' => k H locs ls' hP hD hS hl')
theorem k_iadd (hC : z_C g μ p s m args meth c) {a b : Nat} (hd : decode μ.2.1 pc = .ok (.iadd, 1))  (k : k_R p l e s m args below meth c F Q g μ rm cn sn (pc + 1) L (.int (nI (a + b)) :: S) ws) : k_R p l e s m args below meth c F Q g μ rm cn sn pc L (.int (nI b) :: .int (nI a) :: S) ws := by
  intro H locs ls hP hD hS hl
  have K := k H locs ls hP hD hS hl
  refine lv_iadd hC.1 hC.2.1 hd ?_
  rw [nI_add]
  exact K
theorem k_isub (hC : z_C g μ p s m args meth c) {a b : Nat} (hd : decode μ.2.1 pc = .ok (.isub, 1)) (h : b ≤ a) (k : k_R p l e s m args below meth c F Q g μ rm cn sn (pc + 1) L (.int (nI (a - b)) :: S) ws) : k_R p l e s m args below meth c F Q g μ rm cn sn pc L (.int (nI b) :: .int (nI a) :: S) ws := by
  intro H locs ls hP hD hS hl
  have K := k H locs ls hP hD hS hl
  refine lv_isub hC.1 hC.2.1 hd ?_
  rw [pk_sub h]
  exact K
theorem k_imul (hC : z_C g μ p s m args meth c) {a b : Nat} (hd : decode μ.2.1 pc = .ok (.imul, 1))  (k : k_R p l e s m args below meth c F Q g μ rm cn sn (pc + 1) L (.int (nI (a * b)) :: S) ws) : k_R p l e s m args below meth c F Q g μ rm cn sn pc L (.int (nI b) :: .int (nI a) :: S) ws := by
  intro H locs ls hP hD hS hl
  have K := k H locs ls hP hD hS hl
  refine lv_imul hC.1 hC.2.1 hd ?_
  rw [pk_mul]
  exact K
theorem k_iand (hC : z_C g μ p s m args meth c) {a b : Nat} (hd : decode μ.2.1 pc = .ok (.iand, 1))  (k : k_R p l e s m args below meth c F Q g μ rm cn sn (pc + 1) L (.int (nI (a &&& b)) :: S) ws) : k_R p l e s m args below meth c F Q g μ rm cn sn pc L (.int (nI b) :: .int (nI a) :: S) ws := by
  intro H locs ls hP hD hS hl
  have K := k H locs ls hP hD hS hl
  refine lv_iand hC.1 hC.2.1 hd ?_
  rw [nx_and]
  exact K
theorem k_ixor (hC : z_C g μ p s m args meth c) {a b : Nat} (hd : decode μ.2.1 pc = .ok (.ixor, 1))  (k : k_R p l e s m args below meth c F Q g μ rm cn sn (pc + 1) L (.int (nI (a ^^^ b)) :: S) ws) : k_R p l e s m args below meth c F Q g μ rm cn sn pc L (.int (nI b) :: .int (nI a) :: S) ws := by
  intro H locs ls hP hD hS hl
  have K := k H locs ls hP hD hS hl
  refine lv_ixor hC.1 hC.2.1 hd ?_
  rw [nx_xor]
  exact K
theorem k_ior (hC : z_C g μ p s m args meth c) {a b : Nat} (hd : decode μ.2.1 pc = .ok (.ior, 1))  (k : k_R p l e s m args below meth c F Q g μ rm cn sn (pc + 1) L (.int (nI (a ||| b)) :: S) ws) : k_R p l e s m args below meth c F Q g μ rm cn sn pc L (.int (nI b) :: .int (nI a) :: S) ws := by
  intro H locs ls hP hD hS hl
  have K := k H locs ls hP hD hS hl
  refine lv_ior hC.1 hC.2.1 hd ?_
  rw [z_nior]
  exact K
theorem k_ladd (hC : z_C g μ p s m args meth c) {a b : Nat} (hd : decode μ.2.1 pc = .ok (.ladd, 1))  (k : k_R p l e s m args below meth c F Q g μ rm cn sn (pc + 1) L (.long (lN (a + b)) :: S) ws) : k_R p l e s m args below meth c F Q g μ rm cn sn pc L (.long (lN b) :: .long (lN a) :: S) ws := by
  intro H locs ls hP hD hS hl
  have K := k H locs ls hP hD hS hl
  refine lv_ladd hC.1 hC.2.1 hd ?_
  rw [lN_add]
  exact K
theorem k_lmul (hC : z_C g μ p s m args meth c) {a b : Nat} (hd : decode μ.2.1 pc = .ok (.lmul, 1))  (k : k_R p l e s m args below meth c F Q g μ rm cn sn (pc + 1) L (.long (lN (a * b)) :: S) ws) : k_R p l e s m args below meth c F Q g μ rm cn sn pc L (.long (lN b) :: .long (lN a) :: S) ws := by
  intro H locs ls hP hD hS hl
  have K := k H locs ls hP hD hS hl
  refine lv_lmul hC.1 hC.2.1 hd ?_
  rw [lN_mul]
  exact K
theorem k_lxor (hC : z_C g μ p s m args meth c) {a b : Nat} (hd : decode μ.2.1 pc = .ok (.lxor, 1))  (k : k_R p l e s m args below meth c F Q g μ rm cn sn (pc + 1) L (.long (lN (a ^^^ b)) :: S) ws) : k_R p l e s m args below meth c F Q g μ rm cn sn pc L (.long (lN b) :: .long (lN a) :: S) ws := by
  intro H locs ls hP hD hS hl
  have K := k H locs ls hP hD hS hl
  refine lv_lxor hC.1 hC.2.1 hd ?_
  rw [lN_xor]
  exact K
theorem k_land (hC : z_C g μ p s m args meth c) {a b : Nat} (hd : decode μ.2.1 pc = .ok (.land, 1))  (k : k_R p l e s m args below meth c F Q g μ rm cn sn (pc + 1) L (.long (lN (a &&& b)) :: S) ws) : k_R p l e s m args below meth c F Q g μ rm cn sn pc L (.long (lN b) :: .long (lN a) :: S) ws := by
  intro H locs ls hP hD hS hl
  have K := k H locs ls hP hD hS hl
  refine lv_land hC.1 hC.2.1 hd ?_
  rw [z_land_]
  exact K
theorem k_lor (hC : z_C g μ p s m args meth c) {a b : Nat} (hd : decode μ.2.1 pc = .ok (.lor, 1))  (k : k_R p l e s m args below meth c F Q g μ rm cn sn (pc + 1) L (.long (lN (a ||| b)) :: S) ws) : k_R p l e s m args below meth c F Q g μ rm cn sn pc L (.long (lN b) :: .long (lN a) :: S) ws := by
  intro H locs ls hP hD hS hl
  have K := k H locs ls hP hD hS hl
  refine lv_lor hC.1 hC.2.1 hd ?_
  rw [z_lor_]
  exact K
theorem k_idiv (hC : z_C g μ p s m args meth c) {a b : Nat} (hd : decode μ.2.1 pc = .ok (.idiv, 1)) (ha : a < 2 ^ 31) (h0 : 0 < b) (hb : b < 2 ^ 31) (k : k_R p l e s m args below meth c F Q g μ rm cn sn (pc + 1) L (.int (nI (a / b)) :: S) ws) : k_R p l e s m args below meth c F Q g μ rm cn sn pc L (.int (nI b) :: .int (nI a) :: S) ws := by
  intro H locs ls hP hD hS hl
  have K := k H locs ls hP hD hS hl
  refine lv_idiv hC.1 hC.2.1 hd (nI_ne0 h0 hb) ?_
  rw [pk_div ha h0 hb]
  exact K
theorem k_irem (hC : z_C g μ p s m args meth c) {a b : Nat} (hd : decode μ.2.1 pc = .ok (.irem, 1)) (ha : a < 2 ^ 31) (h0 : 0 < b) (hb : b < 2 ^ 31) (k : k_R p l e s m args below meth c F Q g μ rm cn sn (pc + 1) L (.int (nI (a % b)) :: S) ws) : k_R p l e s m args below meth c F Q g μ rm cn sn pc L (.int (nI b) :: .int (nI a) :: S) ws := by
  intro H locs ls hP hD hS hl
  have K := k H locs ls hP hD hS hl
  refine lv_irem hC.1 hC.2.1 hd (nI_ne0 h0 hb) ?_
  rw [pk_rem ha h0 hb]
  exact K
theorem k_ishl (hC : z_C g μ p s m args meth c) {a b : Nat} (hd : decode μ.2.1 pc = .ok (.ishl, 1)) (hb : b < 32) (k : k_R p l e s m args below meth c F Q g μ rm cn sn (pc + 1) L (.int (nI (a * 2 ^ b)) :: S) ws) : k_R p l e s m args below meth c F Q g μ rm cn sn pc L (.int (nI b) :: .int (nI a) :: S) ws := by
  intro H locs ls hP hD hS hl
  have K := k H locs ls hP hD hS hl
  refine lv_ishl hC.1 hC.2.1 hd  ?_
  rw [z_shl_ a hb]
  exact K
theorem k_ishr (hC : z_C g μ p s m args meth c) {a b : Nat} (hd : decode μ.2.1 pc = .ok (.ishr, 1)) (ha : a < 2 ^ 31) (hb : b < 32) (k : k_R p l e s m args below meth c F Q g μ rm cn sn (pc + 1) L (.int (nI (a / 2 ^ b)) :: S) ws) : k_R p l e s m args below meth c F Q g μ rm cn sn pc L (.int (nI b) :: .int (nI a) :: S) ws := by
  intro H locs ls hP hD hS hl
  have K := k H locs ls hP hD hS hl
  refine lv_ishr hC.1 hC.2.1 hd  ?_
  rw [z_shr_ ha hb]
  exact K
theorem k_iushr (hC : z_C g μ p s m args meth c) {a b : Nat} (hd : decode μ.2.1 pc = .ok (.iushr, 1)) (ha : a < 2 ^ 32) (hb : b < 32) (k : k_R p l e s m args below meth c F Q g μ rm cn sn (pc + 1) L (.int (nI (a / 2 ^ b)) :: S) ws) : k_R p l e s m args below meth c F Q g μ rm cn sn pc L (.int (nI b) :: .int (nI a) :: S) ws := by
  intro H locs ls hP hD hS hl
  have K := k H locs ls hP hD hS hl
  exact lv_iushr hC.1 hC.2.1 hd (z_ushr_ ha hb) K
theorem k_lshl (hC : z_C g μ p s m args meth c) {a b : Nat} (hd : decode μ.2.1 pc = .ok (.lshl, 1)) (hb : b < 64) (k : k_R p l e s m args below meth c F Q g μ rm cn sn (pc + 1) L (.long (lN (a * 2 ^ b)) :: S) ws) : k_R p l e s m args below meth c F Q g μ rm cn sn pc L (.int (nI b) :: .long (lN a) :: S) ws := by
  intro H locs ls hP hD hS hl
  have K := k H locs ls hP hD hS hl
  exact lv_lshl hC.1 hC.2.1 hd (wb_shl a hb) K
theorem k_lushr (hC : z_C g μ p s m args meth c) {a b : Nat} (hd : decode μ.2.1 pc = .ok (.lushr, 1)) (ha : a < 2 ^ 64) (hb : b < 64) (k : k_R p l e s m args below meth c F Q g μ rm cn sn (pc + 1) L (.long (lN (a / 2 ^ b)) :: S) ws) : k_R p l e s m args below meth c F Q g μ rm cn sn pc L (.int (nI b) :: .long (lN a) :: S) ws := by
  intro H locs ls hP hD hS hl
  have K := k H locs ls hP hD hS hl
  exact lv_lushr hC.1 hC.2.1 hd (wb_shr ha hb) K
theorem k_lshr (hC : z_C g μ p s m args meth c) {x v : Int64} {y : Int32} (hd : decode μ.2.1 pc = .ok (.lshr, 1)) (hv : x >>> (y.toInt64 &&& 63) = v) (k : k_R p l e s m args below meth c F Q g μ rm cn sn (pc + 1) L (.long v :: S) ws) : k_R p l e s m args below meth c F Q g μ rm cn sn pc L (.int y :: .long x :: S) ws := by
  intro H locs ls hP hD hS hl
  have K := k H locs ls hP hD hS hl
  exact lv_lshr hC.1 hC.2.1 hd hv K
theorem k_i2l (hC : z_C g μ p s m args meth c) {a : Nat} (hd : decode μ.2.1 pc = .ok (.i2l, 1)) (ha : a < 2 ^ 31) (k : k_R p l e s m args below meth c F Q g μ rm cn sn (pc + 1) L (.long (lN a) :: S) ws) : k_R p l e s m args below meth c F Q g μ rm cn sn pc L (.int (nI a) :: S) ws := by
  intro H locs ls hP hD hS hl
  have K := k H locs ls hP hD hS hl
  exact lv_i2l hC.1 hC.2.1 hd (nI_l ha) K
theorem k_l2i (hC : z_C g μ p s m args meth c) {a : Nat} (hd : decode μ.2.1 pc = .ok (.l2i, 1))  (k : k_R p l e s m args below meth c F Q g μ rm cn sn (pc + 1) L (.int (nI a) :: S) ws) : k_R p l e s m args below meth c F Q g μ rm cn sn pc L (.long (lN a) :: S) ws := by
  intro H locs ls hP hD hS hl
  have K := k H locs ls hP hD hS hl
  exact lv_l2i hC.1 hC.2.1 hd (lN_i a) K
theorem k_lcmp (hC : z_C g μ p s m args meth c) {x y : Int64} (hd : decode μ.2.1 pc = .ok (.lcmp, 1)) (k : k_R p l e s m args below meth c F Q g μ rm cn sn (pc + 1) L (.int (lg_cmp x y) :: S) ws) : k_R p l e s m args below meth c F Q g μ rm cn sn pc L (.long y :: .long x :: S) ws := by
  intro H locs ls hP hD hS hl
  exact W.lcmp hC.1 hC.2.1 hd (k H locs ls hP hD hS hl)
theorem k_top (hC : z_C g μ p s m args meth c) {x y : Value} (h : x = y) (k : k_R p l e s m args below meth c F Q g μ rm cn sn pc L (y :: S) ws) : k_R p l e s m args below meth c F Q g μ rm cn sn pc L (x :: S) ws := by subst h; exact k
theorem k_st (hC : z_C g μ p s m args meth c) {S S' : List Value} (h : S = S') (k : k_R p l e s m args below meth c F Q g μ rm cn sn pc L S' ws) : k_R p l e s m args below meth c F Q g μ rm cn sn pc L S ws := by subst h; exact k
theorem k_ls (hC : z_C g μ p s m args meth c) {L' : List (Nat × Value)} (ks : List Nat) (h : lv_pick L ks = L') (k : k_R p l e s m args below meth c F Q g μ rm cn sn pc L' S ws) : k_R p l e s m args below meth c F Q g μ rm cn sn pc L S ws := by
  intro H locs ls hP hD hS hl
  exact k H locs ls hP hD hS (lv_sub hl ks h)
theorem k_dup (hC : z_C g μ p s m args meth c) {v : Value} (hd : decode μ.2.1 pc = .ok (.dup, 1)) (hv : v.category = 1) (k : k_R p l e s m args below meth c F Q g μ rm cn sn (pc + 1) L (v :: v :: S) ws) : k_R p l e s m args below meth c F Q g μ rm cn sn pc L (v :: S) ws := by
  intro H locs ls hP hD hS hl
  exact lv_dup hC.1 hC.2.1 hd hv (k H locs ls hP hD hS hl)
theorem k_pop (hC : z_C g μ p s m args meth c) {v : Value} (hd : decode μ.2.1 pc = .ok (.pop, 1)) (hv : v.category = 1) (k : k_R p l e s m args below meth c F Q g μ rm cn sn (pc + 1) L S ws) : k_R p l e s m args below meth c F Q g μ rm cn sn pc L (v :: S) ws := by
  intro H locs ls hP hD hS hl
  exact lv_pop hC.1 hC.2.1 hd hv (k H locs ls hP hD hS hl)
theorem k_dup2 (hC : z_C g μ p s m args meth c) {v w : Value} (hd : decode μ.2.1 pc = .ok (.dup2, 1)) (hv : v.category = 1) (hw : w.category = 1) (k : k_R p l e s m args below meth c F Q g μ rm cn sn (pc + 1) L (v :: w :: v :: w :: S) ws) : k_R p l e s m args below meth c F Q g μ rm cn sn pc L (v :: w :: S) ws := by
  intro H locs ls hP hD hS hl
  exact lv_dup2_11 hC.1 hC.2.1 hd hv hw (k H locs ls hP hD hS hl)
theorem k_goto (hC : z_C g μ p s m args meth c) {off : Int} {tgt : Nat} (hd : decode μ.2.1 pc = .ok (.goto off, 3)) (ht : (pc : Int) + off = (tgt : Int)) (k : k_R p l e s m args below meth c F Q g μ rm cn sn tgt L S ws) : k_R p l e s m args below meth c F Q g μ rm cn sn pc L S ws := by
  intro H locs ls hP hD hS hl
  exact lv_goto hC.1 hC.2.1 hd ht (k H locs ls hP hD hS hl)
theorem k_icmp_eq (hC : z_C g μ p s m args meth c) {a b : Nat} (ha : a < 2 ^ 31) (hb : b < 2 ^ 31) {off : Int} {tgt : Nat} (hd : decode μ.2.1 pc = .ok (.if_icmp .eq off, 3)) (ht : (pc : Int) + off = (tgt : Int)) (kt : a = b → k_R p l e s m args below meth c F Q g μ rm cn sn tgt L S ws) (kf : ¬ (a = b) → k_R p l e s m args below meth c F Q g μ rm cn sn (pc + 3) L S ws) : k_R p l e s m args below meth c F Q g μ rm cn sn pc L (.int (nI b) :: .int (nI a) :: S) ws := by
  intro H locs ls hP hD hS hl
  exact lv_icmp_eq hC.1 hC.2.1 hd ht (fun h => kt ((nI_eq ha hb).mp h) H locs ls hP hD hS hl) (fun h => kf (fun q => h ((nI_eq ha hb).mpr q)) H locs ls hP hD hS hl)
theorem k_if_eq (hC : z_C g μ p s m args meth c) {a : Nat} (ha : a < 2 ^ 31) {off : Int} {tgt : Nat} (hd : decode μ.2.1 pc = .ok (.ifCond .eq off, 3)) (ht : (pc : Int) + off = (tgt : Int)) (kt : a = 0 → k_R p l e s m args below meth c F Q g μ rm cn sn tgt L S ws) (kf : ¬ (a = 0) → k_R p l e s m args below meth c F Q g μ rm cn sn (pc + 3) L S ws) : k_R p l e s m args below meth c F Q g μ rm cn sn pc L (.int (nI a) :: S) ws := by
  intro H locs ls hP hD hS hl
  exact lv_if_eq hC.1 hC.2.1 hd ht (fun h => kt ((z_iff_eq ha).mp h) H locs ls hP hD hS hl) (fun h => kf (fun q => h ((z_iff_eq ha).mpr q)) H locs ls hP hD hS hl)
theorem k_icmpX_eq (hC : z_C g μ p s m args meth c) {x y : Int32} {off : Int} {tgt : Nat} (hd : decode μ.2.1 pc = .ok (.if_icmp .eq off, 3)) (ht : (pc : Int) + off = (tgt : Int)) (kt : x = y → k_R p l e s m args below meth c F Q g μ rm cn sn tgt L S ws) (kf : ¬ (x = y) → k_R p l e s m args below meth c F Q g μ rm cn sn (pc + 3) L S ws) : k_R p l e s m args below meth c F Q g μ rm cn sn pc L (.int y :: .int x :: S) ws := by
  intro H locs ls hP hD hS hl
  exact lv_icmp_eq hC.1 hC.2.1 hd ht (fun h => kt (h) H locs ls hP hD hS hl) (fun h => kf (h) H locs ls hP hD hS hl)
theorem k_ifX_eq (hC : z_C g μ p s m args meth c) {x : Int32} {off : Int} {tgt : Nat} (hd : decode μ.2.1 pc = .ok (.ifCond .eq off, 3)) (ht : (pc : Int) + off = (tgt : Int)) (kt : x = 0 → k_R p l e s m args below meth c F Q g μ rm cn sn tgt L S ws) (kf : ¬ (x = 0) → k_R p l e s m args below meth c F Q g μ rm cn sn (pc + 3) L S ws) : k_R p l e s m args below meth c F Q g μ rm cn sn pc L (.int x :: S) ws := by
  intro H locs ls hP hD hS hl
  exact lv_if_eq hC.1 hC.2.1 hd ht (fun h => kt (h) H locs ls hP hD hS hl) (fun h => kf (h) H locs ls hP hD hS hl)
theorem k_icmp_ne (hC : z_C g μ p s m args meth c) {a b : Nat} (ha : a < 2 ^ 31) (hb : b < 2 ^ 31) {off : Int} {tgt : Nat} (hd : decode μ.2.1 pc = .ok (.if_icmp .ne off, 3)) (ht : (pc : Int) + off = (tgt : Int)) (kt : ¬ (a = b) → k_R p l e s m args below meth c F Q g μ rm cn sn tgt L S ws) (kf : a = b → k_R p l e s m args below meth c F Q g μ rm cn sn (pc + 3) L S ws) : k_R p l e s m args below meth c F Q g μ rm cn sn pc L (.int (nI b) :: .int (nI a) :: S) ws := by
  intro H locs ls hP hD hS hl
  exact lv_icmp_ne hC.1 hC.2.1 hd ht (fun h => kt (fun q => h ((nI_eq ha hb).mpr q)) H locs ls hP hD hS hl) (fun h => kf ((nI_eq ha hb).mp h) H locs ls hP hD hS hl)
theorem k_if_ne (hC : z_C g μ p s m args meth c) {a : Nat} (ha : a < 2 ^ 31) {off : Int} {tgt : Nat} (hd : decode μ.2.1 pc = .ok (.ifCond .ne off, 3)) (ht : (pc : Int) + off = (tgt : Int)) (kt : ¬ (a = 0) → k_R p l e s m args below meth c F Q g μ rm cn sn tgt L S ws) (kf : a = 0 → k_R p l e s m args below meth c F Q g μ rm cn sn (pc + 3) L S ws) : k_R p l e s m args below meth c F Q g μ rm cn sn pc L (.int (nI a) :: S) ws := by
  intro H locs ls hP hD hS hl
  exact lv_if_ne hC.1 hC.2.1 hd ht (fun h => kt (fun q => h ((z_iff_eq ha).mpr q)) H locs ls hP hD hS hl) (fun h => kf ((z_iff_eq ha).mp h) H locs ls hP hD hS hl)
theorem k_icmpX_ne (hC : z_C g μ p s m args meth c) {x y : Int32} {off : Int} {tgt : Nat} (hd : decode μ.2.1 pc = .ok (.if_icmp .ne off, 3)) (ht : (pc : Int) + off = (tgt : Int)) (kt : ¬ (x = y) → k_R p l e s m args below meth c F Q g μ rm cn sn tgt L S ws) (kf : x = y → k_R p l e s m args below meth c F Q g μ rm cn sn (pc + 3) L S ws) : k_R p l e s m args below meth c F Q g μ rm cn sn pc L (.int y :: .int x :: S) ws := by
  intro H locs ls hP hD hS hl
  exact lv_icmp_ne hC.1 hC.2.1 hd ht (fun h => kt (h) H locs ls hP hD hS hl) (fun h => kf (h) H locs ls hP hD hS hl)
theorem k_ifX_ne (hC : z_C g μ p s m args meth c) {x : Int32} {off : Int} {tgt : Nat} (hd : decode μ.2.1 pc = .ok (.ifCond .ne off, 3)) (ht : (pc : Int) + off = (tgt : Int)) (kt : ¬ (x = 0) → k_R p l e s m args below meth c F Q g μ rm cn sn tgt L S ws) (kf : x = 0 → k_R p l e s m args below meth c F Q g μ rm cn sn (pc + 3) L S ws) : k_R p l e s m args below meth c F Q g μ rm cn sn pc L (.int x :: S) ws := by
  intro H locs ls hP hD hS hl
  exact lv_if_ne hC.1 hC.2.1 hd ht (fun h => kt (h) H locs ls hP hD hS hl) (fun h => kf (h) H locs ls hP hD hS hl)
theorem k_icmp_lt (hC : z_C g μ p s m args meth c) {a b : Nat} (ha : a < 2 ^ 31) (hb : b < 2 ^ 31) {off : Int} {tgt : Nat} (hd : decode μ.2.1 pc = .ok (.if_icmp .lt off, 3)) (ht : (pc : Int) + off = (tgt : Int)) (kt : a < b → k_R p l e s m args below meth c F Q g μ rm cn sn tgt L S ws) (kf : ¬ (a < b) → k_R p l e s m args below meth c F Q g μ rm cn sn (pc + 3) L S ws) : k_R p l e s m args below meth c F Q g μ rm cn sn pc L (.int (nI b) :: .int (nI a) :: S) ws := by
  intro H locs ls hP hD hS hl
  exact lv_icmp_lt hC.1 hC.2.1 hd ht (fun h => kt ((nI_ltI ha hb).mp h) H locs ls hP hD hS hl) (fun h => kf (fun q => h ((nI_ltI ha hb).mpr q)) H locs ls hP hD hS hl)
theorem k_if_lt (hC : z_C g μ p s m args meth c) {a : Nat} (ha : a < 2 ^ 31) {off : Int} {tgt : Nat} (hd : decode μ.2.1 pc = .ok (.ifCond .lt off, 3)) (ht : (pc : Int) + off = (tgt : Int)) (kt : a < 0 → k_R p l e s m args below meth c F Q g μ rm cn sn tgt L S ws) (kf : ¬ (a < 0) → k_R p l e s m args below meth c F Q g μ rm cn sn (pc + 3) L S ws) : k_R p l e s m args below meth c F Q g μ rm cn sn pc L (.int (nI a) :: S) ws := by
  intro H locs ls hP hD hS hl
  exact lv_if_lt hC.1 hC.2.1 hd ht (fun h => kt ((z_iff_lt ha).mp h) H locs ls hP hD hS hl) (fun h => kf (fun q => h ((z_iff_lt ha).mpr q)) H locs ls hP hD hS hl)
theorem k_icmpX_lt (hC : z_C g μ p s m args meth c) {x y : Int32} {off : Int} {tgt : Nat} (hd : decode μ.2.1 pc = .ok (.if_icmp .lt off, 3)) (ht : (pc : Int) + off = (tgt : Int)) (kt : x < y → k_R p l e s m args below meth c F Q g μ rm cn sn tgt L S ws) (kf : ¬ (x < y) → k_R p l e s m args below meth c F Q g μ rm cn sn (pc + 3) L S ws) : k_R p l e s m args below meth c F Q g μ rm cn sn pc L (.int y :: .int x :: S) ws := by
  intro H locs ls hP hD hS hl
  exact lv_icmp_lt hC.1 hC.2.1 hd ht (fun h => kt (h) H locs ls hP hD hS hl) (fun h => kf (h) H locs ls hP hD hS hl)
theorem k_ifX_lt (hC : z_C g μ p s m args meth c) {x : Int32} {off : Int} {tgt : Nat} (hd : decode μ.2.1 pc = .ok (.ifCond .lt off, 3)) (ht : (pc : Int) + off = (tgt : Int)) (kt : x < 0 → k_R p l e s m args below meth c F Q g μ rm cn sn tgt L S ws) (kf : ¬ (x < 0) → k_R p l e s m args below meth c F Q g μ rm cn sn (pc + 3) L S ws) : k_R p l e s m args below meth c F Q g μ rm cn sn pc L (.int x :: S) ws := by
  intro H locs ls hP hD hS hl
  exact lv_if_lt hC.1 hC.2.1 hd ht (fun h => kt (h) H locs ls hP hD hS hl) (fun h => kf (h) H locs ls hP hD hS hl)
theorem k_icmp_ge (hC : z_C g μ p s m args meth c) {a b : Nat} (ha : a < 2 ^ 31) (hb : b < 2 ^ 31) {off : Int} {tgt : Nat} (hd : decode μ.2.1 pc = .ok (.if_icmp .ge off, 3)) (ht : (pc : Int) + off = (tgt : Int)) (kt : b ≤ a → k_R p l e s m args below meth c F Q g μ rm cn sn tgt L S ws) (kf : ¬ (b ≤ a) → k_R p l e s m args below meth c F Q g μ rm cn sn (pc + 3) L S ws) : k_R p l e s m args below meth c F Q g μ rm cn sn pc L (.int (nI b) :: .int (nI a) :: S) ws := by
  intro H locs ls hP hD hS hl
  exact lv_icmp_ge hC.1 hC.2.1 hd ht (fun h => kt ((nI_leI hb ha).mp h) H locs ls hP hD hS hl) (fun h => kf (fun q => h ((nI_leI hb ha).mpr q)) H locs ls hP hD hS hl)
theorem k_if_ge (hC : z_C g μ p s m args meth c) {a : Nat} (ha : a < 2 ^ 31) {off : Int} {tgt : Nat} (hd : decode μ.2.1 pc = .ok (.ifCond .ge off, 3)) (ht : (pc : Int) + off = (tgt : Int)) (kt : 0 ≤ a → k_R p l e s m args below meth c F Q g μ rm cn sn tgt L S ws) (kf : ¬ (0 ≤ a) → k_R p l e s m args below meth c F Q g μ rm cn sn (pc + 3) L S ws) : k_R p l e s m args below meth c F Q g μ rm cn sn pc L (.int (nI a) :: S) ws := by
  intro H locs ls hP hD hS hl
  exact lv_if_ge hC.1 hC.2.1 hd ht (fun h => kt ((z_iff_ge ha).mp h) H locs ls hP hD hS hl) (fun h => kf (fun q => h ((z_iff_ge ha).mpr q)) H locs ls hP hD hS hl)
theorem k_icmpX_ge (hC : z_C g μ p s m args meth c) {x y : Int32} {off : Int} {tgt : Nat} (hd : decode μ.2.1 pc = .ok (.if_icmp .ge off, 3)) (ht : (pc : Int) + off = (tgt : Int)) (kt : y ≤ x → k_R p l e s m args below meth c F Q g μ rm cn sn tgt L S ws) (kf : ¬ (y ≤ x) → k_R p l e s m args below meth c F Q g μ rm cn sn (pc + 3) L S ws) : k_R p l e s m args below meth c F Q g μ rm cn sn pc L (.int y :: .int x :: S) ws := by
  intro H locs ls hP hD hS hl
  exact lv_icmp_ge hC.1 hC.2.1 hd ht (fun h => kt (h) H locs ls hP hD hS hl) (fun h => kf (h) H locs ls hP hD hS hl)
theorem k_ifX_ge (hC : z_C g μ p s m args meth c) {x : Int32} {off : Int} {tgt : Nat} (hd : decode μ.2.1 pc = .ok (.ifCond .ge off, 3)) (ht : (pc : Int) + off = (tgt : Int)) (kt : 0 ≤ x → k_R p l e s m args below meth c F Q g μ rm cn sn tgt L S ws) (kf : ¬ (0 ≤ x) → k_R p l e s m args below meth c F Q g μ rm cn sn (pc + 3) L S ws) : k_R p l e s m args below meth c F Q g μ rm cn sn pc L (.int x :: S) ws := by
  intro H locs ls hP hD hS hl
  exact lv_if_ge hC.1 hC.2.1 hd ht (fun h => kt (h) H locs ls hP hD hS hl) (fun h => kf (h) H locs ls hP hD hS hl)
theorem k_icmp_gt (hC : z_C g μ p s m args meth c) {a b : Nat} (ha : a < 2 ^ 31) (hb : b < 2 ^ 31) {off : Int} {tgt : Nat} (hd : decode μ.2.1 pc = .ok (.if_icmp .gt off, 3)) (ht : (pc : Int) + off = (tgt : Int)) (kt : b < a → k_R p l e s m args below meth c F Q g μ rm cn sn tgt L S ws) (kf : ¬ (b < a) → k_R p l e s m args below meth c F Q g μ rm cn sn (pc + 3) L S ws) : k_R p l e s m args below meth c F Q g μ rm cn sn pc L (.int (nI b) :: .int (nI a) :: S) ws := by
  intro H locs ls hP hD hS hl
  exact lv_icmp_gt hC.1 hC.2.1 hd ht (fun h => kt ((nI_ltI hb ha).mp h) H locs ls hP hD hS hl) (fun h => kf (fun q => h ((nI_ltI hb ha).mpr q)) H locs ls hP hD hS hl)
theorem k_if_gt (hC : z_C g μ p s m args meth c) {a : Nat} (ha : a < 2 ^ 31) {off : Int} {tgt : Nat} (hd : decode μ.2.1 pc = .ok (.ifCond .gt off, 3)) (ht : (pc : Int) + off = (tgt : Int)) (kt : 0 < a → k_R p l e s m args below meth c F Q g μ rm cn sn tgt L S ws) (kf : ¬ (0 < a) → k_R p l e s m args below meth c F Q g μ rm cn sn (pc + 3) L S ws) : k_R p l e s m args below meth c F Q g μ rm cn sn pc L (.int (nI a) :: S) ws := by
  intro H locs ls hP hD hS hl
  exact lv_if_gt hC.1 hC.2.1 hd ht (fun h => kt ((z_iff_gt ha).mp h) H locs ls hP hD hS hl) (fun h => kf (fun q => h ((z_iff_gt ha).mpr q)) H locs ls hP hD hS hl)
theorem k_icmpX_gt (hC : z_C g μ p s m args meth c) {x y : Int32} {off : Int} {tgt : Nat} (hd : decode μ.2.1 pc = .ok (.if_icmp .gt off, 3)) (ht : (pc : Int) + off = (tgt : Int)) (kt : y < x → k_R p l e s m args below meth c F Q g μ rm cn sn tgt L S ws) (kf : ¬ (y < x) → k_R p l e s m args below meth c F Q g μ rm cn sn (pc + 3) L S ws) : k_R p l e s m args below meth c F Q g μ rm cn sn pc L (.int y :: .int x :: S) ws := by
  intro H locs ls hP hD hS hl
  exact lv_icmp_gt hC.1 hC.2.1 hd ht (fun h => kt (h) H locs ls hP hD hS hl) (fun h => kf (h) H locs ls hP hD hS hl)
theorem k_ifX_gt (hC : z_C g μ p s m args meth c) {x : Int32} {off : Int} {tgt : Nat} (hd : decode μ.2.1 pc = .ok (.ifCond .gt off, 3)) (ht : (pc : Int) + off = (tgt : Int)) (kt : 0 < x → k_R p l e s m args below meth c F Q g μ rm cn sn tgt L S ws) (kf : ¬ (0 < x) → k_R p l e s m args below meth c F Q g μ rm cn sn (pc + 3) L S ws) : k_R p l e s m args below meth c F Q g μ rm cn sn pc L (.int x :: S) ws := by
  intro H locs ls hP hD hS hl
  exact lv_if_gt hC.1 hC.2.1 hd ht (fun h => kt (h) H locs ls hP hD hS hl) (fun h => kf (h) H locs ls hP hD hS hl)
theorem k_icmp_le (hC : z_C g μ p s m args meth c) {a b : Nat} (ha : a < 2 ^ 31) (hb : b < 2 ^ 31) {off : Int} {tgt : Nat} (hd : decode μ.2.1 pc = .ok (.if_icmp .le off, 3)) (ht : (pc : Int) + off = (tgt : Int)) (kt : a ≤ b → k_R p l e s m args below meth c F Q g μ rm cn sn tgt L S ws) (kf : ¬ (a ≤ b) → k_R p l e s m args below meth c F Q g μ rm cn sn (pc + 3) L S ws) : k_R p l e s m args below meth c F Q g μ rm cn sn pc L (.int (nI b) :: .int (nI a) :: S) ws := by
  intro H locs ls hP hD hS hl
  exact lv_icmp_le hC.1 hC.2.1 hd ht (fun h => kt ((nI_leI ha hb).mp h) H locs ls hP hD hS hl) (fun h => kf (fun q => h ((nI_leI ha hb).mpr q)) H locs ls hP hD hS hl)
theorem k_if_le (hC : z_C g μ p s m args meth c) {a : Nat} (ha : a < 2 ^ 31) {off : Int} {tgt : Nat} (hd : decode μ.2.1 pc = .ok (.ifCond .le off, 3)) (ht : (pc : Int) + off = (tgt : Int)) (kt : a ≤ 0 → k_R p l e s m args below meth c F Q g μ rm cn sn tgt L S ws) (kf : ¬ (a ≤ 0) → k_R p l e s m args below meth c F Q g μ rm cn sn (pc + 3) L S ws) : k_R p l e s m args below meth c F Q g μ rm cn sn pc L (.int (nI a) :: S) ws := by
  intro H locs ls hP hD hS hl
  exact lv_if_le hC.1 hC.2.1 hd ht (fun h => kt ((z_iff_le ha).mp h) H locs ls hP hD hS hl) (fun h => kf (fun q => h ((z_iff_le ha).mpr q)) H locs ls hP hD hS hl)
theorem k_icmpX_le (hC : z_C g μ p s m args meth c) {x y : Int32} {off : Int} {tgt : Nat} (hd : decode μ.2.1 pc = .ok (.if_icmp .le off, 3)) (ht : (pc : Int) + off = (tgt : Int)) (kt : x ≤ y → k_R p l e s m args below meth c F Q g μ rm cn sn tgt L S ws) (kf : ¬ (x ≤ y) → k_R p l e s m args below meth c F Q g μ rm cn sn (pc + 3) L S ws) : k_R p l e s m args below meth c F Q g μ rm cn sn pc L (.int y :: .int x :: S) ws := by
  intro H locs ls hP hD hS hl
  exact lv_icmp_le hC.1 hC.2.1 hd ht (fun h => kt (h) H locs ls hP hD hS hl) (fun h => kf (h) H locs ls hP hD hS hl)
theorem k_ifX_le (hC : z_C g μ p s m args meth c) {x : Int32} {off : Int} {tgt : Nat} (hd : decode μ.2.1 pc = .ok (.ifCond .le off, 3)) (ht : (pc : Int) + off = (tgt : Int)) (kt : x ≤ 0 → k_R p l e s m args below meth c F Q g μ rm cn sn tgt L S ws) (kf : ¬ (x ≤ 0) → k_R p l e s m args below meth c F Q g μ rm cn sn (pc + 3) L S ws) : k_R p l e s m args below meth c F Q g μ rm cn sn pc L (.int x :: S) ws := by
  intro H locs ls hP hD hS hl
  exact lv_if_le hC.1 hC.2.1 hd ht (fun h => kt (h) H locs ls hP hD hS hl) (fun h => kf (h) H locs ls hP hD hS hl)
theorem k_ws (hC : z_C g μ p s m args meth c) {ws' : va_W} (h : ws = ws') (k : k_R p l e s m args below meth c F Q g μ rm cn sn pc L S ws') : k_R p l e s m args below meth c F Q g μ rm cn sn pc L S ws := by subst h; exact k
theorem k_cn (hC : z_C g μ p s m args meth c) {cn' sn' : Nat} (h1 : cn ≤ cn') (h2 : sn ≤ sn') (k : k_R p l e s m args below meth c F Q g μ rm cn' sn' pc L S ws) : k_R p l e s m args below meth c F Q g μ rm cn sn pc L S ws := by
  intro H locs ls hP hD hS hl
  exact W.widen h1 h2 (k H locs ls hP hD hS hl)
/-- cells left out, or in another order -/
theorem k_sub (hC : z_C g μ p s m args meth c) {ws' : va_W} (is : List Nat) (hn : va_nd is = true) (h1 : is.filterMap (fun i => ws[i]?) = ws') (h2 : is.map (fun i => ws[i]?) = ws'.map some) (k : k_R p l e s m args below meth c F Q g μ rm cn sn pc L S ws') : k_R p l e s m args below meth c F Q g μ rm cn sn pc L S ws := by
  intro H locs ls hP hD hS hl
  exact k H locs ls (hP.sub is h1) (hD.sub is hn h2) hS hl
theorem k_iaload (hC : z_C g μ p s m args meth c) (i : Nat) {a j n : Nat} {f : Nat → Nat} (hi : ws[i]? = some (a, .inl (g.2 0, n, .inl (fun j => nI (f j))))) (hn : n < 2 ^ 31) (hj : j < n) (hd : decode μ.2.1 pc = .ok (.iaload, 1)) (k : k_R p l e s m args below meth c F Q g μ rm cn sn (pc + 1) L (.int (nI (f j)) :: S) ws) : k_R p l e s m args below meth c F Q g μ rm cn sn pc L (.int (nI j) :: .ref a :: S) ws := by
  intro H locs ls hP hD hS hl
  have K := k H locs ls hP hD hS hl
  refine va_iald hC.1 hC.2.1 hC.2.2.2.2.2.2.1 hP i 0 hi rfl (vp_in_nI hj hn) hd ?_
  rw [nI_clamp (by omega)]
  exact K
theorem k_iastore (hC : z_C g μ p s m args meth c) (i : Nat) {a j n x : Nat} {f : Nat → Nat} {ws' : va_W} (hi : ws[i]? = some (a, .inl (g.2 0, n, .inl (fun j => nI (f j))))) (hn : n < 2 ^ 31) (hj : j < n) (hw : ws.set i (a, .inl (g.2 0, n, .inl (fun q => nI (va_up f j x q)))) = ws') (hd : decode μ.2.1 pc = .ok (.iastore, 1)) (k : k_R p l e s m args below meth c F Q g μ rm cn sn (pc + 1) L S ws') : k_R p l e s m args below meth c F Q g μ rm cn sn pc L (.int (nI x) :: .int (nI j) :: .ref a :: S) ws := by
  subst hw
  intro H locs ls hP hD hS hl
  refine va_iast hC.1 hC.2.1 hC.2.2.2.2.2.2.1 hP hD hS i 0 hi rfl (vp_in_nI hj hn) hd (fun H1 locs1 hP1 hD1 hS1 => ?_)
  have e : upd (fun j => nI (f j)) (nI j).toNatClampNeg (nI x) = fun q => nI (va_up f j x q) := by
    rw [nI_clamp (by omega)]
    funext q
    by_cases hq : q = j
    · subst hq; simp [upd, va_up]
    · simp [upd, va_up, hq]
  rw [e] at hP1 hD1
  exact k H1 locs1 ls hP1 hD1 hS1 hl
theorem z_inj {s : State} {g : z_G} {t : Nat} {cA : ClassId} {ty : FieldType} {tys : List (ClassId × FieldType)} {D : va_G} {cl : List vw_C} (h : va_K D cl tys s) (h1 : tys[t]? = some (cA, ty)) (h' : va_K D cl (tys ++ [(g.2 t, ty)]) s) : True := trivial
theorem va_RA.inj {U : State} {c1 c2 : ClassId} {ty : FieldType} (h1 : va_RA U c1 ty) (h2 : va_RA U c2 ty) : c1 = c2 := by
  cases ty
  case object C =>
    obtain ⟨_, _, _, _, _, e1⟩ := h1
    obtain ⟨_, _, _, _, _, e2⟩ := h2
    exact Option.some.inj (e1.symm.trans e2)
  all_goals exact Option.some.inj (h1.symm.trans h2)
theorem k_newI (hC : z_C g μ p s m args meth c) (hF : ∀ q, s.heap.size ≤ q → F q) (hw : Cond.arrayClass .int ∈ z_TB) {n : Nat} (hn : n < 2 ^ 20) (hc : cn + 1 ≤ rm.cells) (hs : sn + n ≤ rm.slots) (hd : decode μ.2.1 pc = .ok (.newarray .int, 2)) (k : ∀ q, k_R p l e s m args below meth c F Q g μ rm (cn + 1) (sn + n) (pc + 2) L (.ref q :: S) (ws ++ [(q, .inl (g.2 0, n, .inl (fun _ => nI 0)))])) : k_R p l e s m args below meth c F Q g μ rm cn sn pc L (.int (nI n) :: S) ws := by
  intro H locs ls hP hD hS hl
  refine va_newa (atype := .int) hC.1 hC.2.1 (hC.2.2.2.2.2.1 _ hw) (ty := .int) rfl hC.2.2.2.2.2.2.1 hP hD hS hF (a0 := (n, .inl (fun _ => nI 0))) (fun cA => ?_) (nI_pos (by omega)) (nI_clamp (by omega)) (by show n * 4 ≤ _; omega) hc hs hd (fun q cA H1 hK1 hP1 hD1 hS1 => ?_)
  · rw [nI_0]; rfl
  · have e : cA = g.2 0 := va_RA.inj ((hK1.2 5 _ rfl).2) ((hC.2.2.2.2.2.2.1.2 0 _ rfl).2)
    subst e
    exact k q H1 locs ls hP1 hD1 hS1 hl
theorem k_newL (hC : z_C g μ p s m args meth c) (hF : ∀ q, s.heap.size ≤ q → F q) (hw : Cond.arrayClass .long ∈ z_TB) {n : Nat} (hn : n < 2 ^ 20) (hc : cn + 1 ≤ rm.cells) (hs : sn + n ≤ rm.slots) (hd : decode μ.2.1 pc = .ok (.newarray .long, 2)) (k : ∀ q, k_R p l e s m args below meth c F Q g μ rm (cn + 1) (sn + n) (pc + 2) L (.ref q :: S) (ws ++ [(q, .inl (g.2 1, n, .inr (.inl (fun _ => lN 0))))])) : k_R p l e s m args below meth c F Q g μ rm cn sn pc L (.int (nI n) :: S) ws := by
  intro H locs ls hP hD hS hl
  refine va_newa (atype := .long) hC.1 hC.2.1 (hC.2.2.2.2.2.1 _ hw) (ty := .long) rfl hC.2.2.2.2.2.2.1 hP hD hS hF (a0 := (n, .inr (.inl (fun _ => lN 0)))) (fun cA => ?_) (nI_pos (by omega)) (nI_clamp (by omega)) (by show n * 8 ≤ _; omega) hc hs hd (fun q cA H1 hK1 hP1 hD1 hS1 => ?_)
  · rfl
  · have e : cA = g.2 1 := va_RA.inj ((hK1.2 5 _ rfl).2) ((hC.2.2.2.2.2.2.1.2 1 _ rfl).2)
    subst e
    exact k q H1 locs ls hP1 hD1 hS1 hl
theorem k_newA (hC : z_C g μ p s m args meth c) (hF : ∀ q, s.heap.size ≤ q → F q) {C : String} {idx t : Nat} (hao : va_AO C s) (ht : (z_tys g)[t]? = some (g.2 t, .object C)) (hw : Cond.classLink μ.1.cls idx C ∈ z_TB) {n : Nat} (hn : n < 2 ^ 20) (hc : cn + 1 ≤ rm.cells) (hs : sn + n ≤ rm.slots) (hd : decode μ.2.1 pc = .ok (.anewarray idx, 3)) (k : ∀ q, k_R p l e s m args below meth c F Q g μ rm (cn + 1) (sn + n) (pc + 3) L (.ref q :: S) (ws ++ [(q, .inl (g.2 t, n, .inr (.inr (.inr (.inr (fun _ => none))))))])) : k_R p l e s m args below meth c F Q g μ rm cn sn pc L (.int (nI n) :: S) ws := by
  intro H locs ls hP hD hS hl
  refine va_newq hC.1 hC.2.1 hC.2.2.2.2.1 (hC.2.2.2.2.2.1 _ hw) hao hC.2.2.2.2.2.2.1 hP hD hS hF (nI_pos (by omega)) (nI_clamp (by omega)) (by omega) hc hs hd (fun q cA H1 hK1 hP1 hD1 hS1 => ?_)
  have e : cA = g.2 t := va_RA.inj ((hK1.2 5 _ rfl).2) ((hC.2.2.2.2.2.2.1.2 t _ ht).2)
  subst e
  exact k q H1 locs ls hP1 hD1 hS1 hl
theorem k_aastore (hC : z_C g μ p s m args meth c) (i t ik ci : Nat) {a j n v : Nat} {E : String} {r : vw_C} {vs : List Value} {f : Nat → Option Nat} {ws' : va_W} (hi : ws[i]? = some (a, .inl (g.2 t, n, .inr (.inr (.inr (.inr f)))))) (ht : (z_tys g)[t]? = some (g.2 t, .object E)) (hca : va_Nw (.castable r.1 E) s) (hv : ws[ik]? = some (v, .inr (ci, vs))) (hc : z_cl[ci]? = some r) (hn : n < 2 ^ 31) (hj : j < n) (hw : ws.set i (a, .inl (g.2 t, n, .inr (.inr (.inr (.inr (va_up f j (some v))))))) = ws') (hd : decode μ.2.1 pc = .ok (.aastore, 1)) (k : k_R p l e s m args below meth c F Q g μ rm cn sn (pc + 1) L S ws') : k_R p l e s m args below meth c F Q g μ rm cn sn pc L (.ref v :: .int (nI j) :: .ref a :: S) ws := by
  subst hw
  intro H locs ls hP hD hS hl
  refine va_astqO hC.1 hC.2.1 hC.2.2.2.2.2.2.1 hP hD hS i t ik ci hi ht hca hv hc (vp_in_nI hj hn) hd (fun H1 locs1 hP1 hD1 hS1 => ?_)
  rw [nI_clamp (by omega)] at hP1 hD1
  exact k H1 locs1 ls hP1 hD1 hS1 hl
theorem k_aaload (hC : z_C g μ p s m args meth c) (i t : Nat) {a j n v : Nat} {C : String} {f : Nat → Option Nat} (hi : ws[i]? = some (a, .inl (g.2 t, n, .inr (.inr (.inr (.inr f)))))) (ht : (z_tys g)[t]? = some (g.2 t, .object C)) (hn : n < 2 ^ 31) (hj : j < n) (hv : f j = some v) (hd : decode μ.2.1 pc = .ok (.aaload, 1)) (k : k_R p l e s m args below meth c F Q g μ rm cn sn (pc + 1) L (.ref v :: S) ws) : k_R p l e s m args below meth c F Q g μ rm cn sn pc L (.int (nI j) :: .ref a :: S) ws := by
  intro H locs ls hP hD hS hl
  have K := k H locs ls hP hD hS hl
  refine va_aldq (C := C) hC.1 hC.2.1 hC.2.2.2.2.2.2.1 hP i t (f := f) hi ht (vp_in_nI hj hn) hd ?_
  rw [nI_clamp (by omega), hv]
  exact K
theorem k_get (hC : z_C g μ p s m args meth c) (i : Nat) {a ci f idx Nf : Nat} {fs : List Value} {v : Value} {C ref : String} {T : u_T} (hi : ws[i]? = some (a, .inr (ci, fs))) (hv : fs[f]? = some v) (hw : z_fw μ.1.cls idx ci f C T Nf ref) (hd : decode μ.2.1 pc = .ok (.getfield idx, 3)) (k : k_R p l e s m args below meth c F Q g μ rm cn sn (pc + 3) L (v :: S) ws) : k_R p l e s m args below meth c F Q g μ rm cn sn pc L (.ref a :: S) ws := by
  intro H locs ls hP hD hS hl
  obtain ⟨h1, h2, h3, h4, h5⟩ := hw
  refine va_get hC.1 hC.2.1 hC.2.2.2.2.2.1 h3 hC.2.2.2.2.1 hC.2.2.2.2.2.2.1 hP i hi h1 f h2 (hC.2.2.2.2.2.1 _ h4) (fun x9 h9 => ?_) hv hd (k H locs ls hP hD hS hl)
  rcases h5 with h5 | h5
  · rw [← h5]; exact h9
  · exact u_same (hC.2.2.2.2.2.1 _ h5) x9 h9
/-- a final field, in its class's own constructor -/
theorem k_putF (hC : z_C g μ p s m args meth c) (hin : meth.name = "<init>") (i : Nat) {a ci f idx Nf : Nat} {fs : List Value} {v : Value} {C ref : String} {T : u_T} {ty0 : Nat → FieldType} {ty : FieldType} {ws' : va_W} (hi : ws[i]? = some (a, .inr (ci, fs))) (hw : z_fw μ.1.cls idx ci f C T Nf ref) (hty : ∀ k, k < Nf → parseFieldDescriptor (T k).2.2.1 = some (ty0 k)) (hnm : ∀ a, a < Nf → ∀ b, b < Nf → a ≠ b → (T a).2.1 ≠ (T b).2.1) (hfin : (T f).2.2.2 = true) (hdecl : (T f).1 = μ.1.cls) (hde : parseFieldDescriptor (T f).2.2.1 = some ty) (hn : narrow ty v = v) (hft : fits ty v = true) (hlen : f < fs.length) (hws : ws.set i (a, .inr (ci, fs.set f v)) = ws') (hd : decode μ.2.1 pc = .ok (.putfield idx, 3)) (k : k_R p l e s m args below meth c F Q g μ rm cn sn (pc + 3) L S ws') : k_R p l e s m args below meth c F Q g μ rm cn sn pc L (v :: .ref a :: S) ws := by
  subst hws
  intro H locs ls hP hD hS hl
  obtain ⟨h1, h2, h3, h4, h5⟩ := hw
  refine va_putF hC.1 hC.2.1 hC.2.2.2.2.2.1 h3 ty0 hty hnm hC.2.2.2.2.1 hC.2.2.2.2.2.2.1 hP hD hS i hi h1 f h2 (hC.2.2.2.2.2.1 _ h4) (fun x9 h9 => ?_) hfin hin hdecl hde hn hft hlen hd (fun H1 locs1 hP1 hD1 hS1 => k H1 locs1 ls hP1 hD1 hS1 hl)
  rcases h5 with h5 | h5
  · rw [← h5]; exact h9
  · exact u_same (hC.2.2.2.2.2.1 _ h5) x9 h9
theorem k_put (hC : z_C g μ p s m args meth c) (i : Nat) {a ci f idx Nf : Nat} {fs : List Value} {v : Value} {C ref : String} {T : u_T} {ty0 : Nat → FieldType} {ty : FieldType} {ws' : va_W} (hi : ws[i]? = some (a, .inr (ci, fs))) (hw : z_fw μ.1.cls idx ci f C T Nf ref) (hty : ∀ k, k < Nf → parseFieldDescriptor (T k).2.2.1 = some (ty0 k)) (hnm : ∀ a, a < Nf → ∀ b, b < Nf → a ≠ b → (T a).2.1 ≠ (T b).2.1) (hfin : (T f).2.2.2 = false) (hde : parseFieldDescriptor (T f).2.2.1 = some ty) (hn : narrow ty v = v) (hft : fits ty v = true) (hlen : f < fs.length) (hws : ws.set i (a, .inr (ci, fs.set f v)) = ws') (hd : decode μ.2.1 pc = .ok (.putfield idx, 3)) (k : k_R p l e s m args below meth c F Q g μ rm cn sn (pc + 3) L S ws') : k_R p l e s m args below meth c F Q g μ rm cn sn pc L (v :: .ref a :: S) ws := by
  subst hws
  intro H locs ls hP hD hS hl
  obtain ⟨h1, h2, h3, h4, h5⟩ := hw
  refine va_put hC.1 hC.2.1 hC.2.2.2.2.2.1 h3 ty0 hty hnm hC.2.2.2.2.1 hC.2.2.2.2.2.2.1 hP hD hS i hi h1 f h2 (hC.2.2.2.2.2.1 _ h4) (fun x9 h9 => ?_) hfin hde hn hft hlen hd (fun H1 locs1 hP1 hD1 hS1 => k H1 locs1 ls hP1 hD1 hS1 hl)
  rcases h5 with h5 | h5
  · rw [← h5]; exact h9
  · exact u_same (hC.2.2.2.2.2.1 _ h5) x9 h9
theorem k_new (hC : z_C g μ p s m args meth c) (hF : ∀ q, s.heap.size ≤ q → F q) {ci idx Nf : Nat} {fs : List Value} {C : String} {T : u_T} (ty0 : Nat → FieldType) (hcl : z_cl[ci]? = some (C, T, Nf)) (hu : ∀ w ∈ u_ws C T Nf, w ∈ z_TB) (hty : ∀ k, k < Nf → parseFieldDescriptor (T k).2.2.1 = some (ty0 k)) (hw : Cond.classLink μ.1.cls idx C ∈ z_TB ∧ Cond.instantiable C Nf ∈ z_TB ∧ Cond.initialized C ∈ z_TB) (hfs : ∀ j, j < Nf → defaultValue (ty0 j) = vp_V fs j) (hc : cn + 1 ≤ rm.cells) (hs : sn + Nf ≤ rm.slots) (hd : decode μ.2.1 pc = .ok (.new idx, 3)) (k : ∀ q, k_R p l e s m args below meth c F Q g μ rm (cn + 1) (sn + Nf) (pc + 3) L (.ref q :: S) (ws ++ [(q, .inr (ci, fs))])) : k_R p l e s m args below meth c F Q g μ rm cn sn pc L S ws := by
  intro H locs ls hP hD hS hl
  exact va_new hC.1 hC.2.1 hC.2.2.2.2.2.1 hu ty0 hty hC.2.2.2.2.1 (hC.2.2.2.2.2.1 _ hw.1) (hC.2.2.2.2.2.1 _ hw.2.1) (hC.2.2.2.2.2.1 _ hw.2.2) hC.2.2.2.2.2.2.1 hP hD hS hF hcl hfs hc hs hd (fun q H1 hP1 hD1 hS1 => k q H1 locs ls hP1 hD1 hS1 hl)
theorem k_objInit (hC : z_C g μ p s m args meth c) {a idx : Nat} (hw : Cond.methodLink μ.1.cls idx Lib.objectInit ∈ z_TB ∧ Cond.instanceMethod Lib.objectInit ∈ z_TB ∧ Cond.code Lib.objectInit ⟨#[0xb1]⟩ 1 none ∈ z_TB) (hfr : 1 ≤ rm.frames) (hw8 : (S.map fun v => v.category).sum ≤ 8) (hlo : 20 ≤ rm.locals) (hd : decode μ.2.1 pc = .ok (.invokespecial idx, 3)) (k : k_R p l e s m args below meth c F Q g μ rm cn sn (pc + 3) L S ws) : k_R p l e s m args below meth c F Q g μ rm cn sn pc L (.ref a :: S) ws := by
  intro H locs ls hP hD hS hl
  refine W.objInit hC.1 hC.2.1 hC.2.2.2.2.1 (hC.2.2.2.2.2.1 _ hw.1) (hC.2.2.2.2.2.1 _ hw.2.1) (hC.2.2.2.2.2.1 _ hw.2.2) rfl (hl.1.trans hC.2.2.1.symm) rfl hd hfr ?_ (k H locs ls hP hD hS hl)
  have := lv_room (m := m) (pc := pc) (ls := ls) (rest := .ref a :: S) hw8
  show 2 * (F0 m pc ls (.ref a :: S)).monitorRoom + _ + 12 ≤ _
  omega
end KR
