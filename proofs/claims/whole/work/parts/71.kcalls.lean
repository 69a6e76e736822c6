/-! contracts over an explicit list of cells -/
def z_aos : List String := ["TwoSeals$Row", "TwoSeals$Hasher", "TwoSeals$Way"]
def z_cas : List (String × String) := [("TwoSeals$WayOne", "TwoSeals$Way"), ("TwoSeals$WayZero", "TwoSeals$Way")]
def z_AC (s : State) : Prop := (∀ C ∈ z_aos, va_AO C s) ∧ ∀ q ∈ z_cas, va_Nw (.castable q.1 q.2) s
theorem z_AC.warm {s U : State} (hW : s.WarmedH U.vm) (h : z_AC s) : z_AC U := ⟨fun C hC => va_AO.moved hW.alike (h.1 C hC), fun q hq => va_Nw.warmC hW (h.2 q hq)⟩
theorem z_AC.same {s U : State} (hv : U.vm = s.vm) (h : z_AC s) : z_AC U := ⟨fun C hC => va_AO.moved (u := s) (by rw [hv]; exact Vm.Alike.refl s.vm) (h.1 C hC), fun q hq => va_Nw.same rfl hv.symm (h.2 q hq)⟩
def k_Pc (g : z_G) (av : List Value) (ws : va_W) (sz : Nat) : Array Value → State → Prop := va_Pc av (fun U => U.heap.size = sz ∧ va_P g.1 z_cl ws U.heap ∧ z_KK g U ∧ va_D (fun _ => True) ws ∧ z_AC U)
def k_Qc (g : z_G) (E : Option Value → va_W → Prop) (F : Nat → Prop) : Array Value → State → Outcome → State → Prop := fun _ st oc t => (∃ (r : Option Value) (ws' : va_W), oc = .returned r ∧ E r ws' ∧ va_P g.1 z_cl ws' t.heap ∧ va_D F ws') ∧ va_F F st t
def k_Met (l : Launch) (g : z_G) (μ : z_M) (rm : Room) (av : List Value) (ws : va_W) (E : Option Value → va_W → Prop) : Prop :=
  ∀ sz : Nat, Met l μ.1 (z_ws μ) rm (k_Pc g av ws sz) (k_Qc g E (va_A ws sz)) rm.cells rm.slots (va_A ws sz)
/-- what a body may rest on -/
def k_B (g : z_G) (μ : z_M) (rm : Room) (E : Option Value → va_W → Prop) (p : Program) (l : Launch) (e : Env) (s : State) (m : MethodId) (args : Array Value) (below : List Frame) (meth : Method) (c : Code) (F : Nat → Prop) (Q : State → Prop) : Prop :=
  z_C g μ p s m args meth c ∧ (∀ q, s.heap.size ≤ q → F q) ∧ meth.name = μ.1.name ∧ z_AC s ∧
  ∀ (r : Option Value) (ws' : va_W) (H' : Heap) (locs' : List Loc) (pc' : Nat) (ls' : Array Slot) (cn' sn' : Nat), E r ws' → va_P g.1 z_cl ws' H' → va_D F ws' → va_S F s.heap H' locs' → decode μ.2.1 pc' = .ok (z_ri r, 1) → cn' ≤ rm.cells → sn' ≤ rm.slots → W p l e rm s m args below meth c H' locs' cn' sn' Q (F0 m pc' ls' r.toList)
def k_fit (ret : Option FieldType) (r : Option Value) : Prop := match r with
  | none => ret = none
  | some (.int _) => ret = some .int
  | some (.ref _) => ∃ ty, ret = some (.array ty)
  | _ => False
theorem k_Met.of {l : Launch} {g : z_G} {μ : z_M} {rm : Room} {av : List Value} {ws : va_W} {E : Option Value → va_W → Prop} {L : List (Nat × Value)} (hy : plainName μ.1.cls = true) (hav : (lg_sl av).length ≤ μ.2.2.1) (hfit : ∀ r ws', E r ws' → k_fit μ.2.2.2 r) (hL : lv_args 0 av = L)
    (hR : ∀ p e s m args below meth c F Q, k_B g μ rm E p l e s m args below meth c F Q → k_R p l e s m args below meth c F Q g μ rm 0 0 0 L [] ws) : k_Met l g μ rm av ws E := by
  intro sz
  refine Met.ofW (cc := μ.2.1) (maxL := μ.2.2.1) (ret := μ.2.2.2) hy rfl ?_
  intro p e s m args below meth c s₁ Bd hml hv
  obtain ⟨rfl, hsz, hP, hK, hD0, hAC⟩ := hv
  have hts := atoms_spec (ws := z_ws μ) Bd.pre
  have hown : s.vm.findClass μ.1.cls = some m.cls := findClass_of_methodNamed Bd.named
  have hlocks := Bd.notSynchronized
  have hnm : meth.name = μ.1.name := (name_of_methodNamed Bd.named Bd.method).1
  subst hsz
  have hD := hD0.self (sz := s.heap.size)
  have hl := lv_entry av (n := μ.2.2.1) hav
  rw [hL] at hl
  rw [lg_entry_eq]
  generalize (lg_sl av ++ List.replicate (μ.2.2.1 - (lg_sl av).length) Slot.unset).toArray = ls at hl ⊢
  refine hR p e s m _ below meth c (va_A ws s.heap.size) _ ⟨⟨Bd.exec, Bd.bytes, hml, ⟨Bd.returns, fun hh hw => vx_table (x := μ.1) Bd (hts _ (List.mem_cons_of_mem _ hw))⟩, hown, fun w hw => hts w (List.mem_cons_of_mem _ hw), hK⟩, fun q h => Or.inr h, hnm, hAC, ?_⟩ s.heap [] ls hP hD va_S.rf hl
  intro r ws' H' locs' pc' ls' cn' sn' hE hP' hD' hS' hd' hc' hs'
  refine W.widen hc' hs' ?_
  have hq : ∀ t : State, t.heap = H' → s.WarmedH t.vm → k_Qc g E (va_A ws s.heap.size) av.toArray s (.returned r) t := fun t ht hW => ⟨⟨r, ws', rfl, hE, by rw [ht]; exact hP', hD'⟩, hS'.F ht⟩
  have hf := hfit r ws' hE
  cases r with
  | none => exact W.vret Bd.exec Bd.bytes (Bd.returns.trans hf) hq hS'.2.2 hd'
  | some x =>
    cases x with
    | int v => exact W.iret Bd.exec Bd.bytes (Bd.returns.trans hf) hq hS'.2.2 hd'
    | ref v =>
      obtain ⟨ty, hf⟩ := hf
      exact W.aret Bd.exec Bd.bytes (Bd.returns.trans hf) (Or.inr ⟨ty, rfl⟩) (Or.inr ⟨v, rfl⟩) hq hS'.2.2 hd'
    | _ => exact hf.elim
section KC
variable {p : Program} {l : Launch} {e : Env} {s : State} {m : MethodId} {args : Array Value} {below : List Frame} {meth : Method} {c : Code} {F : Nat → Prop} {Q : State → Prop} {g : z_G} {μ μ' : z_M} {rm rm' : Room} {cn sn pc idx : Nat} {L : List (Nat × Value)} {S rest : List Value} {ws : va_W} {E' : Option Value → va_W → Prop}
theorem k_blind {av : List Value} {sz : Nat} : FrameBlind (k_Pc g av ws sz) := fun a U gf mk q => by
  obtain ⟨q0, q1, qP, qK, qD, qA⟩ := q
  exact ⟨q0, q1, qP, z_KK.same rfl qK, qD, z_AC.same rfl qA⟩
theorem k_after (hF : ∀ q, s.heap.size ≤ q → F q) {H : Heap} {locs : List Loc} {ls : Array Slot} {st0 : List Value} {a : Array Value} (hP : va_P g.1 z_cl ws H) (hD : va_D F ws) (hS : va_S F s.heap H locs) (hl : lv_has ls μ.2.2.1 L)
    (run : va_Run p l e rm s m args below meth c H locs cn sn rm'.cells rm'.slots (F0 m pc ls st0) rest (k_Qc g E' (va_A ws H.size) a) (va_A ws H.size))
    (kk : ∀ (r : Option Value) (ws' : va_W), E' r ws' → k_R p l e s m args below meth c F Q g μ rm (cn + rm'.cells) (sn + rm'.slots) (pc + 3) L (r.toList ++ rest) ws') : W p l e rm s m args below meth c H locs cn sn Q (F0 m pc ls st0) := by
  intro T hT X
  obtain ⟨v, st₀, t, T', L1, h0, X', hL, e1, e2, ⟨⟨r, ws', hv, hE, hP', hD'⟩, hz, hk⟩, st⟩ := run T hT X
  cases hv
  rw [h0] at hz hk
  have hfree : ∀ q, va_A ws H.size q → F q := fun q h => by
    rcases h with ⟨k, e9, h⟩ | h
    · exact hD.2 k (q, e9) h
    · exact hF q (Nat.le_trans hS.1 h)
  have hS' : va_S F s.heap T'.heap (locs ++ L1) := ⟨Nat.le_trans hS.1 (by rw [e1]; exact hz), fun q h1 h2 => by
      rw [e1, hk q (Nat.lt_of_lt_of_le h1 hS.1) (fun z => h2 (hfree q z))]
      exact hS.2.1 q h1 h2, fun q hq => by
      rcases List.mem_append.mp hq with h | h
      · exact hS.2.2 q h
      · exact hfree _ (hL q h)⟩
  obtain ⟨t2, a1, b1⟩ := kk v ws' hE T'.heap (locs ++ L1) ls (by rw [e1]; exact hP') (hD'.weaken (fun _ _ _ h => hfree _ h)) hS' hl T' rfl X'
  exact ⟨t2, st t2 a1, b1⟩
theorem k_pre (hC : z_C g μ p s m args meth c) (hA : z_AC s) {H : Heap} {av : List Value} (hP : va_P g.1 z_cl ws H) (hD : va_D F ws) : ∀ U : State, U.heap = H → s.WarmedH U.vm → k_Pc g av ws H.size av.toArray U := fun U hU hW => ⟨rfl, by rw [hU], by rw [hU]; exact hP, z_KK.warm hW hC.2.2.2.2.2.2, hD.weaken (fun _ _ _ _ => trivial), z_AC.warm hW hA⟩
def z_cwI (own : String) (idx : Nat) (μ' : z_M) (n : Nat) : Prop := z_code μ' ∈ z_TB ∧ Cond.initialized μ'.1.cls ∈ z_TB ∧ Cond.methodLink own idx μ'.1 ∈ z_TB ∧ Cond.instanceMethod μ'.1 ∈ z_TB ∧ μ'.1.name = "<init>" ∧ μ'.2.2.2 = none ∧ (μ'.1.cls ≠ "java/lang/invoke/MethodHandle" ∧ μ'.1.cls ≠ "java/lang/invoke/VarHandle" ∧ (parseMethodDescriptor μ'.1.desc).map (fun d => d.parameters.length) = some n)
theorem k_callI (hC : z_C g μ p s m args meth c) (hF : ∀ q, s.heap.size ≤ q → F q) (hA : z_AC s) {As : List Value} {n a : Nat} {st0 : List Value} (hM : k_Met l g μ' rm' (.ref a :: As) ws E') (hrm : z_roomx rm rm' μ') (hcw : z_cwI μ.1.cls idx μ' n) (hn : As.length = n) (hstk : st0 = As.reverse ++ .ref a :: rest) (hw8 : (rest.map fun v => v.category).sum ≤ 8) (hcs2 : cn + rm'.cells ≤ rm.cells ∧ sn + rm'.slots ≤ rm.slots)
    (hd : decode μ.2.1 pc = .ok (.invokespecial idx, 3)) (kk : ∀ (r : Option Value) (ws' : va_W), E' r ws' → k_R p l e s m args below meth c F Q g μ rm (cn + rm'.cells) (sn + rm'.slots) (pc + 3) L (r.toList ++ rest) ws') : k_R p l e s m args below meth c F Q g μ rm cn sn pc L st0 ws := by
  obtain ⟨hcode, hini, hlink, hin, hnm, hret, hd0⟩ := hcw
  intro H locs ls hP hD hS hl
  have hts := hC.2.2.2.2.2.1
  refine k_after (E' := E') (a := (.ref a :: As).toArray) hF hP hD hS hl ?_ kk
  exact va_runI (own := μ.1.cls) (bytes := μ'.2.1) (maxL := μ'.2.2.1) (ws := z_ws μ') (n := n) ⟨hC.1, hC.2.1, hC.2.2.1, hC.2.2.2.2.1, hts⟩ (hM H.size) ⟨callB_of n hts (z_goodT hcode) (by rw [← hret]; rfl) rfl rfl (hts _ hini) (hts _ hlink) hd0 ⟨hrm.1, hrm.2⟩, hnm, hts _ hin⟩ ⟨k_blind, k_pre hC hA hP hD⟩ rfl hn hl.1 hstk (lv_room hw8) hd hcs2
theorem k_callS (hC : z_C g μ p s m args meth c) (hF : ∀ q, s.heap.size ≤ q → F q) (hA : z_AC s) {As : List Value} {n : Nat} {st0 : List Value} (hM : k_Met l g μ' rm' As ws E') (hrm : z_roomx rm rm' μ') (hcw : z_cwS μ.1.cls idx μ' n) (hn : As.length = n) (hstk : st0 = As.reverse ++ rest) (hw8 : (rest.map fun v => v.category).sum ≤ 8) (hcs2 : cn + rm'.cells ≤ rm.cells ∧ sn + rm'.slots ≤ rm.slots)
    (hd : decode μ.2.1 pc = .ok (.invokestatic idx, 3)) (kk : ∀ (r : Option Value) (ws' : va_W), E' r ws' → k_R p l e s m args below meth c F Q g μ rm (cn + rm'.cells) (sn + rm'.slots) (pc + 3) L (r.toList ++ rest) ws') : k_R p l e s m args below meth c F Q g μ rm cn sn pc L st0 ws := by
  obtain ⟨hcode, hini, hlink, hstt, hd0⟩ := hcw
  intro H locs ls hP hD hS hl
  have hts := hC.2.2.2.2.2.1
  refine k_after (E' := E') (a := As.toArray) hF hP hD hS hl ?_ kk
  exact va_runS (own := μ.1.cls) (bytes := μ'.2.1) (maxL := μ'.2.2.1) (ret := μ'.2.2.2) (ws := z_ws μ') (n := n) ⟨hC.1, hC.2.1, hC.2.2.1, hC.2.2.2.2.1, hts⟩ (hM H.size) ⟨callB_of n hts (z_goodT hcode) rfl rfl rfl (hts _ hini) (hts _ hlink) hd0 ⟨hrm.1, hrm.2⟩, hts _ hstt⟩ ⟨k_blind, k_pre hC hA hP hD⟩ rfl hn hl.1 hstk (lv_room hw8) hd hcs2
theorem k_ret {E : Option Value → va_W → Prop} (hB : k_B g μ rm E p l e s m args below meth c F Q) {r : Option Value} (hd : decode μ.2.1 pc = .ok (z_ri r, 1)) (h : E r ws) (hc : cn ≤ rm.cells) (hs : sn ≤ rm.slots) : k_R p l e s m args below meth c F Q g μ rm cn sn pc L r.toList ws := by
  intro H locs ls hP hD hS hl
  exact hB.2.2.2.2 r ws H locs pc ls cn sn h hP hD hS hd hc hs
theorem k_loop (n : Nat) (I : Nat → List (Nat × Value) → va_W → Prop)
    (step : ∀ i L ws, i < n → I i L ws → (∀ L' ws', I (i + 1) L' ws' → k_R p l e s m args below meth c F Q g μ rm cn sn pc L' S ws') → k_R p l e s m args below meth c F Q g μ rm cn sn pc L S ws)
    (out : ∀ L ws, I n L ws → k_R p l e s m args below meth c F Q g μ rm cn sn pc L S ws) : ∀ L ws, I 0 L ws → k_R p l e s m args below meth c F Q g μ rm cn sn pc L S ws := by
  have key : ∀ d i L ws, i + d = n → I i L ws → k_R p l e s m args below meth c F Q g μ rm cn sn pc L S ws := by
    intro d
    induction d with
    | zero =>
      intro i L ws h hI
      have : i = n := by omega
      subst this
      exact out L ws hI
    | succ d ih =>
      intro i L ws h hI
      exact step i L ws (by omega) hI (fun L' ws' hI' => ih (i + 1) L' ws' (by omega) hI')
  intro L ws hI
  exact key n 0 L ws (by omega) hI
end KC
