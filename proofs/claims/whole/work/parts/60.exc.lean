/-! methods that return or throw -/
def z_Xc (g : z_G) (ad : Nat → Nat) (E : Option Value → z_A → z_A → Prop) (F : Nat → Prop) : String → State → State → Prop := fun cls st t => ∃ (x : Nat) (A' B' : z_A), z_xcs[x]? = some cls ∧ E (some (.ref x)) A' B' ∧ va_P g.1 z_cl (z_w g ad A' B') t.heap ∧ va_F F st t
def z_fitx (ret : Option FieldType) (r : Option Value) : Prop := (∃ x, r = some (.ref x)) ∨ z_fit ret r
def z_Qn (E : Option Value → z_A → z_A → Prop) : Option Value → z_A → z_A → Prop := fun r A B => z_nr r ∧ E r A B
def z_XMet (l : Launch) (g : z_G) (ad : Nat → Nat) (μ : z_M) (rm : Room) (av : List Value) (A B : z_A) (E : Option Value → z_A → z_A → Prop) : Prop :=
  ∀ sz : Nat, vx_Met l μ.1 (z_ws μ) rm (z_Pc g ad av A B sz) (z_Qc g ad (z_Qn E) (va_A (z_w g ad A B) sz)) (z_Xc g ad E (va_A (z_w g ad A B) sz)) rm.cells rm.slots (va_A (z_w g ad A B) sz)
set_option maxHeartbeats 1000000 in
theorem z_XMet.of {l : Launch} {g : z_G} {ad : Nat → Nat} {μ : z_M} {rm : Room} {av : List Value} {A B : z_A} {E : Option Value → z_A → z_A → Prop} {L : List (Nat × Value)} (hst : l.stackTraces = false) (hy : plainName μ.1.cls = true) (hav : (lg_sl av).length ≤ μ.2.2.1) (hfit : ∀ r A' B', E r A' B' → z_fitx μ.2.2.2 r) (hL : lv_args 0 av = L) (hrm : 5 < rm.frames ∧ 82 ≤ rm.locals)
    (hR : ∀ Ex : Option Value → z_A → z_A → Prop, (∀ r A' B', E r A' B' → Ex r A' B') → z_R l g ad μ rm Ex 0 0 0 L [] A B) : z_XMet l g ad μ rm av A B E := by
  intro sz
  refine vx_ofW (cc := μ.2.1) (maxL := μ.2.2.1) (ret := μ.2.2.2) hy rfl ?_
  intro p e s m args below meth c s₁ Bd hml htab hv
  obtain ⟨rfl, hsz, hP, hK, hD0, hZ⟩ := hv
  have hts := atoms_spec (ws := z_ws μ) Bd.pre
  have hown : s.vm.findClass μ.1.cls = some m.cls := findClass_of_methodNamed Bd.named
  have hlocks := Bd.notSynchronized
  subst hsz
  have hD := hD0.self (sz := s.heap.size)
  have hl := lv_entry av (n := μ.2.2.1) hav
  rw [hL] at hl
  rw [lg_entry_eq]
  generalize (lg_sl av ++ List.replicate (μ.2.2.1 - (lg_sl av).length) Slot.unset).toArray = ls at hl ⊢
  have hT : ∀ w ∈ z_TB, w.before av.toArray s = true := fun w hw => hts w (List.mem_cons_of_mem _ hw)
  refine hR E (fun _ _ _ h => h) p e s m _ below meth c s.heap [] (va_A (z_w g ad A B) s.heap.size) _ ls ⟨Bd.exec, Bd.bytes, hml, ⟨Bd.returns, fun hh hw => vx_table (x := μ.1) Bd (hT _ hw)⟩, hown, hT, hK⟩ ⟨hP, hD, va_S.rf, fun q h => Or.inr h, hZ⟩ hl ?_ ?_ ?_ ⟨Nat.zero_le _, Nat.zero_le _⟩
  · intro r A' B' H' locs' pc' ls' cn' sn' hE hn hH' hd' hc' hs'
    refine vx_ret ?_
    refine W.widen hc' hs' ?_
    have hq : ∀ t : State, t.heap = H' → s.WarmedH t.vm → z_Qc g ad (z_Qn E) (va_A (z_w g ad A B) s.heap.size) av.toArray s (.returned r) t := fun t ht hW => ⟨⟨r, A', B', rfl, ⟨hn, hE⟩, by rw [ht]; exact hH'.1⟩, hH'.2.2.1.F ht⟩
    have hf : z_fit μ.2.2.2 r := (hfit r A' B' hE).resolve_left (fun q => by obtain ⟨x, q⟩ := q; exact hn x q)
    cases r with
    | none => exact W.vret Bd.exec Bd.bytes (Bd.returns.trans hf) hq hH'.2.2.1.2.2 hd'
    | some x =>
      cases x with
      | int v =>
        rcases hf with hf | ⟨hf, hv⟩
        · exact W.iret Bd.exec Bd.bytes (Bd.returns.trans hf) hq hH'.2.2.1.2.2 hd'
        · exact W.zret Bd.exec Bd.bytes (Bd.returns.trans hf) hv hq hH'.2.2.1.2.2 hd'
      | long v => exact W.lret Bd.exec Bd.bytes (Bd.returns.trans hf) hq hH'.2.2.1.2.2 hd'
      | _ => exact hf.elim
  · intro x A' B' H' locs' pc' ls' S' q cn' sn' hE hH' hex hc' hs'
    obtain ⟨cls, ce, h1, h2, h3, h4⟩ := hex
    exact vx_out (fun z hz => (htab z hz).elim) hlocks h2 h3 h4 (fun t ht _ => ⟨x, A', B', h1, hE, by rw [ht]; exact hH'.1, hH'.2.2.1.F ht⟩) hH'.2.2.1.2.2 hc' hs'
  · intro x A' B' H' locs' pc' ls' cn' sn' hE hH' hsz' hthr hc' hs'
    obtain ⟨ik, is, ic, cls, text, ho, h1, hstx, hfi, hcl, hin, ⟨ha1, ha2, ha3⟩, d0, d3, d4, d6, d9⟩ := hthr
    obtain ⟨sa, hstr⟩ := hK.2.2.2.1 (is, text) hstx
    rw [ho] at hown
    have hB : ∀ w ∈ Cond.castable cls cls :: z_bd.map (fun x => Cond.declares x), w.before av.toArray s = true := by
      intro w hw
      rcases List.mem_cons.mp hw with rfl | hw
      · exact va_Nw.use rfl (hK.2.2.1 cls (List.mem_of_getElem? h1))
      · obtain ⟨y, hy2, rfl⟩ := List.mem_map.mp hw
        exact va_Nw.use rfl (hK.2.1 y hy2)
    have hg2 : ∀ w ∈ Cond.classLink "TwoSeals" ik cls :: Cond.initialized cls :: vx_atS "TwoSeals" ic cls z_nms, vx_ot w = true := by
      intro w hw
      rcases List.mem_cons.mp hw with rfl | hw
      · rfl
      · rcases List.mem_cons.mp hw with rfl | hw
        · rfl
        · exact ha3 w hw
    exact vx_throwS Bd.exec Bd.bytes hst hown hfi (names := z_nms) (by decide) (hT _ hcl) (hT _ hin) hstr (vx_hat (fun w hw => hT w (ha1 w hw)) ha2 hB) hg2 hH'.2.2.2.2.1 hH'.2.2.2.2.2 hH'.2.2.1 (hsz'.trans hml.symm) d0 d3 d4 d6 d9 (fun z hz => (htab z hz).elim) hrm.1 (by show 0 + 82 ≤ rm.locals; have := hrm.2; omega) hc' hs' hlocks
      (fun t _ hz hg => ⟨x, A', B', h1, hE, hH'.1.kept (fun k q hk => hg q.1 (hH'.1 k q hk).lt), Nat.le_trans hH'.2.2.1.1 hz, fun q h5 h6 => (hg q (Nat.lt_of_lt_of_le h5 hH'.2.2.1.1)).trans (hH'.2.2.1.2.1 q h5 h6)⟩) hH'.2.2.1.2.2 hc' hs'
section ZX
variable {l : Launch} {g : z_G} {ad : Nat → Nat} {μ μ' : z_M} {rm rm' : Room} {E E' : Option Value → z_A → z_A → Prop} {cn sn pc idx : Nat} {L : List (Nat × Value)} {rest : List Value} {A B : z_A}
theorem z_afterX {p : Program} {e : Env} {s : State} {m : MethodId} {args : Array Value} {below : List Frame} {meth : Method} {c : Code} {H : Heap} {locs : List Loc} {F : Nat → Prop} {Q : State → Prop} {ls : Array Slot} {st0 : List Value} {a : Array Value}
    (hC : z_C g μ p s m args meth c) (hH : z_H g ad A B F s H locs) (hl : lv_has ls μ.2.2.1 L)
    (hcs : cn + rm'.cells ≤ rm.cells ∧ sn + rm'.slots ≤ rm.slots)
    (run : vx_Run p l e rm s m args below meth c H locs cn sn rm'.cells rm'.slots (F0 m pc ls st0) rest (z_Qc g ad (z_Qn E') (va_A (z_w g ad A B) H.size) a) (z_Xc g ad E' (va_A (z_w g ad A B) H.size)) (va_A (z_w g ad A B) H.size))
    (kx : ∀ (x : Nat) (A' B' : z_A) (H' : Heap) (locs' : List Loc) (q : Nat), E' (some (.ref x)) A' B' → z_H g ad A' B' F s H' locs' → z_exc x s H' q → vx_W p l e rm s m args below meth c H' locs' (cn + rm'.cells) (sn + rm'.slots) Q (F0 m pc ls rest) q)
    (kk : ∀ (r : Option Value) (A' B' : z_A), z_nr r → E' r A' B' → ∀ (H' : Heap) (locs' : List Loc), z_H g ad A' B' F s H' locs' → W p l e rm s m args below meth c H' locs' (cn + rm'.cells) (sn + rm'.slots) Q (F0 m (pc + 3) ls (r.toList ++ rest))) : W p l e rm s m args below meth c H locs cn sn Q (F0 m pc ls st0) := by
  have hfree : ∀ q, va_A (z_w g ad A B) H.size q → F q := fun q h => by
    rcases h with ⟨k, e9, h⟩ | h
    · exact hH.2.1.2 k (q, e9) h
    · exact hH.2.2.2.1 q (Nat.le_trans hH.2.2.1.1 h)
  have join : ∀ (A' B' : z_A) (st₀ t T' : State) (L1 : List Loc), st₀.heap = H → T'.heap = t.heap → (∀ q ∈ L1, va_A (z_w g ad A B) H.size q.base) → va_P g.1 z_cl (z_w g ad A' B') t.heap → va_F (va_A (z_w g ad A B) H.size) st₀ t → z_H g ad A' B' F s T'.heap (locs ++ L1) := by
    intro A' B' st₀ t T' L1 h0 e1 hL hP' hF
    obtain ⟨hz, hk⟩ := hF
    rw [h0] at hz hk
    have hS' : va_S F s.heap T'.heap (locs ++ L1) := ⟨Nat.le_trans hH.2.2.1.1 (by rw [e1]; exact hz), fun q h1 h2 => by
        rw [e1, hk q (Nat.lt_of_lt_of_le h1 hH.2.2.1.1) (fun z => h2 (hfree q z))]
        exact hH.2.2.1.2.1 q h1 h2, fun q hq => by
        rcases List.mem_append.mp hq with h | h
        · exact hH.2.2.1.2.2 q h
        · exact hfree _ (hL q h)⟩
    exact ⟨by rw [e1]; exact hP', z_D_moves hH.2.1, hS', hH.2.2.2⟩
  intro T hT X
  rcases run T hT X with ⟨v, st₀, t, T', L1, h0, X', hL, e1, e2, ⟨⟨r, A', B', hv, hE, hP'⟩, hF⟩, st⟩ | ⟨q, st₀, t, T', L1, cls, ce, h0, X', hL, e1, e2, ⟨x, A', B', hxc, hE, hP', hF⟩, hce, hcv, hcl, st⟩
  · cases hv
    obtain ⟨t2, a1, b1⟩ := kk v A' B' hE.1 hE.2 T'.heap (locs ++ L1) (join A' B' st₀ t T' L1 h0 e1 hL hP' hF) T' rfl X'
    exact ⟨t2, st t2 a1, b1⟩
  · obtain ⟨t2, a1, b1⟩ := kx x A' B' T'.heap (locs ++ L1) q hE (join A' B' st₀ t T' L1 h0 e1 hL hP' hF) ⟨cls, ce, hxc, by rw [e1]; exact hce, hcv, hcl⟩ T' rfl X'
    exact ⟨t2, st.trans a1, b1⟩
abbrev z_roomx (rm rm' : Room) (μ' : z_M) : Prop := rm'.frames + 1 ≤ rm.frames ∧ 8 + (μ'.2.2.1 + 11) + rm'.locals ≤ rm.locals
theorem z_callXS {As : List Value} {n : Nat} {st0 : List Value} (hM : z_XMet l g ad μ' rm' As A B E') (hrm : z_roomx rm rm' μ') (hcw : z_cwS μ.1.cls idx μ' n) (hn : As.length = n) (hstk : st0 = As.reverse ++ rest) (hw8 : (rest.map fun v => v.category).sum ≤ 8) (hcs2 : cn + rm'.cells ≤ rm.cells ∧ sn + rm'.slots ≤ rm.slots)
    (hd : decode μ.2.1 pc = .ok (.invokestatic idx, 3)) (kx : ∀ (x : Nat) (A' B' : z_A), E' (some (.ref x)) A' B' → E (some (.ref x)) A' B') (kk : ∀ (r : Option Value) (A' B' : z_A), z_nr r → E' r A' B' → z_R l g ad μ rm E (cn + rm'.cells) (sn + rm'.slots) (pc + 3) L (r.toList ++ rest) A' B') : z_R l g ad μ rm E cn sn pc L st0 A B := by
  obtain ⟨hcode, hini, hlink, hstt, hd0⟩ := hcw
  intro p e s m args below meth c H locs F Q ls hC hH hl hr hx hth hcs
  have hts := hC.2.2.2.2.2.1
  refine z_afterX (E' := E') (a := As.toArray) hC hH hl hcs2 ?_ (fun x A' B' H' locs' q hE hH' hex => hx x A' B' H' locs' pc ls rest q _ _ (kx x A' B' hE) hH' hex hcs2.1 hcs2.2) (fun r A' B' hn1 hE H' locs' hH' => kk r A' B' hn1 hE p e s m args below meth c H' locs' F Q ls hC hH' hl hr hx hth hcs2)
  exact vx_runS (own := μ.1.cls) (bytes := μ'.2.1) (maxL := μ'.2.2.1) (ret := μ'.2.2.2) (ws := z_ws μ') (n := n) ⟨hC.1, hC.2.1, hC.2.2.1, hC.2.2.2.2.1, hts⟩ (hM H.size) ⟨callB_of n hts (z_goodT hcode) rfl rfl rfl (hts _ hini) (hts _ hlink) hd0 ⟨hrm.1, hrm.2⟩, hts _ hstt⟩ ⟨z_blind, z_pre hC.2.2.2.2.2.2 hH⟩ rfl hn hl.1 hstk (lv_room hw8) hd hcs2
theorem z_callXV {As : List Value} {n k ci Nf : Nat} {fs : List (Nat × Nat)} {T : u_T} {st0 : List Value} (hM : z_XMet l g ad μ' rm' (.ref (ad k) :: As) A B E') (hrm : z_roomx rm rm' μ') (ho : z_ob k ci fs) (hc : z_cl[ci]? = some (μ'.1.cls, T, Nf)) (hcw : z_cwV μ.1.cls idx μ' n) (hn : As.length = n) (hstk : st0 = As.reverse ++ .ref (ad k) :: rest) (hw8 : (rest.map fun v => v.category).sum ≤ 8) (hcs2 : cn + rm'.cells ≤ rm.cells ∧ sn + rm'.slots ≤ rm.slots)
    (hd : decode μ.2.1 pc = .ok (.invokevirtual idx, 3)) (kx : ∀ (x : Nat) (A' B' : z_A), E' (some (.ref x)) A' B' → E (some (.ref x)) A' B') (kk : ∀ (r : Option Value) (A' B' : z_A), z_nr r → E' r A' B' → z_R l g ad μ rm E (cn + rm'.cells) (sn + rm'.slots) (pc + 3) L (r.toList ++ rest) A' B') : z_R l g ad μ rm E cn sn pc L st0 A B := by
  obtain ⟨hk, hs⟩ := ho
  obtain ⟨hcode, hini, hlink, hin, hsel, hd0⟩ := hcw
  intro p e s m args below meth c H locs F Q ls hC hH hl hr hx hth hcs
  have hts := hC.2.2.2.2.2.1
  refine z_afterX (E' := E') (a := (.ref (ad k) :: As).toArray) hC hH hl hcs2 ?_ (fun x A' B' H' locs' q hE hH' hex => hx x A' B' H' locs' pc ls rest q _ _ (kx x A' B' hE) hH' hex hcs2.1 hcs2.2) (fun r A' B' hn1 hE H' locs' hH' => kk r A' B' hn1 hE p e s m args below meth c H' locs' F Q ls hC hH' hl hr hx hth hcs2)
  exact vx_runV (own := μ.1.cls) (C := μ'.1.cls) (bytes := μ'.2.1) (maxL := μ'.2.2.1) (ret := μ'.2.2.2) (ws := z_ws μ') (n := n) ⟨hC.1, hC.2.1, hC.2.2.1, hC.2.2.2.2.1, hts⟩ (hM H.size) ⟨callB_of n hts (z_goodT hcode) rfl rfl rfl (hts _ hini) (hts _ hlink) hd0 ⟨hrm.1, hrm.2⟩, hts _ hin, hts _ hsel⟩ ⟨z_blind, va_recv hC.2.2.2.2.2.2.1 hH.1 hc ((z_w_get g ad A B hk).trans (by rw [hs]; rfl)), z_pre hC.2.2.2.2.2.2 hH⟩ rfl hn hl.1 hstk (lv_room hw8) hd hcs2
end ZX
