/-! methods with handlers; the law's array of one long -/
def z_wsH (μ : z_M) (hh : List (Nat × Nat × Nat × Nat)) : List Cond := Cond.codeWith μ.1 μ.2.1 μ.2.2.1 μ.2.2.2 hh :: z_TB
def z_WMet (l : Launch) (g : z_G) (ad : Nat → Nat) (μ : z_M) (hh : List (Nat × Nat × Nat × Nat)) (rm : Room) (av : List Value) (A B : z_A) (E : Option Value → z_A → z_A → Prop) : Prop :=
  ∀ sz : Nat, Met l μ.1 (z_wsH μ hh) rm (z_Pc g ad av A B sz) (z_Qc g ad E (va_A (z_w g ad A B) sz)) rm.cells rm.slots (va_A (z_w g ad A B) sz)
theorem z_ofWH {l : Launch} {y : MethodName} {ws ws' : List Cond} {rm : Room} {Pc : Array Value → State → Prop} {Qc : Array Value → State → Outcome → State → Prop} {mc ms : Nat} {free : Addr → Prop} {cc : ByteArray} {maxL : Nat} {ret : Option FieldType} {hh : List (Nat × Nat × Nat × Nat)}
    (hy : plainName y.cls = true) (hw : ws = Cond.codeWith y cc maxL ret hh :: ws')
    (body : ∀ p e s m args below meth c s₁, BodyLoose p l y (headSpec ws rm) cc maxL ret e s m args below meth c s₁ → c.maxLocals = maxL → Pc args s →
      W p l e (headSpec ws rm).room s m args below meth c s.heap [] 0 0 (MQ below Qc args s mc ms free) (entryFrame m args maxL)) : Met l y ws rm Pc Qc mc ms free := by
  refine MetFree.of_bodyS (code := cc) (maxLocals := maxL) (ret := ret) hy ?_ ?_
  · intro args s m h hn
    obtain ⟨m9, meth, c, hn9, h1, h2, h3, h4, -, h5, h6, -⟩ := Cond.codeWith_spec (atoms_spec (ws := ws) h _ (by rw [hw]; exact List.mem_cons_self))
    cases hn.symm.trans hn9
    exact ⟨meth, c, h1, h2, h3, h4, h5, h6⟩
  · intro p e s m args below meth c s₁ B hml hP _
    have hh0 : s₁.heap = s.heap := by rw [B.state]; rfl
    obtain ⟨t, a1, o, b1, b2, b3, b4⟩ := body p e s m args below meth c s₁ B hml hP s₁ hh0 (Stand.of_body B)
    exact ⟨t, o, a1, b1, b2, b3, b4⟩
theorem z_WMet.of {l : Launch} {g : z_G} {ad : Nat → Nat} {μ : z_M} {hh : List (Nat × Nat × Nat × Nat)} {rm : Room} {av : List Value} {A B : z_A} {E : Option Value → z_A → z_A → Prop} {L : List (Nat × Value)} (hy : plainName μ.1.cls = true) (hav : (lg_sl av).length ≤ μ.2.2.1) (hfit : ∀ r A' B', E r A' B' → z_fit μ.2.2.2 r) (hL : lv_args 0 av = L)
    (hR : ∀ Ex : Option Value → z_A → z_A → Prop, (∀ r A' B', E r A' B' → Ex r A' B') → z_R l g ad μ rm Ex 0 0 0 L [] A B) : z_WMet l g ad μ hh rm av A B E := by
  intro sz
  refine z_ofWH (cc := μ.2.1) (maxL := μ.2.2.1) (ret := μ.2.2.2) (hh := hh) hy rfl ?_
  intro p e s m args below meth c s₁ Bd hml hv
  obtain ⟨rfl, hsz, hP, hK, hD0, hZ⟩ := hv
  have hts := atoms_spec (ws := z_wsH μ hh) Bd.pre
  have hown : s.vm.findClass μ.1.cls = some m.cls := findClass_of_methodNamed Bd.named
  have hlocks := Bd.notSynchronized
  subst hsz
  have hD := hD0.self (sz := s.heap.size)
  have hl := lv_entry av (n := μ.2.2.1) hav
  rw [hL] at hl
  rw [lg_entry_eq]
  generalize (lg_sl av ++ List.replicate (μ.2.2.1 - (lg_sl av).length) Slot.unset).toArray = ls at hl ⊢
  have hT : ∀ w ∈ z_TB, w.before av.toArray s = true := fun w hw => hts w (List.mem_cons_of_mem _ hw)
  refine hR E (fun _ _ _ h => h) p e s m _ below meth c s.heap [] (va_A (z_w g ad A B) s.heap.size) _ ls ⟨Bd.exec, Bd.bytes, hml, ⟨Bd.returns, fun hh hw => vx_table (x := μ.1) Bd (hT _ hw)⟩, hown, hT, hK⟩ ⟨hP, hD, va_S.rf, fun q h => Or.inr h, hZ⟩ hl ?_ (fun x A' B' H' locs' pc' ls' S' q cn' sn' hE _ _ _ _ => (hfit _ _ _ hE).elim) (fun x A' B' H' locs' pc' ls' cn' sn' hE _ _ _ _ _ => (hfit _ _ _ hE).elim) ⟨Nat.zero_le _, Nat.zero_le _⟩
  intro r A' B' H' locs' pc' ls' cn' sn' hE _ hH' hd' hc' hs'
  refine W.widen hc' hs' ?_
  have hq : ∀ t : State, t.heap = H' → s.WarmedH t.vm → z_Qc g ad E (va_A (z_w g ad A B) s.heap.size) av.toArray s (.returned r) t := fun t ht hW => ⟨⟨r, A', B', rfl, hE, by rw [ht]; exact hH'.1⟩, hH'.2.2.1.F ht⟩
  have hf := hfit r A' B' hE
  cases r with
  | none => exact W.vret Bd.exec Bd.bytes (Bd.returns.trans hf) hq hH'.2.2.1.2.2 hd'
  | some x =>
    cases x with
    | int v =>
      rcases hf with hf | ⟨hf, hv⟩
      · exact W.iret Bd.exec Bd.bytes (Bd.returns.trans hf) hq hH'.2.2.1.2.2 hd'
      · exact W.zret Bd.exec Bd.bytes (Bd.returns.trans hf) hv hq hH'.2.2.1.2.2 hd'
    | long v => exact W.lret Bd.exec Bd.bytes (Bd.returns.trans hf) hq hH'.2.2.1.2.2 hd'
    | _ => exact hf.elim
/-- exception x, thrown at pc, is caught: the handler is at hp -/
def z_ct (own : String) (hh : List (Nat × Nat × Nat × Nat)) (pc x hp : Nat) : Prop := ∃ (cls : String) (pre : List (Nat × Nat × Nat × Nat)) (h : Nat × Nat × Nat × Nat) (suf : List (Nat × Nat × Nat × Nat)), z_xcs[x]? = some cls ∧ hh = pre ++ h :: suf ∧ (∀ z ∈ pre, z.2.2.2 ≠ 0 ∧ ∃ nm, Cond.classLink own z.2.2.2 nm ∈ z_TB ∧ (cls, nm) ∈ z_ncs) ∧ covers ⟨h.1, h.2.1, h.2.2.1, h.2.2.2⟩ pc = true ∧ h.2.2.2 ≠ 0 ∧ Cond.classLink own h.2.2.2 cls ∈ z_TB ∧ h.2.2.1 = hp
section ZW
variable {l : Launch} {g : z_G} {ad : Nat → Nat} {μ μ' : z_M} {rm rm' : Room} {E E' : Option Value → z_A → z_A → Prop} {cn sn pc idx : Nat} {L : List (Nat × Value)} {rest S : List Value} {A B : z_A}
theorem z_callC {As : List Value} {n k ci Nf : Nat} {fs : List (Nat × Nat)} {T : u_T} {st0 : List Value} {hh : List (Nat × Nat × Nat × Nat)} (hM : z_XMet l g ad μ' rm' (.ref (ad k) :: As) A B E') (hrm : z_roomx rm rm' μ') (ho : z_ob k ci fs) (hc : z_cl[ci]? = some (μ'.1.cls, T, Nf)) (hcw : z_cwV μ.1.cls idx μ' n) (hn : As.length = n) (hstk : st0 = As.reverse ++ .ref (ad k) :: rest) (hw8 : (rest.map fun v => v.category).sum ≤ 8) (hcs2 : cn + rm'.cells ≤ rm.cells ∧ sn + rm'.slots ≤ rm.slots)
    (hd : decode μ.2.1 pc = .ok (.invokevirtual idx, 3)) (hcd : Cond.codeWith μ.1 μ.2.1 μ.2.2.1 μ.2.2.2 hh ∈ z_TB)
    (kc : ∀ (x : Nat) (A' B' : z_A), E' (some (.ref x)) A' B' → ∃ hp, z_ct μ.1.cls hh pc x hp ∧ ∀ q, z_R l g ad μ rm E (cn + rm'.cells) (sn + rm'.slots) hp L [.ref q] A' B')
    (kk : ∀ (r : Option Value) (A' B' : z_A), z_nr r → E' r A' B' → z_R l g ad μ rm E (cn + rm'.cells) (sn + rm'.slots) (pc + 3) L (r.toList ++ rest) A' B') : z_R l g ad μ rm E cn sn pc L st0 A B := by
  obtain ⟨hk, hs⟩ := ho
  obtain ⟨hcode, hini, hlink, hin, hsel, hd0⟩ := hcw
  intro p e s m args below meth c H locs F Q ls hC hH hl hr hx hth hcs
  have hts := hC.2.2.2.2.2.1
  refine z_afterX (E' := E') (a := (.ref (ad k) :: As).toArray) hC hH hl hcs2 ?_ ?_ (fun r A' B' hn1 hE H' locs' hH' => kk r A' B' hn1 hE p e s m args below meth c H' locs' F Q ls hC hH' hl hr hx hth hcs2)
  · exact vx_runV (own := μ.1.cls) (C := μ'.1.cls) (bytes := μ'.2.1) (maxL := μ'.2.2.1) (ret := μ'.2.2.2) (ws := z_ws μ') (n := n) ⟨hC.1, hC.2.1, hC.2.2.1, hC.2.2.2.2.1, hts⟩ (hM H.size) ⟨callB_of n hts (z_goodT hcode) rfl rfl rfl (hts _ hini) (hts _ hlink) hd0 ⟨hrm.1, hrm.2⟩, hts _ hin, hts _ hsel⟩ ⟨z_blind, va_recv hC.2.2.2.2.2.2.1 hH.1 hc ((z_w_get g ad A B hk).trans (by rw [hs]; rfl)), z_pre hC.2.2.2.2.2.2 hH⟩ rfl hn hl.1 hstk (lv_room hw8) hd hcs2
  · intro x A' B' H' locs' q hE hH' hex
    obtain ⟨hp, ⟨cls, pre, h, suf, h1, h2, h3, h4, h5, h6, rfl⟩, kR⟩ := kc x A' B' hE
    obtain ⟨cls', ce, e1, e2, e3, e4⟩ := hex
    cases h1.symm.trans e1
    have htab := hC.2.2.2.1.2 hh hcd
    refine vx_catch (own := μ.1.cls) (name := cls) hC.2.2.2.2.1 (tableOf pre) ⟨h.1, h.2.1, h.2.2.1, h.2.2.2⟩ (tableOf suf) (by rw [htab, h2]; simp [tableOf]) ?_ h4 h5 (hts _ h6) (va_Nw.use rfl (hC.2.2.2.2.2.2.2.2.1 cls (List.mem_of_getElem? e1))) e2 e3 e4 ?_
    · intro z hz
      obtain ⟨z0, hz0, rfl⟩ := List.mem_map.mp hz
      obtain ⟨hz1, nm, hz2, hz3⟩ := h3 z0 hz0
      exact Or.inr ⟨hz1, nm, hts _ hz2, hC.2.2.2.2.2.2.2.2.2.2 (cls, nm) hz3⟩
    · exact kR q p e s m args below meth c H' locs' F Q ls hC hH' hl hr hx hth hcs2
theorem z_cell_la {g : z_G} {ad : Nat → Nat} {k n : Nat} (h : z_sh k = (1, n, [])) (a b : Nat → Nat) : z_cell g ad (z_sh k) a b = .inl (g.2 1, n, .inr (.inl (fun j => lN (b j)))) := by rw [h]; rfl
theorem z_lastore {k j n x : Nat} (hk : k < z_N) (hs : z_sh k = (1, n, [])) (hn : n < 2 ^ 31) (hj : j < n) (hd : decode μ.2.1 pc = .ok (.lastore, 1)) (K : z_R l g ad μ rm E cn sn (pc + 1) L S A (z_set B k j x)) : z_R l g ad μ rm E cn sn pc L (.long (lN x) :: .int (nI j) :: .ref (ad k) :: S) A B := by
  intro p e s m args below meth c H locs F Q ls hC hH hl hr hx hth hcs
  refine va_last hC.1 hC.2.1 hC.2.2.2.2.2.2.1 hH.1 hH.2.1 hH.2.2.1 k 1 ((z_w_get g ad A B hk).trans (by rw [z_cell_la hs])) rfl (vp_in_nI hj hn) hd (fun H1 locs1 hP1 hD1 hS1 => ?_)
  have hw : (z_w g ad A B).set k (ad k, .inl (g.2 1, n, .inr (.inl (vp_updL (fun j => lN (B k j)) (nI j).toNatClampNeg (lN x))))) = z_w g ad A (z_set B k j x) := by
    rw [← z_w_set g ad A B A (z_set B k j x) hk (fun _ _ => rfl) (fun i hi => va_up_ne _ _ hi), z_cell_la hs, nI_clamp (by omega)]
    congr 6
    refine congrArg Sum.inl (funext fun i => ?_)
    by_cases hi : i = j
    · subst hi; simp [vp_updL, z_set, va_up]
    · simp [vp_updL, z_set, va_up, hi]
  rw [hw] at hP1 hD1
  exact K p e s m args below meth c H1 locs1 F Q ls hC ⟨hP1, hD1, hS1, hH.2.2.2⟩ hl hr hx hth hcs
end ZW
