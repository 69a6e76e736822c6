/-! what holds at the law's entry -/
theorem z_arrO {args : Array Value} {s : State} {C : String} (h : (Cond.arrayOver (.object C)).before args s = true) : ∃ cA, ArrOfT s cA (.object C) ∧ va_RA s cA (.object C) := by
  obtain ⟨comp, c9, k, h1, h2, h3, h4, h5⟩ := Cond.arrayOver_spec h
  exact ⟨c9, fun N z => ⟨(fun k h => by cases h), k, h3, comp, h4⟩, k, comp, h3, h4, h1, h5⟩
theorem z_arrI {args : Array Value} {s : State} (h : (Cond.arrayClass .int).before args s = true) : ∃ cA, ArrOfT s cA .int ∧ va_RA s cA .int := by
  obtain ⟨cA, kA, comp, hfind, hk, hkind⟩ := Cond.arrayClass_spec h
  exact ⟨cA, fun N z => ⟨(fun k h => by cases h), kA, hk, comp, hkind⟩, hfind⟩
theorem z_arrL {args : Array Value} {s : State} (h : (Cond.arrayClass .long).before args s = true) : ∃ cA, ArrOfT s cA .long ∧ va_RA s cA .long := by
  obtain ⟨cA, kA, comp, hfind, hk, hkind⟩ := Cond.arrayClass_spec h
  exact ⟨cA, fun N z => ⟨(fun k h => by cases h), kA, hk, comp, hkind⟩, hfind⟩
theorem z_ovr : ∀ C ∈ z_aos, Cond.arrayOver (.object C) ∈ lw_tbl := by decide +kernel
theorem z_dcl : ∀ x ∈ z_bd, Cond.declares x ∈ lw_tbl := by decide +kernel
theorem z_cst : ∀ x ∈ z_xcs, Cond.castable x x ∈ lw_tbl := by decide +kernel
theorem z_cst2 : ∀ q ∈ z_cas, Cond.castable q.1 q.2 ∈ lw_tbl := by decide +kernel
theorem z_str : ∀ q ∈ z_sts, Cond.stringRef "TwoSeals" q.1 q.2 ∈ lw_tbl := by decide +kernel
theorem z_kn {args : Array Value} {s : State} (hts : ∀ w ∈ z_TB, w.before args s = true) (hao : ∀ C ∈ z_aos, (Cond.arrayOver (.object C)).before args s = true) : ∃ g : z_G, va_K g.1 z_cl (z_tys g) s := by
  obtain ⟨c0, i0, h0⟩ := u_known hts zuC (hts _ wy_C)
  obtain ⟨c1, i1, h1⟩ := u_known hts zuH (hts _ wy_H)
  obtain ⟨c2, i2, h2⟩ := u_known hts zuR (hts _ wy_R)
  obtain ⟨c3, i3, h3⟩ := u_known hts zuO (hts _ wy_O)
  obtain ⟨c4, i4, h4⟩ := u_known hts zuZ (hts _ wy_Z)
  obtain ⟨c5, i5, h5⟩ := u_known hts zuS (hts _ wy_S)
  obtain ⟨c6, i6, h6⟩ := u_known hts zuM (hts _ wy_M)
  obtain ⟨a0, k0⟩ := z_arrI (hts _ wa_int)
  obtain ⟨a1, k1⟩ := z_arrL (hts _ wa_long)
  obtain ⟨a2, k2⟩ := z_arrO (hao "TwoSeals$Row" (by decide))
  obtain ⟨a3, k3⟩ := z_arrO (hao "TwoSeals$Hasher" (by decide))
  obtain ⟨a4, k4⟩ := z_arrO (hao "TwoSeals$Way" (by decide))
  refine ⟨((fun c => [c0, c1, c2, c3, c4, c5, c6].getD c c0, fun c => [i0, i1, i2, i3, i4, i5, i6].getD c i0), fun t => [a0, a1, a2, a3, a4].getD t a0), fun c q hq => ?_, fun k q hq => ?_⟩
  · match c, hq with
    | 0, hq => cases hq; exact h0
    | 1, hq => cases hq; exact h1
    | 2, hq => cases hq; exact h2
    | 3, hq => cases hq; exact h3
    | 4, hq => cases hq; exact h4
    | 5, hq => cases hq; exact h5
    | 6, hq => cases hq; exact h6
    | n + 7, hq => cases hq
  · match k, hq with
    | 0, hq => cases hq; exact k0
    | 1, hq => cases hq; exact k1
    | 2, hq => cases hq; exact k2
    | 3, hq => cases hq; exact k3
    | 4, hq => cases hq; exact k4
    | n + 5, hq => cases hq
def z_isLaw : Cond → Bool
  | .codeWith x _ _ _ _ => x.name == "law"
  | _ => false
theorem z_noLaw : ∀ w ∈ z_TB, z_isLaw w = false := by decide +kernel
theorem l_entry {p : Program} {s : State} {m : MethodId} {meth : Method} {c : Code} {l : Launch} {b L : Nat} {xs : Nat → Int32} (hst : l.stackTraces = false) (hL : L ≤ 2560) (C0 : lw_At p s m meth c b L xs) : ∃ g, l_ctx p l s m #[Value.ref b] meth c (fun q => s.heap.size ≤ q) g b L xs := by
  obtain ⟨hexec, hcode, hret, hml, hown, hall, hX, hbl, hlocks, hgv⟩ := C0
  have hts : ∀ w ∈ z_TB, w.before #[Value.ref b] s = true := fun w hw => hall w (List.mem_filter.mp hw).1
  have hfl := flat_of_before _ hgv
  have hao : ∀ C ∈ z_aos, (Cond.arrayOver (.object C)).before #[Value.ref b] s = true := fun C hC => hall _ (z_ovr C hC)
  obtain ⟨g, hK⟩ := z_kn hts hao
  have hKK : z_KK g s := by
    refine ⟨hK, fun x hx => va_Nw.of rfl (hall _ (z_dcl x hx)), fun x hx => va_Nw.of rfl (hall _ (z_cst x hx)), fun q hq => ?_, fun q hq => ?_⟩
    · have h1 := hall _ (z_str q hq)
      obtain ⟨cS, iS, hS⟩ := u_known hts zuS (hts _ wy_S)
      obtain ⟨k, cf, i, a, -, -, -, -, -, hev⟩ := Cond.stringRef_spec hS.2.1 h1
      exact ⟨a, vk_R.of h1 hev⟩
    · refine va_Nc.of (args := #[Value.ref b]) (hfl _ ?_)
      revert q
      decide +kernel
  refine ⟨g, ⟨hexec, hcode, hml, ⟨hret, fun hh hw => ?_⟩, hown, hts, hKK⟩, fun q h => h, ⟨?_, ?_⟩, ⟨fun C hC => va_AO.of (hao C hC), fun q hq => va_Nw.of rfl (hall _ (z_cst2 q hq))⟩, hX, hbl, fun h => absurd hbl (Nat.not_lt.mpr h), by omega, hst⟩
  · have h := z_noLaw _ hw
    exact absurd (show true = false from h) (by decide)
  · exact vx_Zqof (hall _ (by decide +kernel)) (hall _ (by decide +kernel)) (hfl _ (by decide +kernel)) (fun a ha => Nat.not_le.mpr ha)
  · exact vx_Zqof (hall _ (by decide +kernel)) (hall _ (by decide +kernel)) (hfl _ (by decide +kernel)) (fun a ha => Nat.not_le.mpr ha)
/-- from the entry, for every script of at most 2560 ints, the law comes to its end with true -/
theorem whole_start {p : Program} {e : Env} {s : State} {m : MethodId} {below : List Frame} {meth : Method} {c : Code} (l : Launch) (hst : l.stackTraces = false) {b L : Nat} {xs : Nat → Int32} (hL : L ≤ 2560) (C0 : lw_At p s m meth c b L xs) : W p l e room_1 s m #[Value.ref b] below meth c s.heap [] 0 0 (lw_Z below #[Value.ref b] s) (entryFrame m ([Value.ref b] : List Value).toArray 7) := by
  obtain ⟨g, hx0⟩ := l_entry hst hL C0
  have hl := lv_entry [Value.ref b] (n := 7) (Nat.le_of_ble_eq_true rfl)
  rw [lg_entry_eq]
  generalize (lg_sl [Value.ref b] ++ List.replicate (7 - (lg_sl [Value.ref b]).length) Slot.unset).toArray = ls at hl ⊢
  refine l_start hx0 hL (fun cn sn L9 ws hc hs H locs ls hP hD hS hl => ?_) s.heap [] ls (fun k q h => by cases h) ⟨fun i j p q h => (by cases h), fun k q h => (by cases h)⟩ va_S.rf hl
  exact va_forget (fun q hq => hS.2.2 q hq) (W.widen hc hs (lw_ret C0.1 C0.2.1 C0.2.2.1 C0.2.2.2.2.2.2.2.2.1 dL_law_624))
