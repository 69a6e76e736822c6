/-! the class's state -/
def z_rq : Room := ⟨6, 1, 6, 100⟩
def z_rp : Room := ⟨7, 3, 18, 250⟩
def z_th (x : Nat) (A B : z_A) : Option Value → z_A → z_A → Prop := fun r A' B' => some (.ref x) = r ∧ A = A' ∧ B = B'
theorem z_fitx_th {ret : Option FieldType} {x : Nat} {A B : z_A} : ∀ r A' B', z_th x A B r A' B' → z_fitx ret r := fun r A' B' h => Or.inl ⟨x, h.1.symm⟩
theorem z_fitx_eq {ret : Option FieldType} {r0 : Option Value} {A0 B0 : z_A} (h : z_fit ret r0) : ∀ r A' B', z_eq r0 A0 B0 r A' B' → z_fitx ret r := by
  rintro r A' B' ⟨rfl, _, _⟩
  exact Or.inr h
theorem z_fitx_an {x : Nat} {P : z_A → z_A → Prop} : ∀ r A' B', z_an x P r A' B' → z_fitx (some .int) r := by
  rintro r A' B' ⟨rfl, _⟩
  exact Or.inr (Or.inl rfl)
theorem z_fitx_vd {P : z_A → z_A → Prop} : ∀ r A' B', z_vd P r A' B' → z_fitx none r := by
  rintro r A' B' ⟨rfl, _⟩
  exact Or.inr rfl
def zCR (A : z_A) (n : Nat → Nat) (R : Nat → Nat → Nat) (m : Nat) (X : Nat → Nat) : Prop := (∀ r, r < 4 → A (2 + 2 * r) 1 = n r ∧ ∀ j, j < n r → A (3 + 2 * r) j = R r j) ∧ A 10 1 = m ∧ ∀ j, j < m → A 11 j = X j
def zCS (A B : z_A) : Prop := z_box A 15 ∧ (∀ j, j < 16 → A 31 j = z00 j) ∧ z_hw A B 20 (zow 0) (zmw 0) (zvw 0) ∧ z_hw A B 22 (zow 1) (zmw 1) (zvw 1) ∧ (∃ H S, z_hk B 20 H S) ∧ ∃ H S, z_hk B 22 H S
/-- what a call of the class leaves: no cell of the reference has changed -/
def zCP (A B : z_A) (n : Nat → Nat) (R : Nat → Nat → Nat) (m : Nat) (X : Nat → Nat) : z_A → z_A → Prop := fun A' B' => (∀ q, 39 ≤ q → A' q = A q) ∧ (∀ q, 39 ≤ q → B' q = B q) ∧ zCS A' B' ∧ zCR A' n R m X
theorem zCS.mv {A A' B : z_A} (h : zCS A B) (h15 : A' 15 = A 15) (h31 : A' 31 = A 31) (h20 : A' 20 = A 20) (h22 : A' 22 = A 22) : zCS A' B := by
  obtain ⟨h1, h2, h3, h4, h5, h6⟩ := h
  exact ⟨fun j hj => by rw [h15]; exact h1 j hj, fun j hj => by rw [h31]; exact h2 j hj, h3.mv h20 z_hB.rf, h4.mv h22 z_hB.rf, h5, h6⟩
theorem z_r4 {r : Nat} (h : r < 4) : r = 0 ∨ r = 1 ∨ r = 2 ∨ r = 3 := by omega
theorem z_rowi {r : Nat} (hr : r < 4) : ([(2, 2), (2, 4), (2, 6), (2, 8)] : List (Nat × Nat))[r]? = some (2, 2 + 2 * r) := by rcases z_r4 hr with rfl | rfl | rfl | rfl <;> rfl
theorem z_rowo {r : Nat} (hr : r < 4) : z_ob (2 + 2 * r) 2 [(2, 3 + 2 * r), (0, 0)] := by rcases z_r4 hr with rfl | rfl | rfl | rfl <;> exact ⟨by decide, rfl⟩
theorem z_rowa {r : Nat} (hr : r < 4) : z_ia (3 + 2 * r) (zmost r) := by rcases z_r4 hr with rfl | rfl | rfl | rfl <;> exact ⟨by decide, rfl, by decide⟩
section
variable {l : Launch} {g : z_G} {ad : Nat → Nat} {A B : z_A} {n : Nat → Nat} {R : Nat → Nat → Nat} {m : Nat} {X : Nat → Nat}
theorem c_requireRow1 (hst : l.stackTraces = false) {r : Nat} (hr : r < 4) : z_XMet l g ad mS_requireRow z_rq [.int (nI r)] A B (z_eq none A B) := by
  refine z_XMet.of (L := [(0, _)]) hst (by decide) (Nat.le_of_ble_eq_true rfl) (z_fitx_eq rfl) rfl (by decide) ?_
  intro Ex hEx
  refine z_iload_n (pc := 0) dS_requireRow_0 rfl rfl ?_
  refine z_if_lt (pc := 1) (by omega) (tgt := 9) dS_requireRow_1 rfl (fun h => by exfalso; omega) (fun h => ?_)
  refine z_iload_n (pc := 4) dS_requireRow_4 rfl rfl ?_
  refine z_iconst (pc := 5) dS_requireRow_5 zi_4 ?_
  refine z_icmp_lt (pc := 6) (by omega) (by omega) (tgt := 19) dS_requireRow_6 rfl (fun h => ?_) (fun h => by exfalso; omega)
  exact z_ret0 (pc := 19) dS_requireRow_19 (hEx _ _ _ (⟨rfl, rfl, rfl⟩))
theorem c_requireRow0 (hst : l.stackTraces = false) {x : Int32} (hx : x < 0 ∨ nI 4 ≤ x) : z_XMet l g ad mS_requireRow z_rq [.int x] A B (z_th 0 A B) := by
  refine z_XMet.of (L := [(0, _)]) hst (by decide) (Nat.le_of_ble_eq_true rfl) z_fitx_th rfl (by decide) ?_
  intro Ex hEx
  refine z_iload_n (pc := 0) dS_requireRow_0 rfl rfl ?_
  refine z_ifX_lt (pc := 1) (tgt := 9) dS_requireRow_1 rfl (fun h1 => ?_) (fun h1 => ?_)
  · exact z_throw (pc := 9) zt_S_requireRow_9 (hEx _ _ _ (⟨rfl, rfl, rfl⟩)) (by decide)
  · refine z_iload_n (pc := 4) dS_requireRow_4 rfl rfl ?_
    refine z_iconst (pc := 5) dS_requireRow_5 zi_4 ?_
    refine z_icmpX_lt (pc := 6) (tgt := 19) dS_requireRow_6 rfl (fun h => absurd h (Int32.not_lt.mpr (hx.resolve_left h1))) (fun h => ?_)
    exact z_throw (pc := 9) zt_S_requireRow_9 (hEx _ _ _ (⟨rfl, rfl, rfl⟩)) (by decide)
theorem c_requireWay1 (hst : l.stackTraces = false) {r : Nat} (hr : r < 2) : z_XMet l g ad mS_requireWay z_rq [.int (nI r)] A B (z_eq none A B) := by
  refine z_XMet.of (L := [(0, _)]) hst (by decide) (Nat.le_of_ble_eq_true rfl) (z_fitx_eq rfl) rfl (by decide) ?_
  intro Ex hEx
  refine z_iload_n (pc := 0) dS_requireWay_0 rfl rfl ?_
  refine z_if_lt (pc := 1) (by omega) (tgt := 9) dS_requireWay_1 rfl (fun h => by exfalso; omega) (fun h => ?_)
  refine z_iload_n (pc := 4) dS_requireWay_4 rfl rfl ?_
  refine z_iconst (pc := 5) dS_requireWay_5 zi_2 ?_
  refine z_icmp_lt (pc := 6) (by omega) (by omega) (tgt := 19) dS_requireWay_6 rfl (fun h => ?_) (fun h => by exfalso; omega)
  exact z_ret0 (pc := 19) dS_requireWay_19 (hEx _ _ _ (⟨rfl, rfl, rfl⟩))
theorem c_requireWay0 (hst : l.stackTraces = false) {x : Int32} (hx : x < 0 ∨ nI 2 ≤ x) : z_XMet l g ad mS_requireWay z_rq [.int x] A B (z_th 0 A B) := by
  refine z_XMet.of (L := [(0, _)]) hst (by decide) (Nat.le_of_ble_eq_true rfl) z_fitx_th rfl (by decide) ?_
  intro Ex hEx
  refine z_iload_n (pc := 0) dS_requireWay_0 rfl rfl ?_
  refine z_ifX_lt (pc := 1) (tgt := 9) dS_requireWay_1 rfl (fun h1 => ?_) (fun h1 => ?_)
  · exact z_throw (pc := 9) zt_S_requireWay_9 (hEx _ _ _ (⟨rfl, rfl, rfl⟩)) (by decide)
  · refine z_iload_n (pc := 4) dS_requireWay_4 rfl rfl ?_
    refine z_iconst (pc := 5) dS_requireWay_5 zi_2 ?_
    refine z_icmpX_lt (pc := 6) (tgt := 19) dS_requireWay_6 rfl (fun h => absurd h (Int32.not_lt.mpr (hx.resolve_left h1))) (fun h => ?_)
    exact z_throw (pc := 9) zt_S_requireWay_9 (hEx _ _ _ (⟨rfl, rfl, rfl⟩)) (by decide)
theorem c_size  (hcs : zCS A B) (hs : zCR A n R m X) (hv : zVS n R m X) : z_Met l g ad mS_size (z_rm 0) [.ref (ad 0)] A B (z_an m (zCP A B n R m X)) := by
  refine z_Met.of (L := [(0, _)]) (by decide) (Nat.le_of_ble_eq_true rfl) z_fit_an rfl ?_
  intro Ex hEx
  refine z_aload_n (pc := 0) dS_size_0 rfl rfl ?_
  refine z_getR (pc := 1) zo_0 rfl zf_S_18_5 dS_size_1 ?_
  refine z_getI (pc := 4) zo_10 rfl zf_S_65_2 dS_size_4 ?_
  refine z_top (congrArg (fun x => Value.int (nI x)) hs.2.1) ?_
  exact z_reti (pc := 7) dS_size_7 (hEx _ _ _ (⟨rfl, fun _ _ => rfl, fun _ _ => rfl, hcs, hs⟩))
theorem c_at0 (hst : l.stackTraces = false) {x : Int32} (hx : x < 0 ∨ nI m ≤ x) (hcs : zCS A B) (hs : zCR A n R m X) (hv : zVS n R m X) : z_XMet l g ad mS_at z_rp [.ref (ad 0), .int x] A B (z_th 2 A B) := by
  refine z_XMet.of (L := [(0, _), (1, _)]) hst (by decide) (Nat.le_of_ble_eq_true rfl) z_fitx_th rfl (by decide) ?_
  intro Ex hEx
  refine z_aload_n (pc := 0) dS_at_0 rfl rfl ?_
  refine z_getR (pc := 1) zo_0 rfl zf_S_18_5 dS_at_1 ?_
  refine z_iload_n (pc := 4) dS_at_4 rfl rfl ?_
  refine z_callV (pc := 5) (c_has0 zo_10 za_11 (by rw [hs.2.1]; exact hx)) (by decide) zo_10 rfl zc_S_83 rfl rfl (Nat.le_of_ble_eq_true rfl) dS_at_5 (fun r A' B' hE => ?_)
  obtain ⟨rfl, rfl, rfl⟩ := hE
  refine z_r1 ?_
  refine z_if_ne (pc := 8) (by omega) (tgt := 21) dS_at_8 rfl (fun h => by exfalso; omega) (fun h => ?_)
  exact z_throw (pc := 11) zt_S_at_11 (hEx _ _ _ (⟨rfl, rfl, rfl⟩)) (by decide)
theorem c_at1 (hst : l.stackTraces = false) {i : Nat} (hi : i < m) (hcs : zCS A B) (hs : zCR A n R m X) (hv : zVS n R m X) : z_XMet l g ad mS_at z_rp [.ref (ad 0), .int (nI i)] A B (z_an (X i) (zCP A B n R m X)) := by
  refine z_XMet.of (L := [(0, _), (1, _)]) hst (by decide) (Nat.le_of_ble_eq_true rfl) z_fitx_an rfl (by decide) ?_
  intro Ex hEx
  have hm := hv.2.1
  have e1 := hs.2.1
  refine z_aload_n (pc := 0) dS_at_0 rfl rfl ?_
  refine z_getR (pc := 1) zo_0 rfl zf_S_18_5 dS_at_1 ?_
  refine z_iload_n (pc := 4) dS_at_4 rfl rfl ?_
  refine z_callV (pc := 5) (c_has1 zo_10 za_11 (by omega) (by omega)) (by decide) zo_10 rfl zc_S_83 rfl rfl (Nat.le_of_ble_eq_true rfl) dS_at_5 (fun r A' B' hE => ?_)
  obtain ⟨rfl, rfl, rfl⟩ := hE
  refine z_r1 ?_
  refine z_if_ne (pc := 8) (by omega) (tgt := 21) dS_at_8 rfl (fun h => ?_) (fun h => by exfalso; omega)
  refine z_aload_n (pc := 21) dS_at_21 rfl rfl ?_
  refine z_getR (pc := 22) zo_0 rfl zf_S_18_5 dS_at_22 ?_
  refine z_getR (pc := 25) zo_10 rfl zf_S_91_2 dS_at_25 ?_
  refine z_iload_n (pc := 28) dS_at_28 rfl rfl ?_
  refine z_iaload (pc := 29) za_11 (by omega) dS_at_29 ?_
  refine z_top (congrArg (fun x => Value.int (nI x)) (hs.2.2 i hi)) ?_
  exact z_reti (pc := 30) dS_at_30 (hEx _ _ _ (⟨rfl, fun _ _ => rfl, fun _ _ => rfl, hcs, hs⟩))
theorem c_clear0 (hst : l.stackTraces = false) {x : Int32} (hx : x < 0 ∨ nI 4 ≤ x) : z_XMet l g ad mS_clear z_rp [.ref (ad 0), .int x] A B (z_th 0 A B) := by
  refine z_XMet.of (L := [(0, _), (1, _)]) hst (by decide) (Nat.le_of_ble_eq_true rfl) z_fitx_th rfl (by decide) ?_
  intro Ex hEx
  refine z_iload_n (pc := 0) dS_clear_0 rfl rfl ?_
  refine z_callXS (pc := 1) (c_requireRow0 hst hx) (by decide) zc_S_55 rfl rfl (Nat.le_of_ble_eq_true rfl) (by decide) dS_clear_1 (fun x9 A9 B9 h9 => hEx _ _ _ h9) (fun r A' B' hn9 hE => ?_)
  exact absurd hE.1.symm (hn9 _)
theorem c_clear1 (hst : l.stackTraces = false) {r : Nat} (hr : r < 4) (hcs : zCS A B) (hs : zCR A n R m X) (hv : zVS n R m X) : z_XMet l g ad mS_clear z_rp [.ref (ad 0), .int (nI r)] A B (z_an (n r) (zCP A B (va_up n r 0) R m X)) := by
  refine z_XMet.of (L := [(0, _), (1, _)]) hst (by decide) (Nat.le_of_ble_eq_true rfl) z_fitx_an rfl (by decide) ?_
  intro Ex hEx
  refine z_iload_n (pc := 0) dS_clear_0 rfl rfl ?_
  refine z_callXS (pc := 1) (c_requireRow1 hst hr) (by decide) zc_S_55 rfl rfl (Nat.le_of_ble_eq_true rfl) (by decide) dS_clear_1 (fun _ _ _ h9 => by cases h9.1) (fun r A' B' hn9 hE => ?_)
  obtain ⟨rfl, rfl, rfl⟩ := hE
  refine z_r0 ?_
  refine z_aload_n (pc := 4) dS_clear_4 rfl rfl ?_
  refine z_getR (pc := 5) zo_0 rfl zf_S_11_5 dS_clear_5 ?_
  refine z_iload_n (pc := 8) dS_clear_8 rfl rfl ?_
  refine z_aaload (pc := 9) zr_1 rfl (z_rowi hr) dS_clear_9 ?_
  refine z_getI (pc := 10) (z_rowo hr) rfl zf_S_65_2 dS_clear_10 ?_
  refine z_top (congrArg (fun x => Value.int (nI x)) (hs.1 r hr).1) ?_
  refine z_istore_n (L' := [(2, _), (0, _), (1, _)]) (pc := 13) dS_clear_13 rfl (by decide) rfl ?_
  refine z_aload_n (pc := 14) dS_clear_14 rfl rfl ?_
  refine z_getR (pc := 15) zo_0 rfl zf_S_11_5 dS_clear_15 ?_
  refine z_iload_n (pc := 18) dS_clear_18 rfl rfl ?_
  refine z_aaload (pc := 19) zr_1 rfl (z_rowi hr) dS_clear_19 ?_
  refine z_iconst (pc := 20) dS_clear_20 zi_0 ?_
  refine z_putI (pc := 21) (z_rowo hr) rfl zp_S_65_2 dS_clear_21 ?_
  refine z_iload_n (pc := 24) dS_clear_24 rfl rfl ?_
  refine z_reti (pc := 25) dS_clear_25 (hEx _ _ _ (⟨rfl, fun q hq => z_set_ne (by omega), fun _ _ => rfl, hcs.mv (z_set_ne (by omega)) (z_set_ne (by omega)) (z_set_ne (by omega)) (z_set_ne (by omega)), fun q hq => ?_, by rw [z_set_ne (by omega)]; exact hs.2.1, fun j hj => by rw [z_set_ne (by omega)]; exact hs.2.2 j hj⟩))
  by_cases e : q = r
  · subst e
    exact ⟨by rw [z_set_at, va_up_self], fun j hj => by rw [va_up_self] at hj; omega⟩
  · exact ⟨by rw [z_set_ne (by omega), va_up_ne _ _ e]; exact (hs.1 q hq).1, fun j hj => by rw [va_up_ne _ _ e] at hj; rw [z_set_ne (by omega)]; exact (hs.1 q hq).2 j hj⟩
theorem c_poke1a (hst : l.stackTraces = false) {x y v : Int32} (hx : x < 0 ∨ nI 4 ≤ x) : z_XMet l g ad mS_poke z_rp [.ref (ad 0), .int x, .int y, .int v] A B (z_th 0 A B) := by
  refine z_XMet.of (L := [(0, _), (1, _), (2, _), (3, _)]) hst (by decide) (Nat.le_of_ble_eq_true rfl) z_fitx_th rfl (by decide) ?_
  intro Ex hEx
  refine z_iload_n (pc := 0) dS_poke_0 rfl rfl ?_
  refine z_callXS (pc := 1) (c_requireRow0 hst hx) (by decide) zc_S_55 rfl rfl (Nat.le_of_ble_eq_true rfl) (by decide) dS_poke_1 (fun x9 A9 B9 h9 => hEx _ _ _ h9) (fun r A' B' hn9 hE => ?_)
  exact absurd hE.1.symm (hn9 _)
theorem c_poke1b (hst : l.stackTraces = false) {r : Nat} {y v : Int32} (hr : r < 4) (hx : v < 0 ∨ nI 255 < v) : z_XMet l g ad mS_poke z_rp [.ref (ad 0), .int (nI r), .int y, .int v] A B (z_th 0 A B) := by
  refine z_XMet.of (L := [(0, _), (1, _), (2, _), (3, _)]) hst (by decide) (Nat.le_of_ble_eq_true rfl) z_fitx_th rfl (by decide) ?_
  intro Ex hEx
  refine z_iload_n (pc := 0) dS_poke_0 rfl rfl ?_
  refine z_callXS (pc := 1) (c_requireRow1 hst hr) (by decide) zc_S_55 rfl rfl (Nat.le_of_ble_eq_true rfl) (by decide) dS_poke_1 (fun _ _ _ h9 => by cases h9.1) (fun r A' B' hn9 hE => ?_)
  obtain ⟨rfl, rfl, rfl⟩ := hE
  refine z_r0 ?_
  refine z_iload_n (pc := 4) dS_poke_4 rfl rfl ?_
  refine z_ifX_lt (pc := 5) (tgt := 15) dS_poke_5 rfl (fun h1 => ?_) (fun h1 => ?_)
  · exact z_throw (pc := 15) zt_S_poke_15 (hEx _ _ _ (⟨rfl, rfl, rfl⟩)) (by decide)
  · refine z_iload_n (pc := 8) dS_poke_8 rfl rfl ?_
    refine z_sipush (pc := 9) dS_poke_9 zs_255 ?_
    refine z_icmpX_le (pc := 12) (tgt := 25) dS_poke_12 rfl (fun h => absurd h (Int32.not_le.mpr (hx.resolve_left h1))) (fun h => ?_)
    exact z_throw (pc := 15) zt_S_poke_15 (hEx _ _ _ (⟨rfl, rfl, rfl⟩)) (by decide)
theorem c_poke2 (hst : l.stackTraces = false) {r v : Nat} {y : Int32} (hr : r < 4) (hv2 : v ≤ 255) (hy : y < 0 ∨ nI (n r) ≤ y) (hcs : zCS A B) (hs : zCR A n R m X) (hv : zVS n R m X) : z_XMet l g ad mS_poke z_rp [.ref (ad 0), .int (nI r), .int y, .int (nI v)] A B (z_th 2 A B) := by
  refine z_XMet.of (L := [(0, _), (1, _), (2, _), (3, _)]) hst (by decide) (Nat.le_of_ble_eq_true rfl) z_fitx_th rfl (by decide) ?_
  intro Ex hEx
  refine z_iload_n (pc := 0) dS_poke_0 rfl rfl ?_
  refine z_callXS (pc := 1) (c_requireRow1 hst hr) (by decide) zc_S_55 rfl rfl (Nat.le_of_ble_eq_true rfl) (by decide) dS_poke_1 (fun _ _ _ h9 => by cases h9.1) (fun r A' B' hn9 hE => ?_)
  obtain ⟨rfl, rfl, rfl⟩ := hE
  refine z_r0 ?_
  refine z_iload_n (pc := 4) dS_poke_4 rfl rfl ?_
  refine z_if_lt (pc := 5) (by omega) (tgt := 15) dS_poke_5 rfl (fun h => by exfalso; omega) (fun h => ?_)
  refine z_iload_n (pc := 8) dS_poke_8 rfl rfl ?_
  refine z_sipush (pc := 9) dS_poke_9 zs_255 ?_
  refine z_icmp_le (pc := 12) (by omega) (by omega) (tgt := 25) dS_poke_12 rfl (fun h => ?_) (fun h => by exfalso; omega)
  refine z_aload_n (pc := 25) dS_poke_25 rfl rfl ?_
  refine z_getR (pc := 26) zo_0 rfl zf_S_11_5 dS_poke_26 ?_
  refine z_iload_n (pc := 29) dS_poke_29 rfl rfl ?_
  refine z_aaload (pc := 30) zr_1 rfl (z_rowi hr) dS_poke_30 ?_
  refine z_iload_n (pc := 31) dS_poke_31 rfl rfl ?_
  refine z_callV (pc := 32) (c_has0 (z_rowo hr) (z_rowa hr) (by rw [(hs.1 r hr).1]; exact hy)) (by decide) (z_rowo hr) rfl zc_S_83 rfl rfl (Nat.le_of_ble_eq_true rfl) dS_poke_32 (fun r A' B' hE => ?_)
  obtain ⟨rfl, rfl, rfl⟩ := hE
  refine z_r1 ?_
  refine z_if_ne (pc := 35) (by omega) (tgt := 48) dS_poke_35 rfl (fun h => by exfalso; omega) (fun h => ?_)
  exact z_throw (pc := 38) zt_S_poke_38 (hEx _ _ _ (⟨rfl, rfl, rfl⟩)) (by decide)
theorem c_poke0 (hst : l.stackTraces = false) {r i v : Nat} (hr : r < 4) (hv2 : v ≤ 255) (hi : i < n r) (hcs : zCS A B) (hs : zCR A n R m X) (hv : zVS n R m X) : z_XMet l g ad mS_poke z_rp [.ref (ad 0), .int (nI r), .int (nI i), .int (nI v)] A B (z_vd (zCP A B n (va_up R r (va_up (R r) i v)) m X)) := by
  refine z_XMet.of (L := [(0, _), (1, _), (2, _), (3, _)]) hst (by decide) (Nat.le_of_ble_eq_true rfl) z_fitx_vd rfl (by decide) ?_
  intro Ex hEx
  have hm := (hv.1 r hr).1
  have h64 := zmost_le r
  have e1 := (hs.1 r hr).1
  refine z_iload_n (pc := 0) dS_poke_0 rfl rfl ?_
  refine z_callXS (pc := 1) (c_requireRow1 hst hr) (by decide) zc_S_55 rfl rfl (Nat.le_of_ble_eq_true rfl) (by decide) dS_poke_1 (fun _ _ _ h9 => by cases h9.1) (fun r A' B' hn9 hE => ?_)
  obtain ⟨rfl, rfl, rfl⟩ := hE
  refine z_r0 ?_
  refine z_iload_n (pc := 4) dS_poke_4 rfl rfl ?_
  refine z_if_lt (pc := 5) (by omega) (tgt := 15) dS_poke_5 rfl (fun h => by exfalso; omega) (fun h => ?_)
  refine z_iload_n (pc := 8) dS_poke_8 rfl rfl ?_
  refine z_sipush (pc := 9) dS_poke_9 zs_255 ?_
  refine z_icmp_le (pc := 12) (by omega) (by omega) (tgt := 25) dS_poke_12 rfl (fun h => ?_) (fun h => by exfalso; omega)
  refine z_aload_n (pc := 25) dS_poke_25 rfl rfl ?_
  refine z_getR (pc := 26) zo_0 rfl zf_S_11_5 dS_poke_26 ?_
  refine z_iload_n (pc := 29) dS_poke_29 rfl rfl ?_
  refine z_aaload (pc := 30) zr_1 rfl (z_rowi hr) dS_poke_30 ?_
  refine z_iload_n (pc := 31) dS_poke_31 rfl rfl ?_
  refine z_callV (pc := 32) (c_has1 (z_rowo hr) (z_rowa hr) (by omega) (by omega)) (by decide) (z_rowo hr) rfl zc_S_83 rfl rfl (Nat.le_of_ble_eq_true rfl) dS_poke_32 (fun r A' B' hE => ?_)
  obtain ⟨rfl, rfl, rfl⟩ := hE
  refine z_r1 ?_
  refine z_if_ne (pc := 35) (by omega) (tgt := 48) dS_poke_35 rfl (fun h => ?_) (fun h => by exfalso; omega)
  refine z_aload_n (pc := 48) dS_poke_48 rfl rfl ?_
  refine z_getR (pc := 49) zo_0 rfl zf_S_11_5 dS_poke_49 ?_
  refine z_iload_n (pc := 52) dS_poke_52 rfl rfl ?_
  refine z_aaload (pc := 53) zr_1 rfl (z_rowi hr) dS_poke_53 ?_
  refine z_getR (pc := 54) (z_rowo hr) rfl zf_S_91_2 dS_poke_54 ?_
  refine z_iload_n (pc := 57) dS_poke_57 rfl rfl ?_
  refine z_iload_n (pc := 58) dS_poke_58 rfl rfl ?_
  refine z_iastore (pc := 59) (z_rowa hr) (by omega) dS_poke_59 ?_
  refine z_ret0 (pc := 60) dS_poke_60 (hEx _ _ _ (⟨rfl, fun q hq => z_set_ne (by omega), fun _ _ => rfl, hcs.mv (z_set_ne (by omega)) (z_set_ne (by omega)) (z_set_ne (by omega)) (z_set_ne (by omega)), fun q hq => ?_, by rw [z_set_ne (by omega)]; exact hs.2.1, fun j hj => by rw [z_set_ne (by omega)]; exact hs.2.2 j hj⟩))
  refine ⟨by rw [z_set_ne (by omega)]; exact (hs.1 q hq).1, fun j hj => ?_⟩
  by_cases e : q = r
  · subst e
    rw [va_up_self]
    by_cases e2 : j = i
    · subst e2; rw [z_set_at, va_up_self]
    · rw [z_set_nj e2, va_up_ne _ _ e2]; exact (hs.1 q hq).2 j hj
  · rw [va_up_ne _ _ e, z_set_ne (by omega)]; exact (hs.1 q hq).2 j hj
theorem c_take1 (hst : l.stackTraces = false) {x : Int32} (hx : x < 0 ∨ nI 4 ≤ x) : z_XMet l g ad mS_take z_rp [.ref (ad 0), .int x] A B (z_th 0 A B) := by
  refine z_XMet.of (L := [(0, _), (1, _)]) hst (by decide) (Nat.le_of_ble_eq_true rfl) z_fitx_th rfl (by decide) ?_
  intro Ex hEx
  refine z_iload_n (pc := 0) dS_take_0 rfl rfl ?_
  refine z_callXS (pc := 1) (c_requireRow0 hst hx) (by decide) zc_S_55 rfl rfl (Nat.le_of_ble_eq_true rfl) (by decide) dS_take_1 (fun x9 A9 B9 h9 => hEx _ _ _ h9) (fun r A' B' hn9 hE => ?_)
  exact absurd hE.1.symm (hn9 _)
theorem c_take2 (hst : l.stackTraces = false) {r : Nat} (hr : r < 4) (hm : zmost r < m) (hcs : zCS A B) (hs : zCR A n R m X) (hv : zVS n R m X) : z_XMet l g ad mS_take z_rp [.ref (ad 0), .int (nI r)] A B (z_th 1 A B) := by
  refine z_XMet.of (L := [(0, _), (1, _)]) hst (by decide) (Nat.le_of_ble_eq_true rfl) z_fitx_th rfl (by decide) ?_
  intro Ex hEx
  have hm2 := hv.2.1
  have e1 := hs.2.1
  refine z_iload_n (pc := 0) dS_take_0 rfl rfl ?_
  refine z_callXS (pc := 1) (c_requireRow1 hst hr) (by decide) zc_S_55 rfl rfl (Nat.le_of_ble_eq_true rfl) (by decide) dS_take_1 (fun _ _ _ h9 => by cases h9.1) (fun r A' B' hn9 hE => ?_)
  obtain ⟨rfl, rfl, rfl⟩ := hE
  refine z_r0 ?_
  refine z_aload_n (pc := 4) dS_take_4 rfl rfl ?_
  refine z_getR (pc := 5) zo_0 rfl zf_S_11_5 dS_take_5 ?_
  refine z_iload_n (pc := 8) dS_take_8 rfl rfl ?_
  refine z_aaload (pc := 9) zr_1 rfl (z_rowi hr) dS_take_9 ?_
  refine z_aload_n (pc := 10) dS_take_10 rfl rfl ?_
  refine z_getR (pc := 11) zo_0 rfl zf_S_18_5 dS_take_11 ?_
  refine z_getI (pc := 14) zo_10 rfl zf_S_65_2 dS_take_14 ?_
  refine z_callV (pc := 17) (c_hasRoomFor (z_rowo hr) (z_rowa hr) (by rw [e1]; omega)) (by decide) (z_rowo hr) rfl zc_S_69 rfl rfl (Nat.le_of_ble_eq_true rfl) dS_take_17 (fun r A' B' hE => ?_)
  obtain ⟨rfl, rfl, rfl⟩ := hE
  refine z_r1 ?_
  refine z_top (congrArg (fun x => Value.int (nI x)) (if_neg (by rw [hs.2.1]; omega))) ?_
  refine z_if_ne (pc := 20) (by omega) (tgt := 33) dS_take_20 rfl (fun h => by exfalso; omega) (fun h => ?_)
  exact z_throw (pc := 23) zt_S_take_23 (hEx _ _ _ (⟨rfl, rfl, rfl⟩)) (by decide)
theorem c_take0 (hst : l.stackTraces = false) {r : Nat} (hr : r < 4) (hm : m ≤ zmost r) (hcs : zCS A B) (hs : zCR A n R m X) (hv : zVS n R m X) : z_XMet l g ad mS_take z_rp [.ref (ad 0), .int (nI r)] A B (z_an m (zCP A B (va_up n r m) (va_up R r X) m X)) := by
  refine z_XMet.of (L := [(0, _), (1, _)]) hst (by decide) (Nat.le_of_ble_eq_true rfl) z_fitx_an rfl (by decide) ?_
  intro Ex hEx
  have hm2 := hv.2.1
  have e1 := hs.2.1
  have h64 := zmost_le r
  refine z_iload_n (pc := 0) dS_take_0 rfl rfl ?_
  refine z_callXS (pc := 1) (c_requireRow1 hst hr) (by decide) zc_S_55 rfl rfl (Nat.le_of_ble_eq_true rfl) (by decide) dS_take_1 (fun _ _ _ h9 => by cases h9.1) (fun r A' B' hn9 hE => ?_)
  obtain ⟨rfl, rfl, rfl⟩ := hE
  refine z_r0 ?_
  refine z_aload_n (pc := 4) dS_take_4 rfl rfl ?_
  refine z_getR (pc := 5) zo_0 rfl zf_S_11_5 dS_take_5 ?_
  refine z_iload_n (pc := 8) dS_take_8 rfl rfl ?_
  refine z_aaload (pc := 9) zr_1 rfl (z_rowi hr) dS_take_9 ?_
  refine z_aload_n (pc := 10) dS_take_10 rfl rfl ?_
  refine z_getR (pc := 11) zo_0 rfl zf_S_18_5 dS_take_11 ?_
  refine z_getI (pc := 14) zo_10 rfl zf_S_65_2 dS_take_14 ?_
  refine z_callV (pc := 17) (c_hasRoomFor (z_rowo hr) (z_rowa hr) (by rw [e1]; omega)) (by decide) (z_rowo hr) rfl zc_S_69 rfl rfl (Nat.le_of_ble_eq_true rfl) dS_take_17 (fun r A' B' hE => ?_)
  obtain ⟨rfl, rfl, rfl⟩ := hE
  refine z_r1 ?_
  refine z_top (congrArg (fun x => Value.int (nI x)) (if_pos (by rw [hs.2.1]; exact hm))) ?_
  refine z_if_ne (pc := 20) (by omega) (tgt := 33) dS_take_20 rfl (fun h => ?_) (fun h => by exfalso; omega)
  refine z_aload_n (pc := 33) dS_take_33 rfl rfl ?_
  refine z_getR (pc := 34) zo_0 rfl zf_S_11_5 dS_take_34 ?_
  refine z_iload_n (pc := 37) dS_take_37 rfl rfl ?_
  refine z_aaload (pc := 38) zr_1 rfl (z_rowi hr) dS_take_38 ?_
  refine z_aload_n (pc := 39) dS_take_39 rfl rfl ?_
  refine z_getR (pc := 40) zo_0 rfl zf_S_18_5 dS_take_40 ?_
  refine z_callV (pc := 43) (c_become (z_rowo hr) (z_rowa hr) zo_10 za_11 (by rw [e1]; exact hm) (by rw [e1]; exact hm2)) (by decide) (z_rowo hr) rfl zc_S_97 rfl rfl (Nat.le_of_ble_eq_true rfl) dS_take_43 (fun r A' B' hE => ?_)
  obtain ⟨rfl, rfl, rfl⟩ := hE
  refine z_r0 ?_
  refine z_aload_n (pc := 46) dS_take_46 rfl rfl ?_
  refine z_getR (pc := 47) zo_0 rfl zf_S_18_5 dS_take_47 ?_
  refine z_getI (pc := 50) zo_10 rfl zf_S_65_2 dS_take_50 ?_
  refine z_top (congrArg (fun x => Value.int (nI x)) (show _ = m by rw [z_set_ne (by omega), z_seg_ne (by omega)]; exact e1)) ?_
  refine z_reti (pc := 53) dS_take_53 (hEx _ _ _ (⟨rfl, fun q hq => by rw [z_set_ne (by omega), z_seg_ne (by omega)], fun _ _ => rfl, hcs.mv (by rw [z_set_ne (by omega), z_seg_ne (by omega)]) (by rw [z_set_ne (by omega), z_seg_ne (by omega)]) (by rw [z_set_ne (by omega), z_seg_ne (by omega)]) (by rw [z_set_ne (by omega), z_seg_ne (by omega)]), fun q hq => ?_, by rw [z_set_ne (by omega), z_seg_ne (by omega)]; exact hs.2.1, fun j hj => by rw [z_set_ne (by omega), z_seg_ne (by omega)]; exact hs.2.2 j hj⟩))
  by_cases e : q = r
  · subst e
    rw [va_up_self, va_up_self]
    refine ⟨by rw [z_set_at, z_seg_ne (by omega), e1], fun j hj => ?_⟩
    rw [z_set_ne (by omega), z_seg_in (Nat.zero_le _) (by omega), Nat.zero_add, Nat.sub_zero]
    exact hs.2.2 j hj
  · rw [va_up_ne _ _ e, va_up_ne _ _ e]
    exact ⟨by rw [z_set_ne (by omega), z_seg_ne (by omega)]; exact (hs.1 q hq).1, fun j hj => by rw [z_set_ne (by omega), z_seg_ne (by omega)]; exact (hs.1 q hq).2 j hj⟩
theorem c_type1a (hst : l.stackTraces = false) {x y : Int32} {v : Nat} (hx : x < 0 ∨ nI 4 ≤ x) : z_XMet l g ad mS_type z_rp [.ref (ad 0), .int x, .long (lN v), .int y] A B (z_th 0 A B) := by
  refine z_XMet.of (L := [(0, _), (1, _), (2, _), (4, _)]) hst (by decide) (Nat.le_of_ble_eq_true rfl) z_fitx_th rfl (by decide) ?_
  intro Ex hEx
  refine z_iload_n (pc := 0) dS_type_0 rfl rfl ?_
  refine z_callXS (pc := 1) (c_requireRow0 hst hx) (by decide) zc_S_55 rfl rfl (Nat.le_of_ble_eq_true rfl) (by decide) dS_type_1 (fun x9 A9 B9 h9 => hEx _ _ _ h9) (fun r A' B' hn9 hE => ?_)
  exact absurd hE.1.symm (hn9 _)
theorem c_type1b (hst : l.stackTraces = false) {r v : Nat} {y : Int32} (hr : r < 4) (hy : y < nI 1 ∨ nI 8 < y) : z_XMet l g ad mS_type z_rp [.ref (ad 0), .int (nI r), .long (lN v), .int y] A B (z_th 0 A B) := by
  refine z_XMet.of (L := [(0, _), (1, _), (2, _), (4, _)]) hst (by decide) (Nat.le_of_ble_eq_true rfl) z_fitx_th rfl (by decide) ?_
  intro Ex hEx
  refine z_iload_n (pc := 0) dS_type_0 rfl rfl ?_
  refine z_callXS (pc := 1) (c_requireRow1 hst hr) (by decide) zc_S_55 rfl rfl (Nat.le_of_ble_eq_true rfl) (by decide) dS_type_1 (fun _ _ _ h9 => by cases h9.1) (fun r A' B' hn9 hE => ?_)
  obtain ⟨rfl, rfl, rfl⟩ := hE
  refine z_r0 ?_
  refine z_iload (pc := 4) dS_type_4 rfl ?_
  refine z_iconst (pc := 6) dS_type_6 zi_1 ?_
  refine z_icmpX_lt (pc := 7) (tgt := 17) dS_type_7 rfl (fun h1 => ?_) (fun h1 => ?_)
  · exact z_throw (pc := 17) zt_S_type_17 (hEx _ _ _ (⟨rfl, rfl, rfl⟩)) (by decide)
  · refine z_iload (pc := 10) dS_type_10 rfl ?_
    refine z_bipush (pc := 12) dS_type_12 zb_8 ?_
    refine z_icmpX_le (pc := 14) (tgt := 27) dS_type_14 rfl (fun h => absurd h (Int32.not_le.mpr (hy.resolve_left h1))) (fun h => ?_)
    exact z_throw (pc := 17) zt_S_type_17 (hEx _ _ _ (⟨rfl, rfl, rfl⟩)) (by decide)
theorem c_type2 (hst : l.stackTraces = false) {r v k : Nat} (hr : r < 4) (hk1 : 1 ≤ k) (hk8 : k ≤ 8) (hn : zmost r < n r + k) (hcs : zCS A B) (hs : zCR A n R m X) (hv : zVS n R m X) : z_XMet l g ad mS_type z_rp [.ref (ad 0), .int (nI r), .long (lN v), .int (nI k)] A B (z_th 1 A B) := by
  refine z_XMet.of (L := [(0, _), (1, _), (2, _), (4, _)]) hst (by decide) (Nat.le_of_ble_eq_true rfl) z_fitx_th rfl (by decide) ?_
  intro Ex hEx
  have hm := (hv.1 r hr).1
  have h64 := zmost_le r
  have e1 := (hs.1 r hr).1
  refine z_iload_n (pc := 0) dS_type_0 rfl rfl ?_
  refine z_callXS (pc := 1) (c_requireRow1 hst hr) (by decide) zc_S_55 rfl rfl (Nat.le_of_ble_eq_true rfl) (by decide) dS_type_1 (fun _ _ _ h9 => by cases h9.1) (fun r A' B' hn9 hE => ?_)
  obtain ⟨rfl, rfl, rfl⟩ := hE
  refine z_r0 ?_
  refine z_iload (pc := 4) dS_type_4 rfl ?_
  refine z_iconst (pc := 6) dS_type_6 zi_1 ?_
  refine z_icmp_lt (pc := 7) (by omega) (by omega) (tgt := 17) dS_type_7 rfl (fun h => by exfalso; omega) (fun h => ?_)
  refine z_iload (pc := 10) dS_type_10 rfl ?_
  refine z_bipush (pc := 12) dS_type_12 zb_8 ?_
  refine z_icmp_le (pc := 14) (by omega) (by omega) (tgt := 27) dS_type_14 rfl (fun h => ?_) (fun h => by exfalso; omega)
  refine z_aload_n (pc := 27) dS_type_27 rfl rfl ?_
  refine z_getR (pc := 28) zo_0 rfl zf_S_11_5 dS_type_28 ?_
  refine z_iload_n (pc := 31) dS_type_31 rfl rfl ?_
  refine z_aaload (pc := 32) zr_1 rfl (z_rowi hr) dS_type_32 ?_
  refine z_astore (L' := [(5, _), (0, _), (1, _), (2, _), (4, _)]) (pc := 33) dS_type_33 (by decide) rfl ?_
  refine z_aload (pc := 35) dS_type_35 rfl ?_
  refine z_aload (pc := 37) dS_type_37 rfl ?_
  refine z_getI (pc := 39) (z_rowo hr) rfl zf_S_65_2 dS_type_39 ?_
  refine z_iload (pc := 42) dS_type_42 rfl ?_
  refine z_iadd (pc := 44) dS_type_44 ?_
  refine z_callV (pc := 45) (c_hasRoomFor (z_rowo hr) (z_rowa hr) (by omega)) (by decide) (z_rowo hr) rfl zc_S_69 rfl rfl (Nat.le_of_ble_eq_true rfl) dS_type_45 (fun r A' B' hE => ?_)
  obtain ⟨rfl, rfl, rfl⟩ := hE
  refine z_r1 ?_
  refine z_top (congrArg (fun x => Value.int (nI x)) (if_neg (by omega))) ?_
  refine z_if_ne (pc := 48) (by omega) (tgt := 61) dS_type_48 rfl (fun h => by exfalso; omega) (fun h => ?_)
  exact z_throw (pc := 51) zt_S_type_51 (hEx _ _ _ (⟨rfl, rfl, rfl⟩)) (by decide)
theorem c_type0 (hst : l.stackTraces = false) {r v k : Nat} (hr : r < 4) (hk1 : 1 ≤ k) (hk8 : k ≤ 8) (hn : n r + k ≤ zmost r) (hvl : v < 2 ^ 64) (hcs : zCS A B) (hs : zCR A n R m X) (hv : zVS n R m X) : z_XMet l g ad mS_type z_rp [.ref (ad 0), .int (nI r), .long (lN v), .int (nI k)] A B (z_an (n r + k) (zCP A B (va_up n r (n r + k)) (va_up R r (fun j => if j < n r then R r j else zty v k (j - n r))) m X)) := by
  refine z_XMet.of (L := [(0, _), (1, _), (2, _), (4, _)]) hst (by decide) (Nat.le_of_ble_eq_true rfl) z_fitx_an rfl (by decide) ?_
  intro Ex hEx
  have hm := (hv.1 r hr).1
  have h64 := zmost_le r
  have e1 := (hs.1 r hr).1
  refine z_iload_n (pc := 0) dS_type_0 rfl rfl ?_
  refine z_callXS (pc := 1) (c_requireRow1 hst hr) (by decide) zc_S_55 rfl rfl (Nat.le_of_ble_eq_true rfl) (by decide) dS_type_1 (fun _ _ _ h9 => by cases h9.1) (fun r A' B' hn9 hE => ?_)
  obtain ⟨rfl, rfl, rfl⟩ := hE
  refine z_r0 ?_
  refine z_iload (pc := 4) dS_type_4 rfl ?_
  refine z_iconst (pc := 6) dS_type_6 zi_1 ?_
  refine z_icmp_lt (pc := 7) (by omega) (by omega) (tgt := 17) dS_type_7 rfl (fun h => by exfalso; omega) (fun h => ?_)
  refine z_iload (pc := 10) dS_type_10 rfl ?_
  refine z_bipush (pc := 12) dS_type_12 zb_8 ?_
  refine z_icmp_le (pc := 14) (by omega) (by omega) (tgt := 27) dS_type_14 rfl (fun h => ?_) (fun h => by exfalso; omega)
  refine z_aload_n (pc := 27) dS_type_27 rfl rfl ?_
  refine z_getR (pc := 28) zo_0 rfl zf_S_11_5 dS_type_28 ?_
  refine z_iload_n (pc := 31) dS_type_31 rfl rfl ?_
  refine z_aaload (pc := 32) zr_1 rfl (z_rowi hr) dS_type_32 ?_
  refine z_astore (L' := [(5, _), (0, _), (1, _), (2, _), (4, _)]) (pc := 33) dS_type_33 (by decide) rfl ?_
  refine z_aload (pc := 35) dS_type_35 rfl ?_
  refine z_aload (pc := 37) dS_type_37 rfl ?_
  refine z_getI (pc := 39) (z_rowo hr) rfl zf_S_65_2 dS_type_39 ?_
  refine z_iload (pc := 42) dS_type_42 rfl ?_
  refine z_iadd (pc := 44) dS_type_44 ?_
  refine z_callV (pc := 45) (c_hasRoomFor (z_rowo hr) (z_rowa hr) (by omega)) (by decide) (z_rowo hr) rfl zc_S_69 rfl rfl (Nat.le_of_ble_eq_true rfl) dS_type_45 (fun r A' B' hE => ?_)
  obtain ⟨rfl, rfl, rfl⟩ := hE
  refine z_r1 ?_
  refine z_top (congrArg (fun x => Value.int (nI x)) (if_pos (by omega))) ?_
  refine z_if_ne (pc := 48) (by omega) (tgt := 61) dS_type_48 rfl (fun h => ?_) (fun h => by exfalso; omega)
  refine z_iload (pc := 61) dS_type_61 rfl ?_
  refine z_iconst (pc := 63) dS_type_63 zi_1 ?_
  refine z_isub (pc := 64) dS_type_64 (by omega) ?_
  refine z_istore (L' := [(6, _), (5, _), (0, _), (1, _), (2, _), (4, _)]) (pc := 65) dS_type_65 (by decide) rfl ?_
  rw [show nI (k - 1) = nI (k + 4294967295) from (z_dec hk1).symm]
  refine z_loop k (fun i L A' B' => L = [(6, .int (nI (k + 4294967295 - i))), (5, .ref (ad (2 + 2 * r))), (0, .ref (ad 0)), (1, .int (nI r)), (2, .long (lN v)), (4, .int (nI k))] ∧ B = B' ∧ z_fr [(2 + 2 * r), (3 + 2 * r)] A A' ∧ A' (2 + 2 * r) 1 = n r + i ∧ (∀ j, j < n r → A' (3 + 2 * r) j = R r j) ∧ ∀ t, t < i → A' (3 + 2 * r) (n r + t) = zty v k t) ?_ ?_ _ _ _ ⟨rfl, rfl, fun _ _ => rfl, e1, (hs.1 r hr).2, fun t ht => absurd ht (Nat.not_lt_zero _)⟩
  · rintro i L A' B' hi ⟨rfl, rfl, hf, h1, hlo, ht⟩ ki
    rw [show nI (k + 4294967295 - i) = nI (k - 1 - i) by rw [show k + 4294967295 - i = (k - i) + 4294967295 by omega, z_dec (by omega), show k - i - 1 = k - 1 - i by omega]]
    refine z_iload (pc := 67) dS_type_67 rfl ?_
    refine z_if_lt (pc := 69) (by omega) (tgt := 95) dS_type_69 rfl (fun h => by exfalso; omega) (fun h => ?_)
    refine z_aload (pc := 72) dS_type_72 rfl ?_
    refine z_lload_n (pc := 74) dS_type_74 rfl rfl ?_
    refine z_bipush (pc := 75) dS_type_75 zb_8 ?_
    refine z_iload (pc := 77) dS_type_77 rfl ?_
    refine z_imul (pc := 79) dS_type_79 ?_
    refine z_lushr (pc := 80) dS_type_80 (by omega) (by omega) ?_
    refine z_l2i (pc := 81) dS_type_81 ?_
    refine z_sipush (pc := 82) dS_type_82 zs_255 ?_
    refine z_iand (pc := 85) dS_type_85 ?_
    refine z_top (congrArg (fun x => Value.int (nI x)) (show _ = zty v k i by rw [z_and255]; rfl)) ?_
    refine z_callV (pc := 86) (c_append (z_rowo hr) (z_rowa hr) (by omega)) (by decide) (z_rowo hr) rfl zc_S_78 rfl rfl (Nat.le_of_ble_eq_true rfl) dS_type_86 (fun r A' B' hE => ?_)
    obtain ⟨rfl, rfl, rfl⟩ := hE
    refine z_r0 ?_
    refine z_iinc (L' := [(6, _), (5, _), (0, _), (1, _), (2, _), (4, _)]) (pc := 89) dS_type_89 rfl zi_m1 (by decide) rfl ?_
    refine z_goto (pc := 92) (tgt := 67) dS_type_92 rfl ?_
    rw [show k - 1 - i + 4294967295 = k + 4294967295 - (i + 1) by omega]
    refine ki _ _ _ ⟨rfl, rfl, fun q hq9 => by rw [z_set_ne (z_nm hq9 (by simp)), z_set_ne (z_nm hq9 (by simp)), hf q hq9], by rw [z_set_at, z_set_ne (by omega), h1, Nat.add_assoc], fun j hj => by rw [z_set_ne (by omega), z_set_nj (by omega)]; exact hlo j hj, fun t h9 => ?_⟩
    rw [z_set_ne (by omega)]
    by_cases e : t = i
    · rw [e, h1, z_set_at]
    · rw [z_set_nj (by omega)]; exact ht t (by omega)
  · rintro L A' B' ⟨rfl, rfl, hf, h1, hlo, ht⟩
    rw [show k + 4294967295 - k = 4294967295 by omega]
    refine z_iload (pc := 67) dS_type_67 rfl ?_
    refine z_ifX_lt (pc := 69) (tgt := 95) dS_type_69 rfl (fun h => ?_) (fun h => absurd (show nI 4294967295 < 0 by decide) h)
    refine z_aload (pc := 95) dS_type_95 rfl ?_
    refine z_getI (pc := 97) (z_rowo hr) rfl zf_S_65_2 dS_type_97 ?_
    refine z_top (congrArg (fun x => Value.int (nI x)) h1) ?_
    refine z_reti (pc := 100) dS_type_100 (hEx _ _ _ (⟨rfl, fun q hq9 => hf q (by simp; omega), fun _ _ => rfl, hcs.mv (hf 15 (by simp; omega)) (hf 31 (by simp; omega)) (hf 20 (by simp; omega)) (hf 22 (by simp; omega)), fun q hq9 => ?_, by rw [hf 10 (by simp; omega)]; exact hs.2.1, fun j hj => by rw [hf 11 (by simp; omega)]; exact hs.2.2 j hj⟩))
    by_cases e : q = r
    · subst e
      rw [va_up_self, va_up_self]
      refine ⟨h1, fun j hj => ?_⟩
      by_cases h : j < n q
      · rw [if_pos h]; exact hlo j h
      · rw [if_neg h]
        have := ht (j - n q) (by omega)
        rw [show n q + (j - n q) = j by omega] at this
        exact this
    · rw [va_up_ne _ _ e, va_up_ne _ _ e]
      exact ⟨by rw [hf _ (by simp; omega)]; exact (hs.1 q hq9).1, fun j hj => by rw [hf _ (by simp; omega)]; exact (hs.1 q hq9).2 j hj⟩
end
