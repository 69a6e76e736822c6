/-! an object under construction: cell i of ws, and the cells made since -/
def kw (ws : va_W) (i a ci : Nat) (fs : List Value) (l : va_W) : va_W := ws.set i (a, .inr (ci, fs)) ++ l
def k_arr (g : z_G) (q n : Nat) (f : Nat → Nat) : Nat × va_E := (q, .inl (g.2 0, n, .inl (fun j => nI (f j))))
section KW
variable {ws : va_W} {i a ci ci' : Nat} {fs fs' : List Value} {l' l2 : va_W}
theorem kw_start (hi : ws[i]? = some (a, .inr (ci, fs))) : ws = kw ws i a ci fs [] := by
  obtain ⟨h, e⟩ := List.getElem?_eq_some_iff.mp hi
  unfold kw
  rw [List.append_nil, ← e, List.set_getElem_self]
theorem kw_lt {x : Nat × va_E} (hi : ws[i]? = some x) : i < ws.length := (List.getElem?_eq_some_iff.mp hi).1
theorem kw_get (hi : i < ws.length) : (kw ws i a ci fs l2)[i]? = some (a, .inr (ci, fs)) := by
  unfold kw
  rw [List.getElem?_append_left (by simpa using hi), List.getElem?_set_self hi]
theorem kw_set (hi : i < ws.length) : (kw ws i a ci fs l2).set i (a, .inr (ci', fs')) = kw ws i a ci' fs' l2 := by
  unfold kw
  rw [List.set_append_left _ _ (by simpa using hi), List.set_set]
theorem kw_app : kw ws i a ci fs l2 ++ l' = kw ws i a ci fs (l2 ++ l') := by unfold kw; rw [List.append_assoc]
theorem kw_arr (k : Nat) : (kw ws i a ci fs l2)[ws.length + k]? = l2[k]? := by
  unfold kw
  rw [List.getElem?_append_right (by simp), List.length_set, Nat.add_sub_cancel_left]
theorem kw_setA (k : Nat) {x : Nat × va_E} : (kw ws i a ci fs l2).set (ws.length + k) x = kw ws i a ci fs (l2.set k x) := by
  unfold kw
  rw [List.set_append_right _ _ (by simp), List.length_set, Nat.add_sub_cancel_left]
theorem kw_kw (hi : i < ws.length) : kw (kw ws i a ci fs l2) i a ci' fs' l' = kw ws i a ci' fs' (l2 ++ l') := by
  rw [kw, kw_set hi, kw_app]
theorem kw_len : i < ws.length → i < (kw ws i a ci fs l2).length := fun h => by unfold kw; simp; omega
theorem ka_get (k : Nat) : (ws ++ l2)[ws.length + k]? = l2[k]? := by
  rw [List.getElem?_append_right (by simp), Nat.add_sub_cancel_left]
theorem ka_set (k : Nat) {x : Nat × va_E} : (ws ++ l2).set (ws.length + k) x = ws ++ l2.set k x := by
  rw [List.set_append_right _ _ (by simp), Nat.add_sub_cancel_left]
end KW
section KC2
variable {p : Program} {l : Launch} {e : Env} {s : State} {m : MethodId} {args : Array Value} {below : List Frame} {meth : Method} {c : Code} {F : Nat → Prop} {Q : State → Prop} {g : z_G} {μ : z_M} {rm : Room} {cn sn pc : Nat} {L : List (Nat × Value)} {S : List Value} {ws : va_W} {i a ci : Nat} {fs : List Value} {l2 : va_W}
theorem k_r1 (hC : z_C g μ p s m args meth c) {v : Value} (k : k_R p l e s m args below meth c F Q g μ rm cn sn pc L (v :: S) ws) : k_R p l e s m args below meth c F Q g μ rm cn sn pc L ((some v).toList ++ S) ws := k
theorem k_r0 (hC : z_C g μ p s m args meth c) (k : k_R p l e s m args below meth c F Q g μ rm cn sn pc L S ws) : k_R p l e s m args below meth c F Q g μ rm cn sn pc L ((none : Option Value).toList ++ S) ws := k
theorem kc_newI (hC : z_C g μ p s m args meth c) (hF : ∀ q, s.heap.size ≤ q → F q) (hw : Cond.arrayClass .int ∈ z_TB) {n : Nat} (hn : n < 2 ^ 20) (hc : cn + 1 ≤ rm.cells) (hs : sn + n ≤ rm.slots) (hd : decode μ.2.1 pc = .ok (.newarray .int, 2)) (k : ∀ q, k_R p l e s m args below meth c F Q g μ rm (cn + 1) (sn + n) (pc + 2) L (.ref q :: S) (kw ws i a ci fs (l2 ++ [k_arr g q n (fun _ => 0)]))) : k_R p l e s m args below meth c F Q g μ rm cn sn pc L (.int (nI n) :: S) (kw ws i a ci fs l2) := k_newI hC hF hw hn hc hs hd (fun q => k_ws hC kw_app (k q))
theorem kc_putF (hC : z_C g μ p s m args meth c) (hin : meth.name = "<init>") (hlt : i < ws.length) {f idx Nf : Nat} {v : Value} {C ref : String} {T : u_T} {ty0 : Nat → FieldType} (hw : z_fw μ.1.cls idx ci f C T Nf ref) (hty : ∀ k, k < Nf → parseFieldDescriptor (T k).2.2.1 = some (ty0 k)) (hnm : ∀ a, a < Nf → ∀ b, b < Nf → a ≠ b → (T a).2.1 ≠ (T b).2.1) (hfin : (T f).2.2.2 = true) (hdecl : (T f).1 = μ.1.cls) (hn : narrow (ty0 f) v = v) (hft : fits (ty0 f) v = true) (hlen : f < fs.length) (hd : decode μ.2.1 pc = .ok (.putfield idx, 3)) (k : k_R p l e s m args below meth c F Q g μ rm cn sn (pc + 3) L S (kw ws i a ci (fs.set f v) l2)) : k_R p l e s m args below meth c F Q g μ rm cn sn pc L (v :: .ref a :: S) (kw ws i a ci fs l2) :=
  k_putF hC hin i (kw_get hlt) hw hty hnm hfin hdecl (hty f hw.2.1) hn hft hlen (kw_set hlt) hd k
theorem kc_put (hC : z_C g μ p s m args meth c) (hlt : i < ws.length) {f idx Nf : Nat} {v : Value} {C ref : String} {T : u_T} {ty0 : Nat → FieldType} (hw : z_fw μ.1.cls idx ci f C T Nf ref) (hty : ∀ k, k < Nf → parseFieldDescriptor (T k).2.2.1 = some (ty0 k)) (hnm : ∀ a, a < Nf → ∀ b, b < Nf → a ≠ b → (T a).2.1 ≠ (T b).2.1) (hfin : (T f).2.2.2 = false) (hn : narrow (ty0 f) v = v) (hft : fits (ty0 f) v = true) (hlen : f < fs.length) (hd : decode μ.2.1 pc = .ok (.putfield idx, 3)) (k : k_R p l e s m args below meth c F Q g μ rm cn sn (pc + 3) L S (kw ws i a ci (fs.set f v) l2)) : k_R p l e s m args below meth c F Q g μ rm cn sn pc L (v :: .ref a :: S) (kw ws i a ci fs l2) :=
  k_put hC i (kw_get hlt) hw hty hnm hfin (hty f hw.2.1) hn hft hlen (kw_set hlt) hd k
theorem k_aastoreQ (hC : z_C g μ p s m args meth c) (i t ik ci : Nat) {a j n v : Nat} {r : vw_C} {vs : List Value} {f : Nat → Option Nat} {ws' : va_W} (hi : ws[i]? = some (a, .inl (g.2 t, n, .inr (.inr (.inr (.inr f)))))) (ht : (z_tys g)[t]? = some (g.2 t, .object r.1)) (hv : ws[ik]? = some (v, .inr (ci, vs))) (hc : z_cl[ci]? = some r) (hn : n < 2 ^ 31) (hj : j < n) (hw : ws.set i (a, .inl (g.2 t, n, .inr (.inr (.inr (.inr (va_up f j (some v))))))) = ws') (hd : decode μ.2.1 pc = .ok (.aastore, 1)) (k : k_R p l e s m args below meth c F Q g μ rm cn sn (pc + 1) L S ws') : k_R p l e s m args below meth c F Q g μ rm cn sn pc L (.ref v :: .int (nI j) :: .ref a :: S) ws := by
  subst hw
  intro H locs ls hP hD hS hl
  refine va_astq hC.1 hC.2.1 hC.2.2.2.2.2.2.1 hP hD hS i t ik ci hi ht hv hc (vp_in_nI hj hn) hd (fun H1 locs1 hP1 hD1 hS1 => ?_)
  rw [nI_clamp (by omega)] at hP1 hD1
  exact k H1 locs1 ls hP1 hD1 hS1 hl
end KC2
theorem wx_L_8 : (Cond.classLink "TwoSealsLaw" (8 : Nat) "TwoSeals") ∈ z_TB := z_in1 (i := 17) rfl (by decide +kernel)
theorem wy_S : (Cond.instantiable "TwoSeals" (6 : Nat)) ∈ z_TB := z_in1 (i := 18) rfl (by decide +kernel)
theorem wi_obj : Cond.instanceMethod Lib.objectInit ∈ z_TB := z_in1 (i := 23) rfl (by decide +kernel)
theorem wc_obj : Cond.code Lib.objectInit ⟨#[0xb1]⟩ 1 none ∈ z_TB := z_in1 (i := 24) rfl (by decide +kernel)
theorem wx_S_9 : (Cond.classLink "TwoSeals" (9 : Nat) "TwoSeals$Row") ∈ z_TB := z_in1 (i := 25) rfl (by decide +kernel)
theorem wy_R : (Cond.instantiable "TwoSeals$Row" (2 : Nat)) ∈ z_TB := z_in1 (i := 27) rfl (by decide +kernel)
theorem wa_int : (Cond.arrayClass FieldType.int) ∈ z_TB := z_in1 (i := 47) rfl (by decide +kernel)
theorem wx_S_25 : (Cond.classLink "TwoSeals" (25 : Nat) "TwoSeals$Cipher") ∈ z_TB := z_in1 (i := 48) rfl (by decide +kernel)
theorem wy_C : (Cond.instantiable "TwoSeals$Cipher" (4 : Nat)) ∈ z_TB := z_in1 (i := 49) rfl (by decide +kernel)
theorem wx_S_32 : (Cond.classLink "TwoSeals" (32 : Nat) "TwoSeals$Hasher") ∈ z_TB := z_in1 (i := 82) rfl (by decide +kernel)
theorem wy_H : (Cond.instantiable "TwoSeals$Hasher" (9 : Nat)) ∈ z_TB := z_in1 (i := 84) rfl (by decide +kernel)
theorem wx_S_41 : (Cond.classLink "TwoSeals" (41 : Nat) "TwoSeals$Way") ∈ z_TB := z_in1 (i := 119) rfl (by decide +kernel)
theorem wx_S_47 : (Cond.classLink "TwoSeals" (47 : Nat) "TwoSeals$WayZero") ∈ z_TB := z_in1 (i := 121) rfl (by decide +kernel)
theorem wy_Z : (Cond.instantiable "TwoSeals$WayZero" (8 : Nat)) ∈ z_TB := z_in1 (i := 122) rfl (by decide +kernel)
theorem wx_S_52 : (Cond.classLink "TwoSeals" (52 : Nat) "TwoSeals$WayOne") ∈ z_TB := z_in1 (i := 181) rfl (by decide +kernel)
theorem wy_O : (Cond.instantiable "TwoSeals$WayOne" (8 : Nat)) ∈ z_TB := z_in1 (i := 182) rfl (by decide +kernel)
theorem wx_L_49 : (Cond.classLink "TwoSealsLaw" (49 : Nat) "TwoSealsModel") ∈ z_TB := z_in3 (i := 140) rfl (by decide +kernel)
theorem wy_M : (Cond.instantiable "TwoSealsModel" (16 : Nat)) ∈ z_TB := z_in3 (i := 141) rfl (by decide +kernel)
theorem wa_long : (Cond.arrayClass FieldType.long) ∈ z_TB := z_in4 (i := 123) rfl (by decide +kernel)
theorem zc_L_48 : z_cwI "TwoSealsLaw" 48 mS_init 0 := ⟨wcmS_init, wn_S, wl_L_48, wi_S_init, rfl, rfl, by decide, by decide, by decide +kernel⟩
theorem zc_L_51 : z_cwI "TwoSealsLaw" 51 mM_init 0 := ⟨wcmM_init, wn_M, wl_L_51, wi_M_init, rfl, rfl, by decide, by decide, by decide +kernel⟩
theorem zc_S_15 : z_cwI "TwoSeals" 15 mR_init 1 := ⟨wcmR_init, wn_R, wl_S_15, wi_R_init, rfl, rfl, by decide, by decide, by decide +kernel⟩
theorem zc_S_27 : z_cwI "TwoSeals" 27 mC_init 0 := ⟨wcmC_init, wn_C, wl_S_27, wi_C_init, rfl, rfl, by decide, by decide, by decide +kernel⟩
theorem zc_S_38 : z_cwI "TwoSeals" 38 mH_init 1 := ⟨wcmH_init, wn_H, wl_S_38, wi_H_init, rfl, rfl, by decide, by decide, by decide +kernel⟩
theorem zc_S_49 : z_cwI "TwoSeals" 49 mZ_init 2 := ⟨wcmZ_init, wn_Z, wl_S_49, wi_Z_init, rfl, rfl, by decide, by decide, by decide +kernel⟩
theorem zc_S_54 : z_cwI "TwoSeals" 54 mO_init 2 := ⟨wcmO_init, wn_O, wl_S_54, wi_O_init, rfl, rfl, by decide, by decide, by decide +kernel⟩
theorem zc_Z_3 : z_cwI "TwoSeals$WayZero" 3 mW_init 2 := ⟨wcmW_init, wn_W, wl_Z_3, wi_W_init, rfl, rfl, by decide, by decide, by decide +kernel⟩
theorem zc_O_3 : z_cwI "TwoSeals$WayOne" 3 mW_init 2 := ⟨wcmW_init, wn_W, wl_O_3, wi_W_init, rfl, rfl, by decide, by decide, by decide +kernel⟩
section
variable {l : Launch} {g : z_G} {ws : va_W}
theorem kC_doubled {a : Nat} (ha : a < 256) : k_Met l g mC_doubled (z_rm 0) [.int (nI a)] ws (fun r W => r = (some (.int (nI (zd a)))) ∧ W = ws) := by
  refine k_Met.of (L := [(0, _)]) (by decide) (Nat.le_of_ble_eq_true rfl) (fun r W h => by rw [h.1]; rfl) rfl ?_
  intro p e s m args below meth c F Q hB
  have hC := hB.1
  have hF := hB.2.1
  have hA := hB.2.2.2.1
  refine k_iconst hC (pc := 0) dC_doubled_0 zi_2 ?_
  refine k_iload_n hC (pc := 1) dC_doubled_1 rfl rfl ?_
  refine k_imul hC (pc := 2) dC_doubled_2 ?_
  refine k_istore_n hC (L' := [(1, _), (0, _)]) (pc := 3) dC_doubled_3 rfl (by decide) rfl ?_
  refine k_iload_n hC (pc := 4) dC_doubled_4 rfl rfl ?_
  refine k_sipush hC (pc := 5) dC_doubled_5 zs_255 ?_
  refine k_icmp_le hC (pc := 8) (by omega) (by omega) (tgt := 19) dC_doubled_8 rfl (fun h1 => ?_) (fun h2 => ?_)
  · refine k_iload_n hC (pc := 19) dC_doubled_19 rfl rfl ?_
    exact k_ret hB (pc := 20) (r := some (.int _)) dC_doubled_20 (⟨congrArg (fun x => some (Value.int (nI x))) (by first | (rw [zd, if_pos h1]) | (rw [zd, if_neg h2])), rfl⟩) (Nat.le_of_ble_eq_true rfl) (Nat.le_of_ble_eq_true rfl)
  · refine k_iload_n hC (pc := 11) dC_doubled_11 rfl rfl ?_
    refine k_sipush hC (pc := 12) dC_doubled_12 zs_283 ?_
    refine k_ixor hC (pc := 15) dC_doubled_15 ?_
    refine k_goto hC (pc := 16) (tgt := 20) dC_doubled_16 rfl ?_
    exact k_ret hB (pc := 20) (r := some (.int _)) dC_doubled_20 (⟨congrArg (fun x => some (Value.int (nI x))) (by first | (rw [zd, if_pos h1]) | (rw [zd, if_neg h2])), rfl⟩) (Nat.le_of_ble_eq_true rfl) (Nat.le_of_ble_eq_true rfl)
theorem kM_doubled {a : Nat} (ha : a < 256) : k_Met l g mM_doubled (z_rm 0) [.int (nI a)] ws (fun r W => r = (some (.int (nI (zd a)))) ∧ W = ws) := by
  refine k_Met.of (L := [(0, _)]) (by decide) (Nat.le_of_ble_eq_true rfl) (fun r W h => by rw [h.1]; rfl) rfl ?_
  intro p e s m args below meth c F Q hB
  have hC := hB.1
  have hF := hB.2.1
  have hA := hB.2.2.2.1
  refine k_iload_n hC (pc := 0) dM_doubled_0 rfl rfl ?_
  refine k_bipush hC (pc := 1) dM_doubled_1 zb_127 ?_
  refine k_icmp_le hC (pc := 3) (by omega) (by omega) (tgt := 16) dM_doubled_3 rfl (fun h1 => ?_) (fun h1 => ?_)
  · refine k_iconst hC (pc := 16) dM_doubled_16 zi_2 ?_
    refine k_iload_n hC (pc := 17) dM_doubled_17 rfl rfl ?_
    refine k_imul hC (pc := 18) dM_doubled_18 ?_
    exact k_ret hB (pc := 19) (r := some (.int _)) dM_doubled_19 (⟨congrArg (fun x => some (Value.int (nI x))) (by first | rw [zd, if_pos (by omega)] | rw [zd, if_neg (by omega)]), rfl⟩) (Nat.le_of_ble_eq_true rfl) (Nat.le_of_ble_eq_true rfl)
  · refine k_iconst hC (pc := 6) dM_doubled_6 zi_2 ?_
    refine k_iload_n hC (pc := 7) dM_doubled_7 rfl rfl ?_
    refine k_imul hC (pc := 8) dM_doubled_8 ?_
    refine k_sipush hC (pc := 9) dM_doubled_9 zs_283 ?_
    refine k_ixor hC (pc := 12) dM_doubled_12 ?_
    refine k_goto hC (pc := 13) (tgt := 19) dM_doubled_13 rfl ?_
    exact k_ret hB (pc := 19) (r := some (.int _)) dM_doubled_19 (⟨congrArg (fun x => some (Value.int (nI x))) (by first | rw [zd, if_pos (by omega)] | rw [zd, if_neg (by omega)]), rfl⟩) (Nat.le_of_ble_eq_true rfl) (Nat.le_of_ble_eq_true rfl)
theorem kC_tripled {a : Nat} (ha : a < 256) : k_Met l g mC_tripled (z_rm 1) [.int (nI a)] ws (fun r W => r = (some (.int (nI (zt a)))) ∧ W = ws) := by
  refine k_Met.of (L := [(0, _)]) (by decide) (Nat.le_of_ble_eq_true rfl) (fun r W h => by rw [h.1]; rfl) rfl ?_
  intro p e s m args below meth c F Q hB
  have hC := hB.1
  have hF := hB.2.1
  have hA := hB.2.2.2.1
  refine k_iload_n hC (pc := 0) dC_tripled_0 rfl rfl ?_
  refine k_callS hC hF hA (pc := 1) (kC_doubled ha) (by decide) zc_C_39 rfl rfl (Nat.le_of_ble_eq_true rfl) ⟨(Nat.le_of_ble_eq_true rfl), (Nat.le_of_ble_eq_true rfl)⟩ dC_tripled_1 (fun r W9 hE => ?_)
  obtain ⟨rfl, rfl⟩ := hE
  refine k_r1 hC ?_
  refine k_iload_n hC (pc := 4) dC_tripled_4 rfl rfl ?_
  refine k_ixor hC (pc := 5) dC_tripled_5 ?_
  exact k_ret hB (pc := 6) (r := some (.int _)) dC_tripled_6 (⟨rfl, rfl⟩) (Nat.le_of_ble_eq_true rfl) (Nat.le_of_ble_eq_true rfl)
def z_tn (a k : Nat) : Nat := (a * 2 ^ k ||| a / 2 ^ (8 - k)) &&& 255
def z_sp (a : Nat) : Nat := a ^^^ z_tn a 1 ^^^ z_tn a 2 ^^^ z_tn a 3 ^^^ z_tn a 4 ^^^ 99
theorem kC_turned {a k : Nat} (ha : a < 256) (hk : k ≤ 8) : k_Met l g mC_turned (z_rm 0) [.int (nI a), .int (nI k)] ws (fun r W => r = (some (.int (nI (z_tn a k)))) ∧ W = ws) := by
  refine k_Met.of (L := [(0, _), (1, _)]) (by decide) (Nat.le_of_ble_eq_true rfl) (fun r W h => by rw [h.1]; rfl) rfl ?_
  intro p e s m args below meth c F Q hB
  have hC := hB.1
  have hF := hB.2.1
  have hA := hB.2.2.2.1
  refine k_iload_n hC (pc := 0) dC_turned_0 rfl rfl ?_
  refine k_iload_n hC (pc := 1) dC_turned_1 rfl rfl ?_
  refine k_ishl hC (pc := 2) dC_turned_2 (by omega) ?_
  refine k_iload_n hC (pc := 3) dC_turned_3 rfl rfl ?_
  refine k_bipush hC (pc := 4) dC_turned_4 zb_8 ?_
  refine k_iload_n hC (pc := 6) dC_turned_6 rfl rfl ?_
  refine k_isub hC (pc := 7) dC_turned_7 (by omega) ?_
  refine k_ishr hC (pc := 8) dC_turned_8 (by omega) (by omega) ?_
  refine k_ior hC (pc := 9) dC_turned_9 ?_
  refine k_sipush hC (pc := 10) dC_turned_10 zs_255 ?_
  refine k_iand hC (pc := 13) dC_turned_13 ?_
  exact k_ret hB (pc := 14) (r := some (.int _)) dC_turned_14 (⟨rfl, rfl⟩) (Nat.le_of_ble_eq_true rfl) (Nat.le_of_ble_eq_true rfl)
theorem kM_turned {a k : Nat} (ha : a < 256) (hk : k ≤ 8) : k_Met l g mM_turned (z_rm 0) [.int (nI a), .int (nI k)] ws (fun r W => r = (some (.int (nI (z_tn a k)))) ∧ W = ws) := by
  refine k_Met.of (L := [(0, _), (1, _)]) (by decide) (Nat.le_of_ble_eq_true rfl) (fun r W h => by rw [h.1]; rfl) rfl ?_
  intro p e s m args below meth c F Q hB
  have hC := hB.1
  have hF := hB.2.1
  have hA := hB.2.2.2.1
  refine k_iload_n hC (pc := 0) dM_turned_0 rfl rfl ?_
  refine k_iload_n hC (pc := 1) dM_turned_1 rfl rfl ?_
  refine k_ishl hC (pc := 2) dM_turned_2 (by omega) ?_
  refine k_iload_n hC (pc := 3) dM_turned_3 rfl rfl ?_
  refine k_bipush hC (pc := 4) dM_turned_4 zb_8 ?_
  refine k_iload_n hC (pc := 6) dM_turned_6 rfl rfl ?_
  refine k_isub hC (pc := 7) dM_turned_7 (by omega) ?_
  refine k_ishr hC (pc := 8) dM_turned_8 (by omega) (by omega) ?_
  refine k_ior hC (pc := 9) dM_turned_9 ?_
  refine k_sipush hC (pc := 10) dM_turned_10 zs_255 ?_
  refine k_iand hC (pc := 13) dM_turned_13 ?_
  exact k_ret hB (pc := 14) (r := some (.int _)) dM_turned_14 (⟨rfl, rfl⟩) (Nat.le_of_ble_eq_true rfl) (Nat.le_of_ble_eq_true rfl)
theorem kC_spread {a : Nat} (ha : a < 256) : k_Met l g mC_spread (z_rm 1) [.int (nI a)] ws (fun r W => r = (some (.int (nI (z_sp a)))) ∧ W = ws) := by
  refine k_Met.of (L := [(0, _)]) (by decide) (Nat.le_of_ble_eq_true rfl) (fun r W h => by rw [h.1]; rfl) rfl ?_
  intro p e s m args below meth c F Q hB
  have hC := hB.1
  have hF := hB.2.1
  have hA := hB.2.2.2.1
  refine k_iload_n hC (pc := 0) dC_spread_0 rfl rfl ?_
  refine k_iload_n hC (pc := 1) dC_spread_1 rfl rfl ?_
  refine k_iconst hC (pc := 2) dC_spread_2 zi_1 ?_
  refine k_callS hC hF hA (pc := 3) (kC_turned ha (k := 1) (by decide)) (by decide) zc_C_35 rfl rfl (Nat.le_of_ble_eq_true rfl) ⟨(Nat.le_of_ble_eq_true rfl), (Nat.le_of_ble_eq_true rfl)⟩ dC_spread_3 (fun r W9 hE => ?_)
  obtain ⟨rfl, rfl⟩ := hE
  refine k_r1 hC ?_
  refine k_ixor hC (pc := 6) dC_spread_6 ?_
  refine k_iload_n hC (pc := 7) dC_spread_7 rfl rfl ?_
  refine k_iconst hC (pc := 8) dC_spread_8 zi_2 ?_
  refine k_callS hC hF hA (pc := 9) (kC_turned ha (k := 2) (by decide)) (by decide) zc_C_35 rfl rfl (Nat.le_of_ble_eq_true rfl) ⟨(Nat.le_of_ble_eq_true rfl), (Nat.le_of_ble_eq_true rfl)⟩ dC_spread_9 (fun r W9 hE => ?_)
  obtain ⟨rfl, rfl⟩ := hE
  refine k_r1 hC ?_
  refine k_ixor hC (pc := 12) dC_spread_12 ?_
  refine k_iload_n hC (pc := 13) dC_spread_13 rfl rfl ?_
  refine k_iconst hC (pc := 14) dC_spread_14 zi_3 ?_
  refine k_callS hC hF hA (pc := 15) (kC_turned ha (k := 3) (by decide)) (by decide) zc_C_35 rfl rfl (Nat.le_of_ble_eq_true rfl) ⟨(Nat.le_of_ble_eq_true rfl), (Nat.le_of_ble_eq_true rfl)⟩ dC_spread_15 (fun r W9 hE => ?_)
  obtain ⟨rfl, rfl⟩ := hE
  refine k_r1 hC ?_
  refine k_ixor hC (pc := 18) dC_spread_18 ?_
  refine k_iload_n hC (pc := 19) dC_spread_19 rfl rfl ?_
  refine k_iconst hC (pc := 20) dC_spread_20 zi_4 ?_
  refine k_callS hC hF hA (pc := 21) (kC_turned ha (k := 4) (by decide)) (by decide) zc_C_35 rfl rfl (Nat.le_of_ble_eq_true rfl) ⟨(Nat.le_of_ble_eq_true rfl), (Nat.le_of_ble_eq_true rfl)⟩ dC_spread_21 (fun r W9 hE => ?_)
  obtain ⟨rfl, rfl⟩ := hE
  refine k_r1 hC ?_
  refine k_ixor hC (pc := 24) dC_spread_24 ?_
  refine k_bipush hC (pc := 25) dC_spread_25 zb_99 ?_
  refine k_ixor hC (pc := 27) dC_spread_27 ?_
  exact k_ret hB (pc := 28) (r := some (.int _)) dC_spread_28 (⟨rfl, rfl⟩) (Nat.le_of_ble_eq_true rfl) (Nat.le_of_ble_eq_true rfl)
theorem kM_times {a b : Nat} (ha : a < 256) (hb : b < 256) : k_Met l g mM_times (z_rm 1) [.int (nI a), .int (nI b)] ws (fun r W => r = (some (.int (nI (ztm a b)))) ∧ W = ws) := by
  refine k_Met.of (L := [(0, _), (1, _)]) (by decide) (Nat.le_of_ble_eq_true rfl) (fun r W h => by rw [h.1]; rfl) rfl ?_
  intro p e s m args below meth c F Q hB
  have hC := hB.1
  have hF := hB.2.1
  have hA := hB.2.2.2.1
  refine k_iconst hC (pc := 0) dM_times_0 zi_0 ?_
  refine k_istore_n hC (L' := [(2, _), (0, _), (1, _)]) (pc := 1) dM_times_1 rfl (by decide) rfl ?_
  refine k_iload_n hC (pc := 2) dM_times_2 rfl rfl ?_
  refine k_istore_n hC (L' := [(3, _), (2, _), (0, _), (1, _)]) (pc := 3) dM_times_3 rfl (by decide) rfl ?_
  refine k_iconst hC (pc := 4) dM_times_4 zi_0 ?_
  refine k_istore hC (L' := [(4, _), (3, _), (2, _), (0, _), (1, _)]) (pc := 5) dM_times_5 (by decide) rfl ?_
  refine k_loop 8 (fun i L W => L = [(4, .int (nI i)), (3, .int (nI (ztmS a b i).2)), (2, .int (nI (ztmS a b i).1)), (0, .int (nI a)), (1, .int (nI b))] ∧ W = ws) ?_ ?_ _ _ ⟨rfl, rfl⟩
  · rintro i L W hi ⟨rfl, rfl⟩ ki
    refine k_iload hC (pc := 7) dM_times_7 rfl ?_
    refine k_bipush hC (pc := 9) dM_times_9 zb_8 ?_
    refine k_icmp_ge hC (pc := 11) (by omega) (by omega) (tgt := 43) dM_times_11 rfl (fun h => by exfalso; omega) (fun h => ?_)
    refine k_iload_n hC (pc := 14) dM_times_14 rfl rfl ?_
    refine k_iload hC (pc := 15) dM_times_15 rfl ?_
    refine k_ishr hC (pc := 17) dM_times_17 (by omega) (by omega) ?_
    refine k_iconst hC (pc := 18) dM_times_18 zi_1 ?_
    refine k_iand hC (pc := 19) dM_times_19 ?_
    refine k_iconst hC (pc := 20) dM_times_20 zi_1 ?_
    refine k_icmp_ne hC (pc := 21) (by exact z_and1_lt _) (by omega) (tgt := 30) dM_times_21 rfl (fun h1 => ?_) (fun h1 => ?_)
    · have e : ztmS a b (i + 1) = ((ztmS a b i).1, zd (ztmS a b i).2) := by rw [ztmS, if_neg h1]
      replace ki := ki _ _ ⟨rfl, rfl⟩
      rw [e] at ki
      refine k_iload_n hC (pc := 30) dM_times_30 rfl rfl ?_
      refine k_istore_n hC (L' := [(2, _), (4, _), (3, _), (0, _), (1, _)]) (pc := 31) dM_times_31 rfl (by decide) rfl ?_
      refine k_iload_n hC (pc := 32) dM_times_32 rfl rfl ?_
      refine k_callS hC hF hA (pc := 33) (kM_doubled (ztmS_lt ha b i)) (by decide) zc_M_63 rfl rfl (Nat.le_of_ble_eq_true rfl) ⟨(Nat.le_of_ble_eq_true rfl), (Nat.le_of_ble_eq_true rfl)⟩ dM_times_33 (fun r W9 hE => ?_)
      obtain ⟨rfl, rfl⟩ := hE
      refine k_r1 hC ?_
      refine k_istore_n hC (L' := [(3, _), (2, _), (4, _), (0, _), (1, _)]) (pc := 36) dM_times_36 rfl (by decide) rfl ?_
      refine k_iinc hC (L' := [(4, _), (3, _), (2, _), (0, _), (1, _)]) (pc := 37) dM_times_37 rfl zi_1 (by decide) rfl ?_
      refine k_goto hC (pc := 40) (tgt := 7) dM_times_40 rfl ?_
      exact ki
    · have e : ztmS a b (i + 1) = ((ztmS a b i).1 ^^^ (ztmS a b i).2, zd (ztmS a b i).2) := by rw [ztmS, if_pos h1]
      replace ki := ki _ _ ⟨rfl, rfl⟩
      rw [e] at ki
      refine k_iload_n hC (pc := 24) dM_times_24 rfl rfl ?_
      refine k_iload_n hC (pc := 25) dM_times_25 rfl rfl ?_
      refine k_ixor hC (pc := 26) dM_times_26 ?_
      refine k_goto hC (pc := 27) (tgt := 31) dM_times_27 rfl ?_
      refine k_istore_n hC (L' := [(2, _), (4, _), (3, _), (0, _), (1, _)]) (pc := 31) dM_times_31 rfl (by decide) rfl ?_
      refine k_iload_n hC (pc := 32) dM_times_32 rfl rfl ?_
      refine k_callS hC hF hA (pc := 33) (kM_doubled (ztmS_lt ha b i)) (by decide) zc_M_63 rfl rfl (Nat.le_of_ble_eq_true rfl) ⟨(Nat.le_of_ble_eq_true rfl), (Nat.le_of_ble_eq_true rfl)⟩ dM_times_33 (fun r W9 hE => ?_)
      obtain ⟨rfl, rfl⟩ := hE
      refine k_r1 hC ?_
      refine k_istore_n hC (L' := [(3, _), (2, _), (4, _), (0, _), (1, _)]) (pc := 36) dM_times_36 rfl (by decide) rfl ?_
      refine k_iinc hC (L' := [(4, _), (3, _), (2, _), (0, _), (1, _)]) (pc := 37) dM_times_37 rfl zi_1 (by decide) rfl ?_
      refine k_goto hC (pc := 40) (tgt := 7) dM_times_40 rfl ?_
      exact ki
  · rintro L W ⟨rfl, rfl⟩
    refine k_iload hC (pc := 7) dM_times_7 rfl ?_
    refine k_bipush hC (pc := 9) dM_times_9 zb_8 ?_
    refine k_icmp_ge hC (pc := 11) (by omega) (by omega) (tgt := 43) dM_times_11 rfl (fun h => ?_) (fun h => by exfalso; omega)
    refine k_iload_n hC (pc := 43) dM_times_43 rfl rfl ?_
    exact k_ret hB (pc := 44) (r := some (.int _)) dM_times_44 (⟨rfl, rfl⟩) (Nat.le_of_ble_eq_true rfl) (Nat.le_of_ble_eq_true rfl)
end
