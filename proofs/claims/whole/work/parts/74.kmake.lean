theorem z_defC : ∀ j, j < 4 → defaultValue (ztC j) = vp_V [.null, .null, .null, .null] j := by decide +kernel
theorem z_defH : ∀ j, j < 9 → defaultValue (ztH j) = vp_V [.int (nI 0), .int (nI 0), .long (lN 0), .long (lN 0), .null, .long (lN 0), .long (lN 0), .long (lN 0), .long (lN 0)] j := by decide +kernel
theorem z_defR : ∀ j, j < 2 → defaultValue (ztR j) = vp_V [.null, .int (nI 0)] j := by decide +kernel
theorem z_defO : ∀ j, j < 8 → defaultValue (ztO j) = vp_V [.null, .null, .null, .null, .null, .null, .null, .null] j := by decide +kernel
theorem z_defZ : ∀ j, j < 8 → defaultValue (ztZ j) = vp_V [.null, .null, .null, .null, .null, .null, .null, .null] j := by decide +kernel
theorem z_defS : ∀ j, j < 6 → defaultValue (ztS j) = vp_V [.null, .null, .null, .null, .null, .null] j := by decide +kernel
theorem z_defM : ∀ j, j < 16 → defaultValue (ztM j) = vp_V [.int (nI 0), .null, .null, .int (nI 0), .null, .null, .null, .null, .null, .null, .null, .null, .null, .null, .null, .null] j := by decide +kernel
theorem za4 (ad : Nat → Nat) (a b c d : Nat) : va_up (va_up (va_up (va_up (fun _ => none) 0 (some (ad a))) 1 (some (ad b))) 2 (some (ad c))) 3 (some (ad d)) = fun j => ([((2 : Nat), a), (2, b), (2, c), (2, d)][j]?).map (fun q => ad q.2) := by
  funext j
  match j with
  | 0 | 1 | 2 | 3 => rfl
  | n + 4 => simp [va_up]
theorem za2 (ad : Nat → Nat) (a b : Nat) : va_up (va_up (fun _ => none) 0 (some (ad a))) 1 (some (ad b)) = fun j => ([((2 : Nat), a), (2, b)][j]?).map (fun q => ad q.2) := by
  funext j
  match j with
  | 0 | 1 => rfl
  | n + 2 => simp [va_up]
def zA0 (h f : Nat → Nat) : z_A := fun k => match k with
  | 15 => h
  | 20 => fun j => match j with
    | 0 => 1
    | 1 => 7
    | _ => 0
  | 46 => f
  | _ => fun _ => 0
def zB0 : z_A := fun k => match k with
  | 20 => fun j => match j with
    | 3 => 135
    | _ => 0
  | 22 => fun j => match j with
    | 2 => 13979173243358019584
    | 3 => 1
    | _ => 0
  | _ => fun _ => 0
def z_w39 (g : z_G) (ad : Nat → Nat) (h f : Nat → Nat) : va_W := (List.range 39).map (fun k => (ad k, z_cell g ad (z_sh k) (zA0 h f k) (zB0 k)))
theorem zS_w (g : z_G) (ad : Nat → Nat) (h : Nat → Nat) : ([((ad 0), .inr (5, [.ref (ad 1), .ref (ad 10), .ref (ad 12), .ref (ad 14), .ref (ad 19), .ref (ad 24)])), ((ad 1), .inl (g.2 2, 4, .inr (.inr (.inr (.inr (va_up (va_up (va_up (va_up (fun _ => none) 0 (some (ad 2))) 1 (some (ad 4))) 2 (some (ad 6))) 3 (some (ad 8)))))))), ((ad 2), .inr (2, [.ref (ad 3), .int (nI 0)])), k_arr g (ad 3) 16 (fun _ => 0), ((ad 4), .inr (2, [.ref (ad 5), .int (nI 0)])), k_arr g (ad 5) 24 (fun _ => 0), ((ad 6), .inr (2, [.ref (ad 7), .int (nI 0)])), k_arr g (ad 7) 32 (fun _ => 0), ((ad 8), .inr (2, [.ref (ad 9), .int (nI 0)])), k_arr g (ad 9) 64 (fun _ => 0), ((ad 10), .inr (2, [.ref (ad 11), .int (nI 0)])), k_arr g (ad 11) 64 (fun _ => 0), ((ad 12), .inr (2, [.ref (ad 13), .int (nI 0)])), k_arr g (ad 13) 64 (fun _ => 0), ((ad 14), .inr (0, [.ref (ad 15), .ref (ad 16), .ref (ad 17), .ref (ad 18)])), k_arr g (ad 15) 256 h, k_arr g (ad 16) 176 (fun _ => 0), k_arr g (ad 17) 16 (fun _ => 0), k_arr g (ad 18) 16 (fun _ => 0), ((ad 19), .inl (g.2 3, 2, .inr (.inr (.inr (.inr (va_up (va_up (fun _ => none) 0 (some (ad 20))) 1 (some (ad 22)))))))), ((ad 20), .inr (1, [.int (nI 1), .int (nI 7), .long (lN 0), .long (lN 135), .ref (ad 21), .long (lN 0), .long (lN 0), .long (lN 0), .long (lN 0)])), k_arr g (ad 21) 16 (fun _ => 0), ((ad 22), .inr (1, [.int (nI 0), .int (nI 0), .long (lN 13979173243358019584), .long (lN 1), .ref (ad 23), .long (lN 0), .long (lN 0), .long (lN 0), .long (lN 0)])), k_arr g (ad 23) 16 (fun _ => 0), ((ad 24), .inl (g.2 4, 2, .inr (.inr (.inr (.inr (va_up (va_up (fun _ => none) 0 (some (ad 25))) 1 (some (ad 32)))))))), ((ad 25), .inr (4, [.ref (ad 14), .ref (ad 20), .ref (ad 26), .ref (ad 27), .ref (ad 28), .ref (ad 29), .ref (ad 30), .ref (ad 31)])), k_arr g (ad 26) 16 (fun _ => 0), k_arr g (ad 27) 16 (fun _ => 0), k_arr g (ad 28) 16 (fun _ => 0), k_arr g (ad 29) 16 (fun _ => 0), k_arr g (ad 30) 16 (fun _ => 0), k_arr g (ad 31) 16 (fun _ => 0), ((ad 32), .inr (3, [.ref (ad 14), .ref (ad 22), .ref (ad 33), .ref (ad 34), .ref (ad 35), .ref (ad 36), .ref (ad 37), .ref (ad 38)])), k_arr g (ad 33) 16 (fun _ => 0), k_arr g (ad 34) 16 (fun _ => 0), k_arr g (ad 35) 16 (fun _ => 0), k_arr g (ad 36) 16 (fun _ => 0), k_arr g (ad 37) 16 (fun _ => 0), k_arr g (ad 38) 16 (fun _ => 0)] : va_W) = z_w39 g ad h h := by
  rw [za4 ad 2 4 6 8, za2 ad 20 22, za2 ad 25 32]
  rfl
section
variable {l : Launch} {g : z_G}
theorem kS_init {a : Nat}  : k_Met l g mS_init ⟨4, 60, 3000, 200⟩ [.ref a] [(a, .inr (5, [.null, .null, .null, .null, .null, .null]))] (fun r W => ∃ ad h, (∀ j, j < 256 → h j = zS j) ∧ ad 0 = a ∧ r = none ∧ W = z_w39 g ad h h) := by
  refine k_Met.of (L := [(0, _)]) (by decide) (Nat.le_of_ble_eq_true rfl) (fun r W h => by obtain ⟨_, _, _, _, rfl, _⟩ := h; rfl) rfl ?_
  intro p e s m args below meth c F Q hB
  have hC := hB.1
  have hF := hB.2.1
  have hA := hB.2.2.2.1
  have hin : meth.name = "<init>" := hB.2.2.1
  refine k_aload_n hC (pc := 0) dS_init_0 rfl rfl ?_
  refine k_objInit hC ⟨wl_S_1, wi_obj, wc_obj⟩ (by decide) (Nat.le_of_ble_eq_true rfl) (by decide) (pc := 1) dS_init_1 ?_
  refine k_aload_n hC (pc := 4) dS_init_4 rfl rfl ?_
  refine k_iconst hC (pc := 5) dS_init_5 zi_4 ?_
  refine k_newA hC hF (t := 2) (hA.1 "TwoSeals$Row" (by decide)) rfl wx_S_9 (by decide) (Nat.le_of_ble_eq_true rfl) (Nat.le_of_ble_eq_true rfl) (pc := 6) dS_init_6 (fun q1 => ?_)
  refine k_ws hC (ws' := [(a, .inr (5, [.null, .null, .null, .null, .null, .null])), (q1, .inl (g.2 2, 4, .inr (.inr (.inr (.inr (fun _ => none))))))]) rfl ?_
  refine k_putF hC hin 0 (ws' := [(a, .inr (5, [.ref q1, .null, .null, .null, .null, .null])), (q1, .inl (g.2 2, 4, .inr (.inr (.inr (.inr (fun _ => none))))))]) rfl zf_S_11_5 ztS_ok znS rfl rfl (ztS_ok 0 (by decide)) rfl rfl (Nat.le_of_ble_eq_true rfl) rfl (pc := 9) dS_init_9 ?_
  refine k_aload_n hC (pc := 12) dS_init_12 rfl rfl ?_
  refine k_get hC 0 rfl rfl zf_S_11_5 (pc := 13) dS_init_13 ?_
  refine k_iconst hC (pc := 16) dS_init_16 zi_0 ?_
  refine k_new hC hF (ci := 2) (fs := [.null, .int (nI 0)]) ztR rfl zuR ztR_ok ⟨wx_S_9, wy_R, wn_R⟩ z_defR (Nat.le_of_ble_eq_true rfl) (Nat.le_of_ble_eq_true rfl) (pc := 17) dS_init_17 (fun q2 => ?_)
  refine k_ws hC (ws' := [(a, .inr (5, [.ref q1, .null, .null, .null, .null, .null])), (q1, .inl (g.2 2, 4, .inr (.inr (.inr (.inr (fun _ => none)))))), (q2, .inr (2, [.null, .int (nI 0)]))]) rfl ?_
  refine k_dup hC (pc := 20) dS_init_20 rfl ?_
  refine k_bipush hC (pc := 21) dS_init_21 zb_16 ?_
  refine k_callI hC hF hA (pc := 23) (kR_init (i := 2) (n := 16) rfl (by decide)) (by decide) zc_S_15 rfl rfl (Nat.le_of_ble_eq_true rfl) ⟨(Nat.le_of_ble_eq_true rfl), (Nat.le_of_ble_eq_true rfl)⟩ dS_init_23 (fun r W9 hE => ?_)
  obtain ⟨q3, rfl, rfl⟩ := hE
  refine k_r0 hC (k_ws hC (ws' := [(a, .inr (5, [.ref q1, .null, .null, .null, .null, .null])), (q1, .inl (g.2 2, 4, .inr (.inr (.inr (.inr (fun _ => none)))))), (q2, .inr (2, [.ref q3, .int (nI 0)])), k_arr g q3 16 (fun _ => 0)]) rfl ?_)
  refine k_aastoreQ hC 1 2 2 2 (ws' := [(a, .inr (5, [.ref q1, .null, .null, .null, .null, .null])), (q1, .inl (g.2 2, 4, .inr (.inr (.inr (.inr (va_up (fun _ => none) 0 (some q2))))))), (q2, .inr (2, [.ref q3, .int (nI 0)])), k_arr g q3 16 (fun _ => 0)]) rfl rfl rfl rfl (by decide) (by decide) rfl (pc := 26) dS_init_26 ?_
  refine k_aload_n hC (pc := 27) dS_init_27 rfl rfl ?_
  refine k_get hC 0 rfl rfl zf_S_11_5 (pc := 28) dS_init_28 ?_
  refine k_iconst hC (pc := 31) dS_init_31 zi_1 ?_
  refine k_new hC hF (ci := 2) (fs := [.null, .int (nI 0)]) ztR rfl zuR ztR_ok ⟨wx_S_9, wy_R, wn_R⟩ z_defR (Nat.le_of_ble_eq_true rfl) (Nat.le_of_ble_eq_true rfl) (pc := 32) dS_init_32 (fun q4 => ?_)
  refine k_ws hC (ws' := [(a, .inr (5, [.ref q1, .null, .null, .null, .null, .null])), (q1, .inl (g.2 2, 4, .inr (.inr (.inr (.inr (va_up (fun _ => none) 0 (some q2))))))), (q2, .inr (2, [.ref q3, .int (nI 0)])), k_arr g q3 16 (fun _ => 0), (q4, .inr (2, [.null, .int (nI 0)]))]) rfl ?_
  refine k_dup hC (pc := 35) dS_init_35 rfl ?_
  refine k_bipush hC (pc := 36) dS_init_36 zb_24 ?_
  refine k_callI hC hF hA (pc := 38) (kR_init (i := 4) (n := 24) rfl (by decide)) (by decide) zc_S_15 rfl rfl (Nat.le_of_ble_eq_true rfl) ⟨(Nat.le_of_ble_eq_true rfl), (Nat.le_of_ble_eq_true rfl)⟩ dS_init_38 (fun r W9 hE => ?_)
  obtain ⟨q5, rfl, rfl⟩ := hE
  refine k_r0 hC (k_ws hC (ws' := [(a, .inr (5, [.ref q1, .null, .null, .null, .null, .null])), (q1, .inl (g.2 2, 4, .inr (.inr (.inr (.inr (va_up (fun _ => none) 0 (some q2))))))), (q2, .inr (2, [.ref q3, .int (nI 0)])), k_arr g q3 16 (fun _ => 0), (q4, .inr (2, [.ref q5, .int (nI 0)])), k_arr g q5 24 (fun _ => 0)]) rfl ?_)
  refine k_aastoreQ hC 1 2 4 2 (ws' := [(a, .inr (5, [.ref q1, .null, .null, .null, .null, .null])), (q1, .inl (g.2 2, 4, .inr (.inr (.inr (.inr (va_up (va_up (fun _ => none) 0 (some q2)) 1 (some q4))))))), (q2, .inr (2, [.ref q3, .int (nI 0)])), k_arr g q3 16 (fun _ => 0), (q4, .inr (2, [.ref q5, .int (nI 0)])), k_arr g q5 24 (fun _ => 0)]) rfl rfl rfl rfl (by decide) (by decide) rfl (pc := 41) dS_init_41 ?_
  refine k_aload_n hC (pc := 42) dS_init_42 rfl rfl ?_
  refine k_get hC 0 rfl rfl zf_S_11_5 (pc := 43) dS_init_43 ?_
  refine k_iconst hC (pc := 46) dS_init_46 zi_2 ?_
  refine k_new hC hF (ci := 2) (fs := [.null, .int (nI 0)]) ztR rfl zuR ztR_ok ⟨wx_S_9, wy_R, wn_R⟩ z_defR (Nat.le_of_ble_eq_true rfl) (Nat.le_of_ble_eq_true rfl) (pc := 47) dS_init_47 (fun q6 => ?_)
  refine k_ws hC (ws' := [(a, .inr (5, [.ref q1, .null, .null, .null, .null, .null])), (q1, .inl (g.2 2, 4, .inr (.inr (.inr (.inr (va_up (va_up (fun _ => none) 0 (some q2)) 1 (some q4))))))), (q2, .inr (2, [.ref q3, .int (nI 0)])), k_arr g q3 16 (fun _ => 0), (q4, .inr (2, [.ref q5, .int (nI 0)])), k_arr g q5 24 (fun _ => 0), (q6, .inr (2, [.null, .int (nI 0)]))]) rfl ?_
  refine k_dup hC (pc := 50) dS_init_50 rfl ?_
  refine k_bipush hC (pc := 51) dS_init_51 zb_32 ?_
  refine k_callI hC hF hA (pc := 53) (kR_init (i := 6) (n := 32) rfl (by decide)) (by decide) zc_S_15 rfl rfl (Nat.le_of_ble_eq_true rfl) ⟨(Nat.le_of_ble_eq_true rfl), (Nat.le_of_ble_eq_true rfl)⟩ dS_init_53 (fun r W9 hE => ?_)
  obtain ⟨q7, rfl, rfl⟩ := hE
  refine k_r0 hC (k_ws hC (ws' := [(a, .inr (5, [.ref q1, .null, .null, .null, .null, .null])), (q1, .inl (g.2 2, 4, .inr (.inr (.inr (.inr (va_up (va_up (fun _ => none) 0 (some q2)) 1 (some q4))))))), (q2, .inr (2, [.ref q3, .int (nI 0)])), k_arr g q3 16 (fun _ => 0), (q4, .inr (2, [.ref q5, .int (nI 0)])), k_arr g q5 24 (fun _ => 0), (q6, .inr (2, [.ref q7, .int (nI 0)])), k_arr g q7 32 (fun _ => 0)]) rfl ?_)
  refine k_aastoreQ hC 1 2 6 2 (ws' := [(a, .inr (5, [.ref q1, .null, .null, .null, .null, .null])), (q1, .inl (g.2 2, 4, .inr (.inr (.inr (.inr (va_up (va_up (va_up (fun _ => none) 0 (some q2)) 1 (some q4)) 2 (some q6))))))), (q2, .inr (2, [.ref q3, .int (nI 0)])), k_arr g q3 16 (fun _ => 0), (q4, .inr (2, [.ref q5, .int (nI 0)])), k_arr g q5 24 (fun _ => 0), (q6, .inr (2, [.ref q7, .int (nI 0)])), k_arr g q7 32 (fun _ => 0)]) rfl rfl rfl rfl (by decide) (by decide) rfl (pc := 56) dS_init_56 ?_
  refine k_aload_n hC (pc := 57) dS_init_57 rfl rfl ?_
  refine k_get hC 0 rfl rfl zf_S_11_5 (pc := 58) dS_init_58 ?_
  refine k_iconst hC (pc := 61) dS_init_61 zi_3 ?_
  refine k_new hC hF (ci := 2) (fs := [.null, .int (nI 0)]) ztR rfl zuR ztR_ok ⟨wx_S_9, wy_R, wn_R⟩ z_defR (Nat.le_of_ble_eq_true rfl) (Nat.le_of_ble_eq_true rfl) (pc := 62) dS_init_62 (fun q8 => ?_)
  refine k_ws hC (ws' := [(a, .inr (5, [.ref q1, .null, .null, .null, .null, .null])), (q1, .inl (g.2 2, 4, .inr (.inr (.inr (.inr (va_up (va_up (va_up (fun _ => none) 0 (some q2)) 1 (some q4)) 2 (some q6))))))), (q2, .inr (2, [.ref q3, .int (nI 0)])), k_arr g q3 16 (fun _ => 0), (q4, .inr (2, [.ref q5, .int (nI 0)])), k_arr g q5 24 (fun _ => 0), (q6, .inr (2, [.ref q7, .int (nI 0)])), k_arr g q7 32 (fun _ => 0), (q8, .inr (2, [.null, .int (nI 0)]))]) rfl ?_
  refine k_dup hC (pc := 65) dS_init_65 rfl ?_
  refine k_bipush hC (pc := 66) dS_init_66 zb_64 ?_
  refine k_callI hC hF hA (pc := 68) (kR_init (i := 8) (n := 64) rfl (by decide)) (by decide) zc_S_15 rfl rfl (Nat.le_of_ble_eq_true rfl) ⟨(Nat.le_of_ble_eq_true rfl), (Nat.le_of_ble_eq_true rfl)⟩ dS_init_68 (fun r W9 hE => ?_)
  obtain ⟨q9, rfl, rfl⟩ := hE
  refine k_r0 hC (k_ws hC (ws' := [(a, .inr (5, [.ref q1, .null, .null, .null, .null, .null])), (q1, .inl (g.2 2, 4, .inr (.inr (.inr (.inr (va_up (va_up (va_up (fun _ => none) 0 (some q2)) 1 (some q4)) 2 (some q6))))))), (q2, .inr (2, [.ref q3, .int (nI 0)])), k_arr g q3 16 (fun _ => 0), (q4, .inr (2, [.ref q5, .int (nI 0)])), k_arr g q5 24 (fun _ => 0), (q6, .inr (2, [.ref q7, .int (nI 0)])), k_arr g q7 32 (fun _ => 0), (q8, .inr (2, [.ref q9, .int (nI 0)])), k_arr g q9 64 (fun _ => 0)]) rfl ?_)
  refine k_aastoreQ hC 1 2 8 2 (ws' := [(a, .inr (5, [.ref q1, .null, .null, .null, .null, .null])), (q1, .inl (g.2 2, 4, .inr (.inr (.inr (.inr (va_up (va_up (va_up (va_up (fun _ => none) 0 (some q2)) 1 (some q4)) 2 (some q6)) 3 (some q8))))))), (q2, .inr (2, [.ref q3, .int (nI 0)])), k_arr g q3 16 (fun _ => 0), (q4, .inr (2, [.ref q5, .int (nI 0)])), k_arr g q5 24 (fun _ => 0), (q6, .inr (2, [.ref q7, .int (nI 0)])), k_arr g q7 32 (fun _ => 0), (q8, .inr (2, [.ref q9, .int (nI 0)])), k_arr g q9 64 (fun _ => 0)]) rfl rfl rfl rfl (by decide) (by decide) rfl (pc := 71) dS_init_71 ?_
  refine k_aload_n hC (pc := 72) dS_init_72 rfl rfl ?_
  refine k_new hC hF (ci := 2) (fs := [.null, .int (nI 0)]) ztR rfl zuR ztR_ok ⟨wx_S_9, wy_R, wn_R⟩ z_defR (Nat.le_of_ble_eq_true rfl) (Nat.le_of_ble_eq_true rfl) (pc := 73) dS_init_73 (fun q10 => ?_)
  refine k_ws hC (ws' := [(a, .inr (5, [.ref q1, .null, .null, .null, .null, .null])), (q1, .inl (g.2 2, 4, .inr (.inr (.inr (.inr (va_up (va_up (va_up (va_up (fun _ => none) 0 (some q2)) 1 (some q4)) 2 (some q6)) 3 (some q8))))))), (q2, .inr (2, [.ref q3, .int (nI 0)])), k_arr g q3 16 (fun _ => 0), (q4, .inr (2, [.ref q5, .int (nI 0)])), k_arr g q5 24 (fun _ => 0), (q6, .inr (2, [.ref q7, .int (nI 0)])), k_arr g q7 32 (fun _ => 0), (q8, .inr (2, [.ref q9, .int (nI 0)])), k_arr g q9 64 (fun _ => 0), (q10, .inr (2, [.null, .int (nI 0)]))]) rfl ?_
  refine k_dup hC (pc := 76) dS_init_76 rfl ?_
  refine k_bipush hC (pc := 77) dS_init_77 zb_64 ?_
  refine k_callI hC hF hA (pc := 79) (kR_init (i := 10) (n := 64) rfl (by decide)) (by decide) zc_S_15 rfl rfl (Nat.le_of_ble_eq_true rfl) ⟨(Nat.le_of_ble_eq_true rfl), (Nat.le_of_ble_eq_true rfl)⟩ dS_init_79 (fun r W9 hE => ?_)
  obtain ⟨q11, rfl, rfl⟩ := hE
  refine k_r0 hC (k_ws hC (ws' := [(a, .inr (5, [.ref q1, .null, .null, .null, .null, .null])), (q1, .inl (g.2 2, 4, .inr (.inr (.inr (.inr (va_up (va_up (va_up (va_up (fun _ => none) 0 (some q2)) 1 (some q4)) 2 (some q6)) 3 (some q8))))))), (q2, .inr (2, [.ref q3, .int (nI 0)])), k_arr g q3 16 (fun _ => 0), (q4, .inr (2, [.ref q5, .int (nI 0)])), k_arr g q5 24 (fun _ => 0), (q6, .inr (2, [.ref q7, .int (nI 0)])), k_arr g q7 32 (fun _ => 0), (q8, .inr (2, [.ref q9, .int (nI 0)])), k_arr g q9 64 (fun _ => 0), (q10, .inr (2, [.ref q11, .int (nI 0)])), k_arr g q11 64 (fun _ => 0)]) rfl ?_)
  refine k_putF hC hin 0 (ws' := [(a, .inr (5, [.ref q1, .ref q10, .null, .null, .null, .null])), (q1, .inl (g.2 2, 4, .inr (.inr (.inr (.inr (va_up (va_up (va_up (va_up (fun _ => none) 0 (some q2)) 1 (some q4)) 2 (some q6)) 3 (some q8))))))), (q2, .inr (2, [.ref q3, .int (nI 0)])), k_arr g q3 16 (fun _ => 0), (q4, .inr (2, [.ref q5, .int (nI 0)])), k_arr g q5 24 (fun _ => 0), (q6, .inr (2, [.ref q7, .int (nI 0)])), k_arr g q7 32 (fun _ => 0), (q8, .inr (2, [.ref q9, .int (nI 0)])), k_arr g q9 64 (fun _ => 0), (q10, .inr (2, [.ref q11, .int (nI 0)])), k_arr g q11 64 (fun _ => 0)]) rfl zf_S_18_5 ztS_ok znS rfl rfl (ztS_ok 1 (by decide)) rfl rfl (Nat.le_of_ble_eq_true rfl) rfl (pc := 82) dS_init_82 ?_
  refine k_aload_n hC (pc := 85) dS_init_85 rfl rfl ?_
  refine k_new hC hF (ci := 2) (fs := [.null, .int (nI 0)]) ztR rfl zuR ztR_ok ⟨wx_S_9, wy_R, wn_R⟩ z_defR (Nat.le_of_ble_eq_true rfl) (Nat.le_of_ble_eq_true rfl) (pc := 86) dS_init_86 (fun q12 => ?_)
  refine k_ws hC (ws' := [(a, .inr (5, [.ref q1, .ref q10, .null, .null, .null, .null])), (q1, .inl (g.2 2, 4, .inr (.inr (.inr (.inr (va_up (va_up (va_up (va_up (fun _ => none) 0 (some q2)) 1 (some q4)) 2 (some q6)) 3 (some q8))))))), (q2, .inr (2, [.ref q3, .int (nI 0)])), k_arr g q3 16 (fun _ => 0), (q4, .inr (2, [.ref q5, .int (nI 0)])), k_arr g q5 24 (fun _ => 0), (q6, .inr (2, [.ref q7, .int (nI 0)])), k_arr g q7 32 (fun _ => 0), (q8, .inr (2, [.ref q9, .int (nI 0)])), k_arr g q9 64 (fun _ => 0), (q10, .inr (2, [.ref q11, .int (nI 0)])), k_arr g q11 64 (fun _ => 0), (q12, .inr (2, [.null, .int (nI 0)]))]) rfl ?_
  refine k_dup hC (pc := 89) dS_init_89 rfl ?_
  refine k_bipush hC (pc := 90) dS_init_90 zb_64 ?_
  refine k_callI hC hF hA (pc := 92) (kR_init (i := 12) (n := 64) rfl (by decide)) (by decide) zc_S_15 rfl rfl (Nat.le_of_ble_eq_true rfl) ⟨(Nat.le_of_ble_eq_true rfl), (Nat.le_of_ble_eq_true rfl)⟩ dS_init_92 (fun r W9 hE => ?_)
  obtain ⟨q13, rfl, rfl⟩ := hE
  refine k_r0 hC (k_ws hC (ws' := [(a, .inr (5, [.ref q1, .ref q10, .null, .null, .null, .null])), (q1, .inl (g.2 2, 4, .inr (.inr (.inr (.inr (va_up (va_up (va_up (va_up (fun _ => none) 0 (some q2)) 1 (some q4)) 2 (some q6)) 3 (some q8))))))), (q2, .inr (2, [.ref q3, .int (nI 0)])), k_arr g q3 16 (fun _ => 0), (q4, .inr (2, [.ref q5, .int (nI 0)])), k_arr g q5 24 (fun _ => 0), (q6, .inr (2, [.ref q7, .int (nI 0)])), k_arr g q7 32 (fun _ => 0), (q8, .inr (2, [.ref q9, .int (nI 0)])), k_arr g q9 64 (fun _ => 0), (q10, .inr (2, [.ref q11, .int (nI 0)])), k_arr g q11 64 (fun _ => 0), (q12, .inr (2, [.ref q13, .int (nI 0)])), k_arr g q13 64 (fun _ => 0)]) rfl ?_)
  refine k_putF hC hin 0 (ws' := [(a, .inr (5, [.ref q1, .ref q10, .ref q12, .null, .null, .null])), (q1, .inl (g.2 2, 4, .inr (.inr (.inr (.inr (va_up (va_up (va_up (va_up (fun _ => none) 0 (some q2)) 1 (some q4)) 2 (some q6)) 3 (some q8))))))), (q2, .inr (2, [.ref q3, .int (nI 0)])), k_arr g q3 16 (fun _ => 0), (q4, .inr (2, [.ref q5, .int (nI 0)])), k_arr g q5 24 (fun _ => 0), (q6, .inr (2, [.ref q7, .int (nI 0)])), k_arr g q7 32 (fun _ => 0), (q8, .inr (2, [.ref q9, .int (nI 0)])), k_arr g q9 64 (fun _ => 0), (q10, .inr (2, [.ref q11, .int (nI 0)])), k_arr g q11 64 (fun _ => 0), (q12, .inr (2, [.ref q13, .int (nI 0)])), k_arr g q13 64 (fun _ => 0)]) rfl zf_S_22_5 ztS_ok znS rfl rfl (ztS_ok 2 (by decide)) rfl rfl (Nat.le_of_ble_eq_true rfl) rfl (pc := 95) dS_init_95 ?_
  refine k_aload_n hC (pc := 98) dS_init_98 rfl rfl ?_
  refine k_new hC hF (ci := 0) (fs := [.null, .null, .null, .null]) ztC rfl zuC ztC_ok ⟨wx_S_25, wy_C, wn_C⟩ z_defC (Nat.le_of_ble_eq_true rfl) (Nat.le_of_ble_eq_true rfl) (pc := 99) dS_init_99 (fun q14 => ?_)
  refine k_ws hC (ws' := [(a, .inr (5, [.ref q1, .ref q10, .ref q12, .null, .null, .null])), (q1, .inl (g.2 2, 4, .inr (.inr (.inr (.inr (va_up (va_up (va_up (va_up (fun _ => none) 0 (some q2)) 1 (some q4)) 2 (some q6)) 3 (some q8))))))), (q2, .inr (2, [.ref q3, .int (nI 0)])), k_arr g q3 16 (fun _ => 0), (q4, .inr (2, [.ref q5, .int (nI 0)])), k_arr g q5 24 (fun _ => 0), (q6, .inr (2, [.ref q7, .int (nI 0)])), k_arr g q7 32 (fun _ => 0), (q8, .inr (2, [.ref q9, .int (nI 0)])), k_arr g q9 64 (fun _ => 0), (q10, .inr (2, [.ref q11, .int (nI 0)])), k_arr g q11 64 (fun _ => 0), (q12, .inr (2, [.ref q13, .int (nI 0)])), k_arr g q13 64 (fun _ => 0), (q14, .inr (0, [.null, .null, .null, .null]))]) rfl ?_
  refine k_dup hC (pc := 102) dS_init_102 rfl ?_
  refine k_callI hC hF hA (pc := 103) (kC_init (i := 14) rfl) (by decide) zc_S_27 rfl rfl (Nat.le_of_ble_eq_true rfl) ⟨(Nat.le_of_ble_eq_true rfl), (Nat.le_of_ble_eq_true rfl)⟩ dS_init_103 (fun r W9 hE => ?_)
  obtain ⟨q15, qp, h, f, q16, q17, q18, hh, rfl, rfl⟩ := hE
  refine k_r0 hC (k_ws hC (ws' := [(a, .inr (5, [.ref q1, .ref q10, .ref q12, .null, .null, .null])), (q1, .inl (g.2 2, 4, .inr (.inr (.inr (.inr (va_up (va_up (va_up (va_up (fun _ => none) 0 (some q2)) 1 (some q4)) 2 (some q6)) 3 (some q8))))))), (q2, .inr (2, [.ref q3, .int (nI 0)])), k_arr g q3 16 (fun _ => 0), (q4, .inr (2, [.ref q5, .int (nI 0)])), k_arr g q5 24 (fun _ => 0), (q6, .inr (2, [.ref q7, .int (nI 0)])), k_arr g q7 32 (fun _ => 0), (q8, .inr (2, [.ref q9, .int (nI 0)])), k_arr g q9 64 (fun _ => 0), (q10, .inr (2, [.ref q11, .int (nI 0)])), k_arr g q11 64 (fun _ => 0), (q12, .inr (2, [.ref q13, .int (nI 0)])), k_arr g q13 64 (fun _ => 0), (q14, .inr (0, [.ref q15, .ref q16, .ref q17, .ref q18])), k_arr g q15 256 h, k_arr g qp 256 f, k_arr g q16 176 (fun _ => 0), k_arr g q17 16 (fun _ => 0), k_arr g q18 16 (fun _ => 0)]) rfl ?_)
  refine k_putF hC hin 0 (ws' := [(a, .inr (5, [.ref q1, .ref q10, .ref q12, .ref q14, .null, .null])), (q1, .inl (g.2 2, 4, .inr (.inr (.inr (.inr (va_up (va_up (va_up (va_up (fun _ => none) 0 (some q2)) 1 (some q4)) 2 (some q6)) 3 (some q8))))))), (q2, .inr (2, [.ref q3, .int (nI 0)])), k_arr g q3 16 (fun _ => 0), (q4, .inr (2, [.ref q5, .int (nI 0)])), k_arr g q5 24 (fun _ => 0), (q6, .inr (2, [.ref q7, .int (nI 0)])), k_arr g q7 32 (fun _ => 0), (q8, .inr (2, [.ref q9, .int (nI 0)])), k_arr g q9 64 (fun _ => 0), (q10, .inr (2, [.ref q11, .int (nI 0)])), k_arr g q11 64 (fun _ => 0), (q12, .inr (2, [.ref q13, .int (nI 0)])), k_arr g q13 64 (fun _ => 0), (q14, .inr (0, [.ref q15, .ref q16, .ref q17, .ref q18])), k_arr g q15 256 h, k_arr g qp 256 f, k_arr g q16 176 (fun _ => 0), k_arr g q17 16 (fun _ => 0), k_arr g q18 16 (fun _ => 0)]) rfl zf_S_28_5 ztS_ok znS rfl rfl (ztS_ok 3 (by decide)) rfl rfl (Nat.le_of_ble_eq_true rfl) rfl (pc := 106) dS_init_106 ?_
  refine k_aload_n hC (pc := 109) dS_init_109 rfl rfl ?_
  refine k_iconst hC (pc := 110) dS_init_110 zi_2 ?_
  refine k_newA hC hF (t := 3) (hA.1 "TwoSeals$Hasher" (by decide)) rfl wx_S_32 (by decide) (Nat.le_of_ble_eq_true rfl) (Nat.le_of_ble_eq_true rfl) (pc := 111) dS_init_111 (fun q19 => ?_)
  refine k_ws hC (ws' := [(a, .inr (5, [.ref q1, .ref q10, .ref q12, .ref q14, .null, .null])), (q1, .inl (g.2 2, 4, .inr (.inr (.inr (.inr (va_up (va_up (va_up (va_up (fun _ => none) 0 (some q2)) 1 (some q4)) 2 (some q6)) 3 (some q8))))))), (q2, .inr (2, [.ref q3, .int (nI 0)])), k_arr g q3 16 (fun _ => 0), (q4, .inr (2, [.ref q5, .int (nI 0)])), k_arr g q5 24 (fun _ => 0), (q6, .inr (2, [.ref q7, .int (nI 0)])), k_arr g q7 32 (fun _ => 0), (q8, .inr (2, [.ref q9, .int (nI 0)])), k_arr g q9 64 (fun _ => 0), (q10, .inr (2, [.ref q11, .int (nI 0)])), k_arr g q11 64 (fun _ => 0), (q12, .inr (2, [.ref q13, .int (nI 0)])), k_arr g q13 64 (fun _ => 0), (q14, .inr (0, [.ref q15, .ref q16, .ref q17, .ref q18])), k_arr g q15 256 h, k_arr g qp 256 f, k_arr g q16 176 (fun _ => 0), k_arr g q17 16 (fun _ => 0), k_arr g q18 16 (fun _ => 0), (q19, .inl (g.2 3, 2, .inr (.inr (.inr (.inr (fun _ => none))))))]) rfl ?_
  refine k_putF hC hin 0 (ws' := [(a, .inr (5, [.ref q1, .ref q10, .ref q12, .ref q14, .ref q19, .null])), (q1, .inl (g.2 2, 4, .inr (.inr (.inr (.inr (va_up (va_up (va_up (va_up (fun _ => none) 0 (some q2)) 1 (some q4)) 2 (some q6)) 3 (some q8))))))), (q2, .inr (2, [.ref q3, .int (nI 0)])), k_arr g q3 16 (fun _ => 0), (q4, .inr (2, [.ref q5, .int (nI 0)])), k_arr g q5 24 (fun _ => 0), (q6, .inr (2, [.ref q7, .int (nI 0)])), k_arr g q7 32 (fun _ => 0), (q8, .inr (2, [.ref q9, .int (nI 0)])), k_arr g q9 64 (fun _ => 0), (q10, .inr (2, [.ref q11, .int (nI 0)])), k_arr g q11 64 (fun _ => 0), (q12, .inr (2, [.ref q13, .int (nI 0)])), k_arr g q13 64 (fun _ => 0), (q14, .inr (0, [.ref q15, .ref q16, .ref q17, .ref q18])), k_arr g q15 256 h, k_arr g qp 256 f, k_arr g q16 176 (fun _ => 0), k_arr g q17 16 (fun _ => 0), k_arr g q18 16 (fun _ => 0), (q19, .inl (g.2 3, 2, .inr (.inr (.inr (.inr (fun _ => none))))))]) rfl zf_S_34_5 ztS_ok znS rfl rfl (ztS_ok 4 (by decide)) rfl rfl (Nat.le_of_ble_eq_true rfl) rfl (pc := 114) dS_init_114 ?_
  refine k_aload_n hC (pc := 117) dS_init_117 rfl rfl ?_
  refine k_get hC 0 rfl rfl zf_S_34_5 (pc := 118) dS_init_118 ?_
  refine k_iconst hC (pc := 121) dS_init_121 zi_0 ?_
  refine k_new hC hF (ci := 1) (fs := [.int (nI 0), .int (nI 0), .long (lN 0), .long (lN 0), .null, .long (lN 0), .long (lN 0), .long (lN 0), .long (lN 0)]) ztH rfl zuH ztH_ok ⟨wx_S_32, wy_H, wn_H⟩ z_defH (Nat.le_of_ble_eq_true rfl) (Nat.le_of_ble_eq_true rfl) (pc := 122) dS_init_122 (fun q20 => ?_)
  refine k_ws hC (ws' := [(a, .inr (5, [.ref q1, .ref q10, .ref q12, .ref q14, .ref q19, .null])), (q1, .inl (g.2 2, 4, .inr (.inr (.inr (.inr (va_up (va_up (va_up (va_up (fun _ => none) 0 (some q2)) 1 (some q4)) 2 (some q6)) 3 (some q8))))))), (q2, .inr (2, [.ref q3, .int (nI 0)])), k_arr g q3 16 (fun _ => 0), (q4, .inr (2, [.ref q5, .int (nI 0)])), k_arr g q5 24 (fun _ => 0), (q6, .inr (2, [.ref q7, .int (nI 0)])), k_arr g q7 32 (fun _ => 0), (q8, .inr (2, [.ref q9, .int (nI 0)])), k_arr g q9 64 (fun _ => 0), (q10, .inr (2, [.ref q11, .int (nI 0)])), k_arr g q11 64 (fun _ => 0), (q12, .inr (2, [.ref q13, .int (nI 0)])), k_arr g q13 64 (fun _ => 0), (q14, .inr (0, [.ref q15, .ref q16, .ref q17, .ref q18])), k_arr g q15 256 h, k_arr g qp 256 f, k_arr g q16 176 (fun _ => 0), k_arr g q17 16 (fun _ => 0), k_arr g q18 16 (fun _ => 0), (q19, .inl (g.2 3, 2, .inr (.inr (.inr (.inr (fun _ => none)))))), (q20, .inr (1, [.int (nI 0), .int (nI 0), .long (lN 0), .long (lN 0), .null, .long (lN 0), .long (lN 0), .long (lN 0), .long (lN 0)]))]) rfl ?_
  refine k_dup hC (pc := 125) dS_init_125 rfl ?_
  refine k_iconst hC (pc := 126) dS_init_126 zi_1 ?_
  refine k_callI hC hF hA (pc := 127) (kH_init1 (i := 21) rfl) (by decide) zc_S_38 rfl rfl (Nat.le_of_ble_eq_true rfl) ⟨(Nat.le_of_ble_eq_true rfl), (Nat.le_of_ble_eq_true rfl)⟩ dS_init_127 (fun r W9 hE => ?_)
  obtain ⟨q21, rfl, rfl⟩ := hE
  refine k_r0 hC (k_ws hC (ws' := [(a, .inr (5, [.ref q1, .ref q10, .ref q12, .ref q14, .ref q19, .null])), (q1, .inl (g.2 2, 4, .inr (.inr (.inr (.inr (va_up (va_up (va_up (va_up (fun _ => none) 0 (some q2)) 1 (some q4)) 2 (some q6)) 3 (some q8))))))), (q2, .inr (2, [.ref q3, .int (nI 0)])), k_arr g q3 16 (fun _ => 0), (q4, .inr (2, [.ref q5, .int (nI 0)])), k_arr g q5 24 (fun _ => 0), (q6, .inr (2, [.ref q7, .int (nI 0)])), k_arr g q7 32 (fun _ => 0), (q8, .inr (2, [.ref q9, .int (nI 0)])), k_arr g q9 64 (fun _ => 0), (q10, .inr (2, [.ref q11, .int (nI 0)])), k_arr g q11 64 (fun _ => 0), (q12, .inr (2, [.ref q13, .int (nI 0)])), k_arr g q13 64 (fun _ => 0), (q14, .inr (0, [.ref q15, .ref q16, .ref q17, .ref q18])), k_arr g q15 256 h, k_arr g qp 256 f, k_arr g q16 176 (fun _ => 0), k_arr g q17 16 (fun _ => 0), k_arr g q18 16 (fun _ => 0), (q19, .inl (g.2 3, 2, .inr (.inr (.inr (.inr (fun _ => none)))))), (q20, .inr (1, [.int (nI 1), .int (nI 7), .long (lN 0), .long (lN 135), .ref q21, .long (lN 0), .long (lN 0), .long (lN 0), .long (lN 0)])), k_arr g q21 16 (fun _ => 0)]) rfl ?_)
  refine k_aastoreQ hC 20 3 21 1 (ws' := [(a, .inr (5, [.ref q1, .ref q10, .ref q12, .ref q14, .ref q19, .null])), (q1, .inl (g.2 2, 4, .inr (.inr (.inr (.inr (va_up (va_up (va_up (va_up (fun _ => none) 0 (some q2)) 1 (some q4)) 2 (some q6)) 3 (some q8))))))), (q2, .inr (2, [.ref q3, .int (nI 0)])), k_arr g q3 16 (fun _ => 0), (q4, .inr (2, [.ref q5, .int (nI 0)])), k_arr g q5 24 (fun _ => 0), (q6, .inr (2, [.ref q7, .int (nI 0)])), k_arr g q7 32 (fun _ => 0), (q8, .inr (2, [.ref q9, .int (nI 0)])), k_arr g q9 64 (fun _ => 0), (q10, .inr (2, [.ref q11, .int (nI 0)])), k_arr g q11 64 (fun _ => 0), (q12, .inr (2, [.ref q13, .int (nI 0)])), k_arr g q13 64 (fun _ => 0), (q14, .inr (0, [.ref q15, .ref q16, .ref q17, .ref q18])), k_arr g q15 256 h, k_arr g qp 256 f, k_arr g q16 176 (fun _ => 0), k_arr g q17 16 (fun _ => 0), k_arr g q18 16 (fun _ => 0), (q19, .inl (g.2 3, 2, .inr (.inr (.inr (.inr (va_up (fun _ => none) 0 (some q20))))))), (q20, .inr (1, [.int (nI 1), .int (nI 7), .long (lN 0), .long (lN 135), .ref q21, .long (lN 0), .long (lN 0), .long (lN 0), .long (lN 0)])), k_arr g q21 16 (fun _ => 0)]) rfl rfl rfl rfl (by decide) (by decide) rfl (pc := 130) dS_init_130 ?_
  refine k_aload_n hC (pc := 131) dS_init_131 rfl rfl ?_
  refine k_get hC 0 rfl rfl zf_S_34_5 (pc := 132) dS_init_132 ?_
  refine k_iconst hC (pc := 135) dS_init_135 zi_1 ?_
  refine k_new hC hF (ci := 1) (fs := [.int (nI 0), .int (nI 0), .long (lN 0), .long (lN 0), .null, .long (lN 0), .long (lN 0), .long (lN 0), .long (lN 0)]) ztH rfl zuH ztH_ok ⟨wx_S_32, wy_H, wn_H⟩ z_defH (Nat.le_of_ble_eq_true rfl) (Nat.le_of_ble_eq_true rfl) (pc := 136) dS_init_136 (fun q22 => ?_)
  refine k_ws hC (ws' := [(a, .inr (5, [.ref q1, .ref q10, .ref q12, .ref q14, .ref q19, .null])), (q1, .inl (g.2 2, 4, .inr (.inr (.inr (.inr (va_up (va_up (va_up (va_up (fun _ => none) 0 (some q2)) 1 (some q4)) 2 (some q6)) 3 (some q8))))))), (q2, .inr (2, [.ref q3, .int (nI 0)])), k_arr g q3 16 (fun _ => 0), (q4, .inr (2, [.ref q5, .int (nI 0)])), k_arr g q5 24 (fun _ => 0), (q6, .inr (2, [.ref q7, .int (nI 0)])), k_arr g q7 32 (fun _ => 0), (q8, .inr (2, [.ref q9, .int (nI 0)])), k_arr g q9 64 (fun _ => 0), (q10, .inr (2, [.ref q11, .int (nI 0)])), k_arr g q11 64 (fun _ => 0), (q12, .inr (2, [.ref q13, .int (nI 0)])), k_arr g q13 64 (fun _ => 0), (q14, .inr (0, [.ref q15, .ref q16, .ref q17, .ref q18])), k_arr g q15 256 h, k_arr g qp 256 f, k_arr g q16 176 (fun _ => 0), k_arr g q17 16 (fun _ => 0), k_arr g q18 16 (fun _ => 0), (q19, .inl (g.2 3, 2, .inr (.inr (.inr (.inr (va_up (fun _ => none) 0 (some q20))))))), (q20, .inr (1, [.int (nI 1), .int (nI 7), .long (lN 0), .long (lN 135), .ref q21, .long (lN 0), .long (lN 0), .long (lN 0), .long (lN 0)])), k_arr g q21 16 (fun _ => 0), (q22, .inr (1, [.int (nI 0), .int (nI 0), .long (lN 0), .long (lN 0), .null, .long (lN 0), .long (lN 0), .long (lN 0), .long (lN 0)]))]) rfl ?_
  refine k_dup hC (pc := 139) dS_init_139 rfl ?_
  refine k_iconst hC (pc := 140) dS_init_140 zi_0 ?_
  refine k_callI hC hF hA (pc := 141) (kH_init0 (i := 23) rfl) (by decide) zc_S_38 rfl rfl (Nat.le_of_ble_eq_true rfl) ⟨(Nat.le_of_ble_eq_true rfl), (Nat.le_of_ble_eq_true rfl)⟩ dS_init_141 (fun r W9 hE => ?_)
  obtain ⟨q23, rfl, rfl⟩ := hE
  refine k_r0 hC (k_ws hC (ws' := [(a, .inr (5, [.ref q1, .ref q10, .ref q12, .ref q14, .ref q19, .null])), (q1, .inl (g.2 2, 4, .inr (.inr (.inr (.inr (va_up (va_up (va_up (va_up (fun _ => none) 0 (some q2)) 1 (some q4)) 2 (some q6)) 3 (some q8))))))), (q2, .inr (2, [.ref q3, .int (nI 0)])), k_arr g q3 16 (fun _ => 0), (q4, .inr (2, [.ref q5, .int (nI 0)])), k_arr g q5 24 (fun _ => 0), (q6, .inr (2, [.ref q7, .int (nI 0)])), k_arr g q7 32 (fun _ => 0), (q8, .inr (2, [.ref q9, .int (nI 0)])), k_arr g q9 64 (fun _ => 0), (q10, .inr (2, [.ref q11, .int (nI 0)])), k_arr g q11 64 (fun _ => 0), (q12, .inr (2, [.ref q13, .int (nI 0)])), k_arr g q13 64 (fun _ => 0), (q14, .inr (0, [.ref q15, .ref q16, .ref q17, .ref q18])), k_arr g q15 256 h, k_arr g qp 256 f, k_arr g q16 176 (fun _ => 0), k_arr g q17 16 (fun _ => 0), k_arr g q18 16 (fun _ => 0), (q19, .inl (g.2 3, 2, .inr (.inr (.inr (.inr (va_up (fun _ => none) 0 (some q20))))))), (q20, .inr (1, [.int (nI 1), .int (nI 7), .long (lN 0), .long (lN 135), .ref q21, .long (lN 0), .long (lN 0), .long (lN 0), .long (lN 0)])), k_arr g q21 16 (fun _ => 0), (q22, .inr (1, [.int (nI 0), .int (nI 0), .long (lN 13979173243358019584), .long (lN 1), .ref q23, .long (lN 0), .long (lN 0), .long (lN 0), .long (lN 0)])), k_arr g q23 16 (fun _ => 0)]) rfl ?_)
  refine k_aastoreQ hC 20 3 23 1 (ws' := [(a, .inr (5, [.ref q1, .ref q10, .ref q12, .ref q14, .ref q19, .null])), (q1, .inl (g.2 2, 4, .inr (.inr (.inr (.inr (va_up (va_up (va_up (va_up (fun _ => none) 0 (some q2)) 1 (some q4)) 2 (some q6)) 3 (some q8))))))), (q2, .inr (2, [.ref q3, .int (nI 0)])), k_arr g q3 16 (fun _ => 0), (q4, .inr (2, [.ref q5, .int (nI 0)])), k_arr g q5 24 (fun _ => 0), (q6, .inr (2, [.ref q7, .int (nI 0)])), k_arr g q7 32 (fun _ => 0), (q8, .inr (2, [.ref q9, .int (nI 0)])), k_arr g q9 64 (fun _ => 0), (q10, .inr (2, [.ref q11, .int (nI 0)])), k_arr g q11 64 (fun _ => 0), (q12, .inr (2, [.ref q13, .int (nI 0)])), k_arr g q13 64 (fun _ => 0), (q14, .inr (0, [.ref q15, .ref q16, .ref q17, .ref q18])), k_arr g q15 256 h, k_arr g qp 256 f, k_arr g q16 176 (fun _ => 0), k_arr g q17 16 (fun _ => 0), k_arr g q18 16 (fun _ => 0), (q19, .inl (g.2 3, 2, .inr (.inr (.inr (.inr (va_up (va_up (fun _ => none) 0 (some q20)) 1 (some q22))))))), (q20, .inr (1, [.int (nI 1), .int (nI 7), .long (lN 0), .long (lN 135), .ref q21, .long (lN 0), .long (lN 0), .long (lN 0), .long (lN 0)])), k_arr g q21 16 (fun _ => 0), (q22, .inr (1, [.int (nI 0), .int (nI 0), .long (lN 13979173243358019584), .long (lN 1), .ref q23, .long (lN 0), .long (lN 0), .long (lN 0), .long (lN 0)])), k_arr g q23 16 (fun _ => 0)]) rfl rfl rfl rfl (by decide) (by decide) rfl (pc := 144) dS_init_144 ?_
  refine k_aload_n hC (pc := 145) dS_init_145 rfl rfl ?_
  refine k_iconst hC (pc := 146) dS_init_146 zi_2 ?_
  refine k_newA hC hF (t := 4) (hA.1 "TwoSeals$Way" (by decide)) rfl wx_S_41 (by decide) (Nat.le_of_ble_eq_true rfl) (Nat.le_of_ble_eq_true rfl) (pc := 147) dS_init_147 (fun q24 => ?_)
  refine k_ws hC (ws' := [(a, .inr (5, [.ref q1, .ref q10, .ref q12, .ref q14, .ref q19, .null])), (q1, .inl (g.2 2, 4, .inr (.inr (.inr (.inr (va_up (va_up (va_up (va_up (fun _ => none) 0 (some q2)) 1 (some q4)) 2 (some q6)) 3 (some q8))))))), (q2, .inr (2, [.ref q3, .int (nI 0)])), k_arr g q3 16 (fun _ => 0), (q4, .inr (2, [.ref q5, .int (nI 0)])), k_arr g q5 24 (fun _ => 0), (q6, .inr (2, [.ref q7, .int (nI 0)])), k_arr g q7 32 (fun _ => 0), (q8, .inr (2, [.ref q9, .int (nI 0)])), k_arr g q9 64 (fun _ => 0), (q10, .inr (2, [.ref q11, .int (nI 0)])), k_arr g q11 64 (fun _ => 0), (q12, .inr (2, [.ref q13, .int (nI 0)])), k_arr g q13 64 (fun _ => 0), (q14, .inr (0, [.ref q15, .ref q16, .ref q17, .ref q18])), k_arr g q15 256 h, k_arr g qp 256 f, k_arr g q16 176 (fun _ => 0), k_arr g q17 16 (fun _ => 0), k_arr g q18 16 (fun _ => 0), (q19, .inl (g.2 3, 2, .inr (.inr (.inr (.inr (va_up (va_up (fun _ => none) 0 (some q20)) 1 (some q22))))))), (q20, .inr (1, [.int (nI 1), .int (nI 7), .long (lN 0), .long (lN 135), .ref q21, .long (lN 0), .long (lN 0), .long (lN 0), .long (lN 0)])), k_arr g q21 16 (fun _ => 0), (q22, .inr (1, [.int (nI 0), .int (nI 0), .long (lN 13979173243358019584), .long (lN 1), .ref q23, .long (lN 0), .long (lN 0), .long (lN 0), .long (lN 0)])), k_arr g q23 16 (fun _ => 0), (q24, .inl (g.2 4, 2, .inr (.inr (.inr (.inr (fun _ => none))))))]) rfl ?_
  refine k_putF hC hin 0 (ws' := [(a, .inr (5, [.ref q1, .ref q10, .ref q12, .ref q14, .ref q19, .ref q24])), (q1, .inl (g.2 2, 4, .inr (.inr (.inr (.inr (va_up (va_up (va_up (va_up (fun _ => none) 0 (some q2)) 1 (some q4)) 2 (some q6)) 3 (some q8))))))), (q2, .inr (2, [.ref q3, .int (nI 0)])), k_arr g q3 16 (fun _ => 0), (q4, .inr (2, [.ref q5, .int (nI 0)])), k_arr g q5 24 (fun _ => 0), (q6, .inr (2, [.ref q7, .int (nI 0)])), k_arr g q7 32 (fun _ => 0), (q8, .inr (2, [.ref q9, .int (nI 0)])), k_arr g q9 64 (fun _ => 0), (q10, .inr (2, [.ref q11, .int (nI 0)])), k_arr g q11 64 (fun _ => 0), (q12, .inr (2, [.ref q13, .int (nI 0)])), k_arr g q13 64 (fun _ => 0), (q14, .inr (0, [.ref q15, .ref q16, .ref q17, .ref q18])), k_arr g q15 256 h, k_arr g qp 256 f, k_arr g q16 176 (fun _ => 0), k_arr g q17 16 (fun _ => 0), k_arr g q18 16 (fun _ => 0), (q19, .inl (g.2 3, 2, .inr (.inr (.inr (.inr (va_up (va_up (fun _ => none) 0 (some q20)) 1 (some q22))))))), (q20, .inr (1, [.int (nI 1), .int (nI 7), .long (lN 0), .long (lN 135), .ref q21, .long (lN 0), .long (lN 0), .long (lN 0), .long (lN 0)])), k_arr g q21 16 (fun _ => 0), (q22, .inr (1, [.int (nI 0), .int (nI 0), .long (lN 13979173243358019584), .long (lN 1), .ref q23, .long (lN 0), .long (lN 0), .long (lN 0), .long (lN 0)])), k_arr g q23 16 (fun _ => 0), (q24, .inl (g.2 4, 2, .inr (.inr (.inr (.inr (fun _ => none))))))]) rfl zf_S_43_5 ztS_ok znS rfl rfl (ztS_ok 5 (by decide)) rfl rfl (Nat.le_of_ble_eq_true rfl) rfl (pc := 150) dS_init_150 ?_
  refine k_aload_n hC (pc := 153) dS_init_153 rfl rfl ?_
  refine k_get hC 0 rfl rfl zf_S_43_5 (pc := 154) dS_init_154 ?_
  refine k_iconst hC (pc := 157) dS_init_157 zi_0 ?_
  refine k_new hC hF (ci := 4) (fs := [.null, .null, .null, .null, .null, .null, .null, .null]) ztZ rfl zuZ ztZ_ok ⟨wx_S_47, wy_Z, wn_Z⟩ z_defZ (Nat.le_of_ble_eq_true rfl) (Nat.le_of_ble_eq_true rfl) (pc := 158) dS_init_158 (fun q25 => ?_)
  refine k_ws hC (ws' := [(a, .inr (5, [.ref q1, .ref q10, .ref q12, .ref q14, .ref q19, .ref q24])), (q1, .inl (g.2 2, 4, .inr (.inr (.inr (.inr (va_up (va_up (va_up (va_up (fun _ => none) 0 (some q2)) 1 (some q4)) 2 (some q6)) 3 (some q8))))))), (q2, .inr (2, [.ref q3, .int (nI 0)])), k_arr g q3 16 (fun _ => 0), (q4, .inr (2, [.ref q5, .int (nI 0)])), k_arr g q5 24 (fun _ => 0), (q6, .inr (2, [.ref q7, .int (nI 0)])), k_arr g q7 32 (fun _ => 0), (q8, .inr (2, [.ref q9, .int (nI 0)])), k_arr g q9 64 (fun _ => 0), (q10, .inr (2, [.ref q11, .int (nI 0)])), k_arr g q11 64 (fun _ => 0), (q12, .inr (2, [.ref q13, .int (nI 0)])), k_arr g q13 64 (fun _ => 0), (q14, .inr (0, [.ref q15, .ref q16, .ref q17, .ref q18])), k_arr g q15 256 h, k_arr g qp 256 f, k_arr g q16 176 (fun _ => 0), k_arr g q17 16 (fun _ => 0), k_arr g q18 16 (fun _ => 0), (q19, .inl (g.2 3, 2, .inr (.inr (.inr (.inr (va_up (va_up (fun _ => none) 0 (some q20)) 1 (some q22))))))), (q20, .inr (1, [.int (nI 1), .int (nI 7), .long (lN 0), .long (lN 135), .ref q21, .long (lN 0), .long (lN 0), .long (lN 0), .long (lN 0)])), k_arr g q21 16 (fun _ => 0), (q22, .inr (1, [.int (nI 0), .int (nI 0), .long (lN 13979173243358019584), .long (lN 1), .ref q23, .long (lN 0), .long (lN 0), .long (lN 0), .long (lN 0)])), k_arr g q23 16 (fun _ => 0), (q24, .inl (g.2 4, 2, .inr (.inr (.inr (.inr (fun _ => none)))))), (q25, .inr (4, [.null, .null, .null, .null, .null, .null, .null, .null]))]) rfl ?_
  refine k_dup hC (pc := 161) dS_init_161 rfl ?_
  refine k_aload_n hC (pc := 162) dS_init_162 rfl rfl ?_
  refine k_get hC 0 rfl rfl zf_S_28_5 (pc := 163) dS_init_163 ?_
  refine k_aload_n hC (pc := 166) dS_init_166 rfl rfl ?_
  refine k_get hC 0 rfl rfl zf_S_34_5 (pc := 167) dS_init_167 ?_
  refine k_iconst hC (pc := 170) dS_init_170 zi_0 ?_
  refine k_aaload hC 20 3 rfl rfl (by decide) (by decide) rfl (pc := 171) dS_init_171 ?_
  refine k_callI hC hF hA (pc := 172) (kZ_init (i := 26) rfl) (by decide) zc_S_49 rfl rfl (Nat.le_of_ble_eq_true rfl) ⟨(Nat.le_of_ble_eq_true rfl), (Nat.le_of_ble_eq_true rfl)⟩ dS_init_172 (fun r W9 hE => ?_)
  obtain ⟨q26, q27, q28, q29, q30, q31, rfl, rfl⟩ := hE
  refine k_r0 hC (k_ws hC (ws' := [(a, .inr (5, [.ref q1, .ref q10, .ref q12, .ref q14, .ref q19, .ref q24])), (q1, .inl (g.2 2, 4, .inr (.inr (.inr (.inr (va_up (va_up (va_up (va_up (fun _ => none) 0 (some q2)) 1 (some q4)) 2 (some q6)) 3 (some q8))))))), (q2, .inr (2, [.ref q3, .int (nI 0)])), k_arr g q3 16 (fun _ => 0), (q4, .inr (2, [.ref q5, .int (nI 0)])), k_arr g q5 24 (fun _ => 0), (q6, .inr (2, [.ref q7, .int (nI 0)])), k_arr g q7 32 (fun _ => 0), (q8, .inr (2, [.ref q9, .int (nI 0)])), k_arr g q9 64 (fun _ => 0), (q10, .inr (2, [.ref q11, .int (nI 0)])), k_arr g q11 64 (fun _ => 0), (q12, .inr (2, [.ref q13, .int (nI 0)])), k_arr g q13 64 (fun _ => 0), (q14, .inr (0, [.ref q15, .ref q16, .ref q17, .ref q18])), k_arr g q15 256 h, k_arr g qp 256 f, k_arr g q16 176 (fun _ => 0), k_arr g q17 16 (fun _ => 0), k_arr g q18 16 (fun _ => 0), (q19, .inl (g.2 3, 2, .inr (.inr (.inr (.inr (va_up (va_up (fun _ => none) 0 (some q20)) 1 (some q22))))))), (q20, .inr (1, [.int (nI 1), .int (nI 7), .long (lN 0), .long (lN 135), .ref q21, .long (lN 0), .long (lN 0), .long (lN 0), .long (lN 0)])), k_arr g q21 16 (fun _ => 0), (q22, .inr (1, [.int (nI 0), .int (nI 0), .long (lN 13979173243358019584), .long (lN 1), .ref q23, .long (lN 0), .long (lN 0), .long (lN 0), .long (lN 0)])), k_arr g q23 16 (fun _ => 0), (q24, .inl (g.2 4, 2, .inr (.inr (.inr (.inr (fun _ => none)))))), (q25, .inr (4, [.ref q14, .ref q20, .ref q26, .ref q27, .ref q28, .ref q29, .ref q30, .ref q31])), k_arr g q26 16 (fun _ => 0), k_arr g q27 16 (fun _ => 0), k_arr g q28 16 (fun _ => 0), k_arr g q29 16 (fun _ => 0), k_arr g q30 16 (fun _ => 0), k_arr g q31 16 (fun _ => 0)]) rfl ?_)
  refine k_aastore hC 25 4 26 4 (ws' := [(a, .inr (5, [.ref q1, .ref q10, .ref q12, .ref q14, .ref q19, .ref q24])), (q1, .inl (g.2 2, 4, .inr (.inr (.inr (.inr (va_up (va_up (va_up (va_up (fun _ => none) 0 (some q2)) 1 (some q4)) 2 (some q6)) 3 (some q8))))))), (q2, .inr (2, [.ref q3, .int (nI 0)])), k_arr g q3 16 (fun _ => 0), (q4, .inr (2, [.ref q5, .int (nI 0)])), k_arr g q5 24 (fun _ => 0), (q6, .inr (2, [.ref q7, .int (nI 0)])), k_arr g q7 32 (fun _ => 0), (q8, .inr (2, [.ref q9, .int (nI 0)])), k_arr g q9 64 (fun _ => 0), (q10, .inr (2, [.ref q11, .int (nI 0)])), k_arr g q11 64 (fun _ => 0), (q12, .inr (2, [.ref q13, .int (nI 0)])), k_arr g q13 64 (fun _ => 0), (q14, .inr (0, [.ref q15, .ref q16, .ref q17, .ref q18])), k_arr g q15 256 h, k_arr g qp 256 f, k_arr g q16 176 (fun _ => 0), k_arr g q17 16 (fun _ => 0), k_arr g q18 16 (fun _ => 0), (q19, .inl (g.2 3, 2, .inr (.inr (.inr (.inr (va_up (va_up (fun _ => none) 0 (some q20)) 1 (some q22))))))), (q20, .inr (1, [.int (nI 1), .int (nI 7), .long (lN 0), .long (lN 135), .ref q21, .long (lN 0), .long (lN 0), .long (lN 0), .long (lN 0)])), k_arr g q21 16 (fun _ => 0), (q22, .inr (1, [.int (nI 0), .int (nI 0), .long (lN 13979173243358019584), .long (lN 1), .ref q23, .long (lN 0), .long (lN 0), .long (lN 0), .long (lN 0)])), k_arr g q23 16 (fun _ => 0), (q24, .inl (g.2 4, 2, .inr (.inr (.inr (.inr (va_up (fun _ => none) 0 (some q25))))))), (q25, .inr (4, [.ref q14, .ref q20, .ref q26, .ref q27, .ref q28, .ref q29, .ref q30, .ref q31])), k_arr g q26 16 (fun _ => 0), k_arr g q27 16 (fun _ => 0), k_arr g q28 16 (fun _ => 0), k_arr g q29 16 (fun _ => 0), k_arr g q30 16 (fun _ => 0), k_arr g q31 16 (fun _ => 0)]) rfl rfl (hA.2 ("TwoSeals$WayZero", "TwoSeals$Way") (by decide)) rfl rfl (by decide) (by decide) rfl (pc := 175) dS_init_175 ?_
  refine k_aload_n hC (pc := 176) dS_init_176 rfl rfl ?_
  refine k_get hC 0 rfl rfl zf_S_43_5 (pc := 177) dS_init_177 ?_
  refine k_iconst hC (pc := 180) dS_init_180 zi_1 ?_
  refine k_new hC hF (ci := 3) (fs := [.null, .null, .null, .null, .null, .null, .null, .null]) ztO rfl zuO ztO_ok ⟨wx_S_52, wy_O, wn_O⟩ z_defO (Nat.le_of_ble_eq_true rfl) (Nat.le_of_ble_eq_true rfl) (pc := 181) dS_init_181 (fun q32 => ?_)
  refine k_ws hC (ws' := [(a, .inr (5, [.ref q1, .ref q10, .ref q12, .ref q14, .ref q19, .ref q24])), (q1, .inl (g.2 2, 4, .inr (.inr (.inr (.inr (va_up (va_up (va_up (va_up (fun _ => none) 0 (some q2)) 1 (some q4)) 2 (some q6)) 3 (some q8))))))), (q2, .inr (2, [.ref q3, .int (nI 0)])), k_arr g q3 16 (fun _ => 0), (q4, .inr (2, [.ref q5, .int (nI 0)])), k_arr g q5 24 (fun _ => 0), (q6, .inr (2, [.ref q7, .int (nI 0)])), k_arr g q7 32 (fun _ => 0), (q8, .inr (2, [.ref q9, .int (nI 0)])), k_arr g q9 64 (fun _ => 0), (q10, .inr (2, [.ref q11, .int (nI 0)])), k_arr g q11 64 (fun _ => 0), (q12, .inr (2, [.ref q13, .int (nI 0)])), k_arr g q13 64 (fun _ => 0), (q14, .inr (0, [.ref q15, .ref q16, .ref q17, .ref q18])), k_arr g q15 256 h, k_arr g qp 256 f, k_arr g q16 176 (fun _ => 0), k_arr g q17 16 (fun _ => 0), k_arr g q18 16 (fun _ => 0), (q19, .inl (g.2 3, 2, .inr (.inr (.inr (.inr (va_up (va_up (fun _ => none) 0 (some q20)) 1 (some q22))))))), (q20, .inr (1, [.int (nI 1), .int (nI 7), .long (lN 0), .long (lN 135), .ref q21, .long (lN 0), .long (lN 0), .long (lN 0), .long (lN 0)])), k_arr g q21 16 (fun _ => 0), (q22, .inr (1, [.int (nI 0), .int (nI 0), .long (lN 13979173243358019584), .long (lN 1), .ref q23, .long (lN 0), .long (lN 0), .long (lN 0), .long (lN 0)])), k_arr g q23 16 (fun _ => 0), (q24, .inl (g.2 4, 2, .inr (.inr (.inr (.inr (va_up (fun _ => none) 0 (some q25))))))), (q25, .inr (4, [.ref q14, .ref q20, .ref q26, .ref q27, .ref q28, .ref q29, .ref q30, .ref q31])), k_arr g q26 16 (fun _ => 0), k_arr g q27 16 (fun _ => 0), k_arr g q28 16 (fun _ => 0), k_arr g q29 16 (fun _ => 0), k_arr g q30 16 (fun _ => 0), k_arr g q31 16 (fun _ => 0), (q32, .inr (3, [.null, .null, .null, .null, .null, .null, .null, .null]))]) rfl ?_
  refine k_dup hC (pc := 184) dS_init_184 rfl ?_
  refine k_aload_n hC (pc := 185) dS_init_185 rfl rfl ?_
  refine k_get hC 0 rfl rfl zf_S_28_5 (pc := 186) dS_init_186 ?_
  refine k_aload_n hC (pc := 189) dS_init_189 rfl rfl ?_
  refine k_get hC 0 rfl rfl zf_S_34_5 (pc := 190) dS_init_190 ?_
  refine k_iconst hC (pc := 193) dS_init_193 zi_1 ?_
  refine k_aaload hC 20 3 rfl rfl (by decide) (by decide) rfl (pc := 194) dS_init_194 ?_
  refine k_callI hC hF hA (pc := 195) (kO_init (i := 33) rfl) (by decide) zc_S_54 rfl rfl (Nat.le_of_ble_eq_true rfl) ⟨(Nat.le_of_ble_eq_true rfl), (Nat.le_of_ble_eq_true rfl)⟩ dS_init_195 (fun r W9 hE => ?_)
  obtain ⟨q33, q34, q35, q36, q37, q38, rfl, rfl⟩ := hE
  refine k_r0 hC (k_ws hC (ws' := [(a, .inr (5, [.ref q1, .ref q10, .ref q12, .ref q14, .ref q19, .ref q24])), (q1, .inl (g.2 2, 4, .inr (.inr (.inr (.inr (va_up (va_up (va_up (va_up (fun _ => none) 0 (some q2)) 1 (some q4)) 2 (some q6)) 3 (some q8))))))), (q2, .inr (2, [.ref q3, .int (nI 0)])), k_arr g q3 16 (fun _ => 0), (q4, .inr (2, [.ref q5, .int (nI 0)])), k_arr g q5 24 (fun _ => 0), (q6, .inr (2, [.ref q7, .int (nI 0)])), k_arr g q7 32 (fun _ => 0), (q8, .inr (2, [.ref q9, .int (nI 0)])), k_arr g q9 64 (fun _ => 0), (q10, .inr (2, [.ref q11, .int (nI 0)])), k_arr g q11 64 (fun _ => 0), (q12, .inr (2, [.ref q13, .int (nI 0)])), k_arr g q13 64 (fun _ => 0), (q14, .inr (0, [.ref q15, .ref q16, .ref q17, .ref q18])), k_arr g q15 256 h, k_arr g qp 256 f, k_arr g q16 176 (fun _ => 0), k_arr g q17 16 (fun _ => 0), k_arr g q18 16 (fun _ => 0), (q19, .inl (g.2 3, 2, .inr (.inr (.inr (.inr (va_up (va_up (fun _ => none) 0 (some q20)) 1 (some q22))))))), (q20, .inr (1, [.int (nI 1), .int (nI 7), .long (lN 0), .long (lN 135), .ref q21, .long (lN 0), .long (lN 0), .long (lN 0), .long (lN 0)])), k_arr g q21 16 (fun _ => 0), (q22, .inr (1, [.int (nI 0), .int (nI 0), .long (lN 13979173243358019584), .long (lN 1), .ref q23, .long (lN 0), .long (lN 0), .long (lN 0), .long (lN 0)])), k_arr g q23 16 (fun _ => 0), (q24, .inl (g.2 4, 2, .inr (.inr (.inr (.inr (va_up (fun _ => none) 0 (some q25))))))), (q25, .inr (4, [.ref q14, .ref q20, .ref q26, .ref q27, .ref q28, .ref q29, .ref q30, .ref q31])), k_arr g q26 16 (fun _ => 0), k_arr g q27 16 (fun _ => 0), k_arr g q28 16 (fun _ => 0), k_arr g q29 16 (fun _ => 0), k_arr g q30 16 (fun _ => 0), k_arr g q31 16 (fun _ => 0), (q32, .inr (3, [.ref q14, .ref q22, .ref q33, .ref q34, .ref q35, .ref q36, .ref q37, .ref q38])), k_arr g q33 16 (fun _ => 0), k_arr g q34 16 (fun _ => 0), k_arr g q35 16 (fun _ => 0), k_arr g q36 16 (fun _ => 0), k_arr g q37 16 (fun _ => 0), k_arr g q38 16 (fun _ => 0)]) rfl ?_)
  refine k_aastore hC 25 4 33 3 (ws' := [(a, .inr (5, [.ref q1, .ref q10, .ref q12, .ref q14, .ref q19, .ref q24])), (q1, .inl (g.2 2, 4, .inr (.inr (.inr (.inr (va_up (va_up (va_up (va_up (fun _ => none) 0 (some q2)) 1 (some q4)) 2 (some q6)) 3 (some q8))))))), (q2, .inr (2, [.ref q3, .int (nI 0)])), k_arr g q3 16 (fun _ => 0), (q4, .inr (2, [.ref q5, .int (nI 0)])), k_arr g q5 24 (fun _ => 0), (q6, .inr (2, [.ref q7, .int (nI 0)])), k_arr g q7 32 (fun _ => 0), (q8, .inr (2, [.ref q9, .int (nI 0)])), k_arr g q9 64 (fun _ => 0), (q10, .inr (2, [.ref q11, .int (nI 0)])), k_arr g q11 64 (fun _ => 0), (q12, .inr (2, [.ref q13, .int (nI 0)])), k_arr g q13 64 (fun _ => 0), (q14, .inr (0, [.ref q15, .ref q16, .ref q17, .ref q18])), k_arr g q15 256 h, k_arr g qp 256 f, k_arr g q16 176 (fun _ => 0), k_arr g q17 16 (fun _ => 0), k_arr g q18 16 (fun _ => 0), (q19, .inl (g.2 3, 2, .inr (.inr (.inr (.inr (va_up (va_up (fun _ => none) 0 (some q20)) 1 (some q22))))))), (q20, .inr (1, [.int (nI 1), .int (nI 7), .long (lN 0), .long (lN 135), .ref q21, .long (lN 0), .long (lN 0), .long (lN 0), .long (lN 0)])), k_arr g q21 16 (fun _ => 0), (q22, .inr (1, [.int (nI 0), .int (nI 0), .long (lN 13979173243358019584), .long (lN 1), .ref q23, .long (lN 0), .long (lN 0), .long (lN 0), .long (lN 0)])), k_arr g q23 16 (fun _ => 0), (q24, .inl (g.2 4, 2, .inr (.inr (.inr (.inr (va_up (va_up (fun _ => none) 0 (some q25)) 1 (some q32))))))), (q25, .inr (4, [.ref q14, .ref q20, .ref q26, .ref q27, .ref q28, .ref q29, .ref q30, .ref q31])), k_arr g q26 16 (fun _ => 0), k_arr g q27 16 (fun _ => 0), k_arr g q28 16 (fun _ => 0), k_arr g q29 16 (fun _ => 0), k_arr g q30 16 (fun _ => 0), k_arr g q31 16 (fun _ => 0), (q32, .inr (3, [.ref q14, .ref q22, .ref q33, .ref q34, .ref q35, .ref q36, .ref q37, .ref q38])), k_arr g q33 16 (fun _ => 0), k_arr g q34 16 (fun _ => 0), k_arr g q35 16 (fun _ => 0), k_arr g q36 16 (fun _ => 0), k_arr g q37 16 (fun _ => 0), k_arr g q38 16 (fun _ => 0)]) rfl rfl (hA.2 ("TwoSeals$WayOne", "TwoSeals$Way") (by decide)) rfl rfl (by decide) (by decide) rfl (pc := 198) dS_init_198 ?_
  refine k_sub hC (ws' := [(a, .inr (5, [.ref q1, .ref q10, .ref q12, .ref q14, .ref q19, .ref q24])), (q1, .inl (g.2 2, 4, .inr (.inr (.inr (.inr (va_up (va_up (va_up (va_up (fun _ => none) 0 (some q2)) 1 (some q4)) 2 (some q6)) 3 (some q8))))))), (q2, .inr (2, [.ref q3, .int (nI 0)])), k_arr g q3 16 (fun _ => 0), (q4, .inr (2, [.ref q5, .int (nI 0)])), k_arr g q5 24 (fun _ => 0), (q6, .inr (2, [.ref q7, .int (nI 0)])), k_arr g q7 32 (fun _ => 0), (q8, .inr (2, [.ref q9, .int (nI 0)])), k_arr g q9 64 (fun _ => 0), (q10, .inr (2, [.ref q11, .int (nI 0)])), k_arr g q11 64 (fun _ => 0), (q12, .inr (2, [.ref q13, .int (nI 0)])), k_arr g q13 64 (fun _ => 0), (q14, .inr (0, [.ref q15, .ref q16, .ref q17, .ref q18])), k_arr g q15 256 h, k_arr g q16 176 (fun _ => 0), k_arr g q17 16 (fun _ => 0), k_arr g q18 16 (fun _ => 0), (q19, .inl (g.2 3, 2, .inr (.inr (.inr (.inr (va_up (va_up (fun _ => none) 0 (some q20)) 1 (some q22))))))), (q20, .inr (1, [.int (nI 1), .int (nI 7), .long (lN 0), .long (lN 135), .ref q21, .long (lN 0), .long (lN 0), .long (lN 0), .long (lN 0)])), k_arr g q21 16 (fun _ => 0), (q22, .inr (1, [.int (nI 0), .int (nI 0), .long (lN 13979173243358019584), .long (lN 1), .ref q23, .long (lN 0), .long (lN 0), .long (lN 0), .long (lN 0)])), k_arr g q23 16 (fun _ => 0), (q24, .inl (g.2 4, 2, .inr (.inr (.inr (.inr (va_up (va_up (fun _ => none) 0 (some q25)) 1 (some q32))))))), (q25, .inr (4, [.ref q14, .ref q20, .ref q26, .ref q27, .ref q28, .ref q29, .ref q30, .ref q31])), k_arr g q26 16 (fun _ => 0), k_arr g q27 16 (fun _ => 0), k_arr g q28 16 (fun _ => 0), k_arr g q29 16 (fun _ => 0), k_arr g q30 16 (fun _ => 0), k_arr g q31 16 (fun _ => 0), (q32, .inr (3, [.ref q14, .ref q22, .ref q33, .ref q34, .ref q35, .ref q36, .ref q37, .ref q38])), k_arr g q33 16 (fun _ => 0), k_arr g q34 16 (fun _ => 0), k_arr g q35 16 (fun _ => 0), k_arr g q36 16 (fun _ => 0), k_arr g q37 16 (fun _ => 0), k_arr g q38 16 (fun _ => 0)]) [0, 1, 2, 3, 4, 5, 6, 7, 8, 9, 10, 11, 12, 13, 14, 15, 17, 18, 19, 20, 21, 22, 23, 24, 25, 26, 27, 28, 29, 30, 31, 32, 33, 34, 35, 36, 37, 38, 39] (by decide) rfl rfl ?_
  exact k_ret hB (pc := 199) (r := none) dS_init_199 ⟨(fun k => [a, q1, q2, q3, q4, q5, q6, q7, q8, q9, q10, q11, q12, q13, q14, q15, q16, q17, q18, q19, q20, q21, q22, q23, q24, q25, q26, q27, q28, q29, q30, q31, q32, q33, q34, q35, q36, q37, q38].getD k 0), h, hh, rfl, rfl, zS_w g (fun k => [a, q1, q2, q3, q4, q5, q6, q7, q8, q9, q10, q11, q12, q13, q14, q15, q16, q17, q18, q19, q20, q21, q22, q23, q24, q25, q26, q27, q28, q29, q30, q31, q32, q33, q34, q35, q36, q37, q38].getD k 0) h⟩ (Nat.le_of_ble_eq_true rfl) (Nat.le_of_ble_eq_true rfl)
end
def zinl : List Nat := [0, 1, 141, 246, 203, 82, 123, 209, 232, 79, 41, 192, 176, 225, 229, 199, 116, 180, 170, 75, 153, 43, 96, 95, 88, 63, 253, 204, 255, 64, 238, 178, 58, 110, 90, 241, 85, 77, 168, 201, 193, 10, 152, 21, 48, 68, 162, 194, 44, 69, 146, 108, 243, 57, 102, 66, 242, 53, 32, 111, 119, 187, 89, 25, 29, 254, 55, 103, 45, 49, 245, 105, 167, 100, 171, 19, 84, 37, 233, 9, 237, 92, 5, 202, 76, 36, 135, 191, 24, 62, 34, 240, 81, 236, 97, 23, 22, 94, 175, 211, 73, 166, 54, 67, 244, 71, 145, 223, 51, 147, 33, 59, 121, 183, 151, 133, 16, 181, 186, 60, 182, 112, 208, 6, 161, 250, 129, 130, 131, 126, 127, 128, 150, 115, 190, 86, 155, 158, 149, 217, 247, 2, 185, 164, 222, 106, 50, 109, 216, 138, 132, 114, 42, 20, 159, 136, 249, 220, 137, 154, 251, 124, 46, 195, 143, 184, 101, 72, 38, 200, 18, 74, 206, 231, 210, 98, 12, 224, 31, 239, 17, 117, 120, 113, 165, 142, 118, 61, 189, 188, 134, 87, 11, 40, 47, 163, 218, 212, 228, 15, 169, 39, 83, 4, 27, 252, 172, 230, 122, 7, 174, 99, 197, 219, 226, 234, 148, 139, 196, 213, 157, 248, 144, 107, 177, 13, 214, 235, 198, 14, 207, 173, 8, 78, 215, 227, 93, 80, 30, 179, 91, 35, 56, 52, 104, 70, 3, 140, 221, 156, 125, 160, 205, 26, 65, 28]
def zin (j : Nat) : Nat := zinl.getD j 0
theorem zin_lt : ∀ a, a < 256 → zin a < 256 := by decide +kernel
theorem zin_sp : ∀ a, a < 256 → z_sp (zin a) = zS a := by decide +kernel
theorem zin_1 : ∀ a, a < 256 → 0 < a → ztm a (zin a) = 1 := by decide +kernel
theorem zin_no : ∀ a, a < 256 → ∀ b, b < zin a → ztm a b ≠ 1 := by decide +kernel
theorem zin_z {t b : Nat} (hb : b < zin t) (h : t = 0) : False := by
  subst h
  exact Nat.not_lt_zero _ hb
theorem ztmS_lt1 {a : Nat} (ha : a < 256) (b : Nat) : ∀ k, (ztmS a b k).1 < 256
  | 0 => by show 0 < 256; decide
  | k + 1 => by
    unfold ztmS
    split
    · exact Nat.xor_lt_two_pow (n := 8) (ztmS_lt1 ha b k) (ztmS_lt ha b k)
    · exact ztmS_lt1 ha b k
theorem ztm_lt {a : Nat} (ha : a < 256) (b : Nat) : ztm a b < 256 := ztmS_lt1 ha b 8
section
variable {l : Launch} {g : z_G} {ws : va_W}
theorem kM_init {i a : Nat} (hi : ws[i]? = some (a, .inr (6, [.int (nI 0), .null, .null, .int (nI 0), .null, .null, .null, .null, .null, .null, .null, .null, .null, .null, .null, .null]))) : k_Met l g mM_init ⟨2, 14, 1428, 100⟩ [.ref a] ws (fun r W => ∃ q0 q1 q2 q3 q4 q5 q6 q7 q8 q9 q10 q11 q12 q13 f, (∀ j, j < 256 → f j = zS j) ∧ r = none ∧ W = kw ws i a 6 [.int (nI 0), .ref q0, .ref q1, .int (nI 0), .ref q2, .ref q3, .ref q4, .ref q5, .ref q6, .ref q7, .ref q8, .ref q9, .ref q10, .ref q11, .ref q12, .ref q13] [k_arr g q0 320 (fun _ => 0), k_arr g q1 4 (fun _ => 0), k_arr g q2 64 (fun _ => 0), k_arr g q3 176 (fun _ => 0), k_arr g q4 16 (fun _ => 0), k_arr g q5 16 (fun _ => 0), k_arr g q6 256 f, k_arr g q7 16 (fun _ => 0), k_arr g q8 16 (fun _ => 0), k_arr g q9 128 (fun _ => 0), k_arr g q10 128 (fun _ => 0), k_arr g q11 256 (fun _ => 0), k_arr g q12 16 (fun _ => 0), k_arr g q13 16 (fun _ => 0)]) := by
  refine k_Met.of (L := [(0, _)]) (by decide) (Nat.le_of_ble_eq_true rfl) (fun r W h => by obtain ⟨_, _, _, _, _, _, _, _, _, _, _, _, _, _, _, _, rfl, _⟩ := h; rfl) rfl ?_
  intro p e s m args below meth c F Q hB
  have hC := hB.1
  have hF := hB.2.1
  have hA := hB.2.2.2.1
  have hin : meth.name = "<init>" := hB.2.2.1
  have hlt := kw_lt hi
  refine k_ws hC (kw_start hi) ?_
  refine k_aload_n hC (pc := 0) dM_init_0 rfl rfl ?_
  refine k_objInit hC ⟨wl_M_1, wi_obj, wc_obj⟩ (by decide) (Nat.le_of_ble_eq_true rfl) (by decide) (pc := 1) dM_init_1 ?_
  refine k_aload_n hC (pc := 4) dM_init_4 rfl rfl ?_
  refine k_sipush hC (pc := 5) dM_init_5 zs_320 ?_
  refine kc_newI hC hF wa_int (by decide) (Nat.le_of_ble_eq_true rfl) (Nat.le_of_ble_eq_true rfl) (pc := 8) dM_init_8 (fun q0 => ?_)
  refine kc_putF hC hin hlt zf_M_7_6 ztM_ok znM rfl rfl rfl rfl (Nat.le_of_ble_eq_true rfl) (pc := 10) dM_init_10 ?_
  refine k_aload_n hC (pc := 13) dM_init_13 rfl rfl ?_
  refine k_iconst hC (pc := 14) dM_init_14 zi_4 ?_
  refine kc_newI hC hF wa_int (by decide) (Nat.le_of_ble_eq_true rfl) (Nat.le_of_ble_eq_true rfl) (pc := 15) dM_init_15 (fun q1 => ?_)
  refine kc_putF hC hin hlt zf_M_13_6 ztM_ok znM rfl rfl rfl rfl (Nat.le_of_ble_eq_true rfl) (pc := 17) dM_init_17 ?_
  refine k_aload_n hC (pc := 20) dM_init_20 rfl rfl ?_
  refine k_bipush hC (pc := 21) dM_init_21 zb_64 ?_
  refine kc_newI hC hF wa_int (by decide) (Nat.le_of_ble_eq_true rfl) (Nat.le_of_ble_eq_true rfl) (pc := 23) dM_init_23 (fun q2 => ?_)
  refine kc_putF hC hin hlt zf_M_16_6 ztM_ok znM rfl rfl rfl rfl (Nat.le_of_ble_eq_true rfl) (pc := 25) dM_init_25 ?_
  refine k_aload_n hC (pc := 28) dM_init_28 rfl rfl ?_
  refine k_sipush hC (pc := 29) dM_init_29 zs_176 ?_
  refine kc_newI hC hF wa_int (by decide) (Nat.le_of_ble_eq_true rfl) (Nat.le_of_ble_eq_true rfl) (pc := 32) dM_init_32 (fun q3 => ?_)
  refine kc_putF hC hin hlt zf_M_19_6 ztM_ok znM rfl rfl rfl rfl (Nat.le_of_ble_eq_true rfl) (pc := 34) dM_init_34 ?_
  refine k_aload_n hC (pc := 37) dM_init_37 rfl rfl ?_
  refine k_bipush hC (pc := 38) dM_init_38 zb_16 ?_
  refine kc_newI hC hF wa_int (by decide) (Nat.le_of_ble_eq_true rfl) (Nat.le_of_ble_eq_true rfl) (pc := 40) dM_init_40 (fun q4 => ?_)
  refine kc_putF hC hin hlt zf_M_22_6 ztM_ok znM rfl rfl rfl rfl (Nat.le_of_ble_eq_true rfl) (pc := 42) dM_init_42 ?_
  refine k_aload_n hC (pc := 45) dM_init_45 rfl rfl ?_
  refine k_bipush hC (pc := 46) dM_init_46 zb_16 ?_
  refine kc_newI hC hF wa_int (by decide) (Nat.le_of_ble_eq_true rfl) (Nat.le_of_ble_eq_true rfl) (pc := 48) dM_init_48 (fun q5 => ?_)
  refine kc_putF hC hin hlt zf_M_25_6 ztM_ok znM rfl rfl rfl rfl (Nat.le_of_ble_eq_true rfl) (pc := 50) dM_init_50 ?_
  refine k_aload_n hC (pc := 53) dM_init_53 rfl rfl ?_
  refine k_sipush hC (pc := 54) dM_init_54 zs_256 ?_
  refine kc_newI hC hF wa_int (by decide) (Nat.le_of_ble_eq_true rfl) (Nat.le_of_ble_eq_true rfl) (pc := 57) dM_init_57 (fun q6 => ?_)
  refine kc_putF hC hin hlt zf_M_28_6 ztM_ok znM rfl rfl rfl rfl (Nat.le_of_ble_eq_true rfl) (pc := 59) dM_init_59 ?_
  refine k_aload_n hC (pc := 62) dM_init_62 rfl rfl ?_
  refine k_bipush hC (pc := 63) dM_init_63 zb_16 ?_
  refine kc_newI hC hF wa_int (by decide) (Nat.le_of_ble_eq_true rfl) (Nat.le_of_ble_eq_true rfl) (pc := 65) dM_init_65 (fun q7 => ?_)
  refine kc_putF hC hin hlt zf_M_31_6 ztM_ok znM rfl rfl rfl rfl (Nat.le_of_ble_eq_true rfl) (pc := 67) dM_init_67 ?_
  refine k_aload_n hC (pc := 70) dM_init_70 rfl rfl ?_
  refine k_bipush hC (pc := 71) dM_init_71 zb_16 ?_
  refine kc_newI hC hF wa_int (by decide) (Nat.le_of_ble_eq_true rfl) (Nat.le_of_ble_eq_true rfl) (pc := 73) dM_init_73 (fun q8 => ?_)
  refine kc_putF hC hin hlt zf_M_34_6 ztM_ok znM rfl rfl rfl rfl (Nat.le_of_ble_eq_true rfl) (pc := 75) dM_init_75 ?_
  refine k_aload_n hC (pc := 78) dM_init_78 rfl rfl ?_
  refine k_sipush hC (pc := 79) dM_init_79 zs_128 ?_
  refine kc_newI hC hF wa_int (by decide) (Nat.le_of_ble_eq_true rfl) (Nat.le_of_ble_eq_true rfl) (pc := 82) dM_init_82 (fun q9 => ?_)
  refine kc_putF hC hin hlt zf_M_37_6 ztM_ok znM rfl rfl rfl rfl (Nat.le_of_ble_eq_true rfl) (pc := 84) dM_init_84 ?_
  refine k_aload_n hC (pc := 87) dM_init_87 rfl rfl ?_
  refine k_sipush hC (pc := 88) dM_init_88 zs_128 ?_
  refine kc_newI hC hF wa_int (by decide) (Nat.le_of_ble_eq_true rfl) (Nat.le_of_ble_eq_true rfl) (pc := 91) dM_init_91 (fun q10 => ?_)
  refine kc_putF hC hin hlt zf_M_40_6 ztM_ok znM rfl rfl rfl rfl (Nat.le_of_ble_eq_true rfl) (pc := 93) dM_init_93 ?_
  refine k_aload_n hC (pc := 96) dM_init_96 rfl rfl ?_
  refine k_sipush hC (pc := 97) dM_init_97 zs_256 ?_
  refine kc_newI hC hF wa_int (by decide) (Nat.le_of_ble_eq_true rfl) (Nat.le_of_ble_eq_true rfl) (pc := 100) dM_init_100 (fun q11 => ?_)
  refine kc_putF hC hin hlt zf_M_43_6 ztM_ok znM rfl rfl rfl rfl (Nat.le_of_ble_eq_true rfl) (pc := 102) dM_init_102 ?_
  refine k_aload_n hC (pc := 105) dM_init_105 rfl rfl ?_
  refine k_bipush hC (pc := 106) dM_init_106 zb_16 ?_
  refine kc_newI hC hF wa_int (by decide) (Nat.le_of_ble_eq_true rfl) (Nat.le_of_ble_eq_true rfl) (pc := 108) dM_init_108 (fun q12 => ?_)
  refine kc_putF hC hin hlt zf_M_46_6 ztM_ok znM rfl rfl rfl rfl (Nat.le_of_ble_eq_true rfl) (pc := 110) dM_init_110 ?_
  refine k_aload_n hC (pc := 113) dM_init_113 rfl rfl ?_
  refine k_bipush hC (pc := 114) dM_init_114 zb_16 ?_
  refine kc_newI hC hF wa_int (by decide) (Nat.le_of_ble_eq_true rfl) (Nat.le_of_ble_eq_true rfl) (pc := 116) dM_init_116 (fun q13 => ?_)
  refine kc_putF hC hin hlt zf_M_49_6 ztM_ok znM rfl rfl rfl rfl (Nat.le_of_ble_eq_true rfl) (pc := 118) dM_init_118 ?_
  refine k_iconst hC (pc := 121) dM_init_121 zi_0 ?_
  refine k_istore_n hC (L' := [(1, _), (0, _)]) (pc := 122) dM_init_122 rfl (by decide) rfl ?_
  refine k_loop 256 (fun t L W => ∃ f, (∀ j, j < t → f j = zS j) ∧ L = [(1, .int (nI t)), (0, .ref a)] ∧ W = kw ws i a 6 [.int (nI 0), .ref q0, .ref q1, .int (nI 0), .ref q2, .ref q3, .ref q4, .ref q5, .ref q6, .ref q7, .ref q8, .ref q9, .ref q10, .ref q11, .ref q12, .ref q13] [k_arr g q0 320 (fun _ => 0), k_arr g q1 4 (fun _ => 0), k_arr g q2 64 (fun _ => 0), k_arr g q3 176 (fun _ => 0), k_arr g q4 16 (fun _ => 0), k_arr g q5 16 (fun _ => 0), k_arr g q6 256 f, k_arr g q7 16 (fun _ => 0), k_arr g q8 16 (fun _ => 0), k_arr g q9 128 (fun _ => 0), k_arr g q10 128 (fun _ => 0), k_arr g q11 256 (fun _ => 0), k_arr g q12 16 (fun _ => 0), k_arr g q13 16 (fun _ => 0)]) ?_ ?_ _ _ ⟨_, fun t h => absurd h (Nat.not_lt_zero _), rfl, rfl⟩
  · rintro t L W hi2 ⟨f, hf, rfl, rfl⟩ ki
    refine k_iload_n hC (pc := 123) dM_init_123 rfl rfl ?_
    refine k_sipush hC (pc := 124) dM_init_124 zs_256 ?_
    refine k_icmp_ge hC (pc := 127) (by omega) (by omega) (tgt := 191) dM_init_127 rfl (fun h => by exfalso; omega) (fun h => ?_)
    refine k_iconst hC (pc := 130) dM_init_130 zi_0 ?_
    refine k_istore_n hC (L' := [(2, _), (1, _), (0, _)]) (pc := 131) dM_init_131 rfl (by decide) rfl ?_
    refine k_loop (zin t) (fun b L W => L = [(2, .int (nI b)), (1, .int (nI t)), (0, .ref a)] ∧ W = kw ws i a 6 [.int (nI 0), .ref q0, .ref q1, .int (nI 0), .ref q2, .ref q3, .ref q4, .ref q5, .ref q6, .ref q7, .ref q8, .ref q9, .ref q10, .ref q11, .ref q12, .ref q13] [k_arr g q0 320 (fun _ => 0), k_arr g q1 4 (fun _ => 0), k_arr g q2 64 (fun _ => 0), k_arr g q3 176 (fun _ => 0), k_arr g q4 16 (fun _ => 0), k_arr g q5 16 (fun _ => 0), k_arr g q6 256 f, k_arr g q7 16 (fun _ => 0), k_arr g q8 16 (fun _ => 0), k_arr g q9 128 (fun _ => 0), k_arr g q10 128 (fun _ => 0), k_arr g q11 256 (fun _ => 0), k_arr g q12 16 (fun _ => 0), k_arr g q13 16 (fun _ => 0)]) ?_ ?_ _ _ ⟨rfl, rfl⟩
    · rintro b L W hb ⟨rfl, rfl⟩ kb
      have hz := zin_lt t hi2
      refine k_iload_n hC (pc := 132) dM_init_132 rfl rfl ?_
      refine k_if_le hC (pc := 133) (by omega) (tgt := 151) dM_init_133 rfl (fun h => (zin_z hb (by omega)).elim) (fun h => ?_)
      refine k_iload_n hC (pc := 136) dM_init_136 rfl rfl ?_
      refine k_iload_n hC (pc := 137) dM_init_137 rfl rfl ?_
      refine k_callS hC hF hA (pc := 138) (kM_times (a := t) (b := b) hi2 (by omega)) (by decide) zc_M_52 rfl rfl (Nat.le_of_ble_eq_true rfl) ⟨(Nat.le_of_ble_eq_true rfl), (Nat.le_of_ble_eq_true rfl)⟩ dM_init_138 (fun r W9 hE => ?_)
      obtain ⟨rfl, rfl⟩ := hE
      refine k_r1 hC ?_
      refine k_iconst hC (pc := 141) dM_init_141 zi_1 ?_
      refine k_icmp_eq hC (pc := 142) (by exact Nat.lt_trans (ztm_lt hi2 _) (by decide)) (by omega) (tgt := 151) dM_init_142 rfl (fun h => absurd h (zin_no t hi2 b hb)) (fun h => ?_)
      refine k_iinc hC (L' := [(2, _), (1, _), (0, _)]) (pc := 145) dM_init_145 rfl zi_1 (by decide) rfl ?_
      refine k_goto hC (pc := 148) (tgt := 132) dM_init_148 rfl ?_
      exact kb _ _ ⟨rfl, rfl⟩
    · rintro L W ⟨rfl, rfl⟩
      have hz := zin_lt t hi2
      refine k_iload_n hC (pc := 132) dM_init_132 rfl rfl ?_
      refine k_if_le hC (pc := 133) (by omega) (tgt := 151) dM_init_133 rfl (fun h0 => ?_) (fun h0 => ?_)
      · refine k_aload_n hC (pc := 151) dM_init_151 rfl rfl ?_
        refine k_get hC i (kw_get hlt) rfl zf_M_28_6 (pc := 152) dM_init_152 ?_
        refine k_iload_n hC (pc := 155) dM_init_155 rfl rfl ?_
        refine k_iload_n hC (pc := 156) dM_init_156 rfl rfl ?_
        refine k_iload_n hC (pc := 157) dM_init_157 rfl rfl ?_
        refine k_iconst hC (pc := 158) dM_init_158 zi_1 ?_
        refine k_callS hC hF hA (pc := 159) (kM_turned (a := zin t) (k := 1) hz (by decide)) (by decide) zc_M_56 rfl rfl (Nat.le_of_ble_eq_true rfl) ⟨(Nat.le_of_ble_eq_true rfl), (Nat.le_of_ble_eq_true rfl)⟩ dM_init_159 (fun r W9 hE => ?_)
        obtain ⟨rfl, rfl⟩ := hE
        refine k_r1 hC ?_
        refine k_ixor hC (pc := 162) dM_init_162 ?_
        refine k_iload_n hC (pc := 163) dM_init_163 rfl rfl ?_
        refine k_iconst hC (pc := 164) dM_init_164 zi_2 ?_
        refine k_callS hC hF hA (pc := 165) (kM_turned (a := zin t) (k := 2) hz (by decide)) (by decide) zc_M_56 rfl rfl (Nat.le_of_ble_eq_true rfl) ⟨(Nat.le_of_ble_eq_true rfl), (Nat.le_of_ble_eq_true rfl)⟩ dM_init_165 (fun r W9 hE => ?_)
        obtain ⟨rfl, rfl⟩ := hE
        refine k_r1 hC ?_
        refine k_ixor hC (pc := 168) dM_init_168 ?_
        refine k_iload_n hC (pc := 169) dM_init_169 rfl rfl ?_
        refine k_iconst hC (pc := 170) dM_init_170 zi_3 ?_
        refine k_callS hC hF hA (pc := 171) (kM_turned (a := zin t) (k := 3) hz (by decide)) (by decide) zc_M_56 rfl rfl (Nat.le_of_ble_eq_true rfl) ⟨(Nat.le_of_ble_eq_true rfl), (Nat.le_of_ble_eq_true rfl)⟩ dM_init_171 (fun r W9 hE => ?_)
        obtain ⟨rfl, rfl⟩ := hE
        refine k_r1 hC ?_
        refine k_ixor hC (pc := 174) dM_init_174 ?_
        refine k_iload_n hC (pc := 175) dM_init_175 rfl rfl ?_
        refine k_iconst hC (pc := 176) dM_init_176 zi_4 ?_
        refine k_callS hC hF hA (pc := 177) (kM_turned (a := zin t) (k := 4) hz (by decide)) (by decide) zc_M_56 rfl rfl (Nat.le_of_ble_eq_true rfl) ⟨(Nat.le_of_ble_eq_true rfl), (Nat.le_of_ble_eq_true rfl)⟩ dM_init_177 (fun r W9 hE => ?_)
        obtain ⟨rfl, rfl⟩ := hE
        refine k_r1 hC ?_
        refine k_ixor hC (pc := 180) dM_init_180 ?_
        refine k_bipush hC (pc := 181) dM_init_181 zb_99 ?_
        refine k_ixor hC (pc := 183) dM_init_183 ?_
        refine k_iastore hC (ws.length + 6) (kw_arr 6) (by decide) (by omega) (kw_setA 6) (pc := 184) dM_init_184 ?_
        refine k_iinc hC (L' := [(1, _), (2, _), (0, _)]) (pc := 185) dM_init_185 rfl zi_1 (by decide) rfl ?_
        refine k_goto hC (pc := 188) (tgt := 123) dM_init_188 rfl ?_
        refine k_ls hC (L' := [(1, _), (0, _)]) [0, 2] rfl ?_
        refine ki _ _ ⟨_, ?_, rfl, rfl⟩
        intro j hj
        by_cases h1 : j = t
        · rw [z_up_at h1, h1]
          exact zin_sp t hi2
        · rw [z_up_off h1]
          exact hf j (by omega)
      · refine k_iload_n hC (pc := 136) dM_init_136 rfl rfl ?_
        refine k_iload_n hC (pc := 137) dM_init_137 rfl rfl ?_
        refine k_callS hC hF hA (pc := 138) (kM_times (a := t) (b := zin t) hi2 hz) (by decide) zc_M_52 rfl rfl (Nat.le_of_ble_eq_true rfl) ⟨(Nat.le_of_ble_eq_true rfl), (Nat.le_of_ble_eq_true rfl)⟩ dM_init_138 (fun r W9 hE => ?_)
        obtain ⟨rfl, rfl⟩ := hE
        refine k_r1 hC ?_
        refine k_iconst hC (pc := 141) dM_init_141 zi_1 ?_
        refine k_icmp_eq hC (pc := 142) (by exact Nat.lt_trans (ztm_lt hi2 _) (by decide)) (by omega) (tgt := 151) dM_init_142 rfl (fun h => ?_) (fun h => absurd (zin_1 t hi2 (by omega)) h)
        refine k_aload_n hC (pc := 151) dM_init_151 rfl rfl ?_
        refine k_get hC i (kw_get hlt) rfl zf_M_28_6 (pc := 152) dM_init_152 ?_
        refine k_iload_n hC (pc := 155) dM_init_155 rfl rfl ?_
        refine k_iload_n hC (pc := 156) dM_init_156 rfl rfl ?_
        refine k_iload_n hC (pc := 157) dM_init_157 rfl rfl ?_
        refine k_iconst hC (pc := 158) dM_init_158 zi_1 ?_
        refine k_callS hC hF hA (pc := 159) (kM_turned (a := zin t) (k := 1) hz (by decide)) (by decide) zc_M_56 rfl rfl (Nat.le_of_ble_eq_true rfl) ⟨(Nat.le_of_ble_eq_true rfl), (Nat.le_of_ble_eq_true rfl)⟩ dM_init_159 (fun r W9 hE => ?_)
        obtain ⟨rfl, rfl⟩ := hE
        refine k_r1 hC ?_
        refine k_ixor hC (pc := 162) dM_init_162 ?_
        refine k_iload_n hC (pc := 163) dM_init_163 rfl rfl ?_
        refine k_iconst hC (pc := 164) dM_init_164 zi_2 ?_
        refine k_callS hC hF hA (pc := 165) (kM_turned (a := zin t) (k := 2) hz (by decide)) (by decide) zc_M_56 rfl rfl (Nat.le_of_ble_eq_true rfl) ⟨(Nat.le_of_ble_eq_true rfl), (Nat.le_of_ble_eq_true rfl)⟩ dM_init_165 (fun r W9 hE => ?_)
        obtain ⟨rfl, rfl⟩ := hE
        refine k_r1 hC ?_
        refine k_ixor hC (pc := 168) dM_init_168 ?_
        refine k_iload_n hC (pc := 169) dM_init_169 rfl rfl ?_
        refine k_iconst hC (pc := 170) dM_init_170 zi_3 ?_
        refine k_callS hC hF hA (pc := 171) (kM_turned (a := zin t) (k := 3) hz (by decide)) (by decide) zc_M_56 rfl rfl (Nat.le_of_ble_eq_true rfl) ⟨(Nat.le_of_ble_eq_true rfl), (Nat.le_of_ble_eq_true rfl)⟩ dM_init_171 (fun r W9 hE => ?_)
        obtain ⟨rfl, rfl⟩ := hE
        refine k_r1 hC ?_
        refine k_ixor hC (pc := 174) dM_init_174 ?_
        refine k_iload_n hC (pc := 175) dM_init_175 rfl rfl ?_
        refine k_iconst hC (pc := 176) dM_init_176 zi_4 ?_
        refine k_callS hC hF hA (pc := 177) (kM_turned (a := zin t) (k := 4) hz (by decide)) (by decide) zc_M_56 rfl rfl (Nat.le_of_ble_eq_true rfl) ⟨(Nat.le_of_ble_eq_true rfl), (Nat.le_of_ble_eq_true rfl)⟩ dM_init_177 (fun r W9 hE => ?_)
        obtain ⟨rfl, rfl⟩ := hE
        refine k_r1 hC ?_
        refine k_ixor hC (pc := 180) dM_init_180 ?_
        refine k_bipush hC (pc := 181) dM_init_181 zb_99 ?_
        refine k_ixor hC (pc := 183) dM_init_183 ?_
        refine k_iastore hC (ws.length + 6) (kw_arr 6) (by decide) (by omega) (kw_setA 6) (pc := 184) dM_init_184 ?_
        refine k_iinc hC (L' := [(1, _), (2, _), (0, _)]) (pc := 185) dM_init_185 rfl zi_1 (by decide) rfl ?_
        refine k_goto hC (pc := 188) (tgt := 123) dM_init_188 rfl ?_
        refine k_ls hC (L' := [(1, _), (0, _)]) [0, 2] rfl ?_
        refine ki _ _ ⟨_, ?_, rfl, rfl⟩
        intro j hj
        by_cases h1 : j = t
        · rw [z_up_at h1, h1]
          exact zin_sp t hi2
        · rw [z_up_off h1]
          exact hf j (by omega)
  · rintro L W ⟨f, hf, rfl, rfl⟩
    refine k_iload_n hC (pc := 123) dM_init_123 rfl rfl ?_
    refine k_sipush hC (pc := 124) dM_init_124 zs_256 ?_
    refine k_icmp_ge hC (pc := 127) (by omega) (by omega) (tgt := 191) dM_init_127 rfl (fun h => ?_) (fun h => by exfalso; omega)
    exact k_ret hB (pc := 191) (r := none) dM_init_191 ⟨q0, q1, q2, q3, q4, q5, q6, q7, q8, q9, q10, q11, q12, q13, f, hf, rfl, rfl⟩ (Nat.le_of_ble_eq_true rfl) (Nat.le_of_ble_eq_true rfl)
end
