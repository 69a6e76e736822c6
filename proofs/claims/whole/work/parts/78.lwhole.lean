theorem l_sub5 {a b : Nat} (ha : a < 2 ^ 30) (hb : b < 2 ^ 30) (h : ¬ (nI a - nI 5 < nI b)) : b + 5 ≤ a := by
  have h2 := Int32.not_lt.mp h
  rw [Int32.le_iff_toInt_le, pk_sub_toInt ha (by decide), nI_toInt (by omega)] at h2
  omega
section LL
variable {p : Program} {l : Launch} {e : Env} {s : State} {m : MethodId} {args : Array Value} {below : List Frame} {meth : Method} {c : Code} {F : Nat → Prop} {Q : State → Prop} {g : z_G} {ad : Nat → Nat} {b Ln : Nat} {xs : Nat → Int32}
theorem l_loop (hx0 : l_ctx p l s m args meth c F g b Ln xs) (h30 : Ln ≤ 2560) (hEnd : ∀ cn sn L ws, cn ≤ 601024 → sn ≤ 7293034 → k_R p l e s m args below meth c F Q g mL_law room_1 cn sn 624 L [.int (nI 1)] ws) :
    ∀ d i cn sn (A B : z_A), Ln < 5 * i + 5 + 5 * d → 5 * i ≤ Ln + 5 → cn + 3 * d ≤ 601024 → sn + 18 * d ≤ 7293034 → l_I A B → k_R p l e s m args below meth c F Q g mL_law room_1 cn sn 23 (l_L ad b i) [] (z_w g ad A B) := by
  have hx1 := hx0
  obtain ⟨hC, hF, hZ, hA, hX, hbl, hbF, hLn, hst⟩ := hx1
  intro d
  induction d with
  | zero =>
    intro i cn sn A B hd hi hcn hsn hI
    unfold l_L
    refine k_iload hC (pc := 23) dL_law_23 rfl ?_
    refine k_aload_n hC (pc := 25) dL_law_25 rfl rfl ?_
    refine k_slen hC hX hbl hbF (pc := 26) dL_law_26 ?_
    refine k_iconst hC (pc := 27) dL_law_27 zi_5 ?_
    refine k_isubX hC (pc := 28) dL_law_28 ?_
    refine k_icmpX_gt hC (pc := 29) (tgt := 623) dL_law_29 rfl (fun hT => ?_) (fun hN => ?_)
    · refine k_iconst hC (pc := 623) dL_law_623 zi_1 ?_
      exact hEnd _ _ _ _ (by omega) (by omega)
    · exact absurd (l_sub5 (by omega) (by omega) hN) (by omega)
  | succ d ih =>
    intro i cn sn A B hd hi hcn hsn hI
    unfold l_L
    refine k_iload hC (pc := 23) dL_law_23 rfl ?_
    refine k_aload_n hC (pc := 25) dL_law_25 rfl rfl ?_
    refine k_slen hC hX hbl hbF (pc := 26) dL_law_26 ?_
    refine k_iconst hC (pc := 27) dL_law_27 zi_5 ?_
    refine k_isubX hC (pc := 28) dL_law_28 ?_
    refine k_icmpX_gt hC (pc := 29) (tgt := 623) dL_law_29 rfl (fun hT => ?_) (fun hN => ?_)
    · refine k_iconst hC (pc := 623) dL_law_623 zi_1 ?_
      exact hEnd _ _ _ _ (by omega) (by omega)
    · have h5 := l_sub5 (by omega) (by omega) hN
      have kn : ∀ A' B', l_I A' B' → k_R p l e s m args below meth c F Q g mL_law room_1 (cn + 3) (sn + 18) 617 (l_L ad b i) [] (z_w g ad A' B') := fun A' B' hI' => by
        unfold l_L
        refine k_iinc hC (L' := [(4, _), (3, _), (2, _), (1, _), (0, _)]) (pc := 617) dL_law_617 rfl zi_5 (by decide) rfl ?_
        refine k_goto hC (pc := 620) (tgt := 23) dL_law_620 rfl ?_
        exact ih (i + 1) (cn + 3) (sn + 18) A' B' (by omega) (by omega) (by omega) (by omega) hI'
      refine k_aload_n hC (pc := 32) dL_law_32 rfl rfl ?_
      refine k_iload hC (pc := 33) dL_law_33 rfl ?_
      refine k_sld hC hX hbl hbF hLn (by omega) (pc := 35) dL_law_35 ?_
      obtain ⟨q, hq, eq⟩ := wb_of32 (xs (5 * i))
      refine k_top hC (y := .int (nI q)) (by rw [eq]) ?_
      refine k_bipush hC (pc := 36) dL_law_36 zb_15 ?_
      refine k_iand hC (pc := 38) dL_law_38 ?_
      have h16 : q &&& 15 < 16 := Nat.lt_of_le_of_lt Nat.and_le_right (by decide)
      generalize q &&& 15 = k at h16 ⊢
      rcases (show k = 0 ∨ k = 1 ∨ k = 2 ∨ k = 3 ∨ k = 4 ∨ k = 5 ∨ k = 6 ∨ k = 7 ∨ k = 8 ∨ k = 9 ∨ 10 ≤ k by omega) with rfl | rfl | rfl | rfl | rfl | rfl | rfl | rfl | rfl | rfl | hk
      · refine k_tableIn hC (by decide) (by decide) (off := 53) (by decide) (pc := 39) (tgt := 92) rfl dL_law_39 ?_
        exact lb_type hx0 h5 hI (by omega) (by omega) kn
      · refine k_tableIn hC (by decide) (by decide) (off := 165) (by decide) (pc := 39) (tgt := 204) rfl dL_law_39 ?_
        exact lb_clear hx0 h5 hI (by omega) (by omega) kn
      · refine k_tableIn hC (by decide) (by decide) (off := 221) (by decide) (pc := 39) (tgt := 260) rfl dL_law_39 ?_
        exact lb_poke hx0 h5 hI (by omega) (by omega) kn
      · refine k_tableIn hC (by decide) (by decide) (off := 281) (by decide) (pc := 39) (tgt := 320) rfl dL_law_39 ?_
        exact lb_take hx0 h5 hI (by omega) (by omega) kn
      · refine k_tableIn hC (by decide) (by decide) (off := 337) (by decide) (pc := 39) (tgt := 376) rfl dL_law_39 ?_
        exact lb_block hx0 h5 hI (by omega) (by omega) kn
      · refine k_tableIn hC (by decide) (by decide) (off := 361) (by decide) (pc := 39) (tgt := 400) rfl dL_law_39 ?_
        exact lb_hash hx0 h5 hI (by omega) (by omega) kn
      · refine k_tableIn hC (by decide) (by decide) (off := 397) (by decide) (pc := 39) (tgt := 436) rfl dL_law_39 ?_
        exact lb_seal hx0 h5 hI (by omega) (by omega) kn
      · refine k_tableIn hC (by decide) (by decide) (off := 453) (by decide) (pc := 39) (tgt := 492) rfl dL_law_39 ?_
        exact lb_open hx0 h5 hI (by omega) (by omega) kn
      · refine k_tableIn hC (by decide) (by decide) (off := 509) (by decide) (pc := 39) (tgt := 548) rfl dL_law_39 ?_
        exact lb_size hx0 h5 hI (by omega) (by omega) kn
      · refine k_tableIn hC (by decide) (by decide) (off := 522) (by decide) (pc := 39) (tgt := 561) rfl dL_law_39 ?_
        exact lb_at hx0 h5 hI (by omega) (by omega) kn
      · refine k_tableOut hC (Or.inr (by rw [nI_toInt (by omega)]; omega)) (pc := 39) (tgt := 617) rfl dL_law_39 ?_
        exact k_cn hC (by omega) (by omega) (kn _ _ hI)
end LL
def l_ad (ad0 : Nat → Nat) (q : List Nat) (k : Nat) : Nat := if k < 39 then ad0 k else q.getD (k - 39) 0
theorem z_fs_cg {ad ad' : Nat → Nat} {a b : Nat → Nat} : ∀ (l : List (Nat × Nat)) (j : Nat), (∀ q ∈ l, ad q.2 = ad' q.2) → z_fs ad a b j l = z_fs ad' a b j l
  | [], _, _ => rfl
  | q :: t, j, h => by
    have e : z_fv ad a b j q = z_fv ad' a b j q := by
      unfold z_fv
      rw [h q List.mem_cons_self]
    rw [z_fs, z_fs, e, z_fs_cg t (j + 1) (fun x hx => h x (List.mem_cons_of_mem _ hx))]
theorem z_cell_cg {g : z_G} {ad ad' : Nat → Nat} {d : Nat × Nat × List (Nat × Nat)} {a b : Nat → Nat} (h : ∀ q ∈ d.2.2, ad q.2 = ad' q.2) : z_cell g ad d a b = z_cell g ad' d a b := by
  have e : (fun (j : Nat) => (d.2.2[j]?).map (fun (q : Nat × Nat) => ad q.2)) = fun (j : Nat) => (d.2.2[j]?).map (fun (q : Nat × Nat) => ad' q.2) := by
    funext j
    cases hj : d.2.2[j]? with
    | none => rfl
    | some q => simp only [Option.map_some, h q (List.mem_of_getElem? hj)]
  unfold z_cell
  rw [z_fs_cg _ _ h, e]
theorem zA0_lo (h f : Nat → Nat) (k : Nat) (hk : k < 39) : zA0 h h k = zA0 h f k := by
  match k, hk with
  | 0, _ => rfl
  | 1, _ => rfl
  | 2, _ => rfl
  | 3, _ => rfl
  | 4, _ => rfl
  | 5, _ => rfl
  | 6, _ => rfl
  | 7, _ => rfl
  | 8, _ => rfl
  | 9, _ => rfl
  | 10, _ => rfl
  | 11, _ => rfl
  | 12, _ => rfl
  | 13, _ => rfl
  | 14, _ => rfl
  | 15, _ => rfl
  | 16, _ => rfl
  | 17, _ => rfl
  | 18, _ => rfl
  | 19, _ => rfl
  | 20, _ => rfl
  | 21, _ => rfl
  | 22, _ => rfl
  | 23, _ => rfl
  | 24, _ => rfl
  | 25, _ => rfl
  | 26, _ => rfl
  | 27, _ => rfl
  | 28, _ => rfl
  | 29, _ => rfl
  | 30, _ => rfl
  | 31, _ => rfl
  | 32, _ => rfl
  | 33, _ => rfl
  | 34, _ => rfl
  | 35, _ => rfl
  | 36, _ => rfl
  | 37, _ => rfl
  | 38, _ => rfl
  | n + 39, hk => exact absurd hk (by omega)
theorem z_sh_lo : ∀ k, k < 39 → ∀ q ∈ (z_sh k).2.2, q.2 < 39 := by decide +kernel
theorem z_w39_mv {g : z_G} {ad ad' : Nat → Nat} {h f : Nat → Nat} (had : ∀ k, k < 39 → ad k = ad' k) : z_w39 g ad h h = z_w39 g ad' h f := by
  unfold z_w39
  refine List.map_congr_left fun k hk => ?_
  have hk := List.mem_range.mp hk
  rw [had k hk, z_cell_cg (fun q hq => had _ (z_sh_lo k hk q hq)), zA0_lo h f k hk]
theorem l_wh (g : z_G) (ad0 : Nat → Nat) (h f : Nat → Nat) (a2 q0 q1 q2 q3 q4 q5 q6 q7 q8 q9 q10 q11 q12 q13 q14 : Nat) : kw (z_w39 g ad0 h h ++ [(a2, .inr (6, [.int (nI 0), .null, .null, .int (nI 0), .null, .null, .null, .null, .null, .null, .null, .null, .null, .null, .null, .null]))]) 39 a2 6 [.int (nI 0), .ref q0, .ref q1, .int (nI 0), .ref q2, .ref q3, .ref q4, .ref q5, .ref q6, .ref q7, .ref q8, .ref q9, .ref q10, .ref q11, .ref q12, .ref q13] [k_arr g q0 320 (fun _ => 0), k_arr g q1 4 (fun _ => 0), k_arr g q2 64 (fun _ => 0), k_arr g q3 176 (fun _ => 0), k_arr g q4 16 (fun _ => 0), k_arr g q5 16 (fun _ => 0), k_arr g q6 256 f, k_arr g q7 16 (fun _ => 0), k_arr g q8 16 (fun _ => 0), k_arr g q9 128 (fun _ => 0), k_arr g q10 128 (fun _ => 0), k_arr g q11 256 (fun _ => 0), k_arr g q12 16 (fun _ => 0), k_arr g q13 16 (fun _ => 0)] ++ [(q14, .inl (g.2 1, 1, .inr (.inl (fun _ => lN 0))))] = z_w g (l_ad ad0 [a2, q0, q1, q2, q3, q4, q5, q6, q7, q8, q9, q10, q11, q12, q13, q14]) (zA0 h f) zB0 := by
  rw [z_w39_mv (ad' := l_ad ad0 [a2, q0, q1, q2, q3, q4, q5, q6, q7, q8, q9, q10, q11, q12, q13, q14]) (f := f) (fun k hk => by unfold l_ad; rw [if_pos hk])]
  rfl
theorem l_I0 {h f : Nat → Nat} (hh : ∀ j, j < 256 → h j = zS j) (hf : ∀ j, j < 256 → f j = zS j) : l_I (zA0 h f) zB0 := by
  refine ⟨fun _ => 0, fun _ _ => 0, 0, fun _ => 0, ⟨hh, fun _ _ => rfl, ⟨rfl, rfl, Or.inl rfl, by decide, by decide, by decide⟩, ⟨rfl, rfl, Or.inr rfl, by decide, by decide, by decide⟩, ⟨0, 0, by decide, by decide, by decide, by decide, rfl, rfl⟩, ⟨0, 0, by decide, by decide, by decide, by decide, rfl, rfl⟩⟩, ⟨fun r hr => ?_, rfl, fun j hj => absurd hj (Nat.not_lt_zero _)⟩, hf, ⟨fun r hr => ⟨rfl, fun j hj => absurd hj (Nat.not_lt_zero _)⟩, rfl, fun j hj => absurd hj (Nat.not_lt_zero _)⟩, fun r hr => ⟨Nat.zero_le _, fun j hj => absurd hj (Nat.not_lt_zero _)⟩, by decide, fun j hj => absurd hj (Nat.not_lt_zero _)⟩
  rcases (show r = 0 ∨ r = 1 ∨ r = 2 ∨ r = 3 by omega) with rfl | rfl | rfl | rfl
  all_goals exact ⟨rfl, fun j hj => absurd hj (Nat.not_lt_zero _)⟩
section LS
variable {p : Program} {l : Launch} {e : Env} {s : State} {m : MethodId} {args : Array Value} {below : List Frame} {meth : Method} {c : Code} {F : Nat → Prop} {Q : State → Prop} {g : z_G} {b Ln : Nat} {xs : Nat → Int32}
theorem l_start (hx0 : l_ctx p l s m args meth c F g b Ln xs) (h30 : Ln ≤ 2560) (hEnd : ∀ cn sn L ws, cn ≤ 601024 → sn ≤ 7293034 → k_R p l e s m args below meth c F Q g mL_law room_1 cn sn 624 L [.int (nI 1)] ws) : k_R p l e s m args below meth c F Q g mL_law room_1 0 0 0 [(0, .ref b)] [] [] := by
  have hx1 := hx0
  obtain ⟨hC, hF, hZ, hA, hX, hbl, hbF, hLn, hst⟩ := hx1
  refine k_new hC hF (ci := 5) (fs := [.null, .null, .null, .null, .null, .null]) ztS rfl zuS ztS_ok ⟨wx_L_8, wy_S, wn_S⟩ z_defS (Nat.le_of_ble_eq_true rfl) (Nat.le_of_ble_eq_true rfl) (pc := 0) dL_law_0 (fun a => ?_)
  refine k_ws hC (ws' := [(a, .inr (5, [.null, .null, .null, .null, .null, .null]))]) rfl ?_
  refine k_dup hC (pc := 3) dL_law_3 rfl ?_
  refine k_callI hC hF hA (pc := 4) kS_init (by decide) zc_L_48 rfl rfl (Nat.le_of_ble_eq_true rfl) ⟨(Nat.le_of_ble_eq_true rfl), (Nat.le_of_ble_eq_true rfl)⟩ dL_law_4 (fun r W9 hE => ?_)
  obtain ⟨ad0, h, hh, rfl, rfl, rfl⟩ := hE
  refine k_r0 hC ?_
  refine k_astore_n hC (L' := [(1, _), (0, _)]) (pc := 7) dL_law_7 rfl (by decide) rfl ?_
  refine k_new hC hF (ci := 6) (fs := [.int (nI 0), .null, .null, .int (nI 0), .null, .null, .null, .null, .null, .null, .null, .null, .null, .null, .null, .null]) ztM rfl zuM ztM_ok ⟨wx_L_49, wy_M, wn_M⟩ z_defM (Nat.le_of_ble_eq_true rfl) (Nat.le_of_ble_eq_true rfl) (pc := 8) dL_law_8 (fun a2 => ?_)
  refine k_dup hC (pc := 11) dL_law_11 rfl ?_
  refine k_callI hC hF hA (pc := 12) (kM_init (i := 39) rfl) (by decide) zc_L_51 rfl rfl (Nat.le_of_ble_eq_true rfl) ⟨(Nat.le_of_ble_eq_true rfl), (Nat.le_of_ble_eq_true rfl)⟩ dL_law_12 (fun r W9 hE => ?_)
  obtain ⟨q0, q1, q2, q3, q4, q5, q6, q7, q8, q9, q10, q11, q12, q13, f, hf, rfl, rfl⟩ := hE
  refine k_r0 hC ?_
  refine k_astore_n hC (L' := [(2, _), (1, _), (0, _)]) (pc := 15) dL_law_15 rfl (by decide) rfl ?_
  refine k_iconst hC (pc := 16) dL_law_16 zi_1 ?_
  refine k_newL hC hF wa_long (by decide) (Nat.le_of_ble_eq_true rfl) (Nat.le_of_ble_eq_true rfl) (pc := 17) dL_law_17 (fun q14 => ?_)
  refine k_ws hC (l_wh g ad0 h f a2 q0 q1 q2 q3 q4 q5 q6 q7 q8 q9 q10 q11 q12 q13 q14) ?_
  refine k_astore_n hC (L' := [(3, _), (2, _), (1, _), (0, _)]) (pc := 19) dL_law_19 rfl (by decide) rfl ?_
  refine k_iconst hC (pc := 20) dL_law_20 zi_0 ?_
  refine k_istore hC (L' := [(4, _), (3, _), (2, _), (1, _), (0, _)]) (pc := 21) dL_law_21 (by decide) rfl ?_
  exact l_loop (ad := l_ad ad0 [a2, q0, q1, q2, q3, q4, q5, q6, q7, q8, q9, q10, q11, q12, q13, q14]) hx0 h30 hEnd 512 0 _ _ _ _ (by omega) (by omega) (by decide) (by decide) (l_I0 hh hf)
end LS
