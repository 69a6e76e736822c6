theorem zCR.r0 {A : z_A} {n : Nat → Nat} {R : Nat → Nat → Nat} {m : Nat} {X : Nat → Nat} (h : zCR A n R m X) : A 2 1 = n 0 ∧ ∀ j, j < n 0 → A 3 j = R 0 j := h.1 0 (by decide)
theorem zCR.r1 {A : z_A} {n : Nat → Nat} {R : Nat → Nat → Nat} {m : Nat} {X : Nat → Nat} (h : zCR A n R m X) : A 4 1 = n 1 ∧ ∀ j, j < n 1 → A 5 j = R 1 j := h.1 1 (by decide)
theorem zCR.r2 {A : z_A} {n : Nat → Nat} {R : Nat → Nat → Nat} {m : Nat} {X : Nat → Nat} (h : zCR A n R m X) : A 6 1 = n 2 ∧ ∀ j, j < n 2 → A 7 j = R 2 j := h.1 2 (by decide)
theorem zCR.r3 {A : z_A} {n : Nat → Nat} {R : Nat → Nat → Nat} {m : Nat} {X : Nat → Nat} (h : zCR A n R m X) : A 8 1 = n 3 ∧ ∀ j, j < n 3 → A 9 j = R 3 j := h.1 3 (by decide)
theorem zCR.res {A A' : z_A} {n : Nat → Nat} {R : Nat → Nat → Nat} {m m' : Nat} {X X' : Nat → Nat} (h : zCR A n R m X) (hf : ∀ q, 2 ≤ q → q < 10 → A' q = A q) (h1 : A' 10 1 = m') (h2 : ∀ j, j < m' → A' 11 j = X' j) : zCR A' n R m' X' :=
  ⟨fun r hr => ⟨by rw [hf _ (by omega) (by omega)]; exact (h.1 r hr).1, fun j hj => by rw [hf _ (by omega) (by omega)]; exact (h.1 r hr).2 j hj⟩, h1, h2⟩
theorem z_hw.ot {A A' B B' : z_A} {k k' o mr ov : Nat} (h : z_hw A B k o mr ov) (hk : k ≠ k') (hA : A' k = A k) (hB : z_hB B B' k') : z_hw A' B' k o mr ov := by
  obtain ⟨h0, h1, hm, h2, h3, h4⟩ := h
  refine ⟨by rw [hA]; exact h0, by rw [hA]; exact h1, hm, ?_, ?_, ?_⟩
  · rw [hB k 2 (Or.inl hk)]; exact h2
  · rw [hB k 3 (Or.inl hk)]; exact h3
  · rw [hB k 2 (Or.inl hk), hB k 3 (Or.inl hk)]; exact h4
theorem z_hk.ot {B B' : z_A} {k k' H S : Nat} (h : z_hk B k H S) (hk : k ≠ k') (hB : z_hB B B' k') : z_hk B' k H S := by
  obtain ⟨h5, h6, h7, h8, e1, e2⟩ := h
  unfold z_hk
  rw [hB k 5 (Or.inl hk), hB k 6 (Or.inl hk), hB k 7 (Or.inl hk), hB k 8 (Or.inl hk)]
  exact ⟨h5, h6, h7, h8, e1, e2⟩
theorem zCS.h0 {A A' B B' : z_A} (h : zCS A B) (h15 : A' 15 = A 15) (h31 : A' 31 = A 31) (h20 : A' 20 = A 20) (h22 : A' 22 = A 22) (hB : z_hB B B' 20) (hq : ∃ H S, z_hk B' 20 H S) : zCS A' B' := by
  obtain ⟨h1, h2, h3, h4, h5, H, S, h6⟩ := h
  exact ⟨fun j hj => by rw [h15]; exact h1 j hj, fun j hj => by rw [h31]; exact h2 j hj, h3.mv h20 hB, h4.ot (by decide) h22 hB, hq, H, S, h6.ot (by decide) hB⟩
theorem zCS.h1 {A A' B B' : z_A} (h : zCS A B) (h15 : A' 15 = A 15) (h31 : A' 31 = A 31) (h20 : A' 20 = A 20) (h22 : A' 22 = A 22) (hB : z_hB B B' 22) (hq : ∃ H S, z_hk B' 22 H S) : zCS A' B' := by
  obtain ⟨h1, h2, h3, h4, ⟨H, S, h5⟩, h6⟩ := h
  exact ⟨fun j hj => by rw [h15]; exact h1 j hj, fun j hj => by rw [h31]; exact h2 j hj, h3.ot (by decide) h20 hB, h4.mv h22 hB, ⟨H, S, h5.ot (by decide) hB⟩, hq⟩
theorem z_hB.hi {B B' : z_A} {k : Nat} (h : z_hB B B' k) (hk : k < 39) (q : Nat) (hq : 39 ≤ q) : B' q = B q := by
  funext f
  exact h q f (Or.inl (by omega))
section
variable {l : Launch} {g : z_G} {ad : Nat → Nat} {A B : z_A} {n : Nat → Nat} {R : Nat → Nat → Nat} {m : Nat} {X : Nat → Nat}
theorem c_block1 (hst : l.stackTraces = false)  (hn : n 0 ≠ 16 ∨ n 3 ≠ 16) (hcs : zCS A B) (hs : zCR A n R m X) (hv : zVS n R m X) : z_XMet l g ad mS_block z_rp [.ref (ad 0)] A B (z_th 1 A B) := by
  refine z_XMet.of (L := [(0, _)]) hst (by decide) (Nat.le_of_ble_eq_true rfl) z_fitx_th rfl (by decide) ?_
  intro Ex hEx
  have k0 := hv.1 0 (by decide)
  have k1 := hv.1 1 (by decide)
  have k2 := hv.1 2 (by decide)
  have k3 := hv.1 3 (by decide)
  have l0 : zmost 0 = 16 := rfl
  have l1 : zmost 1 = 24 := rfl
  have l2 : zmost 2 = 32 := rfl
  have l3 : zmost 3 = 64 := rfl
  obtain ⟨e0, r0⟩ := hs.r0
  obtain ⟨e1, r1⟩ := hs.r1
  obtain ⟨e2, r2⟩ := hs.r2
  obtain ⟨e3, r3⟩ := hs.r3
  refine z_aload_n (pc := 0) dS_block_0 rfl rfl ?_
  refine z_getR (pc := 1) zo_0 rfl zf_S_11_5 dS_block_1 ?_
  refine z_iconst (pc := 4) dS_block_4 zi_0 ?_
  refine z_aaload (pc := 5) zr_1 rfl (rfl) dS_block_5 ?_
  refine z_getI (pc := 6) zo_2 rfl zf_S_65_2 dS_block_6 ?_
  refine z_bipush (pc := 9) dS_block_9 zb_16 ?_
  refine z_icmp_ne (pc := 11) (by omega) (by omega) (tgt := 28) dS_block_11 rfl (fun h1 => ?_) (fun h1 => ?_)
  · exact z_throw (pc := 28) zt_S_block_28 (hEx _ _ _ (⟨rfl, rfl, rfl⟩)) (by decide)
  · refine z_aload_n (pc := 14) dS_block_14 rfl rfl ?_
    refine z_getR (pc := 15) zo_0 rfl zf_S_11_5 dS_block_15 ?_
    refine z_iconst (pc := 18) dS_block_18 zi_3 ?_
    refine z_aaload (pc := 19) zr_1 rfl (rfl) dS_block_19 ?_
    refine z_getI (pc := 20) zo_8 rfl zf_S_65_2 dS_block_20 ?_
    refine z_bipush (pc := 23) dS_block_23 zb_16 ?_
    refine z_icmp_eq (pc := 25) (by omega) (by omega) (tgt := 38) dS_block_25 rfl (fun h => by exfalso; omega) (fun h => ?_)
    exact z_throw (pc := 28) zt_S_block_28 (hEx _ _ _ (⟨rfl, rfl, rfl⟩)) (by decide)
theorem c_block0 (hst : l.stackTraces = false)  (hn0 : n 0 = 16) (hn3 : n 3 = 16) (hcs : zCS A B) (hs : zCR A n R m X) (hv : zVS n R m X) : z_XMet l g ad mS_block z_rp [.ref (ad 0)] A B (z_vd (zCP A B n R 16 (zE (R 0) (R 3)))) := by
  refine z_XMet.of (L := [(0, _)]) hst (by decide) (Nat.le_of_ble_eq_true rfl) z_fitx_vd rfl (by decide) ?_
  intro Ex hEx
  have k0 := hv.1 0 (by decide)
  have k1 := hv.1 1 (by decide)
  have k2 := hv.1 2 (by decide)
  have k3 := hv.1 3 (by decide)
  have l0 : zmost 0 = 16 := rfl
  have l1 : zmost 1 = 24 := rfl
  have l2 : zmost 2 = 32 := rfl
  have l3 : zmost 3 = 64 := rfl
  obtain ⟨e0, r0⟩ := hs.r0
  obtain ⟨e1, r1⟩ := hs.r1
  obtain ⟨e2, r2⟩ := hs.r2
  obtain ⟨e3, r3⟩ := hs.r3
  refine z_aload_n (pc := 0) dS_block_0 rfl rfl ?_
  refine z_getR (pc := 1) zo_0 rfl zf_S_11_5 dS_block_1 ?_
  refine z_iconst (pc := 4) dS_block_4 zi_0 ?_
  refine z_aaload (pc := 5) zr_1 rfl (rfl) dS_block_5 ?_
  refine z_getI (pc := 6) zo_2 rfl zf_S_65_2 dS_block_6 ?_
  refine z_bipush (pc := 9) dS_block_9 zb_16 ?_
  refine z_icmp_ne (pc := 11) (by omega) (by omega) (tgt := 28) dS_block_11 rfl (fun h => by exfalso; omega) (fun h => ?_)
  refine z_aload_n (pc := 14) dS_block_14 rfl rfl ?_
  refine z_getR (pc := 15) zo_0 rfl zf_S_11_5 dS_block_15 ?_
  refine z_iconst (pc := 18) dS_block_18 zi_3 ?_
  refine z_aaload (pc := 19) zr_1 rfl (rfl) dS_block_19 ?_
  refine z_getI (pc := 20) zo_8 rfl zf_S_65_2 dS_block_20 ?_
  refine z_bipush (pc := 23) dS_block_23 zb_16 ?_
  refine z_icmp_eq (pc := 25) (by omega) (by omega) (tgt := 38) dS_block_25 rfl (fun h => ?_) (fun h => by exfalso; omega)
  refine z_aload_n (pc := 38) dS_block_38 rfl rfl ?_
  refine z_getR (pc := 39) zo_0 rfl zf_S_28_5 dS_block_39 ?_
  refine z_aload_n (pc := 42) dS_block_42 rfl rfl ?_
  refine z_getR (pc := 43) zo_0 rfl zf_S_11_5 dS_block_43 ?_
  refine z_iconst (pc := 46) dS_block_46 zi_0 ?_
  refine z_aaload (pc := 47) zr_1 rfl (rfl) dS_block_47 ?_
  refine z_getR (pc := 48) zo_2 rfl zf_S_91_2 dS_block_48 ?_
  refine z_callV (pc := 51) (c_useKey (kk := 3) za_3 (by omega) hcs.1 (fun j hj => by rw [r0 j (by omega)]; exact k0.2 j (by omega))) (by decide) zo_14 rfl zc_S_103 rfl rfl (Nat.le_of_ble_eq_true rfl) dS_block_51 (fun r A1 B' hE => ?_)
  obtain ⟨rfl, rfl, f1, w1⟩ := hE
  refine z_r0 ?_
  refine z_aload_n (pc := 54) dS_block_54 rfl rfl ?_
  refine z_getR (pc := 55) zo_0 rfl zf_S_28_5 dS_block_55 ?_
  refine z_aload_n (pc := 58) dS_block_58 rfl rfl ?_
  refine z_getR (pc := 59) zo_0 rfl zf_S_11_5 dS_block_59 ?_
  refine z_iconst (pc := 62) dS_block_62 zi_3 ?_
  refine z_aaload (pc := 63) zr_1 rfl (rfl) dS_block_63 ?_
  refine z_getR (pc := 64) zo_8 rfl zf_S_91_2 dS_block_64 ?_
  refine z_aload_n (pc := 67) dS_block_67 rfl rfl ?_
  refine z_getR (pc := 68) zo_0 rfl zf_S_18_5 dS_block_68 ?_
  refine z_getR (pc := 71) zo_10 rfl zf_S_91_2 dS_block_71 ?_
  refine z_callV (pc := 74) (c_encipher (f := 9) (t := 11) (W := zKX (A 3)) za_9 (by omega) za_11 (by omega) (by decide) (by decide) (fun j hj => by rw [f1 15 (by decide)]; exact hcs.1 j hj) w1 (zKX_by (fun j hj => by rw [r0 j (by omega)]; exact k0.2 j (by omega))) (fun j hj => by rw [f1 9 (by decide), r3 j (by omega)]; exact k3.2 j (by omega))) (by decide) zo_14 rfl zc_S_107 rfl rfl (Nat.le_of_ble_eq_true rfl) dS_block_74 (fun r A2 B' hE => ?_)
  obtain ⟨rfl, rfl, f2, x2, -⟩ := hE
  have F : z_fr [11, 16, 17, 18] A A2 := fun q hk => (f2 q (z_nm hk (by decide)) (z_nm hk (by decide)) (z_nm hk (by decide))).trans (f1 q (z_nm hk (by decide)))
  refine z_r0 ?_
  refine z_aload_n (pc := 77) dS_block_77 rfl rfl ?_
  refine z_getR (pc := 78) zo_0 rfl zf_S_18_5 dS_block_78 ?_
  refine z_bipush (pc := 81) dS_block_81 zb_16 ?_
  refine z_putI (pc := 83) zo_10 rfl zp_S_65_2 dS_block_83 ?_
  exact z_ret0 (pc := 86) dS_block_86 (hEx _ _ _ (⟨rfl, fun q hq => by rw [z_set_ne (by omega)]; exact F q (by simp; omega), fun _ _ => rfl, hcs.mv (by rw [z_set_ne (by decide)]; exact F 15 (by decide)) (by rw [z_set_ne (by decide)]; exact F 31 (by decide)) (by rw [z_set_ne (by decide)]; exact F 20 (by decide)) (by rw [z_set_ne (by decide)]; exact F 22 (by decide)), hs.res (fun q h2 h10 => by rw [z_set_ne (by omega)]; exact F q (by simp; omega)) z_set_at (fun j hj => by rw [z_set_ne (by decide), x2 j hj]; exact zE_cg (fun j' h' => r0 j' (by omega)) (fun j' h' => by rw [f1 9 (by decide)]; exact r3 j' (by omega)) j hj)⟩))
theorem c_hash1 (hst : l.stackTraces = false) {x : Int32} (hx : x < 0 ∨ nI 2 ≤ x) : z_XMet l g ad mS_hash z_rp [.ref (ad 0), .int x] A B (z_th 0 A B) := by
  refine z_XMet.of (L := [(0, _), (1, _)]) hst (by decide) (Nat.le_of_ble_eq_true rfl) z_fitx_th rfl (by decide) ?_
  intro Ex hEx
  refine z_iload_n (pc := 0) dS_hash_0 rfl rfl ?_
  refine z_callXS (pc := 1) (c_requireWay0 hst hx) (by decide) zc_S_111 rfl rfl (Nat.le_of_ble_eq_true rfl) (by decide) dS_hash_1 (fun x9 A9 B9 h9 => hEx _ _ _ h9) (fun r A' B' hn9 hE => ?_)
  exact absurd hE.1.symm (hn9 _)
theorem c_hash2 (hst : l.stackTraces = false) {w : Nat} (hw : w < 2) (hn : n 0 ≠ 16) (hcs : zCS A B) (hs : zCR A n R m X) (hv : zVS n R m X) : z_XMet l g ad mS_hash z_rp [.ref (ad 0), .int (nI w)] A B (z_th 1 A B) := by
  refine z_XMet.of (L := [(0, _), (1, _)]) hst (by decide) (Nat.le_of_ble_eq_true rfl) z_fitx_th rfl (by decide) ?_
  intro Ex hEx
  have k0 := hv.1 0 (by decide)
  have k1 := hv.1 1 (by decide)
  have k2 := hv.1 2 (by decide)
  have k3 := hv.1 3 (by decide)
  have l0 : zmost 0 = 16 := rfl
  have l1 : zmost 1 = 24 := rfl
  have l2 : zmost 2 = 32 := rfl
  have l3 : zmost 3 = 64 := rfl
  obtain ⟨e0, r0⟩ := hs.r0
  obtain ⟨e1, r1⟩ := hs.r1
  obtain ⟨e2, r2⟩ := hs.r2
  obtain ⟨e3, r3⟩ := hs.r3
  refine z_iload_n (pc := 0) dS_hash_0 rfl rfl ?_
  refine z_callXS (pc := 1) (c_requireWay1 hst hw) (by decide) zc_S_111 rfl rfl (Nat.le_of_ble_eq_true rfl) (by decide) dS_hash_1 (fun _ _ _ h9 => by cases h9.1) (fun r A' B' hn9 hE => ?_)
  obtain ⟨rfl, rfl, rfl⟩ := hE
  refine z_r0 ?_
  refine z_aload_n (pc := 4) dS_hash_4 rfl rfl ?_
  refine z_getR (pc := 5) zo_0 rfl zf_S_11_5 dS_hash_5 ?_
  refine z_iconst (pc := 8) dS_hash_8 zi_0 ?_
  refine z_aaload (pc := 9) zr_1 rfl (rfl) dS_hash_9 ?_
  refine z_getI (pc := 10) zo_2 rfl zf_S_65_2 dS_hash_10 ?_
  refine z_bipush (pc := 13) dS_hash_13 zb_16 ?_
  refine z_icmp_eq (pc := 15) (by omega) (by omega) (tgt := 28) dS_hash_15 rfl (fun h => by exfalso; omega) (fun h => ?_)
  exact z_throw (pc := 18) zt_S_hash_18 (hEx _ _ _ (⟨rfl, rfl, rfl⟩)) (by decide)
theorem c_hash0_0 (hst : l.stackTraces = false)  (hn0 : n 0 = 16) (hcs : zCS A B) (hs : zCR A n R m X) (hv : zVS n R m X) : z_XMet l g ad mS_hash z_rp [.ref (ad 0), .int (nI 0)] A B (z_vd (zCP A B n R 16 (fun j => zby (zmw 0) (zrow 0 (zHw 0 (R 0)) (R 3) (n 3) 0) j))) := by
  refine z_XMet.of (L := [(0, _), (1, _)]) hst (by decide) (Nat.le_of_ble_eq_true rfl) z_fitx_vd rfl (by decide) ?_
  intro Ex hEx
  have k0 := hv.1 0 (by decide)
  have k1 := hv.1 1 (by decide)
  have k2 := hv.1 2 (by decide)
  have k3 := hv.1 3 (by decide)
  have l0 : zmost 0 = 16 := rfl
  have l1 : zmost 1 = 24 := rfl
  have l2 : zmost 2 = 32 := rfl
  have l3 : zmost 3 = 64 := rfl
  obtain ⟨e0, r0⟩ := hs.r0
  obtain ⟨e1, r1⟩ := hs.r1
  obtain ⟨e2, r2⟩ := hs.r2
  obtain ⟨e3, r3⟩ := hs.r3
  obtain ⟨H0, S0, hq⟩ := hcs.2.2.2.2.1
  have hw := hcs.2.2.1
  refine z_iload_n (pc := 0) dS_hash_0 rfl rfl ?_
  refine z_callXS (pc := 1) (c_requireWay1 (r := 0) hst (by omega)) (by decide) zc_S_111 rfl rfl (Nat.le_of_ble_eq_true rfl) (by decide) dS_hash_1 (fun _ _ _ h9 => by cases h9.1) (fun r A' B' hn9 hE => ?_)
  obtain ⟨rfl, rfl, rfl⟩ := hE
  refine z_r0 ?_
  refine z_aload_n (pc := 4) dS_hash_4 rfl rfl ?_
  refine z_getR (pc := 5) zo_0 rfl zf_S_11_5 dS_hash_5 ?_
  refine z_iconst (pc := 8) dS_hash_8 zi_0 ?_
  refine z_aaload (pc := 9) zr_1 rfl (rfl) dS_hash_9 ?_
  refine z_getI (pc := 10) zo_2 rfl zf_S_65_2 dS_hash_10 ?_
  refine z_bipush (pc := 13) dS_hash_13 zb_16 ?_
  refine z_icmp_eq (pc := 15) (by omega) (by omega) (tgt := 28) dS_hash_15 rfl (fun h => ?_) (fun h => by exfalso; omega)
  refine z_aload_n (pc := 28) dS_hash_28 rfl rfl ?_
  refine z_getR (pc := 29) zo_0 rfl zf_S_34_5 dS_hash_29 ?_
  refine z_iload_n (pc := 32) dS_hash_32 rfl rfl ?_
  refine z_aaload (pc := 33) zr_19 rfl (rfl) dS_hash_33 ?_
  refine z_astore_n (L' := [(2, _), (0, _), (1, _)]) (pc := 34) dS_hash_34 rfl (by decide) rfl ?_
  refine z_aload_n (pc := 35) dS_hash_35 rfl rfl ?_
  refine z_aload_n (pc := 36) dS_hash_36 rfl rfl ?_
  refine z_getR (pc := 37) zo_0 rfl zf_S_11_5 dS_hash_37 ?_
  refine z_iconst (pc := 40) dS_hash_40 zi_0 ?_
  refine z_aaload (pc := 41) zr_1 rfl (rfl) dS_hash_41 ?_
  refine z_getR (pc := 42) zo_2 rfl zf_S_91_2 dS_hash_42 ?_
  refine z_callV (pc := 45) (c_begin (k := 20) (c := 3) (o := zow 0) (mr := zmw 0) (ov := zvw 0) zo_20 za_3 (by omega) (fun j hj => by rw [r0 j (by omega)]; exact k0.2 j (by omega)) (Or.inl rfl) hw hq) (by decide) zo_20 rfl zc_S_116 rfl rfl (Nat.le_of_ble_eq_true rfl) dS_hash_45 (fun r A' B1 hE => ?_)
  obtain ⟨rfl, rfl, hB1, hq1⟩ := hE
  replace hq1 : z_hk B1 20 (zHw 0 (R 0)) 0 := by rw [← zHw_cg (hk := A 3) (fun j hj => r0 j (by omega))]; exact hq1
  have hw1 := hw.mv rfl hB1
  refine z_r0 ?_
  refine z_aload_n (pc := 48) dS_hash_48 rfl rfl ?_
  refine z_aload_n (pc := 49) dS_hash_49 rfl rfl ?_
  refine z_getR (pc := 50) zo_0 rfl zf_S_11_5 dS_hash_50 ?_
  refine z_iconst (pc := 53) dS_hash_53 zi_3 ?_
  refine z_aaload (pc := 54) zr_1 rfl (rfl) dS_hash_54 ?_
  refine z_getR (pc := 55) zo_8 rfl zf_S_91_2 dS_hash_55 ?_
  refine z_aload_n (pc := 58) dS_hash_58 rfl rfl ?_
  refine z_getR (pc := 59) zo_0 rfl zf_S_11_5 dS_hash_59 ?_
  refine z_iconst (pc := 62) dS_hash_62 zi_3 ?_
  refine z_aaload (pc := 63) zr_1 rfl (rfl) dS_hash_63 ?_
  refine z_getI (pc := 64) zo_8 rfl zf_S_65_2 dS_hash_64 ?_
  refine z_callV (pc := 67) (c_add (k := 20) zo_20 za_9 (by omega) (by omega) (fun j hj => by rw [e3] at hj; rw [r3 j hj]; exact k3.2 j hj) hw1 hq1) (by decide) zo_20 rfl zc_S_119 rfl rfl (Nat.le_of_ble_eq_true rfl) dS_hash_67 (fun r A' B2 hE => ?_)
  obtain ⟨rfl, rfl, hB2, hq2⟩ := hE
  rw [e3] at hq2
  replace hq2 : z_hk B2 20 (zHw 0 (R 0)) (zrow 0 (zHw 0 (R 0)) (R 3) (n 3) 0) := by rw [← zrow_cg (X := A 9) r3]; exact hq2
  refine z_r0 ?_
  refine z_aload_n (pc := 70) dS_hash_70 rfl rfl ?_
  refine z_aload_n (pc := 71) dS_hash_71 rfl rfl ?_
  refine z_getR (pc := 72) zo_0 rfl zf_S_18_5 dS_hash_72 ?_
  refine z_getR (pc := 75) zo_10 rfl zf_S_91_2 dS_hash_75 ?_
  refine z_callV (pc := 78) (c_write (k := 20) (c := 11) (mr := zmw 0) zo_20 za_11 (by omega) (by decide) hw.2.1 (zmw_ok 0) hq2) (by decide) zo_20 rfl zc_S_123 rfl rfl (Nat.le_of_ble_eq_true rfl) dS_hash_78 (fun r A2 B' hE => ?_)
  obtain ⟨rfl, rfl, F, x2, -⟩ := hE
  refine z_r0 ?_
  refine z_aload_n (pc := 81) dS_hash_81 rfl rfl ?_
  refine z_getR (pc := 82) zo_0 rfl zf_S_18_5 dS_hash_82 ?_
  refine z_bipush (pc := 85) dS_hash_85 zb_16 ?_
  refine z_putI (pc := 87) zo_10 rfl zp_S_65_2 dS_hash_87 ?_
  exact z_ret0 (pc := 90) dS_hash_90 (hEx _ _ _ (⟨rfl, fun q hq => by rw [z_set_ne (by omega)]; exact F q (by omega), fun q hq => (hB1.tr hB2).hi (by decide) q hq, hcs.h0 (by rw [z_set_ne (by decide)]; exact F 15 (by decide)) (by rw [z_set_ne (by decide)]; exact F 31 (by decide)) (by rw [z_set_ne (by decide)]; exact F 20 (by decide)) (by rw [z_set_ne (by decide)]; exact F 22 (by decide)) (hB1.tr hB2) ⟨_, _, hq2⟩, hs.res (fun q h2 h10 => by rw [z_set_ne (by omega)]; exact F q (by omega)) z_set_at (fun j hj => by rw [z_set_ne (by decide)]; exact x2 j hj)⟩))
theorem c_hash0_1 (hst : l.stackTraces = false)  (hn0 : n 0 = 16) (hcs : zCS A B) (hs : zCR A n R m X) (hv : zVS n R m X) : z_XMet l g ad mS_hash z_rp [.ref (ad 0), .int (nI 1)] A B (z_vd (zCP A B n R 16 (fun j => zby (zmw 1) (zrow 1 (zHw 1 (R 0)) (R 3) (n 3) 0) j))) := by
  refine z_XMet.of (L := [(0, _), (1, _)]) hst (by decide) (Nat.le_of_ble_eq_true rfl) z_fitx_vd rfl (by decide) ?_
  intro Ex hEx
  have k0 := hv.1 0 (by decide)
  have k1 := hv.1 1 (by decide)
  have k2 := hv.1 2 (by decide)
  have k3 := hv.1 3 (by decide)
  have l0 : zmost 0 = 16 := rfl
  have l1 : zmost 1 = 24 := rfl
  have l2 : zmost 2 = 32 := rfl
  have l3 : zmost 3 = 64 := rfl
  obtain ⟨e0, r0⟩ := hs.r0
  obtain ⟨e1, r1⟩ := hs.r1
  obtain ⟨e2, r2⟩ := hs.r2
  obtain ⟨e3, r3⟩ := hs.r3
  obtain ⟨H0, S0, hq⟩ := hcs.2.2.2.2.2
  have hw := hcs.2.2.2.1
  refine z_iload_n (pc := 0) dS_hash_0 rfl rfl ?_
  refine z_callXS (pc := 1) (c_requireWay1 (r := 1) hst (by omega)) (by decide) zc_S_111 rfl rfl (Nat.le_of_ble_eq_true rfl) (by decide) dS_hash_1 (fun _ _ _ h9 => by cases h9.1) (fun r A' B' hn9 hE => ?_)
  obtain ⟨rfl, rfl, rfl⟩ := hE
  refine z_r0 ?_
  refine z_aload_n (pc := 4) dS_hash_4 rfl rfl ?_
  refine z_getR (pc := 5) zo_0 rfl zf_S_11_5 dS_hash_5 ?_
  refine z_iconst (pc := 8) dS_hash_8 zi_0 ?_
  refine z_aaload (pc := 9) zr_1 rfl (rfl) dS_hash_9 ?_
  refine z_getI (pc := 10) zo_2 rfl zf_S_65_2 dS_hash_10 ?_
  refine z_bipush (pc := 13) dS_hash_13 zb_16 ?_
  refine z_icmp_eq (pc := 15) (by omega) (by omega) (tgt := 28) dS_hash_15 rfl (fun h => ?_) (fun h => by exfalso; omega)
  refine z_aload_n (pc := 28) dS_hash_28 rfl rfl ?_
  refine z_getR (pc := 29) zo_0 rfl zf_S_34_5 dS_hash_29 ?_
  refine z_iload_n (pc := 32) dS_hash_32 rfl rfl ?_
  refine z_aaload (pc := 33) zr_19 rfl (rfl) dS_hash_33 ?_
  refine z_astore_n (L' := [(2, _), (0, _), (1, _)]) (pc := 34) dS_hash_34 rfl (by decide) rfl ?_
  refine z_aload_n (pc := 35) dS_hash_35 rfl rfl ?_
  refine z_aload_n (pc := 36) dS_hash_36 rfl rfl ?_
  refine z_getR (pc := 37) zo_0 rfl zf_S_11_5 dS_hash_37 ?_
  refine z_iconst (pc := 40) dS_hash_40 zi_0 ?_
  refine z_aaload (pc := 41) zr_1 rfl (rfl) dS_hash_41 ?_
  refine z_getR (pc := 42) zo_2 rfl zf_S_91_2 dS_hash_42 ?_
  refine z_callV (pc := 45) (c_begin (k := 22) (c := 3) (o := zow 1) (mr := zmw 1) (ov := zvw 1) zo_22 za_3 (by omega) (fun j hj => by rw [r0 j (by omega)]; exact k0.2 j (by omega)) (Or.inr rfl) hw hq) (by decide) zo_22 rfl zc_S_116 rfl rfl (Nat.le_of_ble_eq_true rfl) dS_hash_45 (fun r A' B1 hE => ?_)
  obtain ⟨rfl, rfl, hB1, hq1⟩ := hE
  replace hq1 : z_hk B1 22 (zHw 1 (R 0)) 0 := by rw [← zHw_cg (hk := A 3) (fun j hj => r0 j (by omega))]; exact hq1
  have hw1 := hw.mv rfl hB1
  refine z_r0 ?_
  refine z_aload_n (pc := 48) dS_hash_48 rfl rfl ?_
  refine z_aload_n (pc := 49) dS_hash_49 rfl rfl ?_
  refine z_getR (pc := 50) zo_0 rfl zf_S_11_5 dS_hash_50 ?_
  refine z_iconst (pc := 53) dS_hash_53 zi_3 ?_
  refine z_aaload (pc := 54) zr_1 rfl (rfl) dS_hash_54 ?_
  refine z_getR (pc := 55) zo_8 rfl zf_S_91_2 dS_hash_55 ?_
  refine z_aload_n (pc := 58) dS_hash_58 rfl rfl ?_
  refine z_getR (pc := 59) zo_0 rfl zf_S_11_5 dS_hash_59 ?_
  refine z_iconst (pc := 62) dS_hash_62 zi_3 ?_
  refine z_aaload (pc := 63) zr_1 rfl (rfl) dS_hash_63 ?_
  refine z_getI (pc := 64) zo_8 rfl zf_S_65_2 dS_hash_64 ?_
  refine z_callV (pc := 67) (c_add (k := 22) zo_22 za_9 (by omega) (by omega) (fun j hj => by rw [e3] at hj; rw [r3 j hj]; exact k3.2 j hj) hw1 hq1) (by decide) zo_22 rfl zc_S_119 rfl rfl (Nat.le_of_ble_eq_true rfl) dS_hash_67 (fun r A' B2 hE => ?_)
  obtain ⟨rfl, rfl, hB2, hq2⟩ := hE
  rw [e3] at hq2
  replace hq2 : z_hk B2 22 (zHw 1 (R 0)) (zrow 1 (zHw 1 (R 0)) (R 3) (n 3) 0) := by rw [← zrow_cg (X := A 9) r3]; exact hq2
  refine z_r0 ?_
  refine z_aload_n (pc := 70) dS_hash_70 rfl rfl ?_
  refine z_aload_n (pc := 71) dS_hash_71 rfl rfl ?_
  refine z_getR (pc := 72) zo_0 rfl zf_S_18_5 dS_hash_72 ?_
  refine z_getR (pc := 75) zo_10 rfl zf_S_91_2 dS_hash_75 ?_
  refine z_callV (pc := 78) (c_write (k := 22) (c := 11) (mr := zmw 1) zo_22 za_11 (by omega) (by decide) hw.2.1 (zmw_ok 1) hq2) (by decide) zo_22 rfl zc_S_123 rfl rfl (Nat.le_of_ble_eq_true rfl) dS_hash_78 (fun r A2 B' hE => ?_)
  obtain ⟨rfl, rfl, F, x2, -⟩ := hE
  refine z_r0 ?_
  refine z_aload_n (pc := 81) dS_hash_81 rfl rfl ?_
  refine z_getR (pc := 82) zo_0 rfl zf_S_18_5 dS_hash_82 ?_
  refine z_bipush (pc := 85) dS_hash_85 zb_16 ?_
  refine z_putI (pc := 87) zo_10 rfl zp_S_65_2 dS_hash_87 ?_
  exact z_ret0 (pc := 90) dS_hash_90 (hEx _ _ _ (⟨rfl, fun q hq => by rw [z_set_ne (by omega)]; exact F q (by omega), fun q hq => (hB1.tr hB2).hi (by decide) q hq, hcs.h1 (by rw [z_set_ne (by decide)]; exact F 15 (by decide)) (by rw [z_set_ne (by decide)]; exact F 31 (by decide)) (by rw [z_set_ne (by decide)]; exact F 20 (by decide)) (by rw [z_set_ne (by decide)]; exact F 22 (by decide)) (hB1.tr hB2) ⟨_, _, hq2⟩, hs.res (fun q h2 h10 => by rw [z_set_ne (by omega)]; exact F q (by omega)) z_set_at (fun j hj => by rw [z_set_ne (by decide)]; exact x2 j hj)⟩))
theorem c_rkn1_0 (hst : l.stackTraces = false)  (hrd : zrdy 0 n) (hcs : zCS A B) (hs : zCR A n R m X) (hv : zVS n R m X) : z_XMet l g ad mS_requireKeyAndNonce z_rq [.ref (ad 0), .int (nI 0)] A B (z_eq none A B) := by
  refine z_XMet.of (L := [(0, _), (1, _)]) hst (by decide) (Nat.le_of_ble_eq_true rfl) (z_fitx_eq rfl) rfl (by decide) ?_
  intro Ex hEx
  have k0 := hv.1 0 (by decide)
  have k1 := hv.1 1 (by decide)
  have k2 := hv.1 2 (by decide)
  have k3 := hv.1 3 (by decide)
  have l0 : zmost 0 = 16 := rfl
  have l1 : zmost 1 = 24 := rfl
  have l2 : zmost 2 = 32 := rfl
  have l3 : zmost 3 = 64 := rfl
  obtain ⟨e0, r0⟩ := hs.r0
  obtain ⟨e1, r1⟩ := hs.r1
  obtain ⟨e2, r2⟩ := hs.r2
  obtain ⟨e3, r3⟩ := hs.r3
  have n0 : n 0 = 16 := hrd.1
  have n1 : 1 ≤ n 1 := hrd.2
  refine z_aload_n (pc := 0) dS_requireKeyAndNonce_0 rfl rfl ?_
  refine z_getR (pc := 1) zo_0 rfl zf_S_11_5 dS_requireKeyAndNonce_1 ?_
  refine z_iconst (pc := 4) dS_requireKeyAndNonce_4 zi_0 ?_
  refine z_aaload (pc := 5) zr_1 rfl (rfl) dS_requireKeyAndNonce_5 ?_
  refine z_getI (pc := 6) zo_2 rfl zf_S_65_2 dS_requireKeyAndNonce_6 ?_
  refine z_bipush (pc := 9) dS_requireKeyAndNonce_9 zb_16 ?_
  refine z_icmp_ne (pc := 11) (by omega) (by omega) (tgt := 35) dS_requireKeyAndNonce_11 rfl (fun h => by exfalso; omega) (fun h => ?_)
  refine z_aload_n (pc := 14) dS_requireKeyAndNonce_14 rfl rfl ?_
  refine z_getR (pc := 15) zo_0 rfl zf_S_43_5 dS_requireKeyAndNonce_15 ?_
  refine z_iload_n (pc := 18) dS_requireKeyAndNonce_18 rfl rfl ?_
  refine z_aaload (pc := 19) zr_24 rfl (rfl) dS_requireKeyAndNonce_19 ?_
  refine z_aload_n (pc := 20) dS_requireKeyAndNonce_20 rfl rfl ?_
  refine z_getR (pc := 21) zo_0 rfl zf_S_11_5 dS_requireKeyAndNonce_21 ?_
  refine z_iconst (pc := 24) dS_requireKeyAndNonce_24 zi_1 ?_
  refine z_aaload (pc := 25) zr_1 rfl (rfl) dS_requireKeyAndNonce_25 ?_
  refine z_getI (pc := 26) zo_4 rfl zf_S_65_2 dS_requireKeyAndNonce_26 ?_
  refine z_callU (pc := 29) (c_takes0 (by omega)) (by decide) zo_25 rfl zc_S_155_Z rfl rfl (Nat.le_of_ble_eq_true rfl) dS_requireKeyAndNonce_29 (fun r A' B' hE => ?_)
  obtain ⟨rfl, rfl, rfl⟩ := hE
  refine z_r1 ?_
  refine z_top (congrArg (fun x => Value.int (nI x)) (if_pos (by rw [e1]; omega))) ?_
  refine z_if_ne (pc := 32) (by omega) (tgt := 45) dS_requireKeyAndNonce_32 rfl (fun h => ?_) (fun h => by exfalso; omega)
  exact z_ret0 (pc := 45) dS_requireKeyAndNonce_45 (hEx _ _ _ (⟨rfl, rfl, rfl⟩))
theorem c_rkn0_0 (hst : l.stackTraces = false)  (hrd : ¬ zrdy 0 n) (hcs : zCS A B) (hs : zCR A n R m X) (hv : zVS n R m X) : z_XMet l g ad mS_requireKeyAndNonce z_rq [.ref (ad 0), .int (nI 0)] A B (z_th 1 A B) := by
  refine z_XMet.of (L := [(0, _), (1, _)]) hst (by decide) (Nat.le_of_ble_eq_true rfl) z_fitx_th rfl (by decide) ?_
  intro Ex hEx
  have k0 := hv.1 0 (by decide)
  have k1 := hv.1 1 (by decide)
  have k2 := hv.1 2 (by decide)
  have k3 := hv.1 3 (by decide)
  have l0 : zmost 0 = 16 := rfl
  have l1 : zmost 1 = 24 := rfl
  have l2 : zmost 2 = 32 := rfl
  have l3 : zmost 3 = 64 := rfl
  obtain ⟨e0, r0⟩ := hs.r0
  obtain ⟨e1, r1⟩ := hs.r1
  obtain ⟨e2, r2⟩ := hs.r2
  obtain ⟨e3, r3⟩ := hs.r3
  by_cases n0 : n 0 = 16
  · have n1 : ¬ (1 ≤ n 1) := fun q => hrd ⟨n0, q⟩
    refine z_aload_n (pc := 0) dS_requireKeyAndNonce_0 rfl rfl ?_
    refine z_getR (pc := 1) zo_0 rfl zf_S_11_5 dS_requireKeyAndNonce_1 ?_
    refine z_iconst (pc := 4) dS_requireKeyAndNonce_4 zi_0 ?_
    refine z_aaload (pc := 5) zr_1 rfl (rfl) dS_requireKeyAndNonce_5 ?_
    refine z_getI (pc := 6) zo_2 rfl zf_S_65_2 dS_requireKeyAndNonce_6 ?_
    refine z_bipush (pc := 9) dS_requireKeyAndNonce_9 zb_16 ?_
    refine z_icmp_ne (pc := 11) (by omega) (by omega) (tgt := 35) dS_requireKeyAndNonce_11 rfl (fun h => by exfalso; omega) (fun h => ?_)
    refine z_aload_n (pc := 14) dS_requireKeyAndNonce_14 rfl rfl ?_
    refine z_getR (pc := 15) zo_0 rfl zf_S_43_5 dS_requireKeyAndNonce_15 ?_
    refine z_iload_n (pc := 18) dS_requireKeyAndNonce_18 rfl rfl ?_
    refine z_aaload (pc := 19) zr_24 rfl (rfl) dS_requireKeyAndNonce_19 ?_
    refine z_aload_n (pc := 20) dS_requireKeyAndNonce_20 rfl rfl ?_
    refine z_getR (pc := 21) zo_0 rfl zf_S_11_5 dS_requireKeyAndNonce_21 ?_
    refine z_iconst (pc := 24) dS_requireKeyAndNonce_24 zi_1 ?_
    refine z_aaload (pc := 25) zr_1 rfl (rfl) dS_requireKeyAndNonce_25 ?_
    refine z_getI (pc := 26) zo_4 rfl zf_S_65_2 dS_requireKeyAndNonce_26 ?_
    refine z_callU (pc := 29) (c_takes0 (by omega)) (by decide) zo_25 rfl zc_S_155_Z rfl rfl (Nat.le_of_ble_eq_true rfl) dS_requireKeyAndNonce_29 (fun r A' B' hE => ?_)
    obtain ⟨rfl, rfl, rfl⟩ := hE
    refine z_r1 ?_
    refine z_top (congrArg (fun x => Value.int (nI x)) (if_neg (by rw [e1]; omega))) ?_
    refine z_if_ne (pc := 32) (by omega) (tgt := 45) dS_requireKeyAndNonce_32 rfl (fun h => by exfalso; omega) (fun h => ?_)
    exact z_throw (pc := 35) zt_S_requireKeyAndNonce_35 (hEx _ _ _ (⟨rfl, rfl, rfl⟩)) (by decide)
  · refine z_aload_n (pc := 0) dS_requireKeyAndNonce_0 rfl rfl ?_
    refine z_getR (pc := 1) zo_0 rfl zf_S_11_5 dS_requireKeyAndNonce_1 ?_
    refine z_iconst (pc := 4) dS_requireKeyAndNonce_4 zi_0 ?_
    refine z_aaload (pc := 5) zr_1 rfl (rfl) dS_requireKeyAndNonce_5 ?_
    refine z_getI (pc := 6) zo_2 rfl zf_S_65_2 dS_requireKeyAndNonce_6 ?_
    refine z_bipush (pc := 9) dS_requireKeyAndNonce_9 zb_16 ?_
    refine z_icmp_ne (pc := 11) (by omega) (by omega) (tgt := 35) dS_requireKeyAndNonce_11 rfl (fun h => ?_) (fun h => by exfalso; omega)
    exact z_throw (pc := 35) zt_S_requireKeyAndNonce_35 (hEx _ _ _ (⟨rfl, rfl, rfl⟩)) (by decide)
theorem c_rkn1_1 (hst : l.stackTraces = false)  (hrd : zrdy 1 n) (hcs : zCS A B) (hs : zCR A n R m X) (hv : zVS n R m X) : z_XMet l g ad mS_requireKeyAndNonce z_rq [.ref (ad 0), .int (nI 1)] A B (z_eq none A B) := by
  refine z_XMet.of (L := [(0, _), (1, _)]) hst (by decide) (Nat.le_of_ble_eq_true rfl) (z_fitx_eq rfl) rfl (by decide) ?_
  intro Ex hEx
  have k0 := hv.1 0 (by decide)
  have k1 := hv.1 1 (by decide)
  have k2 := hv.1 2 (by decide)
  have k3 := hv.1 3 (by decide)
  have l0 : zmost 0 = 16 := rfl
  have l1 : zmost 1 = 24 := rfl
  have l2 : zmost 2 = 32 := rfl
  have l3 : zmost 3 = 64 := rfl
  obtain ⟨e0, r0⟩ := hs.r0
  obtain ⟨e1, r1⟩ := hs.r1
  obtain ⟨e2, r2⟩ := hs.r2
  obtain ⟨e3, r3⟩ := hs.r3
  have n0 : n 0 = 16 := hrd.1
  have n1 : n 1 = 12 := hrd.2
  refine z_aload_n (pc := 0) dS_requireKeyAndNonce_0 rfl rfl ?_
  refine z_getR (pc := 1) zo_0 rfl zf_S_11_5 dS_requireKeyAndNonce_1 ?_
  refine z_iconst (pc := 4) dS_requireKeyAndNonce_4 zi_0 ?_
  refine z_aaload (pc := 5) zr_1 rfl (rfl) dS_requireKeyAndNonce_5 ?_
  refine z_getI (pc := 6) zo_2 rfl zf_S_65_2 dS_requireKeyAndNonce_6 ?_
  refine z_bipush (pc := 9) dS_requireKeyAndNonce_9 zb_16 ?_
  refine z_icmp_ne (pc := 11) (by omega) (by omega) (tgt := 35) dS_requireKeyAndNonce_11 rfl (fun h => by exfalso; omega) (fun h => ?_)
  refine z_aload_n (pc := 14) dS_requireKeyAndNonce_14 rfl rfl ?_
  refine z_getR (pc := 15) zo_0 rfl zf_S_43_5 dS_requireKeyAndNonce_15 ?_
  refine z_iload_n (pc := 18) dS_requireKeyAndNonce_18 rfl rfl ?_
  refine z_aaload (pc := 19) zr_24 rfl (rfl) dS_requireKeyAndNonce_19 ?_
  refine z_aload_n (pc := 20) dS_requireKeyAndNonce_20 rfl rfl ?_
  refine z_getR (pc := 21) zo_0 rfl zf_S_11_5 dS_requireKeyAndNonce_21 ?_
  refine z_iconst (pc := 24) dS_requireKeyAndNonce_24 zi_1 ?_
  refine z_aaload (pc := 25) zr_1 rfl (rfl) dS_requireKeyAndNonce_25 ?_
  refine z_getI (pc := 26) zo_4 rfl zf_S_65_2 dS_requireKeyAndNonce_26 ?_
  refine z_callU (pc := 29) (c_takes1 (by omega)) (by decide) zo_32 rfl zc_S_155_O rfl rfl (Nat.le_of_ble_eq_true rfl) dS_requireKeyAndNonce_29 (fun r A' B' hE => ?_)
  obtain ⟨rfl, rfl, rfl⟩ := hE
  refine z_r1 ?_
  refine z_top (congrArg (fun x => Value.int (nI x)) (if_pos (by rw [e1]; omega))) ?_
  refine z_if_ne (pc := 32) (by omega) (tgt := 45) dS_requireKeyAndNonce_32 rfl (fun h => ?_) (fun h => by exfalso; omega)
  exact z_ret0 (pc := 45) dS_requireKeyAndNonce_45 (hEx _ _ _ (⟨rfl, rfl, rfl⟩))
theorem c_rkn0_1 (hst : l.stackTraces = false)  (hrd : ¬ zrdy 1 n) (hcs : zCS A B) (hs : zCR A n R m X) (hv : zVS n R m X) : z_XMet l g ad mS_requireKeyAndNonce z_rq [.ref (ad 0), .int (nI 1)] A B (z_th 1 A B) := by
  refine z_XMet.of (L := [(0, _), (1, _)]) hst (by decide) (Nat.le_of_ble_eq_true rfl) z_fitx_th rfl (by decide) ?_
  intro Ex hEx
  have k0 := hv.1 0 (by decide)
  have k1 := hv.1 1 (by decide)
  have k2 := hv.1 2 (by decide)
  have k3 := hv.1 3 (by decide)
  have l0 : zmost 0 = 16 := rfl
  have l1 : zmost 1 = 24 := rfl
  have l2 : zmost 2 = 32 := rfl
  have l3 : zmost 3 = 64 := rfl
  obtain ⟨e0, r0⟩ := hs.r0
  obtain ⟨e1, r1⟩ := hs.r1
  obtain ⟨e2, r2⟩ := hs.r2
  obtain ⟨e3, r3⟩ := hs.r3
  by_cases n0 : n 0 = 16
  · have n1 : ¬ (n 1 = 12) := fun q => hrd ⟨n0, q⟩
    refine z_aload_n (pc := 0) dS_requireKeyAndNonce_0 rfl rfl ?_
    refine z_getR (pc := 1) zo_0 rfl zf_S_11_5 dS_requireKeyAndNonce_1 ?_
    refine z_iconst (pc := 4) dS_requireKeyAndNonce_4 zi_0 ?_
    refine z_aaload (pc := 5) zr_1 rfl (rfl) dS_requireKeyAndNonce_5 ?_
    refine z_getI (pc := 6) zo_2 rfl zf_S_65_2 dS_requireKeyAndNonce_6 ?_
    refine z_bipush (pc := 9) dS_requireKeyAndNonce_9 zb_16 ?_
    refine z_icmp_ne (pc := 11) (by omega) (by omega) (tgt := 35) dS_requireKeyAndNonce_11 rfl (fun h => by exfalso; omega) (fun h => ?_)
    refine z_aload_n (pc := 14) dS_requireKeyAndNonce_14 rfl rfl ?_
    refine z_getR (pc := 15) zo_0 rfl zf_S_43_5 dS_requireKeyAndNonce_15 ?_
    refine z_iload_n (pc := 18) dS_requireKeyAndNonce_18 rfl rfl ?_
    refine z_aaload (pc := 19) zr_24 rfl (rfl) dS_requireKeyAndNonce_19 ?_
    refine z_aload_n (pc := 20) dS_requireKeyAndNonce_20 rfl rfl ?_
    refine z_getR (pc := 21) zo_0 rfl zf_S_11_5 dS_requireKeyAndNonce_21 ?_
    refine z_iconst (pc := 24) dS_requireKeyAndNonce_24 zi_1 ?_
    refine z_aaload (pc := 25) zr_1 rfl (rfl) dS_requireKeyAndNonce_25 ?_
    refine z_getI (pc := 26) zo_4 rfl zf_S_65_2 dS_requireKeyAndNonce_26 ?_
    refine z_callU (pc := 29) (c_takes1 (by omega)) (by decide) zo_32 rfl zc_S_155_O rfl rfl (Nat.le_of_ble_eq_true rfl) dS_requireKeyAndNonce_29 (fun r A' B' hE => ?_)
    obtain ⟨rfl, rfl, rfl⟩ := hE
    refine z_r1 ?_
    refine z_top (congrArg (fun x => Value.int (nI x)) (if_neg (by rw [e1]; omega))) ?_
    refine z_if_ne (pc := 32) (by omega) (tgt := 45) dS_requireKeyAndNonce_32 rfl (fun h => by exfalso; omega) (fun h => ?_)
    exact z_throw (pc := 35) zt_S_requireKeyAndNonce_35 (hEx _ _ _ (⟨rfl, rfl, rfl⟩)) (by decide)
  · refine z_aload_n (pc := 0) dS_requireKeyAndNonce_0 rfl rfl ?_
    refine z_getR (pc := 1) zo_0 rfl zf_S_11_5 dS_requireKeyAndNonce_1 ?_
    refine z_iconst (pc := 4) dS_requireKeyAndNonce_4 zi_0 ?_
    refine z_aaload (pc := 5) zr_1 rfl (rfl) dS_requireKeyAndNonce_5 ?_
    refine z_getI (pc := 6) zo_2 rfl zf_S_65_2 dS_requireKeyAndNonce_6 ?_
    refine z_bipush (pc := 9) dS_requireKeyAndNonce_9 zb_16 ?_
    refine z_icmp_ne (pc := 11) (by omega) (by omega) (tgt := 35) dS_requireKeyAndNonce_11 rfl (fun h => ?_) (fun h => by exfalso; omega)
    exact z_throw (pc := 35) zt_S_requireKeyAndNonce_35 (hEx _ _ _ (⟨rfl, rfl, rfl⟩)) (by decide)
theorem c_seal1 (hst : l.stackTraces = false) {x : Int32} (hx : x < 0 ∨ nI 2 ≤ x) : z_XMet l g ad mS_seal z_rp [.ref (ad 0), .int x] A B (z_th 0 A B) := by
  refine z_XMet.of (L := [(0, _), (1, _)]) hst (by decide) (Nat.le_of_ble_eq_true rfl) z_fitx_th rfl (by decide) ?_
  intro Ex hEx
  refine z_iload_n (pc := 0) dS_seal_0 rfl rfl ?_
  refine z_callXS (pc := 1) (c_requireWay0 hst hx) (by decide) zc_S_111 rfl rfl (Nat.le_of_ble_eq_true rfl) (by decide) dS_seal_1 (fun x9 A9 B9 h9 => hEx _ _ _ h9) (fun r A' B' hn9 hE => ?_)
  exact absurd hE.1.symm (hn9 _)
theorem c_seal2_0 (hst : l.stackTraces = false)  (hn : ¬ zrdy 0 n ∨ 48 < n 3) (hcs : zCS A B) (hs : zCR A n R m X) (hv : zVS n R m X) : z_XMet l g ad mS_seal z_rp [.ref (ad 0), .int (nI 0)] A B (z_th 1 A B) := by
  refine z_XMet.of (L := [(0, _), (1, _)]) hst (by decide) (Nat.le_of_ble_eq_true rfl) z_fitx_th rfl (by decide) ?_
  intro Ex hEx
  have k0 := hv.1 0 (by decide)
  have k1 := hv.1 1 (by decide)
  have k2 := hv.1 2 (by decide)
  have k3 := hv.1 3 (by decide)
  have l0 : zmost 0 = 16 := rfl
  have l1 : zmost 1 = 24 := rfl
  have l2 : zmost 2 = 32 := rfl
  have l3 : zmost 3 = 64 := rfl
  obtain ⟨e0, r0⟩ := hs.r0
  obtain ⟨e1, r1⟩ := hs.r1
  obtain ⟨e2, r2⟩ := hs.r2
  obtain ⟨e3, r3⟩ := hs.r3
  by_cases hrd : zrdy 0 n
  · have hn3 : 48 < n 3 := hn.resolve_left (fun q => q hrd)
    refine z_iload_n (pc := 0) dS_seal_0 rfl rfl ?_
    refine z_callXS (pc := 1) (c_requireWay1 (r := 0) hst (by omega)) (by decide) zc_S_111 rfl rfl (Nat.le_of_ble_eq_true rfl) (by decide) dS_seal_1 (fun _ _ _ h9 => by cases h9.1) (fun r A' B' hn9 hE => ?_)
    obtain ⟨rfl, rfl, rfl⟩ := hE
    refine z_r0 ?_
    refine z_aload_n (pc := 4) dS_seal_4 rfl rfl ?_
    refine z_iload_n (pc := 5) dS_seal_5 rfl rfl ?_
    refine z_callXV (pc := 6) (c_rkn1_0 hst hrd hcs hs hv) (by decide) zo_0 rfl zc_S_126 rfl rfl (Nat.le_of_ble_eq_true rfl) (by decide) dS_seal_6 (fun _ _ _ h9 => by cases h9.1) (fun r A' B' hn9 hE => ?_)
    obtain ⟨rfl, rfl, rfl⟩ := hE
    refine z_r0 ?_
    refine z_aload_n (pc := 9) dS_seal_9 rfl rfl ?_
    refine z_getR (pc := 10) zo_0 rfl zf_S_11_5 dS_seal_10 ?_
    refine z_iconst (pc := 13) dS_seal_13 zi_3 ?_
    refine z_aaload (pc := 14) zr_1 rfl (rfl) dS_seal_14 ?_
    refine z_getI (pc := 15) zo_8 rfl zf_S_65_2 dS_seal_15 ?_
    refine z_bipush (pc := 18) dS_seal_18 zb_48 ?_
    refine z_icmp_le (pc := 20) (by omega) (by omega) (tgt := 33) dS_seal_20 rfl (fun h => by exfalso; omega) (fun h => ?_)
    exact z_throw (pc := 23) zt_S_seal_23 (hEx _ _ _ (⟨rfl, rfl, rfl⟩)) (by decide)
  · refine z_iload_n (pc := 0) dS_seal_0 rfl rfl ?_
    refine z_callXS (pc := 1) (c_requireWay1 (r := 0) hst (by omega)) (by decide) zc_S_111 rfl rfl (Nat.le_of_ble_eq_true rfl) (by decide) dS_seal_1 (fun _ _ _ h9 => by cases h9.1) (fun r A' B' hn9 hE => ?_)
    obtain ⟨rfl, rfl, rfl⟩ := hE
    refine z_r0 ?_
    refine z_aload_n (pc := 4) dS_seal_4 rfl rfl ?_
    refine z_iload_n (pc := 5) dS_seal_5 rfl rfl ?_
    refine z_callXV (pc := 6) (c_rkn0_0 hst hrd hcs hs hv) (by decide) zo_0 rfl zc_S_126 rfl rfl (Nat.le_of_ble_eq_true rfl) (by decide) dS_seal_6 (fun x9 A9 B9 h9 => hEx _ _ _ h9) (fun r A' B' hn9 hE => ?_)
    exact absurd hE.1.symm (hn9 _)
theorem c_seal2_1 (hst : l.stackTraces = false)  (hn : ¬ zrdy 1 n ∨ 48 < n 3) (hcs : zCS A B) (hs : zCR A n R m X) (hv : zVS n R m X) : z_XMet l g ad mS_seal z_rp [.ref (ad 0), .int (nI 1)] A B (z_th 1 A B) := by
  refine z_XMet.of (L := [(0, _), (1, _)]) hst (by decide) (Nat.le_of_ble_eq_true rfl) z_fitx_th rfl (by decide) ?_
  intro Ex hEx
  have k0 := hv.1 0 (by decide)
  have k1 := hv.1 1 (by decide)
  have k2 := hv.1 2 (by decide)
  have k3 := hv.1 3 (by decide)
  have l0 : zmost 0 = 16 := rfl
  have l1 : zmost 1 = 24 := rfl
  have l2 : zmost 2 = 32 := rfl
  have l3 : zmost 3 = 64 := rfl
  obtain ⟨e0, r0⟩ := hs.r0
  obtain ⟨e1, r1⟩ := hs.r1
  obtain ⟨e2, r2⟩ := hs.r2
  obtain ⟨e3, r3⟩ := hs.r3
  by_cases hrd : zrdy 1 n
  · have hn3 : 48 < n 3 := hn.resolve_left (fun q => q hrd)
    refine z_iload_n (pc := 0) dS_seal_0 rfl rfl ?_
    refine z_callXS (pc := 1) (c_requireWay1 (r := 1) hst (by omega)) (by decide) zc_S_111 rfl rfl (Nat.le_of_ble_eq_true rfl) (by decide) dS_seal_1 (fun _ _ _ h9 => by cases h9.1) (fun r A' B' hn9 hE => ?_)
    obtain ⟨rfl, rfl, rfl⟩ := hE
    refine z_r0 ?_
    refine z_aload_n (pc := 4) dS_seal_4 rfl rfl ?_
    refine z_iload_n (pc := 5) dS_seal_5 rfl rfl ?_
    refine z_callXV (pc := 6) (c_rkn1_1 hst hrd hcs hs hv) (by decide) zo_0 rfl zc_S_126 rfl rfl (Nat.le_of_ble_eq_true rfl) (by decide) dS_seal_6 (fun _ _ _ h9 => by cases h9.1) (fun r A' B' hn9 hE => ?_)
    obtain ⟨rfl, rfl, rfl⟩ := hE
    refine z_r0 ?_
    refine z_aload_n (pc := 9) dS_seal_9 rfl rfl ?_
    refine z_getR (pc := 10) zo_0 rfl zf_S_11_5 dS_seal_10 ?_
    refine z_iconst (pc := 13) dS_seal_13 zi_3 ?_
    refine z_aaload (pc := 14) zr_1 rfl (rfl) dS_seal_14 ?_
    refine z_getI (pc := 15) zo_8 rfl zf_S_65_2 dS_seal_15 ?_
    refine z_bipush (pc := 18) dS_seal_18 zb_48 ?_
    refine z_icmp_le (pc := 20) (by omega) (by omega) (tgt := 33) dS_seal_20 rfl (fun h => by exfalso; omega) (fun h => ?_)
    exact z_throw (pc := 23) zt_S_seal_23 (hEx _ _ _ (⟨rfl, rfl, rfl⟩)) (by decide)
  · refine z_iload_n (pc := 0) dS_seal_0 rfl rfl ?_
    refine z_callXS (pc := 1) (c_requireWay1 (r := 1) hst (by omega)) (by decide) zc_S_111 rfl rfl (Nat.le_of_ble_eq_true rfl) (by decide) dS_seal_1 (fun _ _ _ h9 => by cases h9.1) (fun r A' B' hn9 hE => ?_)
    obtain ⟨rfl, rfl, rfl⟩ := hE
    refine z_r0 ?_
    refine z_aload_n (pc := 4) dS_seal_4 rfl rfl ?_
    refine z_iload_n (pc := 5) dS_seal_5 rfl rfl ?_
    refine z_callXV (pc := 6) (c_rkn0_1 hst hrd hcs hs hv) (by decide) zo_0 rfl zc_S_126 rfl rfl (Nat.le_of_ble_eq_true rfl) (by decide) dS_seal_6 (fun x9 A9 B9 h9 => hEx _ _ _ h9) (fun r A' B' hn9 hE => ?_)
    exact absurd hE.1.symm (hn9 _)
theorem c_open1 (hst : l.stackTraces = false) {x : Int32} (hx : x < 0 ∨ nI 2 ≤ x) : z_XMet l g ad mS_open z_rp [.ref (ad 0), .int x] A B (z_th 0 A B) := by
  refine z_XMet.of (L := [(0, _), (1, _)]) hst (by decide) (Nat.le_of_ble_eq_true rfl) z_fitx_th rfl (by decide) ?_
  intro Ex hEx
  refine z_iload_n (pc := 0) dS_open_0 rfl rfl ?_
  refine z_callXS (pc := 1) (c_requireWay0 hst hx) (by decide) zc_S_111 rfl rfl (Nat.le_of_ble_eq_true rfl) (by decide) dS_open_1 (fun x9 A9 B9 h9 => hEx _ _ _ h9) (fun r A' B' hn9 hE => ?_)
  exact absurd hE.1.symm (hn9 _)
theorem c_open2_0 (hst : l.stackTraces = false)  (hn : ¬ zrdy 0 n ∨ n 3 < 16) (hcs : zCS A B) (hs : zCR A n R m X) (hv : zVS n R m X) : z_XMet l g ad mS_open z_rp [.ref (ad 0), .int (nI 0)] A B (z_th 1 A B) := by
  refine z_XMet.of (L := [(0, _), (1, _)]) hst (by decide) (Nat.le_of_ble_eq_true rfl) z_fitx_th rfl (by decide) ?_
  intro Ex hEx
  have k0 := hv.1 0 (by decide)
  have k1 := hv.1 1 (by decide)
  have k2 := hv.1 2 (by decide)
  have k3 := hv.1 3 (by decide)
  have l0 : zmost 0 = 16 := rfl
  have l1 : zmost 1 = 24 := rfl
  have l2 : zmost 2 = 32 := rfl
  have l3 : zmost 3 = 64 := rfl
  obtain ⟨e0, r0⟩ := hs.r0
  obtain ⟨e1, r1⟩ := hs.r1
  obtain ⟨e2, r2⟩ := hs.r2
  obtain ⟨e3, r3⟩ := hs.r3
  by_cases hrd : zrdy 0 n
  · have hn3 : n 3 < 16 := hn.resolve_left (fun q => q hrd)
    refine z_iload_n (pc := 0) dS_open_0 rfl rfl ?_
    refine z_callXS (pc := 1) (c_requireWay1 (r := 0) hst (by omega)) (by decide) zc_S_111 rfl rfl (Nat.le_of_ble_eq_true rfl) (by decide) dS_open_1 (fun _ _ _ h9 => by cases h9.1) (fun r A' B' hn9 hE => ?_)
    obtain ⟨rfl, rfl, rfl⟩ := hE
    refine z_r0 ?_
    refine z_aload_n (pc := 4) dS_open_4 rfl rfl ?_
    refine z_iload_n (pc := 5) dS_open_5 rfl rfl ?_
    refine z_callXV (pc := 6) (c_rkn1_0 hst hrd hcs hs hv) (by decide) zo_0 rfl zc_S_126 rfl rfl (Nat.le_of_ble_eq_true rfl) (by decide) dS_open_6 (fun _ _ _ h9 => by cases h9.1) (fun r A' B' hn9 hE => ?_)
    obtain ⟨rfl, rfl, rfl⟩ := hE
    refine z_r0 ?_
    refine z_aload_n (pc := 9) dS_open_9 rfl rfl ?_
    refine z_getR (pc := 10) zo_0 rfl zf_S_11_5 dS_open_10 ?_
    refine z_iconst (pc := 13) dS_open_13 zi_3 ?_
    refine z_aaload (pc := 14) zr_1 rfl (rfl) dS_open_14 ?_
    refine z_getI (pc := 15) zo_8 rfl zf_S_65_2 dS_open_15 ?_
    refine z_bipush (pc := 18) dS_open_18 zb_16 ?_
    refine z_icmp_ge (pc := 20) (by omega) (by omega) (tgt := 33) dS_open_20 rfl (fun h => by exfalso; omega) (fun h => ?_)
    exact z_throw (pc := 23) zt_S_open_23 (hEx _ _ _ (⟨rfl, rfl, rfl⟩)) (by decide)
  · refine z_iload_n (pc := 0) dS_open_0 rfl rfl ?_
    refine z_callXS (pc := 1) (c_requireWay1 (r := 0) hst (by omega)) (by decide) zc_S_111 rfl rfl (Nat.le_of_ble_eq_true rfl) (by decide) dS_open_1 (fun _ _ _ h9 => by cases h9.1) (fun r A' B' hn9 hE => ?_)
    obtain ⟨rfl, rfl, rfl⟩ := hE
    refine z_r0 ?_
    refine z_aload_n (pc := 4) dS_open_4 rfl rfl ?_
    refine z_iload_n (pc := 5) dS_open_5 rfl rfl ?_
    refine z_callXV (pc := 6) (c_rkn0_0 hst hrd hcs hs hv) (by decide) zo_0 rfl zc_S_126 rfl rfl (Nat.le_of_ble_eq_true rfl) (by decide) dS_open_6 (fun x9 A9 B9 h9 => hEx _ _ _ h9) (fun r A' B' hn9 hE => ?_)
    exact absurd hE.1.symm (hn9 _)
theorem c_open2_1 (hst : l.stackTraces = false)  (hn : ¬ zrdy 1 n ∨ n 3 < 16) (hcs : zCS A B) (hs : zCR A n R m X) (hv : zVS n R m X) : z_XMet l g ad mS_open z_rp [.ref (ad 0), .int (nI 1)] A B (z_th 1 A B) := by
  refine z_XMet.of (L := [(0, _), (1, _)]) hst (by decide) (Nat.le_of_ble_eq_true rfl) z_fitx_th rfl (by decide) ?_
  intro Ex hEx
  have k0 := hv.1 0 (by decide)
  have k1 := hv.1 1 (by decide)
  have k2 := hv.1 2 (by decide)
  have k3 := hv.1 3 (by decide)
  have l0 : zmost 0 = 16 := rfl
  have l1 : zmost 1 = 24 := rfl
  have l2 : zmost 2 = 32 := rfl
  have l3 : zmost 3 = 64 := rfl
  obtain ⟨e0, r0⟩ := hs.r0
  obtain ⟨e1, r1⟩ := hs.r1
  obtain ⟨e2, r2⟩ := hs.r2
  obtain ⟨e3, r3⟩ := hs.r3
  by_cases hrd : zrdy 1 n
  · have hn3 : n 3 < 16 := hn.resolve_left (fun q => q hrd)
    refine z_iload_n (pc := 0) dS_open_0 rfl rfl ?_
    refine z_callXS (pc := 1) (c_requireWay1 (r := 1) hst (by omega)) (by decide) zc_S_111 rfl rfl (Nat.le_of_ble_eq_true rfl) (by decide) dS_open_1 (fun _ _ _ h9 => by cases h9.1) (fun r A' B' hn9 hE => ?_)
    obtain ⟨rfl, rfl, rfl⟩ := hE
    refine z_r0 ?_
    refine z_aload_n (pc := 4) dS_open_4 rfl rfl ?_
    refine z_iload_n (pc := 5) dS_open_5 rfl rfl ?_
    refine z_callXV (pc := 6) (c_rkn1_1 hst hrd hcs hs hv) (by decide) zo_0 rfl zc_S_126 rfl rfl (Nat.le_of_ble_eq_true rfl) (by decide) dS_open_6 (fun _ _ _ h9 => by cases h9.1) (fun r A' B' hn9 hE => ?_)
    obtain ⟨rfl, rfl, rfl⟩ := hE
    refine z_r0 ?_
    refine z_aload_n (pc := 9) dS_open_9 rfl rfl ?_
    refine z_getR (pc := 10) zo_0 rfl zf_S_11_5 dS_open_10 ?_
    refine z_iconst (pc := 13) dS_open_13 zi_3 ?_
    refine z_aaload (pc := 14) zr_1 rfl (rfl) dS_open_14 ?_
    refine z_getI (pc := 15) zo_8 rfl zf_S_65_2 dS_open_15 ?_
    refine z_bipush (pc := 18) dS_open_18 zb_16 ?_
    refine z_icmp_ge (pc := 20) (by omega) (by omega) (tgt := 33) dS_open_20 rfl (fun h => by exfalso; omega) (fun h => ?_)
    exact z_throw (pc := 23) zt_S_open_23 (hEx _ _ _ (⟨rfl, rfl, rfl⟩)) (by decide)
  · refine z_iload_n (pc := 0) dS_open_0 rfl rfl ?_
    refine z_callXS (pc := 1) (c_requireWay1 (r := 1) hst (by omega)) (by decide) zc_S_111 rfl rfl (Nat.le_of_ble_eq_true rfl) (by decide) dS_open_1 (fun _ _ _ h9 => by cases h9.1) (fun r A' B' hn9 hE => ?_)
    obtain ⟨rfl, rfl, rfl⟩ := hE
    refine z_r0 ?_
    refine z_aload_n (pc := 4) dS_open_4 rfl rfl ?_
    refine z_iload_n (pc := 5) dS_open_5 rfl rfl ?_
    refine z_callXV (pc := 6) (c_rkn0_1 hst hrd hcs hs hv) (by decide) zo_0 rfl zc_S_126 rfl rfl (Nat.le_of_ble_eq_true rfl) (by decide) dS_open_6 (fun x9 A9 B9 h9 => hEx _ _ _ h9) (fun r A' B' hn9 hE => ?_)
    exact absurd hE.1.symm (hn9 _)
theorem c_seal0_0 (hst : l.stackTraces = false)  (hrd : zrdy 0 n) (hn : n 3 ≤ 48) (hcs : zCS A B) (hs : zCR A n R m X) (hv : zVS n R m X) : z_XMet l g ad mS_seal z_rp [.ref (ad 0), .int (nI 0)] A B (z_an (n 3 + 16) (zCP A B n R (n 3 + 16) (zseal 0 (R 0) (R 1) (n 1) (R 2) (n 2) (R 3) (n 3)))) := by
  refine z_XMet.of (L := [(0, _), (1, _)]) hst (by decide) (Nat.le_of_ble_eq_true rfl) z_fitx_an rfl (by decide) ?_
  intro Ex hEx
  have k0 := hv.1 0 (by decide)
  have k1 := hv.1 1 (by decide)
  have k2 := hv.1 2 (by decide)
  have k3 := hv.1 3 (by decide)
  have l0 : zmost 0 = 16 := rfl
  have l1 : zmost 1 = 24 := rfl
  have l2 : zmost 2 = 32 := rfl
  have l3 : zmost 3 = 64 := rfl
  obtain ⟨e0, r0⟩ := hs.r0
  obtain ⟨e1, r1⟩ := hs.r1
  obtain ⟨e2, r2⟩ := hs.r2
  obtain ⟨e3, r3⟩ := hs.r3
  have n0 : n 0 = 16 := hrd.1
  have n1 : 1 ≤ n 1 := hrd.2
  refine z_iload_n (pc := 0) dS_seal_0 rfl rfl ?_
  refine z_callXS (pc := 1) (c_requireWay1 (r := 0) hst (by omega)) (by decide) zc_S_111 rfl rfl (Nat.le_of_ble_eq_true rfl) (by decide) dS_seal_1 (fun _ _ _ h9 => by cases h9.1) (fun r A' B' hn9 hE => ?_)
  obtain ⟨rfl, rfl, rfl⟩ := hE
  refine z_r0 ?_
  refine z_aload_n (pc := 4) dS_seal_4 rfl rfl ?_
  refine z_iload_n (pc := 5) dS_seal_5 rfl rfl ?_
  refine z_callXV (pc := 6) (c_rkn1_0 hst hrd hcs hs hv) (by decide) zo_0 rfl zc_S_126 rfl rfl (Nat.le_of_ble_eq_true rfl) (by decide) dS_seal_6 (fun _ _ _ h9 => by cases h9.1) (fun r A' B' hn9 hE => ?_)
  obtain ⟨rfl, rfl, rfl⟩ := hE
  refine z_r0 ?_
  refine z_aload_n (pc := 9) dS_seal_9 rfl rfl ?_
  refine z_getR (pc := 10) zo_0 rfl zf_S_11_5 dS_seal_10 ?_
  refine z_iconst (pc := 13) dS_seal_13 zi_3 ?_
  refine z_aaload (pc := 14) zr_1 rfl (rfl) dS_seal_14 ?_
  refine z_getI (pc := 15) zo_8 rfl zf_S_65_2 dS_seal_15 ?_
  refine z_bipush (pc := 18) dS_seal_18 zb_48 ?_
  refine z_icmp_le (pc := 20) (by omega) (by omega) (tgt := 33) dS_seal_20 rfl (fun h => ?_) (fun h => by exfalso; omega)
  refine z_aload_n (pc := 33) dS_seal_33 rfl rfl ?_
  refine z_getR (pc := 34) zo_0 rfl zf_S_43_5 dS_seal_34 ?_
  refine z_iload_n (pc := 37) dS_seal_37 rfl rfl ?_
  refine z_aaload (pc := 38) zr_24 rfl (rfl) dS_seal_38 ?_
  refine z_aload_n (pc := 39) dS_seal_39 rfl rfl ?_
  refine z_getR (pc := 40) zo_0 rfl zf_S_11_5 dS_seal_40 ?_
  refine z_iconst (pc := 43) dS_seal_43 zi_0 ?_
  refine z_aaload (pc := 44) zr_1 rfl (rfl) dS_seal_44 ?_
  refine z_aload_n (pc := 45) dS_seal_45 rfl rfl ?_
  refine z_getR (pc := 46) zo_0 rfl zf_S_11_5 dS_seal_46 ?_
  refine z_iconst (pc := 49) dS_seal_49 zi_1 ?_
  refine z_aaload (pc := 50) zr_1 rfl (rfl) dS_seal_50 ?_
  refine z_callU (pc := 51) (c_useKey0 hcs.1 (fun j hj => by rw [r0 j (by omega)]; exact k0.2 j (by omega)) (by omega) (fun j hj => by rw [e1] at hj; rw [r1 j hj]; exact k1.2 j hj) hcs.2.1 hcs.2.2.1 hcs.2.2.2.2.1) (by decide) zo_25 rfl zc_S_131_Z rfl rfl (Nat.le_of_ble_eq_true rfl) dS_seal_51 (fun r A1 B1 hE => ?_)
  obtain ⟨rfl, hB1, hq1, f1, w1, h26, h27⟩ := hE
  have hbK : ∀ j, j < 16 → A 3 j < 256 := fun j hj => by rw [r0 j (by omega)]; exact k0.2 j (by omega)
  have rK : ∀ j, j < 16 → A 3 j = R 0 j := fun j hj => r0 j (by omega)
  have rJ : ∀ j, j < 16 → A1 27 j = (zJ (R 0) (R 1) (n 1)) j := fun j hj => by rw [h27 j hj, e1]; exact zJ_cg rK r1 j
  have jb : ∀ j, j < 16 → A1 27 j < 256 := fun j hj => by rw [rJ j hj]; exact zJ_lt k1.2 j
  have hkb : ∀ j, j < 16 → A1 26 j < 256 := fun j hj => by rw [h26 j hj]; exact zE_by hbK (fun j _ => z00_lt j) j hj
  have a6 : A1 6 = A 6 := f1 6 (by decide)
  have a7 : A1 7 = A 7 := f1 7 (by decide)
  have a8 : A1 8 = A 8 := f1 8 (by decide)
  have a9 : A1 9 = A 9 := f1 9 (by decide)
  have cs1 : zCS A1 B1 := hcs.h0 (f1 15 (by decide)) (f1 31 (by decide)) (f1 20 (by decide)) (f1 22 (by decide)) hB1 hq1
  refine z_r0 ?_
  refine z_aload_n (pc := 54) dS_seal_54 rfl rfl ?_
  refine z_getR (pc := 55) zo_0 rfl zf_S_43_5 dS_seal_55 ?_
  refine z_iload_n (pc := 58) dS_seal_58 rfl rfl ?_
  refine z_aaload (pc := 59) zr_24 rfl (rfl) dS_seal_59 ?_
  refine z_aload_n (pc := 60) dS_seal_60 rfl rfl ?_
  refine z_getR (pc := 61) zo_0 rfl zf_S_11_5 dS_seal_61 ?_
  refine z_aload_n (pc := 64) dS_seal_64 rfl rfl ?_
  refine z_getR (pc := 65) zo_0 rfl zf_S_18_5 dS_seal_65 ?_
  refine z_callU (pc := 68) (c_sealText0 (W := zKX (A 3)) (by rw [a8, e3]; exact hn) (fun j hj => by rw [a8, e3] at hj; rw [a9, r3 j hj]; exact k3.2 j hj) (by rw [a6, e2]; omega) (fun j hj => by rw [a6, e2] at hj; rw [a7, r2 j hj]; exact k2.2 j hj) hkb jb cs1.1 w1 (zKX_by hbK) cs1.2.2.1 hq1) (by decide) zo_25 rfl zc_S_134_Z rfl rfl (Nat.le_of_ble_eq_true rfl) dS_seal_68 (fun r A2 B2 hE => ?_)
  obtain ⟨rfl, hB2, hq2, f2, m2, c2, t2⟩ := hE
  have hC : ∀ j, j < n 3 → A2 11 j = zC0 (R 0) (zJ (R 0) (R 1) (n 1)) (R 3) j := fun j hj => by
    rw [c2 j (by rw [a8, e3]; exact hj)]
    exact zC0_cg (n := n 3) rK rJ (fun j' h' => by rw [a9]; exact r3 j' h') j hj
  have hX0 : ∀ j, j < n 3 → (fun j => A1 9 j ^^^ zEs (zKX (A 3)) (zcnt 0 (A1 27) (j / 16 + 1)) 10 (j % 16)) j = zC0 (R 0) (zJ (R 0) (R 1) (n 1)) (R 3) j := fun j hj => zC0_cg (n := n 3) (T := A1 9) rK rJ (fun j' h' => by rw [a9]; exact r3 j' h') j hj
  have hT : ∀ j, j < 16 → A2 11 (n 3 + j) = zD0 (R 0) (zJ (R 0) (R 1) (n 1)) (R 2) (n 2) (zC0 (R 0) (zJ (R 0) (R 1) (n 1)) (R 3)) (n 3) j := fun j hj => by
    have := t2 j hj
    rw [a8, e3, a6, e2, a7, zHw_cg (fun j' h' => (h26 j' h').trans (zHkey_cg rK j' h')), zhsh_cg (X := (fun j => A1 9 j ^^^ zEs (zKX (A 3)) (zcnt 0 (A1 27) (j / 16 + 1)) 10 (j % 16))) (X' := zC0 (R 0) (zJ (R 0) (R 1) (n 1)) (R 3)) r2 hX0] at this
    rw [this]
    exact congrArg _ (zE_cg rK rJ j hj)
  refine z_r0 ?_
  refine z_aload_n (pc := 71) dS_seal_71 rfl rfl ?_
  refine z_getR (pc := 72) zo_0 rfl zf_S_18_5 dS_seal_72 ?_
  refine z_getI (pc := 75) zo_10 rfl zf_S_65_2 dS_seal_75 ?_
  refine z_top (congrArg (fun x => Value.int (nI x)) (show _ = n 3 + 16 by rw [m2, a8, e3])) ?_
  refine z_reti (pc := 78) dS_seal_78 (hEx _ _ _ (⟨rfl, fun q hq => (f2 q (by simp; omega)).trans (f1 q (by simp; omega)), fun q hq => (hB1.tr hB2).hi (by decide) q hq, cs1.h0 (f2 15 (by decide)) (f2 31 (by decide)) (f2 20 (by decide)) (f2 22 (by decide)) hB2 hq2, hs.res (fun q h2 h10 => (f2 q (by simp; omega)).trans (f1 q (by simp; omega))) (by rw [m2, a8, e3]) (fun j hj => ?_)⟩))
  rw [zseal, if_pos rfl]
  by_cases h : j < n 3
  · rw [if_pos h]; exact hC j h
  · rw [if_neg h]
    have := hT (j - n 3) (by omega)
    rw [show n 3 + (j - n 3) = j by omega] at this
    exact this
/-- thrown, with work left behind -/
def z_tp (x : Nat) (P : z_A → z_A → Prop) : Option Value → z_A → z_A → Prop := fun r A' B' => some (.ref x) = r ∧ P A' B'
theorem z_fitx_tp {ret : Option FieldType} {x : Nat} {P : z_A → z_A → Prop} : ∀ r A' B', z_tp x P r A' B' → z_fitx ret r := fun r A' B' h => Or.inl ⟨x, h.1.symm⟩
theorem c_open0_0 (hst : l.stackTraces = false)  (hrd : zrdy 0 n) (hn : 16 ≤ n 3) (hok : (∀ j, j < 16 → R 3 (n 3 - 16 + j) = zdue 0 (R 0) (R 1) (n 1) (R 2) (n 2) (R 3) (n 3 - 16) j)) (hcs : zCS A B) (hs : zCR A n R m X) (hv : zVS n R m X) : z_XMet l g ad mS_open z_rp [.ref (ad 0), .int (nI 0)] A B (z_an (n 3 - 16) (zCP A B n R (n 3 - 16) (zopen 0 (R 0) (R 1) (n 1) (R 3) (n 3 - 16)))) := by
  refine z_XMet.of (L := [(0, _), (1, _)]) hst (by decide) (Nat.le_of_ble_eq_true rfl) z_fitx_an rfl (by decide) ?_
  intro Ex hEx
  have k0 := hv.1 0 (by decide)
  have k1 := hv.1 1 (by decide)
  have k2 := hv.1 2 (by decide)
  have k3 := hv.1 3 (by decide)
  have l0 : zmost 0 = 16 := rfl
  have l1 : zmost 1 = 24 := rfl
  have l2 : zmost 2 = 32 := rfl
  have l3 : zmost 3 = 64 := rfl
  obtain ⟨e0, r0⟩ := hs.r0
  obtain ⟨e1, r1⟩ := hs.r1
  obtain ⟨e2, r2⟩ := hs.r2
  obtain ⟨e3, r3⟩ := hs.r3
  have n0 : n 0 = 16 := hrd.1
  have n1 : 1 ≤ n 1 := hrd.2
  refine z_iload_n (pc := 0) dS_open_0 rfl rfl ?_
  refine z_callXS (pc := 1) (c_requireWay1 (r := 0) hst (by omega)) (by decide) zc_S_111 rfl rfl (Nat.le_of_ble_eq_true rfl) (by decide) dS_open_1 (fun _ _ _ h9 => by cases h9.1) (fun r A' B' hn9 hE => ?_)
  obtain ⟨rfl, rfl, rfl⟩ := hE
  refine z_r0 ?_
  refine z_aload_n (pc := 4) dS_open_4 rfl rfl ?_
  refine z_iload_n (pc := 5) dS_open_5 rfl rfl ?_
  refine z_callXV (pc := 6) (c_rkn1_0 hst hrd hcs hs hv) (by decide) zo_0 rfl zc_S_126 rfl rfl (Nat.le_of_ble_eq_true rfl) (by decide) dS_open_6 (fun _ _ _ h9 => by cases h9.1) (fun r A' B' hn9 hE => ?_)
  obtain ⟨rfl, rfl, rfl⟩ := hE
  refine z_r0 ?_
  refine z_aload_n (pc := 9) dS_open_9 rfl rfl ?_
  refine z_getR (pc := 10) zo_0 rfl zf_S_11_5 dS_open_10 ?_
  refine z_iconst (pc := 13) dS_open_13 zi_3 ?_
  refine z_aaload (pc := 14) zr_1 rfl (rfl) dS_open_14 ?_
  refine z_getI (pc := 15) zo_8 rfl zf_S_65_2 dS_open_15 ?_
  refine z_bipush (pc := 18) dS_open_18 zb_16 ?_
  refine z_icmp_ge (pc := 20) (by omega) (by omega) (tgt := 33) dS_open_20 rfl (fun h => ?_) (fun h => by exfalso; omega)
  refine z_aload_n (pc := 33) dS_open_33 rfl rfl ?_
  refine z_getR (pc := 34) zo_0 rfl zf_S_43_5 dS_open_34 ?_
  refine z_iload_n (pc := 37) dS_open_37 rfl rfl ?_
  refine z_aaload (pc := 38) zr_24 rfl (rfl) dS_open_38 ?_
  refine z_aload_n (pc := 39) dS_open_39 rfl rfl ?_
  refine z_getR (pc := 40) zo_0 rfl zf_S_11_5 dS_open_40 ?_
  refine z_iconst (pc := 43) dS_open_43 zi_0 ?_
  refine z_aaload (pc := 44) zr_1 rfl (rfl) dS_open_44 ?_
  refine z_aload_n (pc := 45) dS_open_45 rfl rfl ?_
  refine z_getR (pc := 46) zo_0 rfl zf_S_11_5 dS_open_46 ?_
  refine z_iconst (pc := 49) dS_open_49 zi_1 ?_
  refine z_aaload (pc := 50) zr_1 rfl (rfl) dS_open_50 ?_
  refine z_callU (pc := 51) (c_useKey0 hcs.1 (fun j hj => by rw [r0 j (by omega)]; exact k0.2 j (by omega)) (by omega) (fun j hj => by rw [e1] at hj; rw [r1 j hj]; exact k1.2 j hj) hcs.2.1 hcs.2.2.1 hcs.2.2.2.2.1) (by decide) zo_25 rfl zc_S_131_Z rfl rfl (Nat.le_of_ble_eq_true rfl) dS_open_51 (fun r A1 B1 hE => ?_)
  obtain ⟨rfl, hB1, hq1, f1, w1, h26, h27⟩ := hE
  have hbK : ∀ j, j < 16 → A 3 j < 256 := fun j hj => by rw [r0 j (by omega)]; exact k0.2 j (by omega)
  have rK : ∀ j, j < 16 → A 3 j = R 0 j := fun j hj => r0 j (by omega)
  have rJ : ∀ j, j < 16 → A1 27 j = (zJ (R 0) (R 1) (n 1)) j := fun j hj => by rw [h27 j hj, e1]; exact zJ_cg rK r1 j
  have jb : ∀ j, j < 16 → A1 27 j < 256 := fun j hj => by rw [rJ j hj]; exact zJ_lt k1.2 j
  have hkb : ∀ j, j < 16 → A1 26 j < 256 := fun j hj => by rw [h26 j hj]; exact zE_by hbK (fun j _ => z00_lt j) j hj
  have a6 : A1 6 = A 6 := f1 6 (by decide)
  have a7 : A1 7 = A 7 := f1 7 (by decide)
  have a8 : A1 8 = A 8 := f1 8 (by decide)
  have a9 : A1 9 = A 9 := f1 9 (by decide)
  have cs1 : zCS A1 B1 := hcs.h0 (f1 15 (by decide)) (f1 31 (by decide)) (f1 20 (by decide)) (f1 22 (by decide)) hB1 hq1
  refine z_r0 ?_
  refine z_aload_n (pc := 54) dS_open_54 rfl rfl ?_
  refine z_getR (pc := 55) zo_0 rfl zf_S_43_5 dS_open_55 ?_
  refine z_iload_n (pc := 58) dS_open_58 rfl rfl ?_
  refine z_aaload (pc := 59) zr_24 rfl (rfl) dS_open_59 ?_
  refine z_aload_n (pc := 60) dS_open_60 rfl rfl ?_
  refine z_getR (pc := 61) zo_0 rfl zf_S_11_5 dS_open_61 ?_
  refine z_aload_n (pc := 64) dS_open_64 rfl rfl ?_
  refine z_getR (pc := 65) zo_0 rfl zf_S_22_5 dS_open_65 ?_
  refine z_callU (pc := 68) (c_openText0 (W := zKX (A 3)) (by rw [a8, e3]; exact hn) (by rw [a8, e3]; omega) (fun j hj => by rw [a8, e3] at hj; rw [a9, r3 j hj]; exact k3.2 j hj) (by rw [a6, e2]; omega) (fun j hj => by rw [a6, e2] at hj; rw [a7, r2 j hj]; exact k2.2 j hj) hkb jb cs1.1 w1 (zKX_by hbK) cs1.2.2.1 hq1) (by decide) zo_25 rfl zc_S_140_Z rfl rfl (Nat.le_of_ble_eq_true rfl) dS_open_68 (fun r A2 B2 hE => ?_)
  obtain ⟨rfl, hB2, hq2, f2, m2, c2⟩ := hE
  have hC : ∀ j, j < n 3 - 16 → A2 13 j = zC0 (R 0) (zJ (R 0) (R 1) (n 1)) (R 3) j := fun j hj => by
    rw [c2 j (by rw [a8, e3]; exact hj)]
    exact zC0_cg (n := n 3) rK rJ (fun j' h' => by rw [a9]; exact r3 j' h') j (by omega)
  have hD : ∀ j, j < 16 → zby (zmw 0) (zhsh 0 (zHw 0 (A1 26)) (A1 7) (A1 6 1) (A1 9) (A1 8 1 - 16)) j ^^^ zEs (zKX (A 3)) (A1 27) 10 j = (zD0 (R 0) (zJ (R 0) (R 1) (n 1)) (R 2) (n 2) (R 3) (n 3 - 16)) j := fun j hj => by
    rw [a8, e3, a6, e2, a7, a9, zHw_cg (fun j' h' => (h26 j' h').trans (zHkey_cg rK j' h')), zhsh_cg r2 (fun j' h' => r3 j' (by omega))]
    exact congrArg _ (zE_cg rK rJ j hj)
  have ck : (zdf (fun j => A1 9 (A1 8 1 - 16 + j)) (fun j => zby (zmw 0) (zhsh 0 (zHw 0 (A1 26)) (A1 7) (A1 6 1) (A1 9) (A1 8 1 - 16)) j ^^^ zEs (zKX (A 3)) (A1 27) 10 j) 16 = 0) ↔ ∀ j, j < 16 → R 3 (n 3 - 16 + j) = zdue 0 (R 0) (R 1) (n 1) (R 2) (n 2) (R 3) (n 3 - 16) j := by
    rw [zdf_iff]
    constructor
    · intro h j hj
      have := h j hj
      rw [hD j hj] at this
      rw [zdue, if_pos rfl, ← this, a9, a8, e3]
      exact (r3 _ (by omega)).symm
    · intro h j hj
      rw [hD j hj]
      have := h j hj
      rw [zdue, if_pos rfl] at this
      rw [← this, a9, a8, e3]
      exact r3 _ (by omega)
  refine z_r1 ?_
  refine z_top (congrArg (fun x => Value.int (nI x)) (if_pos (ck.mpr hok))) ?_
  refine z_if_ne (pc := 71) (by omega) (tgt := 84) dS_open_71 rfl (fun h => ?_) (fun h => by exfalso; omega)
  refine z_aload_n (pc := 84) dS_open_84 rfl rfl ?_
  refine z_getR (pc := 85) zo_0 rfl zf_S_18_5 dS_open_85 ?_
  refine z_aload_n (pc := 88) dS_open_88 rfl rfl ?_
  refine z_getR (pc := 89) zo_0 rfl zf_S_22_5 dS_open_89 ?_
  refine z_callV (pc := 92) (c_become zo_10 za_11 zo_12 za_13 (by rw [m2, a8, e3]; omega) (by rw [m2, a8, e3]; omega)) (by decide) zo_10 rfl zc_S_97 rfl rfl (Nat.le_of_ble_eq_true rfl) dS_open_92 (fun r A' B' hE => ?_)
  obtain ⟨rfl, rfl, rfl⟩ := hE
  refine z_r0 ?_
  refine z_aload_n (pc := 95) dS_open_95 rfl rfl ?_
  refine z_getR (pc := 96) zo_0 rfl zf_S_18_5 dS_open_96 ?_
  refine z_getI (pc := 99) zo_10 rfl zf_S_65_2 dS_open_99 ?_
  refine z_top (congrArg (fun x => Value.int (nI x)) (show _ = n 3 - 16 by rw [z_set_at, z_seg_ne (by decide), m2, a8, e3])) ?_
  exact z_reti (pc := 102) dS_open_102 (hEx _ _ _ (⟨rfl, fun q hq => by rw [z_set_ne (by omega), z_seg_ne (by omega)]; exact (f2 q (by simp; omega)).trans (f1 q (by simp; omega)), fun q hq => (hB1.tr hB2).hi (by decide) q hq, cs1.h0 (by rw [z_set_ne (by decide), z_seg_ne (by decide)]; exact f2 15 (by decide)) (by rw [z_set_ne (by decide), z_seg_ne (by decide)]; exact f2 31 (by decide)) (by rw [z_set_ne (by decide), z_seg_ne (by decide)]; exact f2 20 (by decide)) (by rw [z_set_ne (by decide), z_seg_ne (by decide)]; exact f2 22 (by decide)) hB2 hq2, hs.res (fun q h2 h10 => by rw [z_set_ne (by omega), z_seg_ne (by omega)]; exact (f2 q (by simp; omega)).trans (f1 q (by simp; omega))) (by rw [z_set_at, z_seg_ne (by decide), m2, a8, e3]) (fun j hj => by rw [z_set_ne (by decide), z_seg_in (Nat.zero_le _) (by rw [m2, a8, e3]; omega), Nat.zero_add, Nat.sub_zero, hC j hj, zopen, if_pos rfl])⟩))
theorem c_open3_0 (hst : l.stackTraces = false)  (hrd : zrdy 0 n) (hn : 16 ≤ n 3) (hok : ¬ (∀ j, j < 16 → R 3 (n 3 - 16 + j) = zdue 0 (R 0) (R 1) (n 1) (R 2) (n 2) (R 3) (n 3 - 16) j)) (hcs : zCS A B) (hs : zCR A n R m X) (hv : zVS n R m X) : z_XMet l g ad mS_open z_rp [.ref (ad 0), .int (nI 0)] A B (z_tp 3 (zCP A B n R m X)) := by
  refine z_XMet.of (L := [(0, _), (1, _)]) hst (by decide) (Nat.le_of_ble_eq_true rfl) z_fitx_tp rfl (by decide) ?_
  intro Ex hEx
  have k0 := hv.1 0 (by decide)
  have k1 := hv.1 1 (by decide)
  have k2 := hv.1 2 (by decide)
  have k3 := hv.1 3 (by decide)
  have l0 : zmost 0 = 16 := rfl
  have l1 : zmost 1 = 24 := rfl
  have l2 : zmost 2 = 32 := rfl
  have l3 : zmost 3 = 64 := rfl
  obtain ⟨e0, r0⟩ := hs.r0
  obtain ⟨e1, r1⟩ := hs.r1
  obtain ⟨e2, r2⟩ := hs.r2
  obtain ⟨e3, r3⟩ := hs.r3
  have n0 : n 0 = 16 := hrd.1
  have n1 : 1 ≤ n 1 := hrd.2
  refine z_iload_n (pc := 0) dS_open_0 rfl rfl ?_
  refine z_callXS (pc := 1) (c_requireWay1 (r := 0) hst (by omega)) (by decide) zc_S_111 rfl rfl (Nat.le_of_ble_eq_true rfl) (by decide) dS_open_1 (fun _ _ _ h9 => by cases h9.1) (fun r A' B' hn9 hE => ?_)
  obtain ⟨rfl, rfl, rfl⟩ := hE
  refine z_r0 ?_
  refine z_aload_n (pc := 4) dS_open_4 rfl rfl ?_
  refine z_iload_n (pc := 5) dS_open_5 rfl rfl ?_
  refine z_callXV (pc := 6) (c_rkn1_0 hst hrd hcs hs hv) (by decide) zo_0 rfl zc_S_126 rfl rfl (Nat.le_of_ble_eq_true rfl) (by decide) dS_open_6 (fun _ _ _ h9 => by cases h9.1) (fun r A' B' hn9 hE => ?_)
  obtain ⟨rfl, rfl, rfl⟩ := hE
  refine z_r0 ?_
  refine z_aload_n (pc := 9) dS_open_9 rfl rfl ?_
  refine z_getR (pc := 10) zo_0 rfl zf_S_11_5 dS_open_10 ?_
  refine z_iconst (pc := 13) dS_open_13 zi_3 ?_
  refine z_aaload (pc := 14) zr_1 rfl (rfl) dS_open_14 ?_
  refine z_getI (pc := 15) zo_8 rfl zf_S_65_2 dS_open_15 ?_
  refine z_bipush (pc := 18) dS_open_18 zb_16 ?_
  refine z_icmp_ge (pc := 20) (by omega) (by omega) (tgt := 33) dS_open_20 rfl (fun h => ?_) (fun h => by exfalso; omega)
  refine z_aload_n (pc := 33) dS_open_33 rfl rfl ?_
  refine z_getR (pc := 34) zo_0 rfl zf_S_43_5 dS_open_34 ?_
  refine z_iload_n (pc := 37) dS_open_37 rfl rfl ?_
  refine z_aaload (pc := 38) zr_24 rfl (rfl) dS_open_38 ?_
  refine z_aload_n (pc := 39) dS_open_39 rfl rfl ?_
  refine z_getR (pc := 40) zo_0 rfl zf_S_11_5 dS_open_40 ?_
  refine z_iconst (pc := 43) dS_open_43 zi_0 ?_
  refine z_aaload (pc := 44) zr_1 rfl (rfl) dS_open_44 ?_
  refine z_aload_n (pc := 45) dS_open_45 rfl rfl ?_
  refine z_getR (pc := 46) zo_0 rfl zf_S_11_5 dS_open_46 ?_
  refine z_iconst (pc := 49) dS_open_49 zi_1 ?_
  refine z_aaload (pc := 50) zr_1 rfl (rfl) dS_open_50 ?_
  refine z_callU (pc := 51) (c_useKey0 hcs.1 (fun j hj => by rw [r0 j (by omega)]; exact k0.2 j (by omega)) (by omega) (fun j hj => by rw [e1] at hj; rw [r1 j hj]; exact k1.2 j hj) hcs.2.1 hcs.2.2.1 hcs.2.2.2.2.1) (by decide) zo_25 rfl zc_S_131_Z rfl rfl (Nat.le_of_ble_eq_true rfl) dS_open_51 (fun r A1 B1 hE => ?_)
  obtain ⟨rfl, hB1, hq1, f1, w1, h26, h27⟩ := hE
  have hbK : ∀ j, j < 16 → A 3 j < 256 := fun j hj => by rw [r0 j (by omega)]; exact k0.2 j (by omega)
  have rK : ∀ j, j < 16 → A 3 j = R 0 j := fun j hj => r0 j (by omega)
  have rJ : ∀ j, j < 16 → A1 27 j = (zJ (R 0) (R 1) (n 1)) j := fun j hj => by rw [h27 j hj, e1]; exact zJ_cg rK r1 j
  have jb : ∀ j, j < 16 → A1 27 j < 256 := fun j hj => by rw [rJ j hj]; exact zJ_lt k1.2 j
  have hkb : ∀ j, j < 16 → A1 26 j < 256 := fun j hj => by rw [h26 j hj]; exact zE_by hbK (fun j _ => z00_lt j) j hj
  have a6 : A1 6 = A 6 := f1 6 (by decide)
  have a7 : A1 7 = A 7 := f1 7 (by decide)
  have a8 : A1 8 = A 8 := f1 8 (by decide)
  have a9 : A1 9 = A 9 := f1 9 (by decide)
  have cs1 : zCS A1 B1 := hcs.h0 (f1 15 (by decide)) (f1 31 (by decide)) (f1 20 (by decide)) (f1 22 (by decide)) hB1 hq1
  refine z_r0 ?_
  refine z_aload_n (pc := 54) dS_open_54 rfl rfl ?_
  refine z_getR (pc := 55) zo_0 rfl zf_S_43_5 dS_open_55 ?_
  refine z_iload_n (pc := 58) dS_open_58 rfl rfl ?_
  refine z_aaload (pc := 59) zr_24 rfl (rfl) dS_open_59 ?_
  refine z_aload_n (pc := 60) dS_open_60 rfl rfl ?_
  refine z_getR (pc := 61) zo_0 rfl zf_S_11_5 dS_open_61 ?_
  refine z_aload_n (pc := 64) dS_open_64 rfl rfl ?_
  refine z_getR (pc := 65) zo_0 rfl zf_S_22_5 dS_open_65 ?_
  refine z_callU (pc := 68) (c_openText0 (W := zKX (A 3)) (by rw [a8, e3]; exact hn) (by rw [a8, e3]; omega) (fun j hj => by rw [a8, e3] at hj; rw [a9, r3 j hj]; exact k3.2 j hj) (by rw [a6, e2]; omega) (fun j hj => by rw [a6, e2] at hj; rw [a7, r2 j hj]; exact k2.2 j hj) hkb jb cs1.1 w1 (zKX_by hbK) cs1.2.2.1 hq1) (by decide) zo_25 rfl zc_S_140_Z rfl rfl (Nat.le_of_ble_eq_true rfl) dS_open_68 (fun r A2 B2 hE => ?_)
  obtain ⟨rfl, hB2, hq2, f2, m2, c2⟩ := hE
  have hC : ∀ j, j < n 3 - 16 → A2 13 j = zC0 (R 0) (zJ (R 0) (R 1) (n 1)) (R 3) j := fun j hj => by
    rw [c2 j (by rw [a8, e3]; exact hj)]
    exact zC0_cg (n := n 3) rK rJ (fun j' h' => by rw [a9]; exact r3 j' h') j (by omega)
  have hD : ∀ j, j < 16 → zby (zmw 0) (zhsh 0 (zHw 0 (A1 26)) (A1 7) (A1 6 1) (A1 9) (A1 8 1 - 16)) j ^^^ zEs (zKX (A 3)) (A1 27) 10 j = (zD0 (R 0) (zJ (R 0) (R 1) (n 1)) (R 2) (n 2) (R 3) (n 3 - 16)) j := fun j hj => by
    rw [a8, e3, a6, e2, a7, a9, zHw_cg (fun j' h' => (h26 j' h').trans (zHkey_cg rK j' h')), zhsh_cg r2 (fun j' h' => r3 j' (by omega))]
    exact congrArg _ (zE_cg rK rJ j hj)
  have ck : (zdf (fun j => A1 9 (A1 8 1 - 16 + j)) (fun j => zby (zmw 0) (zhsh 0 (zHw 0 (A1 26)) (A1 7) (A1 6 1) (A1 9) (A1 8 1 - 16)) j ^^^ zEs (zKX (A 3)) (A1 27) 10 j) 16 = 0) ↔ ∀ j, j < 16 → R 3 (n 3 - 16 + j) = zdue 0 (R 0) (R 1) (n 1) (R 2) (n 2) (R 3) (n 3 - 16) j := by
    rw [zdf_iff]
    constructor
    · intro h j hj
      have := h j hj
      rw [hD j hj] at this
      rw [zdue, if_pos rfl, ← this, a9, a8, e3]
      exact (r3 _ (by omega)).symm
    · intro h j hj
      rw [hD j hj]
      have := h j hj
      rw [zdue, if_pos rfl] at this
      rw [← this, a9, a8, e3]
      exact r3 _ (by omega)
  refine z_r1 ?_
  refine z_top (congrArg (fun x => Value.int (nI x)) (if_neg (fun q => hok (ck.mp q)))) ?_
  refine z_if_ne (pc := 71) (by omega) (tgt := 84) dS_open_71 rfl (fun h => by exfalso; omega) (fun h => ?_)
  exact z_throw (pc := 74) zt_S_open_74 (hEx _ _ _ (⟨rfl, fun q hq => (f2 q (by simp; omega)).trans (f1 q (by simp; omega)), fun q hq => (hB1.tr hB2).hi (by decide) q hq, cs1.h0 (f2 15 (by decide)) (f2 31 (by decide)) (f2 20 (by decide)) (f2 22 (by decide)) hB2 hq2, hs.res (fun q h2 h10 => (f2 q (by simp; omega)).trans (f1 q (by simp; omega))) (by rw [f2 10 (by decide), f1 10 (by decide)]; exact hs.2.1) (fun j hj => by rw [f2 11 (by decide), f1 11 (by decide)]; exact hs.2.2 j hj)⟩)) (by decide)
theorem c_seal0_1 (hst : l.stackTraces = false)  (hrd : zrdy 1 n) (hn : n 3 ≤ 48) (hcs : zCS A B) (hs : zCR A n R m X) (hv : zVS n R m X) : z_XMet l g ad mS_seal z_rp [.ref (ad 0), .int (nI 1)] A B (z_an (n 3 + 16) (zCP A B n R (n 3 + 16) (zseal 1 (R 0) (R 1) (n 1) (R 2) (n 2) (R 3) (n 3)))) := by
  refine z_XMet.of (L := [(0, _), (1, _)]) hst (by decide) (Nat.le_of_ble_eq_true rfl) z_fitx_an rfl (by decide) ?_
  intro Ex hEx
  have k0 := hv.1 0 (by decide)
  have k1 := hv.1 1 (by decide)
  have k2 := hv.1 2 (by decide)
  have k3 := hv.1 3 (by decide)
  have l0 : zmost 0 = 16 := rfl
  have l1 : zmost 1 = 24 := rfl
  have l2 : zmost 2 = 32 := rfl
  have l3 : zmost 3 = 64 := rfl
  obtain ⟨e0, r0⟩ := hs.r0
  obtain ⟨e1, r1⟩ := hs.r1
  obtain ⟨e2, r2⟩ := hs.r2
  obtain ⟨e3, r3⟩ := hs.r3
  have n0 : n 0 = 16 := hrd.1
  have n1 : n 1 = 12 := hrd.2
  refine z_iload_n (pc := 0) dS_seal_0 rfl rfl ?_
  refine z_callXS (pc := 1) (c_requireWay1 (r := 1) hst (by omega)) (by decide) zc_S_111 rfl rfl (Nat.le_of_ble_eq_true rfl) (by decide) dS_seal_1 (fun _ _ _ h9 => by cases h9.1) (fun r A' B' hn9 hE => ?_)
  obtain ⟨rfl, rfl, rfl⟩ := hE
  refine z_r0 ?_
  refine z_aload_n (pc := 4) dS_seal_4 rfl rfl ?_
  refine z_iload_n (pc := 5) dS_seal_5 rfl rfl ?_
  refine z_callXV (pc := 6) (c_rkn1_1 hst hrd hcs hs hv) (by decide) zo_0 rfl zc_S_126 rfl rfl (Nat.le_of_ble_eq_true rfl) (by decide) dS_seal_6 (fun _ _ _ h9 => by cases h9.1) (fun r A' B' hn9 hE => ?_)
  obtain ⟨rfl, rfl, rfl⟩ := hE
  refine z_r0 ?_
  refine z_aload_n (pc := 9) dS_seal_9 rfl rfl ?_
  refine z_getR (pc := 10) zo_0 rfl zf_S_11_5 dS_seal_10 ?_
  refine z_iconst (pc := 13) dS_seal_13 zi_3 ?_
  refine z_aaload (pc := 14) zr_1 rfl (rfl) dS_seal_14 ?_
  refine z_getI (pc := 15) zo_8 rfl zf_S_65_2 dS_seal_15 ?_
  refine z_bipush (pc := 18) dS_seal_18 zb_48 ?_
  refine z_icmp_le (pc := 20) (by omega) (by omega) (tgt := 33) dS_seal_20 rfl (fun h => ?_) (fun h => by exfalso; omega)
  refine z_aload_n (pc := 33) dS_seal_33 rfl rfl ?_
  refine z_getR (pc := 34) zo_0 rfl zf_S_43_5 dS_seal_34 ?_
  refine z_iload_n (pc := 37) dS_seal_37 rfl rfl ?_
  refine z_aaload (pc := 38) zr_24 rfl (rfl) dS_seal_38 ?_
  refine z_aload_n (pc := 39) dS_seal_39 rfl rfl ?_
  refine z_getR (pc := 40) zo_0 rfl zf_S_11_5 dS_seal_40 ?_
  refine z_iconst (pc := 43) dS_seal_43 zi_0 ?_
  refine z_aaload (pc := 44) zr_1 rfl (rfl) dS_seal_44 ?_
  refine z_aload_n (pc := 45) dS_seal_45 rfl rfl ?_
  refine z_getR (pc := 46) zo_0 rfl zf_S_11_5 dS_seal_46 ?_
  refine z_iconst (pc := 49) dS_seal_49 zi_1 ?_
  refine z_aaload (pc := 50) zr_1 rfl (rfl) dS_seal_50 ?_
  refine z_callU (pc := 51) (c_useKey1 hcs.1 (fun j hj => by rw [r0 j (by omega)]; exact k0.2 j (by omega)) (fun j hj => by rw [r1 j (by omega)]; exact k1.2 j (by omega))) (by decide) zo_32 rfl zc_S_131_O rfl rfl (Nat.le_of_ble_eq_true rfl) dS_seal_51 (fun r A1 B' hE => ?_)
  obtain ⟨rfl, rfl, f1, w1, h33⟩ := hE
  have hbK : ∀ j, j < 16 → A 3 j < 256 := fun j hj => by rw [r0 j (by omega)]; exact k0.2 j (by omega)
  have hbN : ∀ j, j < 12 → A 5 j < 256 := fun j hj => by rw [r1 j (by omega)]; exact k1.2 j (by omega)
  have rK : ∀ j, j < 16 → A 3 j = R 0 j := fun j hj => r0 j (by omega)
  have rN : ∀ j, j < 12 → A 5 j = R 1 j := fun j hj => r1 j (by omega)
  have kb : ∀ j, j < 16 → zdk (A 3) (A 5) 2 j < 256 := zdk_lt hbK hbN (by omega)
  have hkb : ∀ j, j < 16 → A1 33 j < 256 := fun j hj => by rw [h33 j hj]; exact zdk_lt hbK hbN (by omega) j hj
  have a5 : A1 5 = A 5 := f1 5 (by decide)
  have a6 : A1 6 = A 6 := f1 6 (by decide)
  have a7 : A1 7 = A 7 := f1 7 (by decide)
  have a8 : A1 8 = A 8 := f1 8 (by decide)
  have a9 : A1 9 = A 9 := f1 9 (by decide)
  have q2 : ∀ j, j < 16 → zdk (A 3) (A 5) 2 j = (zdk (R 0) (R 1) 2) j := zdk_cg rK rN
  have q0 : ∀ j, j < 16 → A1 33 j = (zdk (R 0) (R 1) 0) j := fun j hj => by rw [h33 j hj]; exact zdk_cg rK rN j hj
  have cs1 : zCS A1 B := hcs.mv (f1 15 (by decide)) (f1 31 (by decide)) (f1 20 (by decide)) (f1 22 (by decide))
  refine z_r0 ?_
  refine z_aload_n (pc := 54) dS_seal_54 rfl rfl ?_
  refine z_getR (pc := 55) zo_0 rfl zf_S_43_5 dS_seal_55 ?_
  refine z_iload_n (pc := 58) dS_seal_58 rfl rfl ?_
  refine z_aaload (pc := 59) zr_24 rfl (rfl) dS_seal_59 ?_
  refine z_aload_n (pc := 60) dS_seal_60 rfl rfl ?_
  refine z_getR (pc := 61) zo_0 rfl zf_S_11_5 dS_seal_61 ?_
  refine z_aload_n (pc := 64) dS_seal_64 rfl rfl ?_
  refine z_getR (pc := 65) zo_0 rfl zf_S_18_5 dS_seal_65 ?_
  refine z_callU (pc := 68) (c_sealText1 (W := zKX (zdk (A 3) (A 5) 2)) (by rw [a8, e3]; exact hn) (fun j hj => by rw [a8, e3] at hj; rw [a9, r3 j hj]; exact k3.2 j hj) (by rw [a6, e2]; omega) (fun j hj => by rw [a6, e2] at hj; rw [a7, r2 j hj]; exact k2.2 j hj) (fun j hj => by rw [a5]; exact hbN j hj) hkb cs1.1 w1 (zKX_by kb) cs1.2.2.2.1 cs1.2.2.2.2.2) (by decide) zo_32 rfl zc_S_134_O rfl rfl (Nat.le_of_ble_eq_true rfl) dS_seal_68 (fun r A2 B2 hE => ?_)
  obtain ⟨rfl, hB2, hq2, f2, m2, c2, t2⟩ := hE
  have hT0 : ∀ j, j < 16 → zEs (zKX (zdk (A 3) (A 5) 2)) (zdu (zhsh 1 (zHw 1 (A1 33)) (A1 7) (A1 6 1) (A1 9) (A1 8 1)) (A1 5)) 10 j = (zD1 (zdk (R 0) (R 1) 2) (zdk (R 0) (R 1) 0) (R 1) (R 2) (n 2) (R 3) (n 3)) j := fun j hj => by
    rw [a8, e3, a6, e2, a7, a9, a5]
    exact zD1_cg q2 q0 rN r2 r3 j hj
  have hT : ∀ j, j < 16 → A2 11 (n 3 + j) = (zD1 (zdk (R 0) (R 1) 2) (zdk (R 0) (R 1) 0) (R 1) (R 2) (n 2) (R 3) (n 3)) j := fun j hj => by
    have := t2 j hj
    rw [a8, e3] at this
    rw [this, ← hT0 j hj, a8, e3]
  have hC : ∀ j, j < n 3 → A2 11 j = zC1 (zdk (R 0) (R 1) 2) (zD1 (zdk (R 0) (R 1) 2) (zdk (R 0) (R 1) 0) (R 1) (R 2) (n 2) (R 3) (n 3)) (R 3) j := fun j hj => by
    rw [c2 j (by rw [a8, e3]; exact hj)]
    exact zC1_cg (n := n 3) q2 hT0 (fun j' h' => by rw [a9]; exact r3 j' h') j hj
  refine z_r0 ?_
  refine z_aload_n (pc := 71) dS_seal_71 rfl rfl ?_
  refine z_getR (pc := 72) zo_0 rfl zf_S_18_5 dS_seal_72 ?_
  refine z_getI (pc := 75) zo_10 rfl zf_S_65_2 dS_seal_75 ?_
  refine z_top (congrArg (fun x => Value.int (nI x)) (show _ = n 3 + 16 by rw [m2, a8, e3])) ?_
  refine z_reti (pc := 78) dS_seal_78 (hEx _ _ _ (⟨rfl, fun q hq => (f2 q (by simp; omega)).trans (f1 q (by simp; omega)), fun q hq => (hB2).hi (by decide) q hq, cs1.h1 (f2 15 (by decide)) (f2 31 (by decide)) (f2 20 (by decide)) (f2 22 (by decide)) hB2 hq2, hs.res (fun q h2 h10 => (f2 q (by simp; omega)).trans (f1 q (by simp; omega))) (by rw [m2, a8, e3]) (fun j hj => ?_)⟩))
  rw [zseal, if_neg (by decide)]
  by_cases h : j < n 3
  · rw [if_pos h]; exact hC j h
  · rw [if_neg h]
    have := hT (j - n 3) (by omega)
    rw [show n 3 + (j - n 3) = j by omega] at this
    exact this
theorem c_open0_1 (hst : l.stackTraces = false)  (hrd : zrdy 1 n) (hn : 16 ≤ n 3) (hok : (∀ j, j < 16 → R 3 (n 3 - 16 + j) = zdue 1 (R 0) (R 1) (n 1) (R 2) (n 2) (R 3) (n 3 - 16) j)) (hcs : zCS A B) (hs : zCR A n R m X) (hv : zVS n R m X) : z_XMet l g ad mS_open z_rp [.ref (ad 0), .int (nI 1)] A B (z_an (n 3 - 16) (zCP A B n R (n 3 - 16) (zopen 1 (R 0) (R 1) (n 1) (R 3) (n 3 - 16)))) := by
  refine z_XMet.of (L := [(0, _), (1, _)]) hst (by decide) (Nat.le_of_ble_eq_true rfl) z_fitx_an rfl (by decide) ?_
  intro Ex hEx
  have k0 := hv.1 0 (by decide)
  have k1 := hv.1 1 (by decide)
  have k2 := hv.1 2 (by decide)
  have k3 := hv.1 3 (by decide)
  have l0 : zmost 0 = 16 := rfl
  have l1 : zmost 1 = 24 := rfl
  have l2 : zmost 2 = 32 := rfl
  have l3 : zmost 3 = 64 := rfl
  obtain ⟨e0, r0⟩ := hs.r0
  obtain ⟨e1, r1⟩ := hs.r1
  obtain ⟨e2, r2⟩ := hs.r2
  obtain ⟨e3, r3⟩ := hs.r3
  have n0 : n 0 = 16 := hrd.1
  have n1 : n 1 = 12 := hrd.2
  refine z_iload_n (pc := 0) dS_open_0 rfl rfl ?_
  refine z_callXS (pc := 1) (c_requireWay1 (r := 1) hst (by omega)) (by decide) zc_S_111 rfl rfl (Nat.le_of_ble_eq_true rfl) (by decide) dS_open_1 (fun _ _ _ h9 => by cases h9.1) (fun r A' B' hn9 hE => ?_)
  obtain ⟨rfl, rfl, rfl⟩ := hE
  refine z_r0 ?_
  refine z_aload_n (pc := 4) dS_open_4 rfl rfl ?_
  refine z_iload_n (pc := 5) dS_open_5 rfl rfl ?_
  refine z_callXV (pc := 6) (c_rkn1_1 hst hrd hcs hs hv) (by decide) zo_0 rfl zc_S_126 rfl rfl (Nat.le_of_ble_eq_true rfl) (by decide) dS_open_6 (fun _ _ _ h9 => by cases h9.1) (fun r A' B' hn9 hE => ?_)
  obtain ⟨rfl, rfl, rfl⟩ := hE
  refine z_r0 ?_
  refine z_aload_n (pc := 9) dS_open_9 rfl rfl ?_
  refine z_getR (pc := 10) zo_0 rfl zf_S_11_5 dS_open_10 ?_
  refine z_iconst (pc := 13) dS_open_13 zi_3 ?_
  refine z_aaload (pc := 14) zr_1 rfl (rfl) dS_open_14 ?_
  refine z_getI (pc := 15) zo_8 rfl zf_S_65_2 dS_open_15 ?_
  refine z_bipush (pc := 18) dS_open_18 zb_16 ?_
  refine z_icmp_ge (pc := 20) (by omega) (by omega) (tgt := 33) dS_open_20 rfl (fun h => ?_) (fun h => by exfalso; omega)
  refine z_aload_n (pc := 33) dS_open_33 rfl rfl ?_
  refine z_getR (pc := 34) zo_0 rfl zf_S_43_5 dS_open_34 ?_
  refine z_iload_n (pc := 37) dS_open_37 rfl rfl ?_
  refine z_aaload (pc := 38) zr_24 rfl (rfl) dS_open_38 ?_
  refine z_aload_n (pc := 39) dS_open_39 rfl rfl ?_
  refine z_getR (pc := 40) zo_0 rfl zf_S_11_5 dS_open_40 ?_
  refine z_iconst (pc := 43) dS_open_43 zi_0 ?_
  refine z_aaload (pc := 44) zr_1 rfl (rfl) dS_open_44 ?_
  refine z_aload_n (pc := 45) dS_open_45 rfl rfl ?_
  refine z_getR (pc := 46) zo_0 rfl zf_S_11_5 dS_open_46 ?_
  refine z_iconst (pc := 49) dS_open_49 zi_1 ?_
  refine z_aaload (pc := 50) zr_1 rfl (rfl) dS_open_50 ?_
  refine z_callU (pc := 51) (c_useKey1 hcs.1 (fun j hj => by rw [r0 j (by omega)]; exact k0.2 j (by omega)) (fun j hj => by rw [r1 j (by omega)]; exact k1.2 j (by omega))) (by decide) zo_32 rfl zc_S_131_O rfl rfl (Nat.le_of_ble_eq_true rfl) dS_open_51 (fun r A1 B' hE => ?_)
  obtain ⟨rfl, rfl, f1, w1, h33⟩ := hE
  have hbK : ∀ j, j < 16 → A 3 j < 256 := fun j hj => by rw [r0 j (by omega)]; exact k0.2 j (by omega)
  have hbN : ∀ j, j < 12 → A 5 j < 256 := fun j hj => by rw [r1 j (by omega)]; exact k1.2 j (by omega)
  have rK : ∀ j, j < 16 → A 3 j = R 0 j := fun j hj => r0 j (by omega)
  have rN : ∀ j, j < 12 → A 5 j = R 1 j := fun j hj => r1 j (by omega)
  have kb : ∀ j, j < 16 → zdk (A 3) (A 5) 2 j < 256 := zdk_lt hbK hbN (by omega)
  have hkb : ∀ j, j < 16 → A1 33 j < 256 := fun j hj => by rw [h33 j hj]; exact zdk_lt hbK hbN (by omega) j hj
  have a5 : A1 5 = A 5 := f1 5 (by decide)
  have a6 : A1 6 = A 6 := f1 6 (by decide)
  have a7 : A1 7 = A 7 := f1 7 (by decide)
  have a8 : A1 8 = A 8 := f1 8 (by decide)
  have a9 : A1 9 = A 9 := f1 9 (by decide)
  have q2 : ∀ j, j < 16 → zdk (A 3) (A 5) 2 j = (zdk (R 0) (R 1) 2) j := zdk_cg rK rN
  have q0 : ∀ j, j < 16 → A1 33 j = (zdk (R 0) (R 1) 0) j := fun j hj => by rw [h33 j hj]; exact zdk_cg rK rN j hj
  have cs1 : zCS A1 B := hcs.mv (f1 15 (by decide)) (f1 31 (by decide)) (f1 20 (by decide)) (f1 22 (by decide))
  refine z_r0 ?_
  refine z_aload_n (pc := 54) dS_open_54 rfl rfl ?_
  refine z_getR (pc := 55) zo_0 rfl zf_S_43_5 dS_open_55 ?_
  refine z_iload_n (pc := 58) dS_open_58 rfl rfl ?_
  refine z_aaload (pc := 59) zr_24 rfl (rfl) dS_open_59 ?_
  refine z_aload_n (pc := 60) dS_open_60 rfl rfl ?_
  refine z_getR (pc := 61) zo_0 rfl zf_S_11_5 dS_open_61 ?_
  refine z_aload_n (pc := 64) dS_open_64 rfl rfl ?_
  refine z_getR (pc := 65) zo_0 rfl zf_S_22_5 dS_open_65 ?_
  refine z_callU (pc := 68) (c_openText1 (W := zKX (zdk (A 3) (A 5) 2)) (by rw [a8, e3]; exact hn) (by rw [a8, e3]; omega) (fun j hj => by rw [a8, e3] at hj; rw [a9, r3 j hj]; exact k3.2 j hj) (by rw [a6, e2]; omega) (fun j hj => by rw [a6, e2] at hj; rw [a7, r2 j hj]; exact k2.2 j hj) (fun j hj => by rw [a5]; exact hbN j hj) hkb cs1.1 w1 (zKX_by kb) cs1.2.2.2.1 cs1.2.2.2.2.2) (by decide) zo_32 rfl zc_S_140_O rfl rfl (Nat.le_of_ble_eq_true rfl) dS_open_68 (fun r A2 B2 hE => ?_)
  obtain ⟨rfl, hB2, hq2, f2, m2, c2⟩ := hE
  have hC0 : ∀ j, j < n 3 - 16 → (fun j => A1 9 j ^^^ zEs (zKX (zdk (A 3) (A 5) 2)) (zcnt 1 (z128 (fun j => A1 9 (A1 8 1 - 16 + j))) (j / 16)) 10 (j % 16)) j = (zC1 (zdk (R 0) (R 1) 2) (fun j => R 3 ((n 3 - 16) + j)) (R 3)) j := fun j hj => by
    rw [a9, a8, e3]
    exact zC1_cg (n := n 3 - 16) q2 (fun j' h' => r3 _ (by omega)) (fun j' h' => r3 j' (by omega)) j hj
  have hC : ∀ j, j < n 3 - 16 → A2 13 j = (zC1 (zdk (R 0) (R 1) 2) (fun j => R 3 ((n 3 - 16) + j)) (R 3)) j := fun j hj => by
    rw [c2 j (by rw [a8, e3]; exact hj)]
    exact hC0 j hj
  have hD : ∀ j, j < 16 → (zEs (zKX (zdk (A 3) (A 5) 2)) (zdu (zhsh 1 (zHw 1 (A1 33)) (A1 7) (A1 6 1) (fun j => A1 9 j ^^^ zEs (zKX (zdk (A 3) (A 5) 2)) (zcnt 1 (z128 (fun j => A1 9 (A1 8 1 - 16 + j))) (j / 16)) 10 (j % 16)) (A1 8 1 - 16)) (A1 5)) 10) j = (zD1 (zdk (R 0) (R 1) 2) (zdk (R 0) (R 1) 0) (R 1) (R 2) (n 2) (zC1 (zdk (R 0) (R 1) 2) (fun j => R 3 ((n 3 - 16) + j)) (R 3)) (n 3 - 16)) j := fun j hj => by
    have e9 : A1 8 1 - 16 = n 3 - 16 := by rw [a8, e3]
    rw [zhsh_cg (n := A1 8 1 - 16) (X' := (zC1 (zdk (R 0) (R 1) 2) (fun j => R 3 ((n 3 - 16) + j)) (R 3))) (fun _ _ => rfl) (fun j' h' => hC0 j' (by omega)), e9, a6, e2, a7, a5]
    exact zD1_cg q2 q0 rN r2 (fun _ _ => rfl) j hj
  have ck : (zdf (fun j => A1 9 (A1 8 1 - 16 + j)) (zEs (zKX (zdk (A 3) (A 5) 2)) (zdu (zhsh 1 (zHw 1 (A1 33)) (A1 7) (A1 6 1) (fun j => A1 9 j ^^^ zEs (zKX (zdk (A 3) (A 5) 2)) (zcnt 1 (z128 (fun j => A1 9 (A1 8 1 - 16 + j))) (j / 16)) 10 (j % 16)) (A1 8 1 - 16)) (A1 5)) 10) 16 = 0) ↔ ∀ j, j < 16 → R 3 (n 3 - 16 + j) = zdue 1 (R 0) (R 1) (n 1) (R 2) (n 2) (R 3) (n 3 - 16) j := by
    rw [zdf_iff]
    constructor
    · intro h j hj
      have := h j hj
      rw [hD j hj] at this
      rw [zdue, if_neg (by decide), ← this, a9, a8, e3]
      exact (r3 _ (by omega)).symm
    · intro h j hj
      rw [hD j hj]
      have := h j hj
      rw [zdue, if_neg (by decide)] at this
      rw [← this, a9, a8, e3]
      exact r3 _ (by omega)
  refine z_r1 ?_
  refine z_top (congrArg (fun x => Value.int (nI x)) (if_pos (ck.mpr hok))) ?_
  refine z_if_ne (pc := 71) (by omega) (tgt := 84) dS_open_71 rfl (fun h => ?_) (fun h => by exfalso; omega)
  refine z_aload_n (pc := 84) dS_open_84 rfl rfl ?_
  refine z_getR (pc := 85) zo_0 rfl zf_S_18_5 dS_open_85 ?_
  refine z_aload_n (pc := 88) dS_open_88 rfl rfl ?_
  refine z_getR (pc := 89) zo_0 rfl zf_S_22_5 dS_open_89 ?_
  refine z_callV (pc := 92) (c_become zo_10 za_11 zo_12 za_13 (by rw [m2, a8, e3]; omega) (by rw [m2, a8, e3]; omega)) (by decide) zo_10 rfl zc_S_97 rfl rfl (Nat.le_of_ble_eq_true rfl) dS_open_92 (fun r A' B' hE => ?_)
  obtain ⟨rfl, rfl, rfl⟩ := hE
  refine z_r0 ?_
  refine z_aload_n (pc := 95) dS_open_95 rfl rfl ?_
  refine z_getR (pc := 96) zo_0 rfl zf_S_18_5 dS_open_96 ?_
  refine z_getI (pc := 99) zo_10 rfl zf_S_65_2 dS_open_99 ?_
  refine z_top (congrArg (fun x => Value.int (nI x)) (show _ = n 3 - 16 by rw [z_set_at, z_seg_ne (by decide), m2, a8, e3])) ?_
  exact z_reti (pc := 102) dS_open_102 (hEx _ _ _ (⟨rfl, fun q hq => by rw [z_set_ne (by omega), z_seg_ne (by omega)]; exact (f2 q (by simp; omega)).trans (f1 q (by simp; omega)), fun q hq => (hB2).hi (by decide) q hq, cs1.h1 (by rw [z_set_ne (by decide), z_seg_ne (by decide)]; exact f2 15 (by decide)) (by rw [z_set_ne (by decide), z_seg_ne (by decide)]; exact f2 31 (by decide)) (by rw [z_set_ne (by decide), z_seg_ne (by decide)]; exact f2 20 (by decide)) (by rw [z_set_ne (by decide), z_seg_ne (by decide)]; exact f2 22 (by decide)) hB2 hq2, hs.res (fun q h2 h10 => by rw [z_set_ne (by omega), z_seg_ne (by omega)]; exact (f2 q (by simp; omega)).trans (f1 q (by simp; omega))) (by rw [z_set_at, z_seg_ne (by decide), m2, a8, e3]) (fun j hj => by rw [z_set_ne (by decide), z_seg_in (Nat.zero_le _) (by rw [m2, a8, e3]; omega), Nat.zero_add, Nat.sub_zero, hC j hj, zopen, if_neg (by decide)])⟩))
theorem c_open3_1 (hst : l.stackTraces = false)  (hrd : zrdy 1 n) (hn : 16 ≤ n 3) (hok : ¬ (∀ j, j < 16 → R 3 (n 3 - 16 + j) = zdue 1 (R 0) (R 1) (n 1) (R 2) (n 2) (R 3) (n 3 - 16) j)) (hcs : zCS A B) (hs : zCR A n R m X) (hv : zVS n R m X) : z_XMet l g ad mS_open z_rp [.ref (ad 0), .int (nI 1)] A B (z_tp 3 (zCP A B n R m X)) := by
  refine z_XMet.of (L := [(0, _), (1, _)]) hst (by decide) (Nat.le_of_ble_eq_true rfl) z_fitx_tp rfl (by decide) ?_
  intro Ex hEx
  have k0 := hv.1 0 (by decide)
  have k1 := hv.1 1 (by decide)
  have k2 := hv.1 2 (by decide)
  have k3 := hv.1 3 (by decide)
  have l0 : zmost 0 = 16 := rfl
  have l1 : zmost 1 = 24 := rfl
  have l2 : zmost 2 = 32 := rfl
  have l3 : zmost 3 = 64 := rfl
  obtain ⟨e0, r0⟩ := hs.r0
  obtain ⟨e1, r1⟩ := hs.r1
  obtain ⟨e2, r2⟩ := hs.r2
  obtain ⟨e3, r3⟩ := hs.r3
  have n0 : n 0 = 16 := hrd.1
  have n1 : n 1 = 12 := hrd.2
  refine z_iload_n (pc := 0) dS_open_0 rfl rfl ?_
  refine z_callXS (pc := 1) (c_requireWay1 (r := 1) hst (by omega)) (by decide) zc_S_111 rfl rfl (Nat.le_of_ble_eq_true rfl) (by decide) dS_open_1 (fun _ _ _ h9 => by cases h9.1) (fun r A' B' hn9 hE => ?_)
  obtain ⟨rfl, rfl, rfl⟩ := hE
  refine z_r0 ?_
  refine z_aload_n (pc := 4) dS_open_4 rfl rfl ?_
  refine z_iload_n (pc := 5) dS_open_5 rfl rfl ?_
  refine z_callXV (pc := 6) (c_rkn1_1 hst hrd hcs hs hv) (by decide) zo_0 rfl zc_S_126 rfl rfl (Nat.le_of_ble_eq_true rfl) (by decide) dS_open_6 (fun _ _ _ h9 => by cases h9.1) (fun r A' B' hn9 hE => ?_)
  obtain ⟨rfl, rfl, rfl⟩ := hE
  refine z_r0 ?_
  refine z_aload_n (pc := 9) dS_open_9 rfl rfl ?_
  refine z_getR (pc := 10) zo_0 rfl zf_S_11_5 dS_open_10 ?_
  refine z_iconst (pc := 13) dS_open_13 zi_3 ?_
  refine z_aaload (pc := 14) zr_1 rfl (rfl) dS_open_14 ?_
  refine z_getI (pc := 15) zo_8 rfl zf_S_65_2 dS_open_15 ?_
  refine z_bipush (pc := 18) dS_open_18 zb_16 ?_
  refine z_icmp_ge (pc := 20) (by omega) (by omega) (tgt := 33) dS_open_20 rfl (fun h => ?_) (fun h => by exfalso; omega)
  refine z_aload_n (pc := 33) dS_open_33 rfl rfl ?_
  refine z_getR (pc := 34) zo_0 rfl zf_S_43_5 dS_open_34 ?_
  refine z_iload_n (pc := 37) dS_open_37 rfl rfl ?_
  refine z_aaload (pc := 38) zr_24 rfl (rfl) dS_open_38 ?_
  refine z_aload_n (pc := 39) dS_open_39 rfl rfl ?_
  refine z_getR (pc := 40) zo_0 rfl zf_S_11_5 dS_open_40 ?_
  refine z_iconst (pc := 43) dS_open_43 zi_0 ?_
  refine z_aaload (pc := 44) zr_1 rfl (rfl) dS_open_44 ?_
  refine z_aload_n (pc := 45) dS_open_45 rfl rfl ?_
  refine z_getR (pc := 46) zo_0 rfl zf_S_11_5 dS_open_46 ?_
  refine z_iconst (pc := 49) dS_open_49 zi_1 ?_
  refine z_aaload (pc := 50) zr_1 rfl (rfl) dS_open_50 ?_
  refine z_callU (pc := 51) (c_useKey1 hcs.1 (fun j hj => by rw [r0 j (by omega)]; exact k0.2 j (by omega)) (fun j hj => by rw [r1 j (by omega)]; exact k1.2 j (by omega))) (by decide) zo_32 rfl zc_S_131_O rfl rfl (Nat.le_of_ble_eq_true rfl) dS_open_51 (fun r A1 B' hE => ?_)
  obtain ⟨rfl, rfl, f1, w1, h33⟩ := hE
  have hbK : ∀ j, j < 16 → A 3 j < 256 := fun j hj => by rw [r0 j (by omega)]; exact k0.2 j (by omega)
  have hbN : ∀ j, j < 12 → A 5 j < 256 := fun j hj => by rw [r1 j (by omega)]; exact k1.2 j (by omega)
  have rK : ∀ j, j < 16 → A 3 j = R 0 j := fun j hj => r0 j (by omega)
  have rN : ∀ j, j < 12 → A 5 j = R 1 j := fun j hj => r1 j (by omega)
  have kb : ∀ j, j < 16 → zdk (A 3) (A 5) 2 j < 256 := zdk_lt hbK hbN (by omega)
  have hkb : ∀ j, j < 16 → A1 33 j < 256 := fun j hj => by rw [h33 j hj]; exact zdk_lt hbK hbN (by omega) j hj
  have a5 : A1 5 = A 5 := f1 5 (by decide)
  have a6 : A1 6 = A 6 := f1 6 (by decide)
  have a7 : A1 7 = A 7 := f1 7 (by decide)
  have a8 : A1 8 = A 8 := f1 8 (by decide)
  have a9 : A1 9 = A 9 := f1 9 (by decide)
  have q2 : ∀ j, j < 16 → zdk (A 3) (A 5) 2 j = (zdk (R 0) (R 1) 2) j := zdk_cg rK rN
  have q0 : ∀ j, j < 16 → A1 33 j = (zdk (R 0) (R 1) 0) j := fun j hj => by rw [h33 j hj]; exact zdk_cg rK rN j hj
  have cs1 : zCS A1 B := hcs.mv (f1 15 (by decide)) (f1 31 (by decide)) (f1 20 (by decide)) (f1 22 (by decide))
  refine z_r0 ?_
  refine z_aload_n (pc := 54) dS_open_54 rfl rfl ?_
  refine z_getR (pc := 55) zo_0 rfl zf_S_43_5 dS_open_55 ?_
  refine z_iload_n (pc := 58) dS_open_58 rfl rfl ?_
  refine z_aaload (pc := 59) zr_24 rfl (rfl) dS_open_59 ?_
  refine z_aload_n (pc := 60) dS_open_60 rfl rfl ?_
  refine z_getR (pc := 61) zo_0 rfl zf_S_11_5 dS_open_61 ?_
  refine z_aload_n (pc := 64) dS_open_64 rfl rfl ?_
  refine z_getR (pc := 65) zo_0 rfl zf_S_22_5 dS_open_65 ?_
  refine z_callU (pc := 68) (c_openText1 (W := zKX (zdk (A 3) (A 5) 2)) (by rw [a8, e3]; exact hn) (by rw [a8, e3]; omega) (fun j hj => by rw [a8, e3] at hj; rw [a9, r3 j hj]; exact k3.2 j hj) (by rw [a6, e2]; omega) (fun j hj => by rw [a6, e2] at hj; rw [a7, r2 j hj]; exact k2.2 j hj) (fun j hj => by rw [a5]; exact hbN j hj) hkb cs1.1 w1 (zKX_by kb) cs1.2.2.2.1 cs1.2.2.2.2.2) (by decide) zo_32 rfl zc_S_140_O rfl rfl (Nat.le_of_ble_eq_true rfl) dS_open_68 (fun r A2 B2 hE => ?_)
  obtain ⟨rfl, hB2, hq2, f2, m2, c2⟩ := hE
  have hC0 : ∀ j, j < n 3 - 16 → (fun j => A1 9 j ^^^ zEs (zKX (zdk (A 3) (A 5) 2)) (zcnt 1 (z128 (fun j => A1 9 (A1 8 1 - 16 + j))) (j / 16)) 10 (j % 16)) j = (zC1 (zdk (R 0) (R 1) 2) (fun j => R 3 ((n 3 - 16) + j)) (R 3)) j := fun j hj => by
    rw [a9, a8, e3]
    exact zC1_cg (n := n 3 - 16) q2 (fun j' h' => r3 _ (by omega)) (fun j' h' => r3 j' (by omega)) j hj
  have hC : ∀ j, j < n 3 - 16 → A2 13 j = (zC1 (zdk (R 0) (R 1) 2) (fun j => R 3 ((n 3 - 16) + j)) (R 3)) j := fun j hj => by
    rw [c2 j (by rw [a8, e3]; exact hj)]
    exact hC0 j hj
  have hD : ∀ j, j < 16 → (zEs (zKX (zdk (A 3) (A 5) 2)) (zdu (zhsh 1 (zHw 1 (A1 33)) (A1 7) (A1 6 1) (fun j => A1 9 j ^^^ zEs (zKX (zdk (A 3) (A 5) 2)) (zcnt 1 (z128 (fun j => A1 9 (A1 8 1 - 16 + j))) (j / 16)) 10 (j % 16)) (A1 8 1 - 16)) (A1 5)) 10) j = (zD1 (zdk (R 0) (R 1) 2) (zdk (R 0) (R 1) 0) (R 1) (R 2) (n 2) (zC1 (zdk (R 0) (R 1) 2) (fun j => R 3 ((n 3 - 16) + j)) (R 3)) (n 3 - 16)) j := fun j hj => by
    have e9 : A1 8 1 - 16 = n 3 - 16 := by rw [a8, e3]
    rw [zhsh_cg (n := A1 8 1 - 16) (X' := (zC1 (zdk (R 0) (R 1) 2) (fun j => R 3 ((n 3 - 16) + j)) (R 3))) (fun _ _ => rfl) (fun j' h' => hC0 j' (by omega)), e9, a6, e2, a7, a5]
    exact zD1_cg q2 q0 rN r2 (fun _ _ => rfl) j hj
  have ck : (zdf (fun j => A1 9 (A1 8 1 - 16 + j)) (zEs (zKX (zdk (A 3) (A 5) 2)) (zdu (zhsh 1 (zHw 1 (A1 33)) (A1 7) (A1 6 1) (fun j => A1 9 j ^^^ zEs (zKX (zdk (A 3) (A 5) 2)) (zcnt 1 (z128 (fun j => A1 9 (A1 8 1 - 16 + j))) (j / 16)) 10 (j % 16)) (A1 8 1 - 16)) (A1 5)) 10) 16 = 0) ↔ ∀ j, j < 16 → R 3 (n 3 - 16 + j) = zdue 1 (R 0) (R 1) (n 1) (R 2) (n 2) (R 3) (n 3 - 16) j := by
    rw [zdf_iff]
    constructor
    · intro h j hj
      have := h j hj
      rw [hD j hj] at this
      rw [zdue, if_neg (by decide), ← this, a9, a8, e3]
      exact (r3 _ (by omega)).symm
    · intro h j hj
      rw [hD j hj]
      have := h j hj
      rw [zdue, if_neg (by decide)] at this
      rw [← this, a9, a8, e3]
      exact r3 _ (by omega)
  refine z_r1 ?_
  refine z_top (congrArg (fun x => Value.int (nI x)) (if_neg (fun q => hok (ck.mp q)))) ?_
  refine z_if_ne (pc := 71) (by omega) (tgt := 84) dS_open_71 rfl (fun h => by exfalso; omega) (fun h => ?_)
  exact z_throw (pc := 74) zt_S_open_74 (hEx _ _ _ (⟨rfl, fun q hq => (f2 q (by simp; omega)).trans (f1 q (by simp; omega)), fun q hq => (hB2).hi (by decide) q hq, cs1.h1 (f2 15 (by decide)) (f2 31 (by decide)) (f2 20 (by decide)) (f2 22 (by decide)) hB2 hq2, hs.res (fun q h2 h10 => (f2 q (by simp; omega)).trans (f1 q (by simp; omega))) (by rw [f2 10 (by decide), f1 10 (by decide)]; exact hs.2.1) (fun j hj => by rw [f2 11 (by decide), f1 11 (by decide)]; exact hs.2.2 j hj)⟩)) (by decide)
end
