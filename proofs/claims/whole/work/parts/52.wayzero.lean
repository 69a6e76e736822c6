section
variable {l : Launch} {g : z_G} {ad : Nat → Nat} {A B : z_A}
/-- takesNonceOf -/
theorem c_takes0 {n : Nat} (hn : n < 2 ^ 31) : z_Met l g ad mZ_takesNonceOf (z_rm 0) [.ref (ad 25), .int (nI n)] A B (z_eq (some (.int (nI (if 1 ≤ n then 1 else 0)))) A B) := by
  refine z_Met.of (L := [(0, _), (1, _)]) (by decide) (Nat.le_of_ble_eq_true rfl) (z_fit_eq z_fitb) rfl ?_
  intro Ex hEx
  refine z_iload_n (pc := 0) dZ_takesNonceOf_0 rfl rfl ?_
  refine z_iconst (pc := 1) dZ_takesNonceOf_1 zi_1 ?_
  refine z_icmp_lt (pc := 2) (by omega) (by omega) (tgt := 9) dZ_takesNonceOf_2 rfl (fun h1 => ?_) (fun h1 => ?_)
  · refine z_iconst (pc := 9) dZ_takesNonceOf_9 zi_0 ?_
    exact z_reti (pc := 10) dZ_takesNonceOf_10 (hEx _ _ _ (⟨by first | rw [if_neg (by omega)] | rw [if_pos (by omega)], rfl, rfl⟩))
  · refine z_iconst (pc := 5) dZ_takesNonceOf_5 zi_1 ?_
    refine z_goto (pc := 6) (tgt := 10) dZ_takesNonceOf_6 rfl ?_
    exact z_reti (pc := 10) dZ_takesNonceOf_10 (hEx _ _ _ (⟨by first | rw [if_neg (by omega)] | rw [if_pos (by omega)], rfl, rfl⟩))
theorem c_takes1 {n : Nat} (hn : n < 2 ^ 31) : z_Met l g ad mO_takesNonceOf (z_rm 0) [.ref (ad 32), .int (nI n)] A B (z_eq (some (.int (nI (if n = 12 then 1 else 0)))) A B) := by
  refine z_Met.of (L := [(0, _), (1, _)]) (by decide) (Nat.le_of_ble_eq_true rfl) (z_fit_eq z_fitb) rfl ?_
  intro Ex hEx
  refine z_iload_n (pc := 0) dO_takesNonceOf_0 rfl rfl ?_
  refine z_bipush (pc := 1) dO_takesNonceOf_1 zb_12 ?_
  refine z_icmp_ne (pc := 3) (by omega) (by omega) (tgt := 10) dO_takesNonceOf_3 rfl (fun h1 => ?_) (fun h1 => ?_)
  · refine z_iconst (pc := 10) dO_takesNonceOf_10 zi_0 ?_
    exact z_reti (pc := 11) dO_takesNonceOf_11 (hEx _ _ _ (⟨by first | rw [if_neg h1] | rw [if_pos h1], rfl, rfl⟩))
  · refine z_iconst (pc := 6) dO_takesNonceOf_6 zi_1 ?_
    refine z_goto (pc := 7) (tgt := 11) dO_takesNonceOf_7 rfl ?_
    exact z_reti (pc := 11) dO_takesNonceOf_11 (hEx _ _ _ (⟨by first | rw [if_neg h1] | rw [if_pos h1], rfl, rfl⟩))
theorem c_useKey0  (hb : z_box A 15) (hK : ∀ j, j < 16 → A 3 j < 256) (hl : A 4 1 ≤ 24) (hN : ∀ j, j < A 4 1 → A 5 j < 256) (hz : ∀ j, j < 16 → A 31 j = z00 j) (hw : z_hw A B 20 (zow 0) (zmw 0) (zvw 0)) (hq : ∃ H S, z_hk B 20 H S) : z_Met l g ad mZ_useKey (z_rm 4) [.ref (ad 25), .ref (ad 2), .ref (ad 4)] A B (z_vd (fun A' B' => z_hB B B' 20 ∧ (∃ H S, z_hk B' 20 H S) ∧ z_fr [16, 17, 18, 21, 26, 27] A A' ∧ (∀ j, j < 176 → A' 16 j = zKX (A 3) j) ∧ (∀ j, j < 16 → A' 26 j = zHkey (A 3) j) ∧ ∀ j, j < 16 → A' 27 j = zJ (A 3) (A 5) (A 4 1) j)) := by
  refine z_Met.of (L := [(0, _), (1, _), (2, _)]) (by decide) (Nat.le_of_ble_eq_true rfl) z_fit_vd rfl ?_
  intro Ex hEx
  obtain ⟨H0, S0, hq⟩ := hq
  refine z_aload_n (pc := 0) dZ_useKey_0 rfl rfl ?_
  refine z_getR (pc := 1) zo_25 rfl zf_Z_15_4 dZ_useKey_1 ?_
  refine z_aload_n (pc := 4) dZ_useKey_4 rfl rfl ?_
  refine z_getR (pc := 5) zo_2 rfl zf_Z_19_2 dZ_useKey_5 ?_
  refine z_callV (pc := 8) (c_useKey (kk := 3) za_3 (by omega) hb hK) (by decide) zo_14 rfl zc_Z_24 rfl rfl (Nat.le_of_ble_eq_true rfl) dZ_useKey_8 (fun r A' B' hE => ?_)
  obtain ⟨rfl, rfl, hA1, hW1⟩ := hE
  refine z_r0 ?_
  refine z_aload_n (pc := 11) dZ_useKey_11 rfl rfl ?_
  refine z_getR (pc := 12) zo_25 rfl zf_Z_15_4 dZ_useKey_12 ?_
  refine z_aload_n (pc := 15) dZ_useKey_15 rfl rfl ?_
  refine z_getR (pc := 16) zo_25 rfl zf_Z_9_4 dZ_useKey_16 ?_
  refine z_aload_n (pc := 19) dZ_useKey_19 rfl rfl ?_
  refine z_getR (pc := 20) zo_25 rfl zf_Z_30_4 dZ_useKey_20 ?_
  refine z_callV (pc := 23) (c_encipher (f := 31) (t := 26) (W := zKX (A 3)) za_31 (by omega) za_26 (by omega) (by decide) (by decide) (fun j hj => by rw [hA1 15 (by decide)]; exact hb j hj) hW1 (zKX_by hK) (fun j hj => by rw [hA1 31 (by decide), hz j hj]; exact z00_lt j)) (by decide) zo_14 rfl zc_Z_33 rfl rfl (Nat.le_of_ble_eq_true rfl) dZ_useKey_23 (fun r A' B' hE => ?_)
  obtain ⟨rfl, rfl, hA2, hX2, -⟩ := hE
  have hX3 : ∀ j, j < 16 → A' 26 j = zHkey (A 3) j := fun j hj => by rw [hX2 j hj]; exact zEs_cg (fun _ _ => rfl) (fun j' h' => by rw [hA1 31 (by decide)]; exact hz j' h') 10 (by omega) j hj
  have e4 : A' 4 = A 4 := by rw [hA2 4 (by decide) (by decide) (by decide), hA1 4 (by decide)]
  have e5 : A' 5 = A 5 := by rw [hA2 5 (by decide) (by decide) (by decide), hA1 5 (by decide)]
  have e20 : A' 20 = A 20 := by rw [hA2 20 (by decide) (by decide) (by decide), hA1 20 (by decide)]
  have e31 : A' 31 = A 31 := by rw [hA2 31 (by decide) (by decide) (by decide), hA1 31 (by decide)]
  have hf : z_fr [16, 17, 18, 26] A A' := fun q hq9 => (hA2 q (z_nm hq9 (by decide)) (z_nm hq9 (by decide)) (z_nm hq9 (by decide))).trans (hA1 q (z_nm hq9 (by decide)))
  have hW2 : ∀ j, j < 176 → A' 16 j = zKX (A 3) j := fun j hj => by rw [hA2 16 (by decide) (by decide) (by decide)]; exact hW1 j hj
  clear hA1 hA2 hX2 hW1
  refine z_r0 ?_
  refine z_aload_n (pc := 26) dZ_useKey_26 rfl rfl ?_
  refine z_getI (pc := 27) zo_4 rfl zf_Z_37_2 dZ_useKey_27 ?_
  refine z_bipush (pc := 30) dZ_useKey_30 zb_12 ?_
  refine z_icmp_ne (pc := 32) (by rw [e4]; omega) (by omega) (tgt := 76) dZ_useKey_32 rfl (fun h12 => ?_) (fun h12 => ?_)
  · rw [e4] at h12
    refine z_aload_n (pc := 76) dZ_useKey_76 rfl rfl ?_
    refine z_getR (pc := 77) zo_25 rfl zf_Z_50_4 dZ_useKey_77 ?_
    refine z_aload_n (pc := 80) dZ_useKey_80 rfl rfl ?_
    refine z_getR (pc := 81) zo_25 rfl zf_Z_30_4 dZ_useKey_81 ?_
    refine z_callV (pc := 84) (c_begin (k := 20) (c := 26) (o := zow 0) (mr := zmw 0) (ov := zvw 0) zo_20 za_26 (by omega) (fun j hj => by rw [hX3 j hj]; exact zE_by hK (fun j _ => z00_lt j) j hj) (Or.inl rfl) (hw.mv e20 z_hB.rf) hq) (by decide) zo_20 rfl zc_Z_54 rfl rfl (Nat.le_of_ble_eq_true rfl) dZ_useKey_84 (fun r A' B' hE => ?_)
    obtain ⟨rfl, rfl, hB1, hq1⟩ := hE
    replace hq1 : z_hk B' 20 (zHw 0 (zHkey (A 3))) 0 := by rw [← zHw_cg hX3]; exact hq1
    have hw1 := hw.mv e20 hB1
    refine z_r0 ?_
    refine z_aload_n (pc := 87) dZ_useKey_87 rfl rfl ?_
    refine z_getR (pc := 88) zo_25 rfl zf_Z_50_4 dZ_useKey_88 ?_
    refine z_aload_n (pc := 91) dZ_useKey_91 rfl rfl ?_
    refine z_getR (pc := 92) zo_4 rfl zf_Z_19_2 dZ_useKey_92 ?_
    refine z_aload_n (pc := 95) dZ_useKey_95 rfl rfl ?_
    refine z_getI (pc := 96) zo_4 rfl zf_Z_37_2 dZ_useKey_96 ?_
    refine z_callV (pc := 99) (c_add (k := 20) zo_20 za_5 (by rw [e4]; exact hl) (by omega) (fun j hj => by rw [e4] at hj; rw [e5]; exact hN j hj) hw1 hq1) (by decide) zo_20 rfl zc_Z_59 rfl rfl (Nat.le_of_ble_eq_true rfl) dZ_useKey_99 (fun r A' B' hE => ?_)
    obtain ⟨rfl, rfl, hB2, hq2⟩ := hE
    rw [e4, e5] at hq2
    have hw2 := hw1.mv rfl hB2
    refine z_r0 ?_
    refine z_aload_n (pc := 102) dZ_useKey_102 rfl rfl ?_
    refine z_getR (pc := 103) zo_25 rfl zf_Z_50_4 dZ_useKey_103 ?_
    refine z_iconst (pc := 106) dZ_useKey_106 zi_0 ?_
    refine z_aload_n (pc := 107) dZ_useKey_107 rfl rfl ?_
    refine z_getI (pc := 108) zo_4 rfl zf_Z_37_2 dZ_useKey_108 ?_
    refine z_callV (pc := 111) (c_addLengths1 (k := 20) (a := 0) zo_20 za_21 (by decide) (by omega) (by rw [e4]; omega) hw2 hq2) (by decide) zo_20 rfl zc_Z_63 rfl rfl (Nat.le_of_ble_eq_true rfl) dZ_useKey_111 (fun r A' B' hE => ?_)
    obtain ⟨rfl, hA4, hB4, hq4⟩ := hE
    rw [e4] at hq4
    refine z_r0 ?_
    refine z_aload_n (pc := 114) dZ_useKey_114 rfl rfl ?_
    refine z_getR (pc := 115) zo_25 rfl zf_Z_50_4 dZ_useKey_115 ?_
    refine z_aload_n (pc := 118) dZ_useKey_118 rfl rfl ?_
    refine z_getR (pc := 119) zo_25 rfl zf_Z_41_4 dZ_useKey_119 ?_
    refine z_callV (pc := 122) (c_write (k := 20) (c := 27) (mr := zmw 0) zo_20 za_27 (by omega) (by decide) (by rw [hA4 20 (by decide)]; exact hw1.2.1) (zmw_ok 0) hq4) (by decide) zo_20 rfl zc_Z_67 rfl rfl (Nat.le_of_ble_eq_true rfl) dZ_useKey_122 (fun r A' B' hE => ?_)
    obtain ⟨rfl, rfl, hA5, hX5, -⟩ := hE
    refine z_r0 ?_
    exact z_ret0 (pc := 125) dZ_useKey_125 (hEx _ _ _ (⟨rfl, (hB1.tr hB2).tr hB4, ⟨_, _, hq4⟩, fun q hq9 => (hA5 q (z_nm hq9 (by decide))).trans ((hA4 q (z_nm hq9 (by decide))).trans (hf q (fun q => hq9 (by revert q; simp; omega)))), fun j hj => by rw [hA5 16 (by decide), hA4 16 (by decide)]; exact hW2 j hj, fun j hj => by rw [hA5 26 (by decide), hA4 26 (by decide)]; exact hX3 j hj, fun j hj => by rw [hX5 j hj, zJ, if_neg h12]; rfl⟩))
  · rw [e4] at h12
    refine z_aload_n (pc := 35) dZ_useKey_35 rfl rfl ?_
    refine z_getR (pc := 36) zo_4 rfl zf_Z_19_2 dZ_useKey_36 ?_
    refine z_iconst (pc := 39) dZ_useKey_39 zi_0 ?_
    refine z_aload_n (pc := 40) dZ_useKey_40 rfl rfl ?_
    refine z_getR (pc := 41) zo_25 rfl zf_Z_41_4 dZ_useKey_41 ?_
    refine z_iconst (pc := 44) dZ_useKey_44 zi_0 ?_
    refine z_bipush (pc := 45) dZ_useKey_45 zb_12 ?_
    refine z_copy (pc := 47) za_5 za_27 (by omega) (by omega) zy_Z_44 (by decide) (Nat.le_of_ble_eq_true rfl) (by decide) dZ_useKey_47 ?_
    refine z_aload_n (pc := 50) dZ_useKey_50 rfl rfl ?_
    refine z_getR (pc := 51) zo_25 rfl zf_Z_9_4 dZ_useKey_51 ?_
    refine z_iconst (pc := 54) dZ_useKey_54 zi_0 ?_
    refine z_aload_n (pc := 55) dZ_useKey_55 rfl rfl ?_
    refine z_getR (pc := 56) zo_25 rfl zf_Z_41_4 dZ_useKey_56 ?_
    refine z_bipush (pc := 59) dZ_useKey_59 zb_12 ?_
    refine z_iconst (pc := 61) dZ_useKey_61 zi_4 ?_
    refine z_copy (pc := 62) za_31 za_27 (by omega) (by omega) zy_Z_44 (by decide) (Nat.le_of_ble_eq_true rfl) (by decide) dZ_useKey_62 ?_
    refine z_aload_n (pc := 65) dZ_useKey_65 rfl rfl ?_
    refine z_getR (pc := 66) zo_25 rfl zf_Z_41_4 dZ_useKey_66 ?_
    refine z_bipush (pc := 69) dZ_useKey_69 zb_15 ?_
    refine z_iconst (pc := 71) dZ_useKey_71 zi_1 ?_
    refine z_iastore (pc := 72) za_27 (by omega) dZ_useKey_72 ?_
    refine z_goto (pc := 73) (tgt := 125) dZ_useKey_73 rfl ?_
    refine z_ret0 (pc := 125) dZ_useKey_125 (hEx _ _ _ (⟨rfl, z_hB.rf, ⟨_, _, hq⟩, fun q hq9 => by rw [z_set_ne (z_nm hq9 (by decide)), z_seg_ne (z_nm hq9 (by decide)), z_seg_ne (z_nm hq9 (by decide))]; exact hf q (fun q => hq9 (by revert q; simp; omega)), fun j hj => by rw [z_set_ne (by decide), z_seg_ne (by decide), z_seg_ne (by decide)]; exact hW2 j hj, fun j hj => by rw [z_set_ne (by decide), z_seg_ne (by decide), z_seg_ne (by decide)]; exact hX3 j hj, fun j hj => ?_⟩))
    rw [zJ, if_pos h12]
    by_cases h1 : j < 12
    · rw [if_pos h1, z_set_nj (by omega), z_seg_out (Or.inl h1), z_seg_in (Nat.zero_le _) (by omega), e5, Nat.zero_add, Nat.sub_zero]
    · rw [if_neg h1]
      by_cases h2 : j = 15
      · rw [if_pos h2, h2, z_set_at]
      · rw [if_neg h2, z_set_nj h2, z_seg_in (by omega) (by omega), z_seg_ne (by decide), e31, hz _ (by omega)]
        rfl
theorem c_makeDue0 {c nc n : Nat} {W : Nat → Nat} (hc : z_ia c nc) (hn : n ≤ nc) (hnc : nc ≤ 900) (hX : ∀ j, j < n → A c j < 256) (hal : A 6 1 ≤ 32) (hY : ∀ j, j < A 6 1 → A 7 j < 256) (hhk : ∀ j, j < 16 → A 26 j < 256) (hJ : ∀ j, j < 16 → A 27 j < 256) (hb : z_box A 15) (hW : ∀ j, j < 176 → A 16 j = W j) (hWb : ∀ j, j < 176 → W j < 256) (hw : z_hw A B 20 (zow 0) (zmw 0) (zvw 0)) (hq : ∃ H S, z_hk B 20 H S) : z_Met l g ad mZ_makeDue (z_rm 4) [.ref (ad 25), .ref (ad 6), .ref (ad c), .int (nI n)] A B (z_vd (fun A' B' => z_hB B B' 20 ∧ (∃ H S, z_hk B' 20 H S) ∧ z_fr [17, 18, 21, 29, 30] A A' ∧ ∀ j, j < 16 → A' 30 j = zby (zmw 0) (zhsh 0 (zHw 0 (A 26)) (A 7) (A 6 1) (A c) n) j ^^^ zEs W (A 27) 10 j)) := by
  refine z_Met.of (L := [(0, _), (1, _), (2, _), (3, _)]) (by decide) (Nat.le_of_ble_eq_true rfl) z_fit_vd rfl ?_
  intro Ex hEx
  refine z_aload_n (pc := 0) dZ_makeDue_0 rfl rfl ?_
  refine z_aload_n (pc := 1) dZ_makeDue_1 rfl rfl ?_
  refine z_aload_n (pc := 2) dZ_makeDue_2 rfl rfl ?_
  refine z_iload_n (pc := 3) dZ_makeDue_3 rfl rfl ?_
  refine z_callU (pc := 4) (c_hashWithAside0 hc hn hnc hX hal hY hhk hw hq) (by decide) zo_25 rfl zc_Z_86 rfl rfl (Nat.le_of_ble_eq_true rfl) dZ_makeDue_4 (fun r A' B' hE => ?_)
  obtain ⟨rfl, hB1, hq1, hA1, hX1⟩ := hE
  generalize B' = B1 at *
  refine z_r0 ?_
  refine z_aload_n (pc := 7) dZ_makeDue_7 rfl rfl ?_
  refine z_getR (pc := 8) zo_25 rfl zf_Z_15_4 dZ_makeDue_8 ?_
  refine z_aload_n (pc := 11) dZ_makeDue_11 rfl rfl ?_
  refine z_getR (pc := 12) zo_25 rfl zf_Z_41_4 dZ_makeDue_12 ?_
  refine z_aload_n (pc := 15) dZ_makeDue_15 rfl rfl ?_
  refine z_getR (pc := 16) zo_25 rfl zf_Z_89_4 dZ_makeDue_16 ?_
  refine z_callV (pc := 19) (c_encipher (f := 27) (t := 29) (W := W) za_27 (by omega) za_29 (by omega) (by decide) (by decide) (fun j hj => by rw [hA1 15 (by decide)]; exact hb j hj) (fun j hj => by rw [hA1 16 (by decide)]; exact hW j hj) hWb (fun j hj => by rw [hA1 27 (by decide)]; exact hJ j hj)) (by decide) zo_14 rfl zc_Z_33 rfl rfl (Nat.le_of_ble_eq_true rfl) dZ_makeDue_19 (fun r A' B' hE => ?_)
  obtain ⟨rfl, rfl, hA2, hX2, -⟩ := hE
  refine z_r0 ?_
  refine z_iconst (pc := 22) dZ_makeDue_22 zi_0 ?_
  refine z_istore (L' := [(4, _), (0, _), (1, _), (2, _), (3, _)]) (pc := 23) dZ_makeDue_23 (by decide) rfl ?_
  refine z_wd (z_map_0 A' 30 (fun j => A' 30 j ^^^ A' 29 j)).symm rfl ?_
  refine z_for 16 (fun i => [(4, .int (nI i)), (0, .ref (ad 25)), (1, .ref (ad 6)), (2, .ref (ad c)), (3, .int (nI n))]) (fun i => z_map A' 30 i (fun j => A' 30 j ^^^ A' 29 j)) (fun i => B1) (fun i hi ki => ?_) ?_
  · refine z_iload (pc := 25) dZ_makeDue_25 rfl ?_
    refine z_bipush (pc := 27) dZ_makeDue_27 zb_16 ?_
    refine z_icmp_ge (pc := 29) (by omega) (by omega) (tgt := 55) dZ_makeDue_29 rfl (fun h => by exfalso; omega) (fun h => ?_)
    refine z_aload_n (pc := 32) dZ_makeDue_32 rfl rfl ?_
    refine z_getR (pc := 33) zo_25 rfl zf_Z_92_4 dZ_makeDue_33 ?_
    refine z_iload (pc := 36) dZ_makeDue_36 rfl ?_
    refine z_dup2 (pc := 38) dZ_makeDue_38 rfl rfl ?_
    refine z_iaload (pc := 39) za_30 (by omega) dZ_makeDue_39 ?_
    refine z_aload_n (pc := 40) dZ_makeDue_40 rfl rfl ?_
    refine z_getR (pc := 41) zo_25 rfl zf_Z_89_4 dZ_makeDue_41 ?_
    refine z_iload (pc := 44) dZ_makeDue_44 rfl ?_
    refine z_iaload (pc := 46) za_29 (by omega) dZ_makeDue_46 ?_
    refine z_ixor (pc := 47) dZ_makeDue_47 ?_
    refine z_iastore (pc := 48) za_30 (by omega) dZ_makeDue_48 ?_
    refine z_iinc (L' := [(4, _), (0, _), (1, _), (2, _), (3, _)]) (pc := 49) dZ_makeDue_49 rfl zi_1 (by decide) rfl ?_
    refine z_goto (pc := 52) (tgt := 25) dZ_makeDue_52 rfl ?_
    refine z_wd (z_map_set ?_) rfl ki
    rw [z_map_ge (Nat.le_refl _), z_map_ne (by decide)]
  · refine z_iload (pc := 25) dZ_makeDue_25 rfl ?_
    refine z_bipush (pc := 27) dZ_makeDue_27 zb_16 ?_
    refine z_icmp_ge (pc := 29) (by omega) (by omega) (tgt := 55) dZ_makeDue_29 rfl (fun h => ?_) (fun h => by exfalso; omega)
    exact z_ret0 (pc := 55) dZ_makeDue_55 (hEx _ _ _ (⟨rfl, hB1, hq1, fun q hq9 => by rw [z_map_ne (z_nm hq9 (by decide)), hA2 q (z_nm hq9 (by decide)) (z_nm hq9 (by decide)) (z_nm hq9 (by decide))]; exact hA1 q (fun q => hq9 (by revert q; simp; omega)), fun j hj => by rw [z_map_lt hj, hA2 30 (by decide) (by decide) (by decide), hX1 j hj, hX2 j hj, hA1 27 (by decide)]⟩))
theorem c_sealText0 {W : Nat → Nat} (hn : A 8 1 ≤ 48) (hT : ∀ j, j < A 8 1 → A 9 j < 256) (hal : A 6 1 ≤ 32) (hY : ∀ j, j < A 6 1 → A 7 j < 256) (hhk : ∀ j, j < 16 → A 26 j < 256) (hJ : ∀ j, j < 16 → A 27 j < 256) (hb : z_box A 15) (hW : ∀ j, j < 176 → A 16 j = W j) (hWb : ∀ j, j < 176 → W j < 256) (hw : z_hw A B 20 (zow 0) (zmw 0) (zvw 0)) (hq : ∃ H S, z_hk B 20 H S) : z_Met l g ad mZ_sealText (z_rm 5) [.ref (ad 25), .ref (ad 1), .ref (ad 10)] A B (z_vd (fun A' B' => z_hB B B' 20 ∧ (∃ H S, z_hk B' 20 H S) ∧ z_fr [10, 11, 17, 18, 21, 28, 29, 30] A A' ∧ A' 10 1 = A 8 1 + 16 ∧ (∀ j, j < A 8 1 → A' 11 j = (fun j => A 9 j ^^^ zEs W (zcnt 0 (A 27) (j / 16 + 1)) 10 (j % 16)) j) ∧ ∀ j, j < 16 → A' 11 (A 8 1 + j) = zby (zmw 0) (zhsh 0 (zHw 0 (A 26)) (A 7) (A 6 1) (fun j => A 9 j ^^^ zEs W (zcnt 0 (A 27) (j / 16 + 1)) 10 (j % 16)) (A 8 1)) j ^^^ zEs W (A 27) 10 j)) := by
  refine z_Met.of (L := [(0, _), (1, _), (2, _)]) (by decide) (Nat.le_of_ble_eq_true rfl) z_fit_vd rfl ?_
  intro Ex hEx
  refine z_aload_n (pc := 0) dZ_sealText_0 rfl rfl ?_
  refine z_iconst (pc := 1) dZ_sealText_1 zi_3 ?_
  refine z_aaload (pc := 2) zr_1 rfl (rfl) dZ_sealText_2 ?_
  refine z_getI (pc := 3) zo_8 rfl zf_Z_37_2 dZ_sealText_3 ?_
  refine z_istore_n (L' := [(3, _), (0, _), (1, _), (2, _)]) (pc := 6) dZ_sealText_6 rfl (by decide) rfl ?_
  refine z_aload_n (pc := 7) dZ_sealText_7 rfl rfl ?_
  refine z_aload_n (pc := 8) dZ_sealText_8 rfl rfl ?_
  refine z_iconst (pc := 9) dZ_sealText_9 zi_3 ?_
  refine z_aaload (pc := 10) zr_1 rfl (rfl) dZ_sealText_10 ?_
  refine z_getR (pc := 11) zo_8 rfl zf_Z_19_2 dZ_sealText_11 ?_
  refine z_iload_n (pc := 14) dZ_sealText_14 rfl rfl ?_
  refine z_aload_n (pc := 15) dZ_sealText_15 rfl rfl ?_
  refine z_getR (pc := 16) zo_10 rfl zf_Z_19_2 dZ_sealText_16 ?_
  refine z_callU (pc := 19) (c_cipherText0 (f := 9) (t := 11) (W := W) za_9 (by omega) za_11 (by omega) (by omega) (by decide) (by decide) (by decide) (by decide) (by decide) (by decide) (by decide) (by decide) (by decide) (by decide) (by decide) (by decide) hb hW hWb hJ) (by decide) zo_25 rfl zc_Z_70 rfl rfl (Nat.le_of_ble_eq_true rfl) dZ_sealText_19 (fun r A' B' hE => ?_)
  obtain ⟨rfl, rfl, hA1, hi1, hC1⟩ := hE
  have hCb : ∀ j, j < A 8 1 → A' 11 j < 256 := fun j hj => by rw [hC1 j hj]; exact z_xor8 (hT j hj) (zEs_by hWb (zcnt_lt hJ) 10 (by omega) _ (Nat.mod_lt _ (by decide)))
  refine z_r0 ?_
  refine z_aload_n (pc := 22) dZ_sealText_22 rfl rfl ?_
  refine z_aload_n (pc := 23) dZ_sealText_23 rfl rfl ?_
  refine z_iconst (pc := 24) dZ_sealText_24 zi_2 ?_
  refine z_aaload (pc := 25) zr_1 rfl (rfl) dZ_sealText_25 ?_
  refine z_aload_n (pc := 26) dZ_sealText_26 rfl rfl ?_
  refine z_getR (pc := 27) zo_10 rfl zf_Z_19_2 dZ_sealText_27 ?_
  refine z_iload_n (pc := 30) dZ_sealText_30 rfl rfl ?_
  refine z_callV (pc := 31) (c_makeDue0 (c := 11) (W := W) za_11 (by omega) (by omega) hCb (by rw [hA1 6 (by decide)]; exact hal) (fun j hj => by rw [hA1 6 (by decide)] at hj; rw [hA1 7 (by decide)]; exact hY j hj) (fun j hj => by rw [hA1 26 (by decide)]; exact hhk j hj) (fun j hj => by rw [hA1 27 (by decide)]; exact hJ j hj) (fun j hj => by rw [hA1 15 (by decide)]; exact hb j hj) (fun j hj => by rw [hA1 16 (by decide)]; exact hW j hj) hWb (hw.mv (hA1 20 (by decide)) z_hB.rf) hq) (by decide) zo_25 rfl zc_Z_74 rfl rfl (Nat.le_of_ble_eq_true rfl) dZ_sealText_31 (fun r A' B' hE => ?_)
  obtain ⟨rfl, hB2, hq2, hA2, hX2⟩ := hE
  rw [hA1 6 (by decide), hA1 7 (by decide), hA1 26 (by decide), hA1 27 (by decide), zhsh_cg (X' := (fun j => A 9 j ^^^ zEs W (zcnt 0 (A 27) (j / 16 + 1)) 10 (j % 16))) (fun _ _ => rfl) hC1] at hX2
  refine z_r0 ?_
  refine z_aload_n (pc := 34) dZ_sealText_34 rfl rfl ?_
  refine z_aload_n (pc := 35) dZ_sealText_35 rfl rfl ?_
  refine z_iload_n (pc := 36) dZ_sealText_36 rfl rfl ?_
  refine z_callU (pc := 37) (c_appendDue0 hn) (by decide) zo_25 rfl zc_Z_78 rfl rfl (Nat.le_of_ble_eq_true rfl) dZ_sealText_37 (fun r A' B' hE => ?_)
  obtain ⟨rfl, rfl, rfl⟩ := hE
  refine z_r0 ?_
  exact z_ret0 (pc := 40) dZ_sealText_40 (hEx _ _ _ (⟨rfl, hB2, hq2, fun q hq9 => by rw [z_set_ne (z_nm hq9 (by decide)), z_seg_ne (z_nm hq9 (by decide)), hA2 q (fun q => hq9 (by revert q; simp; omega))]; exact hA1 q (fun q => hq9 (by revert q; simp; omega)), z_set_at, fun j hj => by rw [z_set_ne (by decide), z_seg_out (Or.inl hj), hA2 11 (by decide)]; exact hC1 j hj, fun j hj => by rw [z_set_ne (by decide), z_seg_in (by omega) (by omega), Nat.zero_add, Nat.add_sub_cancel_left]; exact hX2 j hj⟩))
theorem c_openText0 {W : Nat → Nat} (hn : 16 ≤ A 8 1) (hn2 : A 8 1 ≤ 64) (hT : ∀ j, j < A 8 1 → A 9 j < 256) (hal : A 6 1 ≤ 32) (hY : ∀ j, j < A 6 1 → A 7 j < 256) (hhk : ∀ j, j < 16 → A 26 j < 256) (hJ : ∀ j, j < 16 → A 27 j < 256) (hb : z_box A 15) (hW : ∀ j, j < 176 → A 16 j = W j) (hWb : ∀ j, j < 176 → W j < 256) (hw : z_hw A B 20 (zow 0) (zmw 0) (zvw 0)) (hq : ∃ H S, z_hk B 20 H S) : z_Met l g ad mZ_openText (z_rm 5) [.ref (ad 25), .ref (ad 1), .ref (ad 12)] A B (z_an (if zdf (fun j => A 9 (A 8 1 - 16 + j)) (fun j => zby (zmw 0) (zhsh 0 (zHw 0 (A 26)) (A 7) (A 6 1) (A 9) (A 8 1 - 16)) j ^^^ zEs W (A 27) 10 j) 16 = 0 then 1 else 0) (fun A' B' => z_hB B B' 20 ∧ (∃ H S, z_hk B' 20 H S) ∧ z_fr [12, 13, 17, 18, 21, 28, 29, 30] A A' ∧ A' 12 1 = A 8 1 - 16 ∧ ∀ j, j < A 8 1 - 16 → A' 13 j = (fun j => A 9 j ^^^ zEs W (zcnt 0 (A 27) (j / 16 + 1)) 10 (j % 16)) j)) := by
  refine z_Met.of (L := [(0, _), (1, _), (2, _)]) (by decide) (Nat.le_of_ble_eq_true rfl) z_fit_anb rfl ?_
  intro Ex hEx
  refine z_aload_n (pc := 0) dZ_openText_0 rfl rfl ?_
  refine z_iconst (pc := 1) dZ_openText_1 zi_3 ?_
  refine z_aaload (pc := 2) zr_1 rfl (rfl) dZ_openText_2 ?_
  refine z_getI (pc := 3) zo_8 rfl zf_Z_37_2 dZ_openText_3 ?_
  refine z_bipush (pc := 6) dZ_openText_6 zb_16 ?_
  refine z_isub (pc := 8) dZ_openText_8 (by omega) ?_
  refine z_istore_n (L' := [(3, _), (0, _), (1, _), (2, _)]) (pc := 9) dZ_openText_9 rfl (by decide) rfl ?_
  refine z_aload_n (pc := 10) dZ_openText_10 rfl rfl ?_
  refine z_aload_n (pc := 11) dZ_openText_11 rfl rfl ?_
  refine z_iconst (pc := 12) dZ_openText_12 zi_2 ?_
  refine z_aaload (pc := 13) zr_1 rfl (rfl) dZ_openText_13 ?_
  refine z_aload_n (pc := 14) dZ_openText_14 rfl rfl ?_
  refine z_iconst (pc := 15) dZ_openText_15 zi_3 ?_
  refine z_aaload (pc := 16) zr_1 rfl (rfl) dZ_openText_16 ?_
  refine z_getR (pc := 17) zo_8 rfl zf_Z_19_2 dZ_openText_17 ?_
  refine z_iload_n (pc := 20) dZ_openText_20 rfl rfl ?_
  refine z_callV (pc := 21) (c_makeDue0 (c := 9) (W := W) za_9 (by omega) (by omega) (fun j hj => hT j (by omega)) hal hY hhk hJ hb hW hWb hw hq) (by decide) zo_25 rfl zc_Z_74 rfl rfl (Nat.le_of_ble_eq_true rfl) dZ_openText_21 (fun r A' B' hE => ?_)
  obtain ⟨rfl, hB1, hq1, hA1, hX1⟩ := hE
  refine z_r0 ?_
  refine z_aload_n (pc := 24) dZ_openText_24 rfl rfl ?_
  refine z_aload_n (pc := 25) dZ_openText_25 rfl rfl ?_
  refine z_iconst (pc := 26) dZ_openText_26 zi_3 ?_
  refine z_aaload (pc := 27) zr_1 rfl (rfl) dZ_openText_27 ?_
  refine z_getR (pc := 28) zo_8 rfl zf_Z_19_2 dZ_openText_28 ?_
  refine z_iload_n (pc := 31) dZ_openText_31 rfl rfl ?_
  refine z_aload_n (pc := 32) dZ_openText_32 rfl rfl ?_
  refine z_getR (pc := 33) zo_12 rfl zf_Z_19_2 dZ_openText_33 ?_
  refine z_callU (pc := 36) (c_cipherText0 (f := 9) (t := 13) (W := W) za_9 (by omega) za_13 (by omega) (by omega) (by decide) (by decide) (by decide) (by decide) (by decide) (by decide) (by decide) (by decide) (by decide) (by decide) (by decide) (by decide) (fun j hj => by rw [hA1 15 (by decide)]; exact hb j hj) (fun j hj => by rw [hA1 16 (by decide)]; exact hW j hj) hWb (fun j hj => by rw [hA1 27 (by decide)]; exact hJ j hj)) (by decide) zo_25 rfl zc_Z_70 rfl rfl (Nat.le_of_ble_eq_true rfl) dZ_openText_36 (fun r A' B' hE => ?_)
  obtain ⟨rfl, rfl, hA2, hi2, hC2⟩ := hE
  rw [hA1 9 (by decide), hA1 27 (by decide)] at hC2
  have hf : z_fr [13, 17, 18, 21, 28, 29, 30] A A' := fun q hq9 => (hA2 q (fun q => hq9 (by revert q; simp; omega))).trans (hA1 q (fun q => hq9 (by revert q; simp; omega)))
  have hD : ∀ j, j < 16 → A' 30 j = zby (zmw 0) (zhsh 0 (zHw 0 (A 26)) (A 7) (A 6 1) (A 9) (A 8 1 - 16)) j ^^^ zEs W (A 27) 10 j := fun j hj => by rw [hA2 30 (by decide)]; exact hX1 j hj
  refine z_r0 ?_
  refine z_aload_n (pc := 39) dZ_openText_39 rfl rfl ?_
  refine z_iload_n (pc := 40) dZ_openText_40 rfl rfl ?_
  refine z_putI (pc := 41) zo_12 rfl zp_Z_37_2 dZ_openText_41 ?_
  refine z_aload_n (pc := 44) dZ_openText_44 rfl rfl ?_
  refine z_aload_n (pc := 45) dZ_openText_45 rfl rfl ?_
  refine z_iconst (pc := 46) dZ_openText_46 zi_3 ?_
  refine z_aaload (pc := 47) zr_1 rfl (rfl) dZ_openText_47 ?_
  have s8 : z_set A' 12 1 (A 8 1 - 16) 8 = A 8 := by rw [z_set_ne (by decide)]; exact hf 8 (by decide)
  have s9 : z_set A' 12 1 (A 8 1 - 16) 9 = A 9 := by rw [z_set_ne (by decide)]; exact hf 9 (by decide)
  have s30 : ∀ j, j < 16 → z_set A' 12 1 (A 8 1 - 16) 30 j = zby (zmw 0) (zhsh 0 (zHw 0 (A 26)) (A 7) (A 6 1) (A 9) (A 8 1 - 16)) j ^^^ zEs W (A 27) 10 j := fun j hj => by rw [z_set_ne (by decide)]; exact hD j hj
  have sb : ∀ j, j < 16 → z_set A' 12 1 (A 8 1 - 16) 30 j < 256 := fun j hj => by rw [s30 j hj]; exact z_xor8 (zby_lt _ _ _) (zEs_by hWb hJ 10 (by omega) j hj)
  refine z_callU (pc := 48) (c_endsInDue0 (by rw [s8]; omega) (by rw [s8]; omega) (fun j hj => by rw [s8] at hj; rw [s9]; exact hT j hj) sb) (by decide) zo_25 rfl zc_Z_82 rfl rfl (Nat.le_of_ble_eq_true rfl) dZ_openText_48 (fun r A' B' hE => ?_)
  obtain ⟨rfl, rfl, rfl⟩ := hE
  have sc : (zdf (fun j => z_set A' 12 1 (A 8 1 - 16) 9 (z_set A' 12 1 (A 8 1 - 16) 8 1 - 16 + j)) (z_set A' 12 1 (A 8 1 - 16) 30) 16 = 0) ↔ zdf (fun j => A 9 (A 8 1 - 16 + j)) (fun j => zby (zmw 0) (zhsh 0 (zHw 0 (A 26)) (A 7) (A 6 1) (A 9) (A 8 1 - 16)) j ^^^ zEs W (A 27) 10 j) 16 = 0 := by
    rw [zdf_iff, zdf_iff, s8, s9]
    exact ⟨fun h j hj => by rw [← s30 j hj]; exact h j hj, fun h j hj => by rw [s30 j hj]; exact h j hj⟩
  refine z_r1 ?_
  exact z_reti (pc := 51) dZ_openText_51 (hEx _ _ _ (⟨by simp only [sc], hB1, hq1, fun q hq9 => by rw [z_set_ne (z_nm hq9 (by decide))]; exact hf q (fun q => hq9 (by revert q; simp; omega)), z_set_at, fun j hj => by rw [z_set_ne (by decide)]; exact hC2 j hj⟩))
end
