section
variable {l : Launch} {g : z_G} {ad : Nat → Nat} {A B : z_A}
theorem m_sealOutward {fr n : Nat} (hK : ∀ j, j < 16 → A 40 j < 256) (hJ : ∀ j, j < 16 → A 52 j < 256) (hb : z_box A 46) (hal : A 41 2 ≤ 32) (hY : ∀ j, j < A 41 2 → A 40 (128 + j) < 256) (hn : fr + n ≤ 320) (hn2 : n ≤ 64) (hX : ∀ j, j < n → A 40 (fr + j) < 256) : z_Met l g ad mM_sealOutward (z_rm 5) [.ref (ad 39), .int (nI fr), .int (nI n)] A B (z_vd (fun A' B' => B = B' ∧ z_fr [43, 44, 45, 47, 48, 49, 50, 51, 53] A A' ∧ (∀ j, j < 16 → A' 53 j = zby (zmw 0) (zhsh 0 (zHw 0 (zHkey (A 40))) (fun j => A 40 (128 + j)) (A 41 2) (fun j => A 40 (fr + j)) n) j ^^^ zE (A 40) (A 52) j) ∧ ∀ j, j < 16 → A' 47 j = A 40 j)) := by
  refine z_Met.of (L := [(0, _), (1, _), (2, _)]) (by decide) (Nat.le_of_ble_eq_true rfl) z_fit_vd rfl ?_
  intro Ex hEx
  refine z_aload_n (pc := 0) dM_sealOutward_0 rfl rfl ?_
  refine z_callV (pc := 1) (m_beginOutward hb hK) (by decide) zo_39 rfl zc_M_127 rfl rfl (Nat.le_of_ble_eq_true rfl) dM_sealOutward_1 (fun r A' B' hE => ?_)
  obtain ⟨rfl, rfl, hA0, hK0, hs0, hh0⟩ := hE
  have e40 : A' 40 = A 40 := hA0 40 (by decide)
  have e41 : A' 41 = A 41 := hA0 41 (by decide)
  refine z_r0 ?_
  refine z_aload_n (pc := 4) dM_sealOutward_4 rfl rfl ?_
  refine z_iconst (pc := 5) dM_sealOutward_5 zi_0 ?_
  refine z_sipush (pc := 6) dM_sealOutward_6 zs_128 ?_
  refine z_aload_n (pc := 9) dM_sealOutward_9 rfl rfl ?_
  refine z_getR (pc := 10) zo_39 rfl zf_M_13_6 dM_sealOutward_10 ?_
  refine z_iconst (pc := 13) dM_sealOutward_13 zi_2 ?_
  refine z_iaload (pc := 14) za_41 (by omega) dM_sealOutward_14 ?_
  refine z_callV (pc := 15) (m_feedRow (w := 0) (by omega) hs0 ⟨hh0, zHw_lt _ _⟩ (by rw [e41]; omega) (fun j hj => by rw [e41] at hj; rw [e40]; exact hY j hj)) (by decide) zo_39 rfl zc_M_120 rfl rfl (Nat.le_of_ble_eq_true rfl) dM_sealOutward_15 (fun r A' B' hE => ?_)
  obtain ⟨rfl, rfl, hA1, hs1⟩ := hE
  rw [e40, e41] at hs1
  replace e40 : A' 40 = A 40 := (hA1 40 (by decide) (by decide) (by decide)).trans e40
  replace e41 : A' 41 = A 41 := (hA1 41 (by decide) (by decide) (by decide)).trans e41
  replace hh0 : zbr (A' 50) 128 (zHw 0 (zHkey (A 40))) := by rw [hA1 50 (by decide) (by decide) (by decide)]; exact hh0
  refine z_r0 ?_
  refine z_aload_n (pc := 18) dM_sealOutward_18 rfl rfl ?_
  refine z_iconst (pc := 19) dM_sealOutward_19 zi_0 ?_
  refine z_iload_n (pc := 20) dM_sealOutward_20 rfl rfl ?_
  refine z_iload_n (pc := 21) dM_sealOutward_21 rfl rfl ?_
  refine z_callV (pc := 22) (m_feedRow (w := 0) (fr := fr) (by omega) hs1 ⟨hh0, zHw_lt _ _⟩ hn (fun j hj => by rw [e40]; exact hX j hj)) (by decide) zo_39 rfl zc_M_120 rfl rfl (Nat.le_of_ble_eq_true rfl) dM_sealOutward_22 (fun r A' B' hE => ?_)
  obtain ⟨rfl, rfl, hA2, hs2⟩ := hE
  rw [e40] at hs2
  replace e40 : A' 40 = A 40 := (hA2 40 (by decide) (by decide) (by decide)).trans e40
  replace e41 : A' 41 = A 41 := (hA2 41 (by decide) (by decide) (by decide)).trans e41
  replace hh0 : zbr (A' 50) 128 (zHw 0 (zHkey (A 40))) := by rw [hA2 50 (by decide) (by decide) (by decide)]; exact hh0
  refine z_r0 ?_
  refine z_aload_n (pc := 25) dM_sealOutward_25 rfl rfl ?_
  refine z_iconst (pc := 26) dM_sealOutward_26 zi_0 ?_
  refine z_aload_n (pc := 27) dM_sealOutward_27 rfl rfl ?_
  refine z_getR (pc := 28) zo_39 rfl zf_M_13_6 dM_sealOutward_28 ?_
  refine z_iconst (pc := 31) dM_sealOutward_31 zi_2 ?_
  refine z_iaload (pc := 32) za_41 (by omega) dM_sealOutward_32 ?_
  refine z_iload_n (pc := 33) dM_sealOutward_33 rfl rfl ?_
  refine z_callV (pc := 34) (m_feedLengths0 hs2 ⟨hh0, zHw_lt _ _⟩ (by rw [e41]; omega) (by omega)) (by decide) zo_39 rfl zc_M_130 rfl rfl (Nat.le_of_ble_eq_true rfl) dM_sealOutward_34 (fun r A' B' hE => ?_)
  obtain ⟨rfl, rfl, hA3, hs3⟩ := hE
  rw [e41] at hs3
  replace e40 : A' 40 = A 40 := (hA3 40 (by decide) (by decide) (by decide)).trans e40
  refine z_r0 ?_
  refine z_aload_n (pc := 37) dM_sealOutward_37 rfl rfl ?_
  refine z_iconst (pc := 38) dM_sealOutward_38 zi_0 ?_
  refine z_callV (pc := 39) (m_endHash (w := 0) (by omega) hs3) (by decide) zo_39 rfl zc_M_124 rfl rfl (Nat.le_of_ble_eq_true rfl) dM_sealOutward_39 (fun r A' B' hE => ?_)
  obtain ⟨rfl, rfl, hA4, hX4⟩ := hE
  replace e40 : A' 40 = A 40 := (hA4 40 (by decide)).trans e40
  refine z_r0 ?_
  refine z_iconst (pc := 42) dM_sealOutward_42 zi_0 ?_
  refine z_istore_n (L' := [(3, _), (0, _), (1, _), (2, _)]) (pc := 43) dM_sealOutward_43 rfl (by decide) rfl ?_
  have hf : z_fr [43, 44, 45, 47, 48, 49, 50, 51] A A' := fun k hk => ((hA4 k (z_nm hk (by decide))).trans ((hA3 k (z_nm hk (by decide)) (z_nm hk (by decide)) (z_nm hk (by decide))).trans ((hA2 k (z_nm hk (by decide)) (z_nm hk (by decide)) (z_nm hk (by decide))).trans (hA1 k (z_nm hk (by decide)) (z_nm hk (by decide)) (z_nm hk (by decide)))))).trans (hA0 k hk)
  have hK4 : ∀ j, j < 16 → A' 47 j = A 40 j := fun j hj => by rw [hA4 47 (by decide), hA3 47 (by decide) (by decide) (by decide), hA2 47 (by decide) (by decide) (by decide), hA1 47 (by decide) (by decide) (by decide)]; exact hK0 j hj
  have hS4 : ∀ j, j < 16 → A' 48 j = zby (zmw 0) (zhsh 0 (zHw 0 (zHkey (A 40))) (fun j => A 40 (128 + j)) (A 41 2) (fun j => A 40 (fr + j)) n) j := hX4
  clear hA1 hA2 hA3 hA4 hs0 hs1 hs2 hs3 hh0
  generalize A' = A5 at *
  refine z_loop 16 (fun i L A' B' => L = [(3, .int (nI i)), (0, .ref (ad 39)), (1, .int (nI fr)), (2, .int (nI n))] ∧ B = B' ∧ z_fr [48, 53] A5 A' ∧ (∀ j, j < 16 → i ≤ j → A' 48 j = A5 48 j) ∧ (∀ j, j < i → A' 53 j = A5 48 j) ∧ ∀ j, j < i → A' 48 j = A5 52 j) ?_ ?_ _ _ _ ⟨rfl, rfl, fun _ _ => rfl, fun _ _ _ => rfl, fun j hj => absurd hj (Nat.not_lt_zero _), fun j hj => absurd hj (Nat.not_lt_zero _)⟩
  · rintro i L A1 B1 hi ⟨rfl, rfl, hA, hc, ht, hs⟩ ki
    refine z_iload_n (pc := 44) dM_sealOutward_44 rfl rfl ?_
    refine z_bipush (pc := 45) dM_sealOutward_45 zb_16 ?_
    refine z_icmp_ge (pc := 47) (by omega) (by omega) (tgt := 80) dM_sealOutward_47 rfl (fun h => by exfalso; omega) (fun h => ?_)
    refine z_aload_n (pc := 50) dM_sealOutward_50 rfl rfl ?_
    refine z_getR (pc := 51) zo_39 rfl zf_M_49_6 dM_sealOutward_51 ?_
    refine z_iload_n (pc := 54) dM_sealOutward_54 rfl rfl ?_
    refine z_aload_n (pc := 55) dM_sealOutward_55 rfl rfl ?_
    refine z_getR (pc := 56) zo_39 rfl zf_M_34_6 dM_sealOutward_56 ?_
    refine z_iload_n (pc := 59) dM_sealOutward_59 rfl rfl ?_
    refine z_iaload (pc := 60) za_48 (by omega) dM_sealOutward_60 ?_
    refine z_iastore (pc := 61) za_53 (by omega) dM_sealOutward_61 ?_
    refine z_aload_n (pc := 62) dM_sealOutward_62 rfl rfl ?_
    refine z_getR (pc := 63) zo_39 rfl zf_M_34_6 dM_sealOutward_63 ?_
    refine z_iload_n (pc := 66) dM_sealOutward_66 rfl rfl ?_
    refine z_aload_n (pc := 67) dM_sealOutward_67 rfl rfl ?_
    refine z_getR (pc := 68) zo_39 rfl zf_M_46_6 dM_sealOutward_68 ?_
    refine z_iload_n (pc := 71) dM_sealOutward_71 rfl rfl ?_
    refine z_iaload (pc := 72) za_52 (by omega) dM_sealOutward_72 ?_
    refine z_iastore (pc := 73) za_48 (by omega) dM_sealOutward_73 ?_
    refine z_iinc (L' := [(3, _), (0, _), (1, _), (2, _)]) (pc := 74) dM_sealOutward_74 rfl zi_1 (by decide) rfl ?_
    refine z_goto (pc := 77) (tgt := 44) dM_sealOutward_77 rfl ?_
    refine ki _ _ _ ⟨rfl, rfl, fun k hk => by rw [z_set_ne (z_nm hk (by decide)), z_set_ne (z_nm hk (by decide)), hA k hk], fun j hj hj2 => ?_, fun j hj => ?_, fun j hj => ?_⟩
    · rw [z_set_nj (by omega), z_set_ne (by decide)]; exact hc j hj (by omega)
    · rw [z_set_ne (by decide)]
      by_cases e : j = i
      · rw [e, z_set_at]; exact hc i hi (Nat.le_refl _)
      · rw [z_set_nj e]; exact ht j (by omega)
    · by_cases e : j = i
      · rw [e, z_set_at, z_set_ne (by decide), hA 52 (by decide)]
      · rw [z_set_nj e, z_set_ne (by decide)]; exact hs j (by omega)
  · rintro L A1 B1 ⟨rfl, rfl, hA, hc, ht, hs⟩
    have k47 : ∀ j, j < 16 → A1 47 j = A 40 j := fun j hj => by rw [hA 47 (by decide)]; exact hK4 j hj
    have k48 : ∀ j, j < 16 → A1 48 j = A 52 j := fun j hj => by rw [hs j hj, hf 52 (by decide)]
    refine z_iload_n (pc := 44) dM_sealOutward_44 rfl rfl ?_
    refine z_bipush (pc := 45) dM_sealOutward_45 zb_16 ?_
    refine z_icmp_ge (pc := 47) (by omega) (by omega) (tgt := 80) dM_sealOutward_47 rfl (fun h => ?_) (fun h => by exfalso; omega)
    refine z_aload_n (pc := 80) dM_sealOutward_80 rfl rfl ?_
    refine z_callV (pc := 81) (m_encipher (fun j hj => by rw [hA 46 (by decide), hf 46 (by decide)]; exact hb j hj) (fun j hj => by rw [k47 j hj]; exact hK j hj) (fun j hj => by rw [k48 j hj]; exact hJ j hj)) (by decide) zo_39 rfl zc_M_111 rfl rfl (Nat.le_of_ble_eq_true rfl) dM_sealOutward_81 (fun r A' B' hE => ?_)
    obtain ⟨rfl, rfl, hA6, hX6⟩ := hE
    refine z_r0 ?_
    refine z_iconst (pc := 84) dM_sealOutward_84 zi_0 ?_
    refine z_istore_n (L' := [(3, _), (0, _), (1, _), (2, _)]) (pc := 85) dM_sealOutward_85 rfl (by decide) rfl ?_
    refine z_wd (z_map_0 A' 53 (fun j => A' 53 j ^^^ A' 48 j)).symm rfl ?_
    refine z_for 16 (fun i => [(3, .int (nI i)), (0, .ref (ad 39)), (1, .int (nI fr)), (2, .int (nI n))]) (fun i => z_map A' 53 i (fun j => A' 53 j ^^^ A' 48 j)) (fun i => B) (fun i hi ki => ?_) ?_
    · refine z_iload_n (pc := 86) dM_sealOutward_86 rfl rfl ?_
      refine z_bipush (pc := 87) dM_sealOutward_87 zb_16 ?_
      refine z_icmp_ge (pc := 89) (by omega) (by omega) (tgt := 117) dM_sealOutward_89 rfl (fun h => by exfalso; omega) (fun h => ?_)
      refine z_aload_n (pc := 92) dM_sealOutward_92 rfl rfl ?_
      refine z_getR (pc := 93) zo_39 rfl zf_M_49_6 dM_sealOutward_93 ?_
      refine z_iload_n (pc := 96) dM_sealOutward_96 rfl rfl ?_
      refine z_aload_n (pc := 97) dM_sealOutward_97 rfl rfl ?_
      refine z_getR (pc := 98) zo_39 rfl zf_M_49_6 dM_sealOutward_98 ?_
      refine z_iload_n (pc := 101) dM_sealOutward_101 rfl rfl ?_
      refine z_iaload (pc := 102) za_53 (by omega) dM_sealOutward_102 ?_
      refine z_aload_n (pc := 103) dM_sealOutward_103 rfl rfl ?_
      refine z_getR (pc := 104) zo_39 rfl zf_M_34_6 dM_sealOutward_104 ?_
      refine z_iload_n (pc := 107) dM_sealOutward_107 rfl rfl ?_
      refine z_iaload (pc := 108) za_48 (by omega) dM_sealOutward_108 ?_
      refine z_ixor (pc := 109) dM_sealOutward_109 ?_
      refine z_iastore (pc := 110) za_53 (by omega) dM_sealOutward_110 ?_
      refine z_iinc (L' := [(3, _), (0, _), (1, _), (2, _)]) (pc := 111) dM_sealOutward_111 rfl zi_1 (by decide) rfl ?_
      refine z_goto (pc := 114) (tgt := 86) dM_sealOutward_114 rfl ?_
      refine z_wd (z_map_set ?_) rfl ki
      rw [z_map_ge (Nat.le_refl _), z_map_ne (by decide)]
    · refine z_iload_n (pc := 86) dM_sealOutward_86 rfl rfl ?_
      refine z_bipush (pc := 87) dM_sealOutward_87 zb_16 ?_
      refine z_icmp_ge (pc := 89) (by omega) (by omega) (tgt := 117) dM_sealOutward_89 rfl (fun h => ?_) (fun h => by exfalso; omega)
      exact z_ret0 (pc := 117) dM_sealOutward_117 (hEx _ _ _ (⟨rfl, rfl, fun k hk => by rw [z_map_ne (z_nm hk (by decide)), hA6 k (z_nm hk (by decide)) (z_nm hk (by decide)) (z_nm hk (by decide)) (z_nm hk (by decide)), hA k (fun q => hk (by revert q; simp; omega))]; exact hf k (fun q => hk (by revert q; simp; omega)), fun j hj => by rw [z_map_lt hj, hA6 53 (by decide) (by decide) (by decide) (by decide), ht j hj, hS4 j hj, hX6 j hj, zE_cg k47 k48 j hj], fun j hj => by rw [z_map_ne (by decide), hA6 47 (by decide) (by decide) (by decide) (by decide)]; exact k47 j hj⟩))
theorem m_derive {i at0 : Nat} (hi : i < 256) (hat : at0 ≤ 24) (hb : z_box A 46) (hK : ∀ j, j < 16 → A 47 j < 256) (hN : ∀ j, j < 12 → A 40 (64 + j) < 256) : z_Met l g ad mM_derive (z_rm 4) [.ref (ad 39), .int (nI i), .int (nI at0)] A B (z_vd (fun A' B' => B = B' ∧ z_fr [40, 43, 44, 45, 48] A A' ∧ (∀ x, x < 256 + at0 ∨ 256 + at0 + 8 ≤ x → A' 40 x = A 40 x) ∧ ∀ j, j < 8 → A' 40 (256 + at0 + j) = zE (A 47) (zdv i (fun j => A 40 (64 + j))) j)) := by
  refine z_Met.of (L := [(0, _), (1, _), (2, _)]) (by decide) (Nat.le_of_ble_eq_true rfl) z_fit_vd rfl ?_
  intro Ex hEx
  refine z_iconst (pc := 0) dM_derive_0 zi_0 ?_
  refine z_istore_n (L' := [(3, _), (0, _), (1, _), (2, _)]) (pc := 1) dM_derive_1 rfl (by decide) rfl ?_
  refine z_wd (z_map_0 A 48 (zdv i (fun j => A 40 (64 + j)))).symm rfl ?_
  refine z_for 16 (fun k => [(3, .int (nI k)), (0, .ref (ad 39)), (1, .int (nI i)), (2, .int (nI at0))]) (fun k => z_map A 48 k (zdv i (fun j => A 40 (64 + j)))) (fun k => B) (fun k hk kk => ?_) ?_
  · refine z_iload_n (pc := 2) dM_derive_2 rfl rfl ?_
    refine z_bipush (pc := 3) dM_derive_3 zb_16 ?_
    refine z_icmp_ge (pc := 5) (by omega) (by omega) (tgt := 46) dM_derive_5 rfl (fun h => by exfalso; omega) (fun h => ?_)
    refine z_aload_n (pc := 8) dM_derive_8 rfl rfl ?_
    refine z_getR (pc := 9) zo_39 rfl zf_M_34_6 dM_derive_9 ?_
    refine z_iload_n (pc := 12) dM_derive_12 rfl rfl ?_
    refine z_iload_n (pc := 13) dM_derive_13 rfl rfl ?_
    refine z_if_ne (pc := 14) (by omega) (tgt := 21) dM_derive_14 rfl (fun h1 => ?_) (fun h1 => ?_)
    · refine z_iload_n (pc := 21) dM_derive_21 rfl rfl ?_
      refine z_iconst (pc := 22) dM_derive_22 zi_4 ?_
      refine z_icmp_ge (pc := 23) (by omega) (by omega) (tgt := 30) dM_derive_23 rfl (fun h2 => ?_) (fun h2 => ?_)
      · refine z_aload_n (pc := 30) dM_derive_30 rfl rfl ?_
        refine z_getR (pc := 31) zo_39 rfl zf_M_7_6 dM_derive_31 ?_
        refine z_bipush (pc := 34) dM_derive_34 zb_60 ?_
        refine z_iload_n (pc := 36) dM_derive_36 rfl rfl ?_
        refine z_iadd (pc := 37) dM_derive_37 ?_
        refine z_iaload (pc := 38) za_40 (by omega) dM_derive_38 ?_
        refine z_iastore (pc := 39) za_48 (by omega) dM_derive_39 ?_
        refine z_iinc (L' := [(3, _), (0, _), (1, _), (2, _)]) (pc := 40) dM_derive_40 rfl zi_1 (by decide) rfl ?_
        refine z_goto (pc := 43) (tgt := 2) dM_derive_43 rfl ?_
        refine z_wd (z_map_set ?_) rfl kk
        first | rw [zdv, if_pos (by omega)] | rw [zdv, if_neg (by omega), if_pos (by omega)] | (rw [zdv, if_neg (by omega), if_neg (by omega), z_map_ne (by decide), show 60 + k = 64 + (k - 4) by omega])
      · refine z_iconst (pc := 26) dM_derive_26 zi_0 ?_
        refine z_goto (pc := 27) (tgt := 39) dM_derive_27 rfl ?_
        refine z_iastore (pc := 39) za_48 (by omega) dM_derive_39 ?_
        refine z_iinc (L' := [(3, _), (0, _), (1, _), (2, _)]) (pc := 40) dM_derive_40 rfl zi_1 (by decide) rfl ?_
        refine z_goto (pc := 43) (tgt := 2) dM_derive_43 rfl ?_
        refine z_wd (z_map_set ?_) rfl kk
        first | rw [zdv, if_pos (by omega)] | rw [zdv, if_neg (by omega), if_pos (by omega)] | (rw [zdv, if_neg (by omega), if_neg (by omega), z_map_ne (by decide), show 60 + k = 64 + (k - 4) by omega])
    · refine z_iload_n (pc := 17) dM_derive_17 rfl rfl ?_
      refine z_goto (pc := 18) (tgt := 39) dM_derive_18 rfl ?_
      refine z_iastore (pc := 39) za_48 (by omega) dM_derive_39 ?_
      refine z_iinc (L' := [(3, _), (0, _), (1, _), (2, _)]) (pc := 40) dM_derive_40 rfl zi_1 (by decide) rfl ?_
      refine z_goto (pc := 43) (tgt := 2) dM_derive_43 rfl ?_
      refine z_wd (z_map_set ?_) rfl kk
      first | rw [zdv, if_pos (by omega)] | rw [zdv, if_neg (by omega), if_pos (by omega)] | (rw [zdv, if_neg (by omega), if_neg (by omega), z_map_ne (by decide), show 60 + k = 64 + (k - 4) by omega])
  · refine z_iload_n (pc := 2) dM_derive_2 rfl rfl ?_
    refine z_bipush (pc := 3) dM_derive_3 zb_16 ?_
    refine z_icmp_ge (pc := 5) (by omega) (by omega) (tgt := 46) dM_derive_5 rfl (fun h => ?_) (fun h => by exfalso; omega)
    refine z_aload_n (pc := 46) dM_derive_46 rfl rfl ?_
    have hV : ∀ j, j < 16 → z_map A 48 16 (zdv i (fun j => A 40 (64 + j))) 48 j < 256 := fun j hj => by
      rw [z_map_lt hj]
      unfold zdv
      split
      · exact hi
      · split
        · decide
        · exact hN _ (by omega)
    refine z_callV (pc := 47) (m_encipher (fun j hj => by rw [z_map_ne (by decide)]; exact hb j hj) (fun j hj => by rw [z_map_ne (by decide)]; exact hK j hj) hV) (by decide) zo_39 rfl zc_M_111 rfl rfl (Nat.le_of_ble_eq_true rfl) dM_derive_47 (fun r A' B' hE => ?_)
    obtain ⟨rfl, rfl, hA1, hX1⟩ := hE
    refine z_r0 ?_
    refine z_iconst (pc := 50) dM_derive_50 zi_0 ?_
    refine z_istore_n (L' := [(3, _), (0, _), (1, _), (2, _)]) (pc := 51) dM_derive_51 rfl (by decide) rfl ?_
    refine z_wd (z_seg_0 A' 40 (256 + at0) (fun x => A' 48 (x - 256 - at0))).symm rfl ?_
    refine z_for 8 (fun j => [(3, .int (nI j)), (0, .ref (ad 39)), (1, .int (nI i)), (2, .int (nI at0))]) (fun j => z_seg A' 40 (256 + at0) j (fun x => A' 48 (x - 256 - at0))) (fun j => B) (fun j hj kj => ?_) ?_
    · refine z_iload_n (pc := 52) dM_derive_52 rfl rfl ?_
      refine z_bipush (pc := 53) dM_derive_53 zb_8 ?_
      refine z_icmp_ge (pc := 55) (by omega) (by omega) (tgt := 82) dM_derive_55 rfl (fun h => by exfalso; omega) (fun h => ?_)
      refine z_aload_n (pc := 58) dM_derive_58 rfl rfl ?_
      refine z_getR (pc := 59) zo_39 rfl zf_M_7_6 dM_derive_59 ?_
      refine z_sipush (pc := 62) dM_derive_62 zs_256 ?_
      refine z_iload_n (pc := 65) dM_derive_65 rfl rfl ?_
      refine z_iadd (pc := 66) dM_derive_66 ?_
      refine z_iload_n (pc := 67) dM_derive_67 rfl rfl ?_
      refine z_iadd (pc := 68) dM_derive_68 ?_
      refine z_aload_n (pc := 69) dM_derive_69 rfl rfl ?_
      refine z_getR (pc := 70) zo_39 rfl zf_M_34_6 dM_derive_70 ?_
      refine z_iload_n (pc := 73) dM_derive_73 rfl rfl ?_
      refine z_iaload (pc := 74) za_48 (by omega) dM_derive_74 ?_
      refine z_iastore (pc := 75) za_40 (by omega) dM_derive_75 ?_
      refine z_iinc (L' := [(3, _), (0, _), (1, _), (2, _)]) (pc := 76) dM_derive_76 rfl zi_1 (by decide) rfl ?_
      refine z_goto (pc := 79) (tgt := 52) dM_derive_79 rfl ?_
      refine z_wd (z_seg_set ?_) rfl kj
      rw [z_seg_ne (by decide), show 256 + at0 + j - 256 - at0 = j by omega]
    · refine z_iload_n (pc := 52) dM_derive_52 rfl rfl ?_
      refine z_bipush (pc := 53) dM_derive_53 zb_8 ?_
      refine z_icmp_ge (pc := 55) (by omega) (by omega) (tgt := 82) dM_derive_55 rfl (fun h => ?_) (fun h => by exfalso; omega)
      exact z_ret0 (pc := 82) dM_derive_82 (hEx _ _ _ (⟨rfl, rfl, fun k hk => by rw [z_seg_ne (z_nm hk (by decide)), hA1 k (z_nm hk (by decide)) (z_nm hk (by decide)) (z_nm hk (by decide)) (z_nm hk (by decide)), z_map_ne (z_nm hk (by decide))], fun x hx => by rw [z_seg_out (by omega), hA1 40 (by decide) (by decide) (by decide) (by decide), z_map_ne (by decide)], fun j hj => by rw [z_seg_in (by omega) (by omega), show 256 + at0 + j - 256 - at0 = j by omega, hX1 j (by omega)]; exact zE_cg (fun j' _ => by rw [z_map_ne (by decide)]) (fun j' h' => z_map_lt h') j (by omega)⟩))
theorem m_deriveKeys  (hb : z_box A 46) (hK : ∀ j, j < 16 → A 40 j < 256) (hN : ∀ j, j < 12 → A 40 (64 + j) < 256) : z_Met l g ad mM_deriveKeys (z_rm 5) [.ref (ad 39)] A B (z_vd (fun A' B' => B = B' ∧ z_fr [40, 43, 44, 45, 47, 48, 52] A A' ∧ (∀ x, x < 256 → A' 40 x = A 40 x) ∧ (∀ j, j < 16 → A' 52 j = zdk (A 40) (fun j => A 40 (64 + j)) 0 j) ∧ ∀ j, j < 16 → A' 47 j = zdk (A 40) (fun j => A 40 (64 + j)) 2 j)) := by
  refine z_Met.of (L := [(0, _)]) (by decide) (Nat.le_of_ble_eq_true rfl) z_fit_vd rfl ?_
  intro Ex hEx
  refine z_aload_n (pc := 0) dM_deriveKeys_0 rfl rfl ?_
  refine z_callV (pc := 1) (m_useKey) (by decide) zo_39 rfl zc_M_108 rfl rfl (Nat.le_of_ble_eq_true rfl) dM_deriveKeys_1 (fun r A' B' hE => ?_)
  obtain ⟨rfl, rfl, rfl⟩ := hE
  refine z_r0 ?_
  refine z_iconst (pc := 4) dM_deriveKeys_4 zi_0 ?_
  refine z_istore_n (L' := [(1, _), (0, _)]) (pc := 5) dM_deriveKeys_5 rfl (by decide) rfl ?_
  refine z_loop 4 (fun i L A' B' => L = [(1, .int (nI i)), (0, .ref (ad 39))] ∧ B = B' ∧ z_fr [40, 43, 44, 45, 47, 48] A A' ∧ (∀ j, j < 16 → A' 47 j = A 40 j) ∧ (∀ x, x < 256 → A' 40 x = A 40 x) ∧ ∀ j, j < 8 * i → A' 40 (256 + j) = zE (A 40) (zdv (j / 8) (fun j => A 40 (64 + j))) (j % 8)) ?_ ?_ _ _ _ ⟨rfl, rfl, fun k hk => z_map_ne (z_nm hk (by decide)), fun j hj => z_map_lt hj, fun x hx => by rw [z_map_ne (by decide)], fun j hj => by omega⟩
  · rintro i L A1 B1 hi ⟨rfl, rfl, hA, h47, hlo, hD⟩ ki
    refine z_iload_n (pc := 6) dM_deriveKeys_6 rfl rfl ?_
    refine z_iconst (pc := 7) dM_deriveKeys_7 zi_4 ?_
    refine z_icmp_ge (pc := 8) (by omega) (by omega) (tgt := 26) dM_deriveKeys_8 rfl (fun h => by exfalso; omega) (fun h => ?_)
    refine z_aload_n (pc := 11) dM_deriveKeys_11 rfl rfl ?_
    refine z_iload_n (pc := 12) dM_deriveKeys_12 rfl rfl ?_
    refine z_bipush (pc := 13) dM_deriveKeys_13 zb_8 ?_
    refine z_iload_n (pc := 15) dM_deriveKeys_15 rfl rfl ?_
    refine z_imul (pc := 16) dM_deriveKeys_16 ?_
    refine z_callV (pc := 17) (m_derive (i := i) (at0 := 8 * i) (by omega) (by omega) (fun j hj => by rw [hA 46 (by decide)]; exact hb j hj) (fun j hj => by rw [h47 j hj]; exact hK j hj) (fun j hj => by rw [hlo _ (by omega)]; exact hN j hj)) (by decide) zo_39 rfl zc_M_137 rfl rfl (Nat.le_of_ble_eq_true rfl) dM_deriveKeys_17 (fun r A' B' hE => ?_)
    obtain ⟨rfl, rfl, hA2, hx2, hd2⟩ := hE
    refine z_r0 ?_
    refine z_iinc (L' := [(1, _), (0, _)]) (pc := 20) dM_deriveKeys_20 rfl zi_1 (by decide) rfl ?_
    refine z_goto (pc := 23) (tgt := 6) dM_deriveKeys_23 rfl ?_
    refine ki _ _ _ ⟨rfl, rfl, fun k hk => (hA2 k (fun q => hk (by revert q; simp; omega))).trans (hA k hk), fun j hj => by rw [hA2 47 (by decide)]; exact h47 j hj, fun x hx => by rw [hx2 x (by omega)]; exact hlo x hx, fun j hj => ?_⟩
    by_cases h : j < 8 * i
    · rw [hx2 _ (by omega)]; exact hD j h
    · have e := hd2 (j - 8 * i) (by omega)
      rw [show 256 + 8 * i + (j - 8 * i) = 256 + j by omega] at e
      rw [e, show j / 8 = i by omega, show j % 8 = j - 8 * i by omega]
      exact zE_cg h47 (fun j' h' => by unfold zdv; split; rfl; split; rfl; exact hlo _ (by omega)) _ (by omega)
  · rintro L A1 B1 ⟨rfl, rfl, hA, h47, hlo, hD⟩
    refine z_iload_n (pc := 6) dM_deriveKeys_6 rfl rfl ?_
    refine z_iconst (pc := 7) dM_deriveKeys_7 zi_4 ?_
    refine z_icmp_ge (pc := 8) (by omega) (by omega) (tgt := 26) dM_deriveKeys_8 rfl (fun h => ?_) (fun h => by exfalso; omega)
    refine z_iconst (pc := 26) dM_deriveKeys_26 zi_0 ?_
    refine z_istore_n (L' := [(1, _), (0, _)]) (pc := 27) dM_deriveKeys_27 rfl (by decide) rfl ?_
    refine z_loop 16 (fun i L A' B' => L = [(1, .int (nI i)), (0, .ref (ad 39))] ∧ B = B' ∧ z_fr [47, 52] A1 A' ∧ (∀ j, j < i → A' 52 j = A1 40 (256 + j)) ∧ ∀ j, j < i → A' 47 j = A1 40 (272 + j)) ?_ ?_ _ _ _ ⟨rfl, rfl, fun _ _ => rfl, fun j hj => absurd hj (Nat.not_lt_zero _), fun j hj => absurd hj (Nat.not_lt_zero _)⟩
    · rintro i L A2 B2 hi ⟨rfl, rfl, hA2, h1, h2⟩ ki
      refine z_iload_n (pc := 28) dM_deriveKeys_28 rfl rfl ?_
      refine z_bipush (pc := 29) dM_deriveKeys_29 zb_16 ?_
      refine z_icmp_ge (pc := 31) (by omega) (by omega) (tgt := 72) dM_deriveKeys_31 rfl (fun h => by exfalso; omega) (fun h => ?_)
      refine z_aload_n (pc := 34) dM_deriveKeys_34 rfl rfl ?_
      refine z_getR (pc := 35) zo_39 rfl zf_M_46_6 dM_deriveKeys_35 ?_
      refine z_iload_n (pc := 38) dM_deriveKeys_38 rfl rfl ?_
      refine z_aload_n (pc := 39) dM_deriveKeys_39 rfl rfl ?_
      refine z_getR (pc := 40) zo_39 rfl zf_M_7_6 dM_deriveKeys_40 ?_
      refine z_sipush (pc := 43) dM_deriveKeys_43 zs_256 ?_
      refine z_iload_n (pc := 46) dM_deriveKeys_46 rfl rfl ?_
      refine z_iadd (pc := 47) dM_deriveKeys_47 ?_
      refine z_iaload (pc := 48) za_40 (by omega) dM_deriveKeys_48 ?_
      refine z_iastore (pc := 49) za_52 (by omega) dM_deriveKeys_49 ?_
      refine z_aload_n (pc := 50) dM_deriveKeys_50 rfl rfl ?_
      refine z_getR (pc := 51) zo_39 rfl zf_M_31_6 dM_deriveKeys_51 ?_
      refine z_iload_n (pc := 54) dM_deriveKeys_54 rfl rfl ?_
      refine z_aload_n (pc := 55) dM_deriveKeys_55 rfl rfl ?_
      refine z_getR (pc := 56) zo_39 rfl zf_M_7_6 dM_deriveKeys_56 ?_
      refine z_sipush (pc := 59) dM_deriveKeys_59 zs_272 ?_
      refine z_iload_n (pc := 62) dM_deriveKeys_62 rfl rfl ?_
      refine z_iadd (pc := 63) dM_deriveKeys_63 ?_
      refine z_iaload (pc := 64) za_40 (by omega) dM_deriveKeys_64 ?_
      refine z_iastore (pc := 65) za_47 (by omega) dM_deriveKeys_65 ?_
      refine z_iinc (L' := [(1, _), (0, _)]) (pc := 66) dM_deriveKeys_66 rfl zi_1 (by decide) rfl ?_
      refine z_goto (pc := 69) (tgt := 28) dM_deriveKeys_69 rfl ?_
      refine ki _ _ _ ⟨rfl, rfl, fun k hk => by rw [z_set_ne (z_nm hk (by decide)), z_set_ne (z_nm hk (by decide)), hA2 k hk], fun j hj => ?_, fun j hj => ?_⟩
      · rw [z_set_ne (by decide)]
        by_cases e : j = i
        · rw [e, z_set_at, hA2 40 (by decide)]
        · rw [z_set_nj e]; exact h1 j (by omega)
      · by_cases e : j = i
        · rw [e, z_set_at, z_set_ne (by decide), hA2 40 (by decide)]
        · rw [z_set_nj e, z_set_ne (by decide)]; exact h2 j (by omega)
    · rintro L A2 B2 ⟨rfl, rfl, hA2, h1, h2⟩
      refine z_iload_n (pc := 28) dM_deriveKeys_28 rfl rfl ?_
      refine z_bipush (pc := 29) dM_deriveKeys_29 zb_16 ?_
      refine z_icmp_ge (pc := 31) (by omega) (by omega) (tgt := 72) dM_deriveKeys_31 rfl (fun h => ?_) (fun h => by exfalso; omega)
      refine z_ret0 (pc := 72) dM_deriveKeys_72 (hEx _ _ _ (⟨rfl, rfl, fun k hk => (hA2 k (fun q => hk (by revert q; simp; omega))).trans (hA k (fun q => hk (by revert q; simp; omega))), fun x hx => by rw [hA2 40 (by decide)]; exact hlo x hx, fun j hj => ?_, fun j hj => ?_⟩))
      · rw [h1 j hj, hD j (by omega), zdk]
        by_cases h8 : j < 8
        · rw [if_pos h8, show j / 8 = 0 by omega, show j % 8 = j by omega]
        · rw [if_neg h8, show j / 8 = 0 + 1 by omega, show j % 8 = j - 8 by omega]
      · rw [h2 j hj, show 272 + j = 256 + (16 + j) by omega, hD (16 + j) (by omega), zdk]
        by_cases h8 : j < 8
        · rw [if_pos h8, show (16 + j) / 8 = 2 by omega, show (16 + j) % 8 = j by omega]
        · rw [if_neg h8, show (16 + j) / 8 = 2 + 1 by omega, show (16 + j) % 8 = j - 8 by omega]
theorem m_sealInward {fr n : Nat} (hK : ∀ j, j < 16 → A 47 j < 256) (hJ : ∀ j, j < 16 → A 52 j < 256) (hN : ∀ j, j < 12 → A 40 (64 + j) < 256) (hb : z_box A 46) (hal : A 41 2 ≤ 32) (hY : ∀ j, j < A 41 2 → A 40 (128 + j) < 256) (hn : fr + n ≤ 320) (hn2 : n ≤ 64) (hX : ∀ j, j < n → A 40 (fr + j) < 256) : z_Met l g ad mM_sealInward (z_rm 5) [.ref (ad 39), .int (nI fr), .int (nI n)] A B (z_vd (fun A' B' => B = B' ∧ z_fr [43, 44, 45, 48, 49, 50, 51, 53] A A' ∧ ∀ j, j < 16 → A' 53 j = zE (A 47) (zdu (zhsh 1 (zHw 1 (A 52)) (fun j => A 40 (128 + j)) (A 41 2) (fun j => A 40 (fr + j)) n) (fun j => A 40 (64 + j))) j)) := by
  refine z_Met.of (L := [(0, _), (1, _), (2, _)]) (by decide) (Nat.le_of_ble_eq_true rfl) z_fit_vd rfl ?_
  intro Ex hEx
  refine z_iconst (pc := 0) dM_sealInward_0 zi_0 ?_
  refine z_istore_n (L' := [(3, _), (0, _), (1, _), (2, _)]) (pc := 1) dM_sealInward_1 rfl (by decide) rfl ?_
  refine z_wd (z_map_0 A 48 (A 52)).symm rfl ?_
  refine z_for 16 (fun i => [(3, .int (nI i)), (0, .ref (ad 39)), (1, .int (nI fr)), (2, .int (nI n))]) (fun i => z_map A 48 i (A 52)) (fun i => B) (fun i hi ki => ?_) ?_
  · refine z_iload_n (pc := 2) dM_sealInward_2 rfl rfl ?_
    refine z_bipush (pc := 3) dM_sealInward_3 zb_16 ?_
    refine z_icmp_ge (pc := 5) (by omega) (by omega) (tgt := 26) dM_sealInward_5 rfl (fun h => by exfalso; omega) (fun h => ?_)
    refine z_aload_n (pc := 8) dM_sealInward_8 rfl rfl ?_
    refine z_getR (pc := 9) zo_39 rfl zf_M_34_6 dM_sealInward_9 ?_
    refine z_iload_n (pc := 12) dM_sealInward_12 rfl rfl ?_
    refine z_aload_n (pc := 13) dM_sealInward_13 rfl rfl ?_
    refine z_getR (pc := 14) zo_39 rfl zf_M_46_6 dM_sealInward_14 ?_
    refine z_iload_n (pc := 17) dM_sealInward_17 rfl rfl ?_
    refine z_iaload (pc := 18) za_52 (by omega) dM_sealInward_18 ?_
    refine z_iastore (pc := 19) za_48 (by omega) dM_sealInward_19 ?_
    refine z_iinc (L' := [(3, _), (0, _), (1, _), (2, _)]) (pc := 20) dM_sealInward_20 rfl zi_1 (by decide) rfl ?_
    refine z_goto (pc := 23) (tgt := 2) dM_sealInward_23 rfl ?_
    refine z_wd (z_map_set ?_) rfl ki
    rw [z_map_ne (by decide)]
  · refine z_iload_n (pc := 2) dM_sealInward_2 rfl rfl ?_
    refine z_bipush (pc := 3) dM_sealInward_3 zb_16 ?_
    refine z_icmp_ge (pc := 5) (by omega) (by omega) (tgt := 26) dM_sealInward_5 rfl (fun h => ?_) (fun h => by exfalso; omega)
    refine z_aload_n (pc := 26) dM_sealInward_26 rfl rfl ?_
    refine z_iconst (pc := 27) dM_sealInward_27 zi_1 ?_
    refine z_callV (pc := 28) (m_beginHash (w := 1) (by omega) (fun j hj => by rw [z_map_lt hj]; exact hJ j hj)) (by decide) zo_39 rfl zc_M_117 rfl rfl (Nat.le_of_ble_eq_true rfl) dM_sealInward_28 (fun r A' B' hE => ?_)
    obtain ⟨rfl, rfl, hA0, hs0, hh0⟩ := hE
    replace hh0 : zbr (A' 50) 128 (zHw 1 (A 52)) := by rw [← zHw_cg (w := 1) (hk := z_map A 48 16 (A 52) 48) (fun j hj => z_map_lt hj)]; exact hh0
    have e40 : A' 40 = A 40 := by rw [hA0 40 (by decide) (by decide) (by decide), z_map_ne (by decide)]
    have e41 : A' 41 = A 41 := by rw [hA0 41 (by decide) (by decide) (by decide), z_map_ne (by decide)]
    refine z_r0 ?_
    refine z_aload_n (pc := 31) dM_sealInward_31 rfl rfl ?_
    refine z_iconst (pc := 32) dM_sealInward_32 zi_1 ?_
    refine z_sipush (pc := 33) dM_sealInward_33 zs_128 ?_
    refine z_aload_n (pc := 36) dM_sealInward_36 rfl rfl ?_
    refine z_getR (pc := 37) zo_39 rfl zf_M_13_6 dM_sealInward_37 ?_
    refine z_iconst (pc := 40) dM_sealInward_40 zi_2 ?_
    refine z_iaload (pc := 41) za_41 (by omega) dM_sealInward_41 ?_
    refine z_callV (pc := 42) (m_feedRow (w := 1) (by omega) hs0 ⟨hh0, zHw_lt _ _⟩ (by rw [e41]; omega) (fun j hj => by rw [e41] at hj; rw [e40]; exact hY j hj)) (by decide) zo_39 rfl zc_M_120 rfl rfl (Nat.le_of_ble_eq_true rfl) dM_sealInward_42 (fun r A' B' hE => ?_)
    obtain ⟨rfl, rfl, hA1, hs1⟩ := hE
    rw [e40, e41] at hs1
    replace e40 : A' 40 = A 40 := (hA1 40 (by decide) (by decide) (by decide)).trans e40
    replace e41 : A' 41 = A 41 := (hA1 41 (by decide) (by decide) (by decide)).trans e41
    replace hh0 : zbr (A' 50) 128 (zHw 1 (A 52)) := by rw [hA1 50 (by decide) (by decide) (by decide)]; exact hh0
    refine z_r0 ?_
    refine z_aload_n (pc := 45) dM_sealInward_45 rfl rfl ?_
    refine z_iconst (pc := 46) dM_sealInward_46 zi_1 ?_
    refine z_iload_n (pc := 47) dM_sealInward_47 rfl rfl ?_
    refine z_iload_n (pc := 48) dM_sealInward_48 rfl rfl ?_
    refine z_callV (pc := 49) (m_feedRow (w := 1) (fr := fr) (by omega) hs1 ⟨hh0, zHw_lt _ _⟩ hn (fun j hj => by rw [e40]; exact hX j hj)) (by decide) zo_39 rfl zc_M_120 rfl rfl (Nat.le_of_ble_eq_true rfl) dM_sealInward_49 (fun r A' B' hE => ?_)
    obtain ⟨rfl, rfl, hA2, hs2⟩ := hE
    rw [e40] at hs2
    replace e40 : A' 40 = A 40 := (hA2 40 (by decide) (by decide) (by decide)).trans e40
    replace e41 : A' 41 = A 41 := (hA2 41 (by decide) (by decide) (by decide)).trans e41
    replace hh0 : zbr (A' 50) 128 (zHw 1 (A 52)) := by rw [hA2 50 (by decide) (by decide) (by decide)]; exact hh0
    refine z_r0 ?_
    refine z_aload_n (pc := 52) dM_sealInward_52 rfl rfl ?_
    refine z_iconst (pc := 53) dM_sealInward_53 zi_1 ?_
    refine z_aload_n (pc := 54) dM_sealInward_54 rfl rfl ?_
    refine z_getR (pc := 55) zo_39 rfl zf_M_13_6 dM_sealInward_55 ?_
    refine z_iconst (pc := 58) dM_sealInward_58 zi_2 ?_
    refine z_iaload (pc := 59) za_41 (by omega) dM_sealInward_59 ?_
    refine z_iload_n (pc := 60) dM_sealInward_60 rfl rfl ?_
    refine z_callV (pc := 61) (m_feedLengths1 hs2 ⟨hh0, zHw_lt _ _⟩ (by rw [e41]; omega) (by omega)) (by decide) zo_39 rfl zc_M_130 rfl rfl (Nat.le_of_ble_eq_true rfl) dM_sealInward_61 (fun r A' B' hE => ?_)
    obtain ⟨rfl, rfl, hA3, hs3⟩ := hE
    rw [e41] at hs3
    replace e40 : A' 40 = A 40 := (hA3 40 (by decide) (by decide) (by decide)).trans e40
    refine z_r0 ?_
    refine z_aload_n (pc := 64) dM_sealInward_64 rfl rfl ?_
    refine z_iconst (pc := 65) dM_sealInward_65 zi_1 ?_
    refine z_callV (pc := 66) (m_endHash (w := 1) (by omega) hs3) (by decide) zo_39 rfl zc_M_124 rfl rfl (Nat.le_of_ble_eq_true rfl) dM_sealInward_66 (fun r A' B' hE => ?_)
    obtain ⟨rfl, rfl, hA4, hX4⟩ := hE
    replace e40 : A' 40 = A 40 := (hA4 40 (by decide)).trans e40
    refine z_r0 ?_
    refine z_iconst (pc := 69) dM_sealInward_69 zi_0 ?_
    refine z_istore_n (L' := [(3, _), (0, _), (1, _), (2, _)]) (pc := 70) dM_sealInward_70 rfl (by decide) rfl ?_
    have hf : z_fr [48, 49, 50, 51] A A' := fun k hk => ((hA4 k (z_nm hk (by decide))).trans ((hA3 k (z_nm hk (by decide)) (z_nm hk (by decide)) (z_nm hk (by decide))).trans ((hA2 k (z_nm hk (by decide)) (z_nm hk (by decide)) (z_nm hk (by decide))).trans (hA1 k (z_nm hk (by decide)) (z_nm hk (by decide)) (z_nm hk (by decide)))))).trans ((hA0 k (z_nm hk (by decide)) (z_nm hk (by decide)) (z_nm hk (by decide))).trans (z_map_ne (z_nm hk (by decide))))
    replace hX4 : ∀ j, j < 16 → A' 48 j = zby (zmw 1) (zhsh 1 (zHw 1 (A 52)) (fun j => A 40 (128 + j)) (A 41 2) (fun j => A 40 (fr + j)) n) j := hX4
    refine z_wd (z_map_0 A' 48 (fun j => A' 48 j ^^^ A' 40 (64 + j))).symm rfl ?_
    refine z_for 12 (fun i => [(3, .int (nI i)), (0, .ref (ad 39)), (1, .int (nI fr)), (2, .int (nI n))]) (fun i => z_map A' 48 i (fun j => A' 48 j ^^^ A' 40 (64 + j))) (fun i => B) (fun i hi ki => ?_) ?_
    · refine z_iload_n (pc := 71) dM_sealInward_71 rfl rfl ?_
      refine z_bipush (pc := 72) dM_sealInward_72 zb_12 ?_
      refine z_icmp_ge (pc := 74) (by omega) (by omega) (tgt := 105) dM_sealInward_74 rfl (fun h => by exfalso; omega) (fun h => ?_)
      refine z_aload_n (pc := 77) dM_sealInward_77 rfl rfl ?_
      refine z_getR (pc := 78) zo_39 rfl zf_M_34_6 dM_sealInward_78 ?_
      refine z_iload_n (pc := 81) dM_sealInward_81 rfl rfl ?_
      refine z_aload_n (pc := 82) dM_sealInward_82 rfl rfl ?_
      refine z_getR (pc := 83) zo_39 rfl zf_M_34_6 dM_sealInward_83 ?_
      refine z_iload_n (pc := 86) dM_sealInward_86 rfl rfl ?_
      refine z_iaload (pc := 87) za_48 (by omega) dM_sealInward_87 ?_
      refine z_aload_n (pc := 88) dM_sealInward_88 rfl rfl ?_
      refine z_getR (pc := 89) zo_39 rfl zf_M_7_6 dM_sealInward_89 ?_
      refine z_bipush (pc := 92) dM_sealInward_92 zb_64 ?_
      refine z_iload_n (pc := 94) dM_sealInward_94 rfl rfl ?_
      refine z_iadd (pc := 95) dM_sealInward_95 ?_
      refine z_iaload (pc := 96) za_40 (by omega) dM_sealInward_96 ?_
      refine z_ixor (pc := 97) dM_sealInward_97 ?_
      refine z_iastore (pc := 98) za_48 (by omega) dM_sealInward_98 ?_
      refine z_iinc (L' := [(3, _), (0, _), (1, _), (2, _)]) (pc := 99) dM_sealInward_99 rfl zi_1 (by decide) rfl ?_
      refine z_goto (pc := 102) (tgt := 71) dM_sealInward_102 rfl ?_
      refine z_wd (z_map_set ?_) rfl ki
      rw [z_map_ge (Nat.le_refl _), z_map_ne (by decide)]
    · refine z_iload_n (pc := 71) dM_sealInward_71 rfl rfl ?_
      refine z_bipush (pc := 72) dM_sealInward_72 zb_12 ?_
      refine z_icmp_ge (pc := 74) (by omega) (by omega) (tgt := 105) dM_sealInward_74 rfl (fun h => ?_) (fun h => by exfalso; omega)
      refine z_aload_n (pc := 105) dM_sealInward_105 rfl rfl ?_
      refine z_getR (pc := 106) zo_39 rfl zf_M_34_6 dM_sealInward_106 ?_
      refine z_bipush (pc := 109) dM_sealInward_109 zb_15 ?_
      refine z_aload_n (pc := 111) dM_sealInward_111 rfl rfl ?_
      refine z_getR (pc := 112) zo_39 rfl zf_M_34_6 dM_sealInward_112 ?_
      refine z_bipush (pc := 115) dM_sealInward_115 zb_15 ?_
      refine z_iaload (pc := 117) za_48 (by omega) dM_sealInward_117 ?_
      refine z_bipush (pc := 118) dM_sealInward_118 zb_127 ?_
      refine z_iand (pc := 120) dM_sealInward_120 ?_
      refine z_iastore (pc := 121) za_48 (by omega) dM_sealInward_121 ?_
      refine z_aload_n (pc := 122) dM_sealInward_122 rfl rfl ?_
      have hV : ∀ j, j < 16 → (z_set (z_map A' 48 12 (fun j => A' 48 j ^^^ A' 40 (64 + j))) 48 15 ((z_map A' 48 12 (fun j => A' 48 j ^^^ A' 40 (64 + j))) 48 15 &&& 127)) 48 j = zdu (zhsh 1 (zHw 1 (A 52)) (fun j => A 40 (128 + j)) (A 41 2) (fun j => A 40 (fr + j)) n) (fun j => A 40 (64 + j)) j := by
        intro j hj
        unfold zdu
        by_cases h : j < 12
        · rw [if_pos h, z_set_nj (by omega), z_map_lt h, hX4 j hj, e40]
        · rw [if_neg h]
          by_cases h2 : j = 15
          · rw [h2, if_pos rfl, z_set_at, z_map_ge (by decide), hX4 15 (by decide)]
          · rw [if_neg h2, z_set_nj h2, z_map_ge (by omega), hX4 j hj]
      have hVb : ∀ j, j < 16 → zdu (zhsh 1 (zHw 1 (A 52)) (fun j => A 40 (128 + j)) (A 41 2) (fun j => A 40 (fr + j)) n) (fun j => A 40 (64 + j)) j < 256 := by
        intro j hj
        unfold zdu
        split
        · exact z_xor8 (zby_lt _ _ _) (hN j (by omega))
        · split
          · exact z_and8 (by decide)
          · exact zby_lt _ _ _
      refine z_callV (pc := 123) (m_encipher (fun j hj => by rw [z_set_ne (by decide), z_map_ne (by decide), hf 46 (by decide)]; exact hb j hj) (fun j hj => by rw [z_set_ne (by decide), z_map_ne (by decide), hf 47 (by decide)]; exact hK j hj) (fun j hj => by rw [hV j hj]; exact hVb j hj)) (by decide) zo_39 rfl zc_M_111 rfl rfl (Nat.le_of_ble_eq_true rfl) dM_sealInward_123 (fun r A' B' hE => ?_)
      obtain ⟨rfl, rfl, hA6, hX6⟩ := hE
      refine z_r0 ?_
      refine z_iconst (pc := 126) dM_sealInward_126 zi_0 ?_
      refine z_istore_n (L' := [(3, _), (0, _), (1, _), (2, _)]) (pc := 127) dM_sealInward_127 rfl (by decide) rfl ?_
      refine z_wd (z_map_0 A' 53 (A' 48)).symm rfl ?_
      refine z_for 16 (fun i => [(3, .int (nI i)), (0, .ref (ad 39)), (1, .int (nI fr)), (2, .int (nI n))]) (fun i => z_map A' 53 i (A' 48)) (fun i => B) (fun i hi ki => ?_) ?_
      · refine z_iload_n (pc := 128) dM_sealInward_128 rfl rfl ?_
        refine z_bipush (pc := 129) dM_sealInward_129 zb_16 ?_
        refine z_icmp_ge (pc := 131) (by omega) (by omega) (tgt := 152) dM_sealInward_131 rfl (fun h => by exfalso; omega) (fun h => ?_)
        refine z_aload_n (pc := 134) dM_sealInward_134 rfl rfl ?_
        refine z_getR (pc := 135) zo_39 rfl zf_M_49_6 dM_sealInward_135 ?_
        refine z_iload_n (pc := 138) dM_sealInward_138 rfl rfl ?_
        refine z_aload_n (pc := 139) dM_sealInward_139 rfl rfl ?_
        refine z_getR (pc := 140) zo_39 rfl zf_M_34_6 dM_sealInward_140 ?_
        refine z_iload_n (pc := 143) dM_sealInward_143 rfl rfl ?_
        refine z_iaload (pc := 144) za_48 (by omega) dM_sealInward_144 ?_
        refine z_iastore (pc := 145) za_53 (by omega) dM_sealInward_145 ?_
        refine z_iinc (L' := [(3, _), (0, _), (1, _), (2, _)]) (pc := 146) dM_sealInward_146 rfl zi_1 (by decide) rfl ?_
        refine z_goto (pc := 149) (tgt := 128) dM_sealInward_149 rfl ?_
        refine z_wd (z_map_set ?_) rfl ki
        rw [z_map_ne (by decide)]
      · refine z_iload_n (pc := 128) dM_sealInward_128 rfl rfl ?_
        refine z_bipush (pc := 129) dM_sealInward_129 zb_16 ?_
        refine z_icmp_ge (pc := 131) (by omega) (by omega) (tgt := 152) dM_sealInward_131 rfl (fun h => ?_) (fun h => by exfalso; omega)
        exact z_ret0 (pc := 152) dM_sealInward_152 (hEx _ _ _ (⟨rfl, rfl, fun k hk => by rw [z_map_ne (z_nm hk (by decide)), hA6 k (z_nm hk (by decide)) (z_nm hk (by decide)) (z_nm hk (by decide)) (z_nm hk (by decide)), z_set_ne (z_nm hk (by decide)), z_map_ne (z_nm hk (by decide))]; exact hf k (fun q => hk (by revert q; simp; omega)), fun j hj => by rw [z_map_lt hj, hX6 j hj]; exact zE_cg (fun j' _ => by rw [z_set_ne (by decide), z_map_ne (by decide), hf 47 (by decide)]) hV j hj⟩))
theorem m_startAtTag   : z_Met l g ad mM_startAtTag (z_rm 0) [.ref (ad 39)] A B (z_eq none (z_map A 52 16 (z128 (A 53))) B) := by
  refine z_Met.of (L := [(0, _)]) (by decide) (Nat.le_of_ble_eq_true rfl) (z_fit_eq rfl) rfl ?_
  intro Ex hEx
  refine z_iconst (pc := 0) dM_startAtTag_0 zi_0 ?_
  refine z_istore_n (L' := [(1, _), (0, _)]) (pc := 1) dM_startAtTag_1 rfl (by decide) rfl ?_
  refine z_wd (z_map_0 A 52 (z128 (A 53))).symm rfl ?_
  refine z_for 16 (fun i => [(1, .int (nI i)), (0, .ref (ad 39))]) (fun i => z_map A 52 i (z128 (A 53))) (fun i => B) (fun i hi ki => ?_) ?_
  · refine z_iload_n (pc := 2) dM_startAtTag_2 rfl rfl ?_
    refine z_bipush (pc := 3) dM_startAtTag_3 zb_16 ?_
    refine z_icmp_ge (pc := 5) (by omega) (by omega) (tgt := 45) dM_startAtTag_5 rfl (fun h => by exfalso; omega) (fun h => ?_)
    refine z_aload_n (pc := 8) dM_startAtTag_8 rfl rfl ?_
    refine z_getR (pc := 9) zo_39 rfl zf_M_46_6 dM_startAtTag_9 ?_
    refine z_iload_n (pc := 12) dM_startAtTag_12 rfl rfl ?_
    refine z_iload_n (pc := 13) dM_startAtTag_13 rfl rfl ?_
    refine z_bipush (pc := 14) dM_startAtTag_14 zb_15 ?_
    refine z_icmp_ne (pc := 16) (by omega) (by omega) (tgt := 32) dM_startAtTag_16 rfl (fun h1 => ?_) (fun h1 => ?_)
    · refine z_aload_n (pc := 32) dM_startAtTag_32 rfl rfl ?_
      refine z_getR (pc := 33) zo_39 rfl zf_M_49_6 dM_startAtTag_33 ?_
      refine z_iload_n (pc := 36) dM_startAtTag_36 rfl rfl ?_
      refine z_iaload (pc := 37) za_53 (by omega) dM_startAtTag_37 ?_
      refine z_iastore (pc := 38) za_52 (by omega) dM_startAtTag_38 ?_
      refine z_iinc (L' := [(1, _), (0, _)]) (pc := 39) dM_startAtTag_39 rfl zi_1 (by decide) rfl ?_
      refine z_goto (pc := 42) (tgt := 2) dM_startAtTag_42 rfl ?_
      refine z_wd (z_map_set ?_) rfl ki
      first | rw [z_map_ne (by decide), z128, if_pos (by omega)] | rw [z_map_ne (by decide), z128, if_neg (by omega)]
    · refine z_aload_n (pc := 19) dM_startAtTag_19 rfl rfl ?_
      refine z_getR (pc := 20) zo_39 rfl zf_M_49_6 dM_startAtTag_20 ?_
      refine z_iload_n (pc := 23) dM_startAtTag_23 rfl rfl ?_
      refine z_iaload (pc := 24) za_53 (by omega) dM_startAtTag_24 ?_
      refine z_sipush (pc := 25) dM_startAtTag_25 zs_128 ?_
      refine z_ior (pc := 28) dM_startAtTag_28 ?_
      refine z_goto (pc := 29) (tgt := 38) dM_startAtTag_29 rfl ?_
      refine z_iastore (pc := 38) za_52 (by omega) dM_startAtTag_38 ?_
      refine z_iinc (L' := [(1, _), (0, _)]) (pc := 39) dM_startAtTag_39 rfl zi_1 (by decide) rfl ?_
      refine z_goto (pc := 42) (tgt := 2) dM_startAtTag_42 rfl ?_
      refine z_wd (z_map_set ?_) rfl ki
      first | rw [z_map_ne (by decide), z128, if_pos (by omega)] | rw [z_map_ne (by decide), z128, if_neg (by omega)]
  · refine z_iload_n (pc := 2) dM_startAtTag_2 rfl rfl ?_
    refine z_bipush (pc := 3) dM_startAtTag_3 zb_16 ?_
    refine z_icmp_ge (pc := 5) (by omega) (by omega) (tgt := 45) dM_startAtTag_5 rfl (fun h => ?_) (fun h => by exfalso; omega)
    exact z_ret0 (pc := 45) dM_startAtTag_45 (hEx _ _ _ (⟨rfl, rfl, rfl⟩))
end
