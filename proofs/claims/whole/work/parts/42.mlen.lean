/-- frames by a list of cells -/
def z_fr (ks : List Nat) (A A' : z_A) : Prop := ∀ k, k ∉ ks → A' k = A k
theorem z_nm {k a : Nat} {ks : List Nat} (hk : k ∉ ks) (ha : a ∈ ks) : k ≠ a := fun e => hk (e ▸ ha)
theorem z_fr.tr {ks : List Nat} {A A' A'' : z_A} (h : z_fr ks A A') (h' : z_fr ks A' A'') : z_fr ks A A'' := fun k hk => (h' k hk).trans (h k hk)
theorem z_fr.up {ks ks' : List Nat} {A A' : z_A} (h : z_fr ks A A') (hs : ∀ k ∈ ks, k ∈ ks') : z_fr ks' A A' := fun k hk => h k (fun q => hk (hs k q))
theorem z_c16 {j : Nat} (h : j < 16) : j = 0 ∨ j = 1 ∨ j = 2 ∨ j = 3 ∨ j = 4 ∨ j = 5 ∨ j = 6 ∨ j = 7 ∨ j = 8 ∨ j = 9 ∨ j = 10 ∨ j = 11 ∨ j = 12 ∨ j = 13 ∨ j = 14 ∨ j = 15 := by omega
section
variable {l : Launch} {g : z_G} {ad : Nat → Nat} {A B : z_A}
theorem m_feedLengths0 {S H a b : Nat} (hS : zbr (A 49) 128 S) (hH : zbr (A 50) 128 H ∧ H < 2 ^ 128) (ha : a < 1000) (hb0 : b < 1000) : z_Met l g ad mM_feedLengths (z_rm 3) [.ref (ad 39), .int (nI 0), .int (nI a), .int (nI b)] A B (z_vd (fun A' B' => B = B' ∧ (∀ k, k ≠ 48 → k ≠ 49 → k ≠ 51 → A' k = A k) ∧ zbr (A' 49) 128 (zmul (zvw 0) (S ^^^ zblk (zmw 0) (zlb (zow 0) a b) 0 16) H))) := by
  refine z_Met.of (L := [(0, _), (1, _), (2, _), (3, _)]) (by decide) (Nat.le_of_ble_eq_true rfl) z_fit_vd rfl ?_
  intro Ex hEx
  refine z_iconst (pc := 0) dM_feedLengths_0 zi_0 ?_
  refine z_istore (L' := [(4, _), (0, _), (1, _), (2, _), (3, _)]) (pc := 1) dM_feedLengths_1 (by decide) rfl ?_
  refine z_wd (z_map_0 A 48 (fun _ => 0)).symm rfl ?_
  refine z_for 16 (fun i => [(4, .int (nI i)), (0, .ref (ad 39)), (1, .int (nI 0)), (2, .int (nI a)), (3, .int (nI b))]) (fun i => z_map A 48 i (fun _ => 0)) (fun i => B) (fun i hi ki => ?_) ?_
  · refine z_iload (pc := 3) dM_feedLengths_3 rfl ?_
    refine z_bipush (pc := 5) dM_feedLengths_5 zb_16 ?_
    refine z_icmp_ge (pc := 7) (by omega) (by omega) (tgt := 24) dM_feedLengths_7 rfl (fun h => by exfalso; omega) (fun h => ?_)
    refine z_aload_n (pc := 10) dM_feedLengths_10 rfl rfl ?_
    refine z_getR (pc := 11) zo_39 rfl zf_M_34_6 dM_feedLengths_11 ?_
    refine z_iload (pc := 14) dM_feedLengths_14 rfl ?_
    refine z_iconst (pc := 16) dM_feedLengths_16 zi_0 ?_
    refine z_iastore (pc := 17) za_48 (by omega) dM_feedLengths_17 ?_
    refine z_iinc (L' := [(4, _), (0, _), (1, _), (2, _), (3, _)]) (pc := 18) dM_feedLengths_18 rfl zi_1 (by decide) rfl ?_
    refine z_goto (pc := 21) (tgt := 3) dM_feedLengths_21 rfl ?_
    exact z_wd (z_map_set rfl) rfl ki
  · refine z_iload (pc := 3) dM_feedLengths_3 rfl ?_
    refine z_bipush (pc := 5) dM_feedLengths_5 zb_16 ?_
    refine z_icmp_ge (pc := 7) (by omega) (by omega) (tgt := 24) dM_feedLengths_7 rfl (fun h => ?_) (fun h => by exfalso; omega)
    refine z_iconst (pc := 24) dM_feedLengths_24 zi_0 ?_
    refine z_istore (L' := [(4, _), (0, _), (1, _), (2, _), (3, _)]) (pc := 25) dM_feedLengths_25 (by decide) rfl ?_
    refine z_iload (pc := 27) dM_feedLengths_27 rfl ?_
    refine z_iconst (pc := 29) dM_feedLengths_29 zi_2 ?_
    refine z_icmp_ge (pc := 30) (by omega) (by omega) (tgt := 108) dM_feedLengths_30 rfl (fun h => by exfalso; omega) (fun h => ?_)
    refine z_aload_n (pc := 33) dM_feedLengths_33 rfl rfl ?_
    refine z_getR (pc := 34) zo_39 rfl zf_M_34_6 dM_feedLengths_34 ?_
    refine z_iload_n (pc := 37) dM_feedLengths_37 rfl rfl ?_
    refine z_if_ne (pc := 38) (by omega) (tgt := 49) dM_feedLengths_38 rfl (fun h => by exfalso; omega) (fun h => ?_)
    refine z_bipush (pc := 41) dM_feedLengths_41 zb_7 ?_
    refine z_iload (pc := 43) dM_feedLengths_43 rfl ?_
    refine z_isub (pc := 45) dM_feedLengths_45 (by omega) ?_
    refine z_goto (pc := 46) (tgt := 51) dM_feedLengths_46 rfl ?_
    refine z_bipush (pc := 51) dM_feedLengths_51 zb_8 ?_
    refine z_iload_n (pc := 53) dM_feedLengths_53 rfl rfl ?_
    refine z_imul (pc := 54) dM_feedLengths_54 ?_
    refine z_bipush (pc := 55) dM_feedLengths_55 zb_8 ?_
    refine z_iload (pc := 57) dM_feedLengths_57 rfl ?_
    refine z_imul (pc := 59) dM_feedLengths_59 ?_
    refine z_ishr (pc := 60) dM_feedLengths_60 (by omega) (by omega) ?_
    refine z_sipush (pc := 61) dM_feedLengths_61 zs_255 ?_
    refine z_iand (pc := 64) dM_feedLengths_64 ?_
    refine z_iastore (pc := 65) za_48 (by omega) dM_feedLengths_65 ?_
    refine z_aload_n (pc := 66) dM_feedLengths_66 rfl rfl ?_
    refine z_getR (pc := 67) zo_39 rfl zf_M_34_6 dM_feedLengths_67 ?_
    refine z_iload_n (pc := 70) dM_feedLengths_70 rfl rfl ?_
    refine z_if_ne (pc := 71) (by omega) (tgt := 82) dM_feedLengths_71 rfl (fun h => by exfalso; omega) (fun h => ?_)
    refine z_bipush (pc := 74) dM_feedLengths_74 zb_15 ?_
    refine z_iload (pc := 76) dM_feedLengths_76 rfl ?_
    refine z_isub (pc := 78) dM_feedLengths_78 (by omega) ?_
    refine z_goto (pc := 79) (tgt := 87) dM_feedLengths_79 rfl ?_
    refine z_bipush (pc := 87) dM_feedLengths_87 zb_8 ?_
    refine z_iload_n (pc := 89) dM_feedLengths_89 rfl rfl ?_
    refine z_imul (pc := 90) dM_feedLengths_90 ?_
    refine z_bipush (pc := 91) dM_feedLengths_91 zb_8 ?_
    refine z_iload (pc := 93) dM_feedLengths_93 rfl ?_
    refine z_imul (pc := 95) dM_feedLengths_95 ?_
    refine z_ishr (pc := 96) dM_feedLengths_96 (by omega) (by omega) ?_
    refine z_sipush (pc := 97) dM_feedLengths_97 zs_255 ?_
    refine z_iand (pc := 100) dM_feedLengths_100 ?_
    refine z_iastore (pc := 101) za_48 (by omega) dM_feedLengths_101 ?_
    refine z_iinc (L' := [(4, _), (0, _), (1, _), (2, _), (3, _)]) (pc := 102) dM_feedLengths_102 rfl zi_1 (by decide) rfl ?_
    refine z_goto (pc := 105) (tgt := 27) dM_feedLengths_105 rfl ?_
    refine z_iload (pc := 27) dM_feedLengths_27 rfl ?_
    refine z_iconst (pc := 29) dM_feedLengths_29 zi_2 ?_
    refine z_icmp_ge (pc := 30) (by omega) (by omega) (tgt := 108) dM_feedLengths_30 rfl (fun h => by exfalso; omega) (fun h => ?_)
    refine z_aload_n (pc := 33) dM_feedLengths_33 rfl rfl ?_
    refine z_getR (pc := 34) zo_39 rfl zf_M_34_6 dM_feedLengths_34 ?_
    refine z_iload_n (pc := 37) dM_feedLengths_37 rfl rfl ?_
    refine z_if_ne (pc := 38) (by omega) (tgt := 49) dM_feedLengths_38 rfl (fun h => by exfalso; omega) (fun h => ?_)
    refine z_bipush (pc := 41) dM_feedLengths_41 zb_7 ?_
    refine z_iload (pc := 43) dM_feedLengths_43 rfl ?_
    refine z_isub (pc := 45) dM_feedLengths_45 (by omega) ?_
    refine z_goto (pc := 46) (tgt := 51) dM_feedLengths_46 rfl ?_
    refine z_bipush (pc := 51) dM_feedLengths_51 zb_8 ?_
    refine z_iload_n (pc := 53) dM_feedLengths_53 rfl rfl ?_
    refine z_imul (pc := 54) dM_feedLengths_54 ?_
    refine z_bipush (pc := 55) dM_feedLengths_55 zb_8 ?_
    refine z_iload (pc := 57) dM_feedLengths_57 rfl ?_
    refine z_imul (pc := 59) dM_feedLengths_59 ?_
    refine z_ishr (pc := 60) dM_feedLengths_60 (by omega) (by omega) ?_
    refine z_sipush (pc := 61) dM_feedLengths_61 zs_255 ?_
    refine z_iand (pc := 64) dM_feedLengths_64 ?_
    refine z_iastore (pc := 65) za_48 (by omega) dM_feedLengths_65 ?_
    refine z_aload_n (pc := 66) dM_feedLengths_66 rfl rfl ?_
    refine z_getR (pc := 67) zo_39 rfl zf_M_34_6 dM_feedLengths_67 ?_
    refine z_iload_n (pc := 70) dM_feedLengths_70 rfl rfl ?_
    refine z_if_ne (pc := 71) (by omega) (tgt := 82) dM_feedLengths_71 rfl (fun h => by exfalso; omega) (fun h => ?_)
    refine z_bipush (pc := 74) dM_feedLengths_74 zb_15 ?_
    refine z_iload (pc := 76) dM_feedLengths_76 rfl ?_
    refine z_isub (pc := 78) dM_feedLengths_78 (by omega) ?_
    refine z_goto (pc := 79) (tgt := 87) dM_feedLengths_79 rfl ?_
    refine z_bipush (pc := 87) dM_feedLengths_87 zb_8 ?_
    refine z_iload_n (pc := 89) dM_feedLengths_89 rfl rfl ?_
    refine z_imul (pc := 90) dM_feedLengths_90 ?_
    refine z_bipush (pc := 91) dM_feedLengths_91 zb_8 ?_
    refine z_iload (pc := 93) dM_feedLengths_93 rfl ?_
    refine z_imul (pc := 95) dM_feedLengths_95 ?_
    refine z_ishr (pc := 96) dM_feedLengths_96 (by omega) (by omega) ?_
    refine z_sipush (pc := 97) dM_feedLengths_97 zs_255 ?_
    refine z_iand (pc := 100) dM_feedLengths_100 ?_
    refine z_iastore (pc := 101) za_48 (by omega) dM_feedLengths_101 ?_
    refine z_iinc (L' := [(4, _), (0, _), (1, _), (2, _), (3, _)]) (pc := 102) dM_feedLengths_102 rfl zi_1 (by decide) rfl ?_
    refine z_goto (pc := 105) (tgt := 27) dM_feedLengths_105 rfl ?_
    refine z_iload (pc := 27) dM_feedLengths_27 rfl ?_
    refine z_iconst (pc := 29) dM_feedLengths_29 zi_2 ?_
    refine z_icmp_ge (pc := 30) (by omega) (by omega) (tgt := 108) dM_feedLengths_30 rfl (fun h => ?_) (fun h => by exfalso; omega)
    refine z_aload_n (pc := 108) dM_feedLengths_108 rfl rfl ?_
    refine z_iload_n (pc := 109) dM_feedLengths_109 rfl rfl ?_
    have hX : ∀ j, j < 16 → (z_set (z_set (z_set (z_set (z_map A 48 16 (fun _ => 0)) 48 (7 - 0) (8 * a / 2 ^ (8 * 0) &&& 255)) 48 (15 - 0) (8 * b / 2 ^ (8 * 0) &&& 255)) 48 (7 - (0 + 1)) (8 * a / 2 ^ (8 * (0 + 1)) &&& 255)) 48 (15 - (0 + 1)) (8 * b / 2 ^ (8 * (0 + 1)) &&& 255)) 48 j = zlb (zow 0) a b j := by
      intro j hj
      rcases z_c16 hj with rfl | rfl | rfl | rfl | rfl | rfl | rfl | rfl | rfl | rfl | rfl | rfl | rfl | rfl | rfl | rfl <;> simp [z_set, va_up, z_map, zlb, zow, z_and255] <;> omega
    have hXb : ∀ j, j < 16 → (z_set (z_set (z_set (z_set (z_map A 48 16 (fun _ => 0)) 48 (7 - 0) (8 * a / 2 ^ (8 * 0) &&& 255)) 48 (15 - 0) (8 * b / 2 ^ (8 * 0) &&& 255)) 48 (7 - (0 + 1)) (8 * a / 2 ^ (8 * (0 + 1)) &&& 255)) 48 (15 - (0 + 1)) (8 * b / 2 ^ (8 * (0 + 1)) &&& 255)) 48 j < 256 := fun j hj => by rw [hX j hj]; unfold zlb; split <;> exact Nat.mod_lt _ (by decide)
    refine z_callV (pc := 110) (m_feed (w := 0) (by omega) (fun i hi => by rw [z_set_ne (by decide), z_set_ne (by decide), z_set_ne (by decide), z_set_ne (by decide), z_map_ne (by decide)]; exact hS i hi) ⟨fun i hi => by rw [z_set_ne (by decide), z_set_ne (by decide), z_set_ne (by decide), z_set_ne (by decide), z_map_ne (by decide)]; exact hH.1 i hi, hH.2⟩ hXb) (by decide) zo_39 rfl zc_M_93 rfl rfl (Nat.le_of_ble_eq_true rfl) dM_feedLengths_110 (fun r A' B' hE => ?_)
    obtain ⟨rfl, rfl, hA, hb⟩ := hE
    refine z_r0 ?_
    exact z_ret0 (pc := 113) dM_feedLengths_113 (hEx _ _ _ (⟨rfl, rfl, fun k h48 h49 h51 => by rw [hA k h49 h51, z_set_ne h48, z_set_ne h48, z_set_ne h48, z_set_ne h48, z_map_ne h48], by rw [zblk_cg (b' := zlb (zow 0) a b) (fun j hj _ => hX (0 + j) (by omega))] at hb; exact hb⟩))
theorem m_feedLengths1 {S H a b : Nat} (hS : zbr (A 49) 128 S) (hH : zbr (A 50) 128 H ∧ H < 2 ^ 128) (ha : a < 1000) (hb0 : b < 1000) : z_Met l g ad mM_feedLengths (z_rm 3) [.ref (ad 39), .int (nI 1), .int (nI a), .int (nI b)] A B (z_vd (fun A' B' => B = B' ∧ (∀ k, k ≠ 48 → k ≠ 49 → k ≠ 51 → A' k = A k) ∧ zbr (A' 49) 128 (zmul (zvw 1) (S ^^^ zblk (zmw 1) (zlb (zow 1) a b) 0 16) H))) := by
  refine z_Met.of (L := [(0, _), (1, _), (2, _), (3, _)]) (by decide) (Nat.le_of_ble_eq_true rfl) z_fit_vd rfl ?_
  intro Ex hEx
  refine z_iconst (pc := 0) dM_feedLengths_0 zi_0 ?_
  refine z_istore (L' := [(4, _), (0, _), (1, _), (2, _), (3, _)]) (pc := 1) dM_feedLengths_1 (by decide) rfl ?_
  refine z_wd (z_map_0 A 48 (fun _ => 0)).symm rfl ?_
  refine z_for 16 (fun i => [(4, .int (nI i)), (0, .ref (ad 39)), (1, .int (nI 1)), (2, .int (nI a)), (3, .int (nI b))]) (fun i => z_map A 48 i (fun _ => 0)) (fun i => B) (fun i hi ki => ?_) ?_
  · refine z_iload (pc := 3) dM_feedLengths_3 rfl ?_
    refine z_bipush (pc := 5) dM_feedLengths_5 zb_16 ?_
    refine z_icmp_ge (pc := 7) (by omega) (by omega) (tgt := 24) dM_feedLengths_7 rfl (fun h => by exfalso; omega) (fun h => ?_)
    refine z_aload_n (pc := 10) dM_feedLengths_10 rfl rfl ?_
    refine z_getR (pc := 11) zo_39 rfl zf_M_34_6 dM_feedLengths_11 ?_
    refine z_iload (pc := 14) dM_feedLengths_14 rfl ?_
    refine z_iconst (pc := 16) dM_feedLengths_16 zi_0 ?_
    refine z_iastore (pc := 17) za_48 (by omega) dM_feedLengths_17 ?_
    refine z_iinc (L' := [(4, _), (0, _), (1, _), (2, _), (3, _)]) (pc := 18) dM_feedLengths_18 rfl zi_1 (by decide) rfl ?_
    refine z_goto (pc := 21) (tgt := 3) dM_feedLengths_21 rfl ?_
    exact z_wd (z_map_set rfl) rfl ki
  · refine z_iload (pc := 3) dM_feedLengths_3 rfl ?_
    refine z_bipush (pc := 5) dM_feedLengths_5 zb_16 ?_
    refine z_icmp_ge (pc := 7) (by omega) (by omega) (tgt := 24) dM_feedLengths_7 rfl (fun h => ?_) (fun h => by exfalso; omega)
    refine z_iconst (pc := 24) dM_feedLengths_24 zi_0 ?_
    refine z_istore (L' := [(4, _), (0, _), (1, _), (2, _), (3, _)]) (pc := 25) dM_feedLengths_25 (by decide) rfl ?_
    refine z_iload (pc := 27) dM_feedLengths_27 rfl ?_
    refine z_iconst (pc := 29) dM_feedLengths_29 zi_2 ?_
    refine z_icmp_ge (pc := 30) (by omega) (by omega) (tgt := 108) dM_feedLengths_30 rfl (fun h => by exfalso; omega) (fun h => ?_)
    refine z_aload_n (pc := 33) dM_feedLengths_33 rfl rfl ?_
    refine z_getR (pc := 34) zo_39 rfl zf_M_34_6 dM_feedLengths_34 ?_
    refine z_iload_n (pc := 37) dM_feedLengths_37 rfl rfl ?_
    refine z_if_ne (pc := 38) (by omega) (tgt := 49) dM_feedLengths_38 rfl (fun h => ?_) (fun h => by exfalso; omega)
    refine z_iload (pc := 49) dM_feedLengths_49 rfl ?_
    refine z_bipush (pc := 51) dM_feedLengths_51 zb_8 ?_
    refine z_iload_n (pc := 53) dM_feedLengths_53 rfl rfl ?_
    refine z_imul (pc := 54) dM_feedLengths_54 ?_
    refine z_bipush (pc := 55) dM_feedLengths_55 zb_8 ?_
    refine z_iload (pc := 57) dM_feedLengths_57 rfl ?_
    refine z_imul (pc := 59) dM_feedLengths_59 ?_
    refine z_ishr (pc := 60) dM_feedLengths_60 (by omega) (by omega) ?_
    refine z_sipush (pc := 61) dM_feedLengths_61 zs_255 ?_
    refine z_iand (pc := 64) dM_feedLengths_64 ?_
    refine z_iastore (pc := 65) za_48 (by omega) dM_feedLengths_65 ?_
    refine z_aload_n (pc := 66) dM_feedLengths_66 rfl rfl ?_
    refine z_getR (pc := 67) zo_39 rfl zf_M_34_6 dM_feedLengths_67 ?_
    refine z_iload_n (pc := 70) dM_feedLengths_70 rfl rfl ?_
    refine z_if_ne (pc := 71) (by omega) (tgt := 82) dM_feedLengths_71 rfl (fun h => ?_) (fun h => by exfalso; omega)
    refine z_bipush (pc := 82) dM_feedLengths_82 zb_8 ?_
    refine z_iload (pc := 84) dM_feedLengths_84 rfl ?_
    refine z_iadd (pc := 86) dM_feedLengths_86 ?_
    refine z_bipush (pc := 87) dM_feedLengths_87 zb_8 ?_
    refine z_iload_n (pc := 89) dM_feedLengths_89 rfl rfl ?_
    refine z_imul (pc := 90) dM_feedLengths_90 ?_
    refine z_bipush (pc := 91) dM_feedLengths_91 zb_8 ?_
    refine z_iload (pc := 93) dM_feedLengths_93 rfl ?_
    refine z_imul (pc := 95) dM_feedLengths_95 ?_
    refine z_ishr (pc := 96) dM_feedLengths_96 (by omega) (by omega) ?_
    refine z_sipush (pc := 97) dM_feedLengths_97 zs_255 ?_
    refine z_iand (pc := 100) dM_feedLengths_100 ?_
    refine z_iastore (pc := 101) za_48 (by omega) dM_feedLengths_101 ?_
    refine z_iinc (L' := [(4, _), (0, _), (1, _), (2, _), (3, _)]) (pc := 102) dM_feedLengths_102 rfl zi_1 (by decide) rfl ?_
    refine z_goto (pc := 105) (tgt := 27) dM_feedLengths_105 rfl ?_
    refine z_iload (pc := 27) dM_feedLengths_27 rfl ?_
    refine z_iconst (pc := 29) dM_feedLengths_29 zi_2 ?_
    refine z_icmp_ge (pc := 30) (by omega) (by omega) (tgt := 108) dM_feedLengths_30 rfl (fun h => by exfalso; omega) (fun h => ?_)
    refine z_aload_n (pc := 33) dM_feedLengths_33 rfl rfl ?_
    refine z_getR (pc := 34) zo_39 rfl zf_M_34_6 dM_feedLengths_34 ?_
    refine z_iload_n (pc := 37) dM_feedLengths_37 rfl rfl ?_
    refine z_if_ne (pc := 38) (by omega) (tgt := 49) dM_feedLengths_38 rfl (fun h => ?_) (fun h => by exfalso; omega)
    refine z_iload (pc := 49) dM_feedLengths_49 rfl ?_
    refine z_bipush (pc := 51) dM_feedLengths_51 zb_8 ?_
    refine z_iload_n (pc := 53) dM_feedLengths_53 rfl rfl ?_
    refine z_imul (pc := 54) dM_feedLengths_54 ?_
    refine z_bipush (pc := 55) dM_feedLengths_55 zb_8 ?_
    refine z_iload (pc := 57) dM_feedLengths_57 rfl ?_
    refine z_imul (pc := 59) dM_feedLengths_59 ?_
    refine z_ishr (pc := 60) dM_feedLengths_60 (by omega) (by omega) ?_
    refine z_sipush (pc := 61) dM_feedLengths_61 zs_255 ?_
    refine z_iand (pc := 64) dM_feedLengths_64 ?_
    refine z_iastore (pc := 65) za_48 (by omega) dM_feedLengths_65 ?_
    refine z_aload_n (pc := 66) dM_feedLengths_66 rfl rfl ?_
    refine z_getR (pc := 67) zo_39 rfl zf_M_34_6 dM_feedLengths_67 ?_
    refine z_iload_n (pc := 70) dM_feedLengths_70 rfl rfl ?_
    refine z_if_ne (pc := 71) (by omega) (tgt := 82) dM_feedLengths_71 rfl (fun h => ?_) (fun h => by exfalso; omega)
    refine z_bipush (pc := 82) dM_feedLengths_82 zb_8 ?_
    refine z_iload (pc := 84) dM_feedLengths_84 rfl ?_
    refine z_iadd (pc := 86) dM_feedLengths_86 ?_
    refine z_bipush (pc := 87) dM_feedLengths_87 zb_8 ?_
    refine z_iload_n (pc := 89) dM_feedLengths_89 rfl rfl ?_
    refine z_imul (pc := 90) dM_feedLengths_90 ?_
    refine z_bipush (pc := 91) dM_feedLengths_91 zb_8 ?_
    refine z_iload (pc := 93) dM_feedLengths_93 rfl ?_
    refine z_imul (pc := 95) dM_feedLengths_95 ?_
    refine z_ishr (pc := 96) dM_feedLengths_96 (by omega) (by omega) ?_
    refine z_sipush (pc := 97) dM_feedLengths_97 zs_255 ?_
    refine z_iand (pc := 100) dM_feedLengths_100 ?_
    refine z_iastore (pc := 101) za_48 (by omega) dM_feedLengths_101 ?_
    refine z_iinc (L' := [(4, _), (0, _), (1, _), (2, _), (3, _)]) (pc := 102) dM_feedLengths_102 rfl zi_1 (by decide) rfl ?_
    refine z_goto (pc := 105) (tgt := 27) dM_feedLengths_105 rfl ?_
    refine z_iload (pc := 27) dM_feedLengths_27 rfl ?_
    refine z_iconst (pc := 29) dM_feedLengths_29 zi_2 ?_
    refine z_icmp_ge (pc := 30) (by omega) (by omega) (tgt := 108) dM_feedLengths_30 rfl (fun h => ?_) (fun h => by exfalso; omega)
    refine z_aload_n (pc := 108) dM_feedLengths_108 rfl rfl ?_
    refine z_iload_n (pc := 109) dM_feedLengths_109 rfl rfl ?_
    have hX : ∀ j, j < 16 → (z_set (z_set (z_set (z_set (z_map A 48 16 (fun _ => 0)) 48 0 (8 * a / 2 ^ (8 * 0) &&& 255)) 48 (8 + 0) (8 * b / 2 ^ (8 * 0) &&& 255)) 48 (0 + 1) (8 * a / 2 ^ (8 * (0 + 1)) &&& 255)) 48 (8 + (0 + 1)) (8 * b / 2 ^ (8 * (0 + 1)) &&& 255)) 48 j = zlb (zow 1) a b j := by
      intro j hj
      rcases z_c16 hj with rfl | rfl | rfl | rfl | rfl | rfl | rfl | rfl | rfl | rfl | rfl | rfl | rfl | rfl | rfl | rfl <;> simp [z_set, va_up, z_map, zlb, zow, z_and255] <;> omega
    have hXb : ∀ j, j < 16 → (z_set (z_set (z_set (z_set (z_map A 48 16 (fun _ => 0)) 48 0 (8 * a / 2 ^ (8 * 0) &&& 255)) 48 (8 + 0) (8 * b / 2 ^ (8 * 0) &&& 255)) 48 (0 + 1) (8 * a / 2 ^ (8 * (0 + 1)) &&& 255)) 48 (8 + (0 + 1)) (8 * b / 2 ^ (8 * (0 + 1)) &&& 255)) 48 j < 256 := fun j hj => by rw [hX j hj]; unfold zlb; split <;> exact Nat.mod_lt _ (by decide)
    refine z_callV (pc := 110) (m_feed (w := 1) (by omega) (fun i hi => by rw [z_set_ne (by decide), z_set_ne (by decide), z_set_ne (by decide), z_set_ne (by decide), z_map_ne (by decide)]; exact hS i hi) ⟨fun i hi => by rw [z_set_ne (by decide), z_set_ne (by decide), z_set_ne (by decide), z_set_ne (by decide), z_map_ne (by decide)]; exact hH.1 i hi, hH.2⟩ hXb) (by decide) zo_39 rfl zc_M_93 rfl rfl (Nat.le_of_ble_eq_true rfl) dM_feedLengths_110 (fun r A' B' hE => ?_)
    obtain ⟨rfl, rfl, hA, hb⟩ := hE
    refine z_r0 ?_
    exact z_ret0 (pc := 113) dM_feedLengths_113 (hEx _ _ _ (⟨rfl, rfl, fun k h48 h49 h51 => by rw [hA k h49 h51, z_set_ne h48, z_set_ne h48, z_set_ne h48, z_set_ne h48, z_map_ne h48], by rw [zblk_cg (b' := zlb (zow 1) a b) (fun j hj _ => hX (0 + j) (by omega))] at hb; exact hb⟩))
/-- the counted block: way 0 counts in the last four bytes, way 1 in the first four -/
def zcn (s0 s1 s2 s3 n k : Nat) : Nat := (n + s0 + 256 * s1 + 65536 * s2 + 16777216 * s3) / 256 ^ k % 256
def zcnt (w : Nat) (J : Nat → Nat) (n j : Nat) : Nat := if w = 0 then (if j < 12 then J j else zcn (J 15) (J 14) (J 13) (J 12) n (15 - j)) else (if 4 ≤ j then J j else zcn (J 0) (J 1) (J 2) (J 3) n j)
theorem zcnt_lt {w : Nat} {J : Nat → Nat} {n : Nat} (hJ : ∀ j, j < 16 → J j < 256) (j : Nat) (hj : j < 16) : zcnt w J n j < 256 := by
  unfold zcnt zcn
  split
  · split
    · exact hJ j hj
    · exact Nat.mod_lt _ (by decide)
  · split
    · exact hJ j hj
    · exact Nat.mod_lt _ (by decide)
theorem zcnt_cg {w : Nat} {J J' : Nat → Nat} {n : Nat} (hJ : ∀ j, j < 16 → J j = J' j) (j : Nat) (hj : j < 16) : zcnt w J n j = zcnt w J' n j := by
  unfold zcnt
  rw [hJ j hj, hJ 15 (by decide), hJ 14 (by decide), hJ 13 (by decide), hJ 12 (by decide), hJ 0 (by decide), hJ 1 (by decide), hJ 2 (by decide), hJ 3 (by decide)]
theorem m_count0 {n : Nat} (hn : n < 1000) (hJ : ∀ j, j < 16 → A 52 j < 256) : z_Met l g ad mM_count (z_rm 0) [.ref (ad 39), .int (nI n), .int (nI 1)] A B (z_vd (fun A' B' => B = B' ∧ (∀ k, k ≠ 48 → A' k = A k) ∧ ∀ j, j < 16 → A' 48 j = zcnt 0 (A 52) n j)) := by
  refine z_Met.of (L := [(0, _), (1, _), (2, _)]) (by decide) (Nat.le_of_ble_eq_true rfl) z_fit_vd rfl ?_
  intro Ex hEx
  have h15 := hJ 15 (by decide)
  have h14 := hJ 14 (by decide)
  have h13 := hJ 13 (by decide)
  have h12 := hJ 12 (by decide)
  refine z_iconst (pc := 0) dM_count_0 zi_0 ?_
  refine z_istore_n (L' := [(3, _), (0, _), (1, _), (2, _)]) (pc := 1) dM_count_1 rfl (by decide) rfl ?_
  refine z_wd (z_map_0 A 48 (A 52)).symm rfl ?_
  refine z_for 16 (fun i => [(3, .int (nI i)), (0, .ref (ad 39)), (1, .int (nI n)), (2, .int (nI 1))]) (fun i => z_map A 48 i (A 52)) (fun i => B) (fun i hi ki => ?_) ?_
  · refine z_iload_n (pc := 2) dM_count_2 rfl rfl ?_
    refine z_bipush (pc := 3) dM_count_3 zb_16 ?_
    refine z_icmp_ge (pc := 5) (by omega) (by omega) (tgt := 26) dM_count_5 rfl (fun h => by exfalso; omega) (fun h => ?_)
    refine z_aload_n (pc := 8) dM_count_8 rfl rfl ?_
    refine z_getR (pc := 9) zo_39 rfl zf_M_34_6 dM_count_9 ?_
    refine z_iload_n (pc := 12) dM_count_12 rfl rfl ?_
    refine z_aload_n (pc := 13) dM_count_13 rfl rfl ?_
    refine z_getR (pc := 14) zo_39 rfl zf_M_46_6 dM_count_14 ?_
    refine z_iload_n (pc := 17) dM_count_17 rfl rfl ?_
    refine z_iaload (pc := 18) za_52 (by omega) dM_count_18 ?_
    refine z_iastore (pc := 19) za_48 (by omega) dM_count_19 ?_
    refine z_iinc (L' := [(3, _), (0, _), (1, _), (2, _)]) (pc := 20) dM_count_20 rfl zi_1 (by decide) rfl ?_
    refine z_goto (pc := 23) (tgt := 2) dM_count_23 rfl ?_
    refine z_wd (z_map_set ?_) rfl ki
    rw [z_map_ne (by decide)]
  · refine z_iload_n (pc := 2) dM_count_2 rfl rfl ?_
    refine z_bipush (pc := 3) dM_count_3 zb_16 ?_
    refine z_icmp_ge (pc := 5) (by omega) (by omega) (tgt := 26) dM_count_5 rfl (fun h => ?_) (fun h => by exfalso; omega)
    refine z_iload_n (pc := 26) dM_count_26 rfl rfl ?_
    refine z_istore_n (L' := [(3, _), (0, _), (1, _), (2, _)]) (pc := 27) dM_count_27 rfl (by decide) rfl ?_
    refine z_iconst (pc := 28) dM_count_28 zi_0 ?_
    refine z_istore (L' := [(4, _), (3, _), (0, _), (1, _), (2, _)]) (pc := 29) dM_count_29 (by decide) rfl ?_
    refine z_iload (pc := 31) dM_count_31 rfl ?_
    refine z_iconst (pc := 33) dM_count_33 zi_4 ?_
    refine z_icmp_ge (pc := 34) (by omega) (by omega) (tgt := 86) dM_count_34 rfl (fun h => by exfalso; omega) (fun h => ?_)
    refine z_iload_n (pc := 37) dM_count_37 rfl rfl ?_
    refine z_if_eq (pc := 38) (by omega) (tgt := 49) dM_count_38 rfl (fun h => by exfalso; omega) (fun h => ?_)
    refine z_bipush (pc := 41) dM_count_41 zb_15 ?_
    refine z_iload (pc := 43) dM_count_43 rfl ?_
    refine z_isub (pc := 45) dM_count_45 (by omega) ?_
    refine z_goto (pc := 46) (tgt := 51) dM_count_46 rfl ?_
    refine z_istore (L' := [(5, _), (4, _), (3, _), (0, _), (1, _), (2, _)]) (pc := 51) dM_count_51 (by decide) rfl ?_
    refine z_iload_n (pc := 53) dM_count_53 rfl rfl ?_
    refine z_aload_n (pc := 54) dM_count_54 rfl rfl ?_
    refine z_getR (pc := 55) zo_39 rfl zf_M_46_6 dM_count_55 ?_
    refine z_iload (pc := 58) dM_count_58 rfl ?_
    refine z_iaload (pc := 60) za_52 (by omega) dM_count_60 ?_
    refine z_top (congrArg (fun x => Value.int (nI x)) (show _ = A 52 15 by simp [z_set, va_up, z_map])) ?_
    refine z_iadd (pc := 61) dM_count_61 ?_
    refine z_istore_n (L' := [(3, _), (5, _), (4, _), (0, _), (1, _), (2, _)]) (pc := 62) dM_count_62 rfl (by decide) rfl ?_
    refine z_aload_n (pc := 63) dM_count_63 rfl rfl ?_
    refine z_getR (pc := 64) zo_39 rfl zf_M_34_6 dM_count_64 ?_
    refine z_iload (pc := 67) dM_count_67 rfl ?_
    refine z_iload_n (pc := 69) dM_count_69 rfl rfl ?_
    refine z_sipush (pc := 70) dM_count_70 zs_255 ?_
    refine z_iand (pc := 73) dM_count_73 ?_
    refine z_iastore (pc := 74) za_48 (by omega) dM_count_74 ?_
    refine z_iload_n (pc := 75) dM_count_75 rfl rfl ?_
    refine z_bipush (pc := 76) dM_count_76 zb_8 ?_
    refine z_ishr (pc := 78) dM_count_78 (by omega) (by omega) ?_
    refine z_istore_n (L' := [(3, _), (5, _), (4, _), (0, _), (1, _), (2, _)]) (pc := 79) dM_count_79 rfl (by decide) rfl ?_
    refine z_iinc (L' := [(4, _), (3, _), (5, _), (0, _), (1, _), (2, _)]) (pc := 80) dM_count_80 rfl zi_1 (by decide) rfl ?_
    refine z_goto (pc := 83) (tgt := 31) dM_count_83 rfl ?_
    refine z_iload (pc := 31) dM_count_31 rfl ?_
    refine z_iconst (pc := 33) dM_count_33 zi_4 ?_
    refine z_icmp_ge (pc := 34) (by omega) (by omega) (tgt := 86) dM_count_34 rfl (fun h => by exfalso; omega) (fun h => ?_)
    refine z_iload_n (pc := 37) dM_count_37 rfl rfl ?_
    refine z_if_eq (pc := 38) (by omega) (tgt := 49) dM_count_38 rfl (fun h => by exfalso; omega) (fun h => ?_)
    refine z_bipush (pc := 41) dM_count_41 zb_15 ?_
    refine z_iload (pc := 43) dM_count_43 rfl ?_
    refine z_isub (pc := 45) dM_count_45 (by omega) ?_
    refine z_goto (pc := 46) (tgt := 51) dM_count_46 rfl ?_
    refine z_istore (L' := [(5, _), (4, _), (3, _), (0, _), (1, _), (2, _)]) (pc := 51) dM_count_51 (by decide) rfl ?_
    refine z_iload_n (pc := 53) dM_count_53 rfl rfl ?_
    refine z_aload_n (pc := 54) dM_count_54 rfl rfl ?_
    refine z_getR (pc := 55) zo_39 rfl zf_M_46_6 dM_count_55 ?_
    refine z_iload (pc := 58) dM_count_58 rfl ?_
    refine z_iaload (pc := 60) za_52 (by omega) dM_count_60 ?_
    refine z_top (congrArg (fun x => Value.int (nI x)) (show _ = A 52 14 by simp [z_set, va_up, z_map])) ?_
    refine z_iadd (pc := 61) dM_count_61 ?_
    refine z_istore_n (L' := [(3, _), (5, _), (4, _), (0, _), (1, _), (2, _)]) (pc := 62) dM_count_62 rfl (by decide) rfl ?_
    refine z_aload_n (pc := 63) dM_count_63 rfl rfl ?_
    refine z_getR (pc := 64) zo_39 rfl zf_M_34_6 dM_count_64 ?_
    refine z_iload (pc := 67) dM_count_67 rfl ?_
    refine z_iload_n (pc := 69) dM_count_69 rfl rfl ?_
    refine z_sipush (pc := 70) dM_count_70 zs_255 ?_
    refine z_iand (pc := 73) dM_count_73 ?_
    refine z_iastore (pc := 74) za_48 (by omega) dM_count_74 ?_
    refine z_iload_n (pc := 75) dM_count_75 rfl rfl ?_
    refine z_bipush (pc := 76) dM_count_76 zb_8 ?_
    refine z_ishr (pc := 78) dM_count_78 (by omega) (by omega) ?_
    refine z_istore_n (L' := [(3, _), (5, _), (4, _), (0, _), (1, _), (2, _)]) (pc := 79) dM_count_79 rfl (by decide) rfl ?_
    refine z_iinc (L' := [(4, _), (3, _), (5, _), (0, _), (1, _), (2, _)]) (pc := 80) dM_count_80 rfl zi_1 (by decide) rfl ?_
    refine z_goto (pc := 83) (tgt := 31) dM_count_83 rfl ?_
    refine z_iload (pc := 31) dM_count_31 rfl ?_
    refine z_iconst (pc := 33) dM_count_33 zi_4 ?_
    refine z_icmp_ge (pc := 34) (by omega) (by omega) (tgt := 86) dM_count_34 rfl (fun h => by exfalso; omega) (fun h => ?_)
    refine z_iload_n (pc := 37) dM_count_37 rfl rfl ?_
    refine z_if_eq (pc := 38) (by omega) (tgt := 49) dM_count_38 rfl (fun h => by exfalso; omega) (fun h => ?_)
    refine z_bipush (pc := 41) dM_count_41 zb_15 ?_
    refine z_iload (pc := 43) dM_count_43 rfl ?_
    refine z_isub (pc := 45) dM_count_45 (by omega) ?_
    refine z_goto (pc := 46) (tgt := 51) dM_count_46 rfl ?_
    refine z_istore (L' := [(5, _), (4, _), (3, _), (0, _), (1, _), (2, _)]) (pc := 51) dM_count_51 (by decide) rfl ?_
    refine z_iload_n (pc := 53) dM_count_53 rfl rfl ?_
    refine z_aload_n (pc := 54) dM_count_54 rfl rfl ?_
    refine z_getR (pc := 55) zo_39 rfl zf_M_46_6 dM_count_55 ?_
    refine z_iload (pc := 58) dM_count_58 rfl ?_
    refine z_iaload (pc := 60) za_52 (by omega) dM_count_60 ?_
    refine z_top (congrArg (fun x => Value.int (nI x)) (show _ = A 52 13 by simp [z_set, va_up, z_map])) ?_
    refine z_iadd (pc := 61) dM_count_61 ?_
    refine z_istore_n (L' := [(3, _), (5, _), (4, _), (0, _), (1, _), (2, _)]) (pc := 62) dM_count_62 rfl (by decide) rfl ?_
    refine z_aload_n (pc := 63) dM_count_63 rfl rfl ?_
    refine z_getR (pc := 64) zo_39 rfl zf_M_34_6 dM_count_64 ?_
    refine z_iload (pc := 67) dM_count_67 rfl ?_
    refine z_iload_n (pc := 69) dM_count_69 rfl rfl ?_
    refine z_sipush (pc := 70) dM_count_70 zs_255 ?_
    refine z_iand (pc := 73) dM_count_73 ?_
    refine z_iastore (pc := 74) za_48 (by omega) dM_count_74 ?_
    refine z_iload_n (pc := 75) dM_count_75 rfl rfl ?_
    refine z_bipush (pc := 76) dM_count_76 zb_8 ?_
    refine z_ishr (pc := 78) dM_count_78 (by omega) (by omega) ?_
    refine z_istore_n (L' := [(3, _), (5, _), (4, _), (0, _), (1, _), (2, _)]) (pc := 79) dM_count_79 rfl (by decide) rfl ?_
    refine z_iinc (L' := [(4, _), (3, _), (5, _), (0, _), (1, _), (2, _)]) (pc := 80) dM_count_80 rfl zi_1 (by decide) rfl ?_
    refine z_goto (pc := 83) (tgt := 31) dM_count_83 rfl ?_
    refine z_iload (pc := 31) dM_count_31 rfl ?_
    refine z_iconst (pc := 33) dM_count_33 zi_4 ?_
    refine z_icmp_ge (pc := 34) (by omega) (by omega) (tgt := 86) dM_count_34 rfl (fun h => by exfalso; omega) (fun h => ?_)
    refine z_iload_n (pc := 37) dM_count_37 rfl rfl ?_
    refine z_if_eq (pc := 38) (by omega) (tgt := 49) dM_count_38 rfl (fun h => by exfalso; omega) (fun h => ?_)
    refine z_bipush (pc := 41) dM_count_41 zb_15 ?_
    refine z_iload (pc := 43) dM_count_43 rfl ?_
    refine z_isub (pc := 45) dM_count_45 (by omega) ?_
    refine z_goto (pc := 46) (tgt := 51) dM_count_46 rfl ?_
    refine z_istore (L' := [(5, _), (4, _), (3, _), (0, _), (1, _), (2, _)]) (pc := 51) dM_count_51 (by decide) rfl ?_
    refine z_iload_n (pc := 53) dM_count_53 rfl rfl ?_
    refine z_aload_n (pc := 54) dM_count_54 rfl rfl ?_
    refine z_getR (pc := 55) zo_39 rfl zf_M_46_6 dM_count_55 ?_
    refine z_iload (pc := 58) dM_count_58 rfl ?_
    refine z_iaload (pc := 60) za_52 (by omega) dM_count_60 ?_
    refine z_top (congrArg (fun x => Value.int (nI x)) (show _ = A 52 12 by simp [z_set, va_up, z_map])) ?_
    refine z_iadd (pc := 61) dM_count_61 ?_
    refine z_istore_n (L' := [(3, _), (5, _), (4, _), (0, _), (1, _), (2, _)]) (pc := 62) dM_count_62 rfl (by decide) rfl ?_
    refine z_aload_n (pc := 63) dM_count_63 rfl rfl ?_
    refine z_getR (pc := 64) zo_39 rfl zf_M_34_6 dM_count_64 ?_
    refine z_iload (pc := 67) dM_count_67 rfl ?_
    refine z_iload_n (pc := 69) dM_count_69 rfl rfl ?_
    refine z_sipush (pc := 70) dM_count_70 zs_255 ?_
    refine z_iand (pc := 73) dM_count_73 ?_
    refine z_iastore (pc := 74) za_48 (by omega) dM_count_74 ?_
    refine z_iload_n (pc := 75) dM_count_75 rfl rfl ?_
    refine z_bipush (pc := 76) dM_count_76 zb_8 ?_
    refine z_ishr (pc := 78) dM_count_78 (by omega) (by omega) ?_
    refine z_istore_n (L' := [(3, _), (5, _), (4, _), (0, _), (1, _), (2, _)]) (pc := 79) dM_count_79 rfl (by decide) rfl ?_
    refine z_iinc (L' := [(4, _), (3, _), (5, _), (0, _), (1, _), (2, _)]) (pc := 80) dM_count_80 rfl zi_1 (by decide) rfl ?_
    refine z_goto (pc := 83) (tgt := 31) dM_count_83 rfl ?_
    refine z_iload (pc := 31) dM_count_31 rfl ?_
    refine z_iconst (pc := 33) dM_count_33 zi_4 ?_
    refine z_icmp_ge (pc := 34) (by omega) (by omega) (tgt := 86) dM_count_34 rfl (fun h => ?_) (fun h => by exfalso; omega)
    exact z_ret0 (pc := 86) dM_count_86 (hEx _ _ _ (⟨rfl, rfl, fun k h48 => by rw [z_set_ne h48, z_set_ne h48, z_set_ne h48, z_set_ne h48, z_map_ne h48], fun j hj => by rcases z_c16 hj with rfl | rfl | rfl | rfl | rfl | rfl | rfl | rfl | rfl | rfl | rfl | rfl | rfl | rfl | rfl | rfl <;> simp [z_set, va_up, z_map, zcnt, zcn, z_and255] <;> omega⟩))
theorem m_count1 {n : Nat} (hn : n < 1000) (hJ : ∀ j, j < 16 → A 52 j < 256) : z_Met l g ad mM_count (z_rm 0) [.ref (ad 39), .int (nI n), .int (nI 0)] A B (z_vd (fun A' B' => B = B' ∧ (∀ k, k ≠ 48 → A' k = A k) ∧ ∀ j, j < 16 → A' 48 j = zcnt 1 (A 52) n j)) := by
  refine z_Met.of (L := [(0, _), (1, _), (2, _)]) (by decide) (Nat.le_of_ble_eq_true rfl) z_fit_vd rfl ?_
  intro Ex hEx
  have h0 := hJ 0 (by decide)
  have h1 := hJ 1 (by decide)
  have h2 := hJ 2 (by decide)
  have h3 := hJ 3 (by decide)
  refine z_iconst (pc := 0) dM_count_0 zi_0 ?_
  refine z_istore_n (L' := [(3, _), (0, _), (1, _), (2, _)]) (pc := 1) dM_count_1 rfl (by decide) rfl ?_
  refine z_wd (z_map_0 A 48 (A 52)).symm rfl ?_
  refine z_for 16 (fun i => [(3, .int (nI i)), (0, .ref (ad 39)), (1, .int (nI n)), (2, .int (nI 0))]) (fun i => z_map A 48 i (A 52)) (fun i => B) (fun i hi ki => ?_) ?_
  · refine z_iload_n (pc := 2) dM_count_2 rfl rfl ?_
    refine z_bipush (pc := 3) dM_count_3 zb_16 ?_
    refine z_icmp_ge (pc := 5) (by omega) (by omega) (tgt := 26) dM_count_5 rfl (fun h => by exfalso; omega) (fun h => ?_)
    refine z_aload_n (pc := 8) dM_count_8 rfl rfl ?_
    refine z_getR (pc := 9) zo_39 rfl zf_M_34_6 dM_count_9 ?_
    refine z_iload_n (pc := 12) dM_count_12 rfl rfl ?_
    refine z_aload_n (pc := 13) dM_count_13 rfl rfl ?_
    refine z_getR (pc := 14) zo_39 rfl zf_M_46_6 dM_count_14 ?_
    refine z_iload_n (pc := 17) dM_count_17 rfl rfl ?_
    refine z_iaload (pc := 18) za_52 (by omega) dM_count_18 ?_
    refine z_iastore (pc := 19) za_48 (by omega) dM_count_19 ?_
    refine z_iinc (L' := [(3, _), (0, _), (1, _), (2, _)]) (pc := 20) dM_count_20 rfl zi_1 (by decide) rfl ?_
    refine z_goto (pc := 23) (tgt := 2) dM_count_23 rfl ?_
    refine z_wd (z_map_set ?_) rfl ki
    rw [z_map_ne (by decide)]
  · refine z_iload_n (pc := 2) dM_count_2 rfl rfl ?_
    refine z_bipush (pc := 3) dM_count_3 zb_16 ?_
    refine z_icmp_ge (pc := 5) (by omega) (by omega) (tgt := 26) dM_count_5 rfl (fun h => ?_) (fun h => by exfalso; omega)
    refine z_iload_n (pc := 26) dM_count_26 rfl rfl ?_
    refine z_istore_n (L' := [(3, _), (0, _), (1, _), (2, _)]) (pc := 27) dM_count_27 rfl (by decide) rfl ?_
    refine z_iconst (pc := 28) dM_count_28 zi_0 ?_
    refine z_istore (L' := [(4, _), (3, _), (0, _), (1, _), (2, _)]) (pc := 29) dM_count_29 (by decide) rfl ?_
    refine z_iload (pc := 31) dM_count_31 rfl ?_
    refine z_iconst (pc := 33) dM_count_33 zi_4 ?_
    refine z_icmp_ge (pc := 34) (by omega) (by omega) (tgt := 86) dM_count_34 rfl (fun h => by exfalso; omega) (fun h => ?_)
    refine z_iload_n (pc := 37) dM_count_37 rfl rfl ?_
    refine z_if_eq (pc := 38) (by omega) (tgt := 49) dM_count_38 rfl (fun h => ?_) (fun h => by exfalso; omega)
    refine z_iload (pc := 49) dM_count_49 rfl ?_
    refine z_istore (L' := [(5, _), (4, _), (3, _), (0, _), (1, _), (2, _)]) (pc := 51) dM_count_51 (by decide) rfl ?_
    refine z_iload_n (pc := 53) dM_count_53 rfl rfl ?_
    refine z_aload_n (pc := 54) dM_count_54 rfl rfl ?_
    refine z_getR (pc := 55) zo_39 rfl zf_M_46_6 dM_count_55 ?_
    refine z_iload (pc := 58) dM_count_58 rfl ?_
    refine z_iaload (pc := 60) za_52 (by omega) dM_count_60 ?_
    refine z_top (congrArg (fun x => Value.int (nI x)) (show _ = A 52 0 by simp [z_set, va_up, z_map])) ?_
    refine z_iadd (pc := 61) dM_count_61 ?_
    refine z_istore_n (L' := [(3, _), (5, _), (4, _), (0, _), (1, _), (2, _)]) (pc := 62) dM_count_62 rfl (by decide) rfl ?_
    refine z_aload_n (pc := 63) dM_count_63 rfl rfl ?_
    refine z_getR (pc := 64) zo_39 rfl zf_M_34_6 dM_count_64 ?_
    refine z_iload (pc := 67) dM_count_67 rfl ?_
    refine z_iload_n (pc := 69) dM_count_69 rfl rfl ?_
    refine z_sipush (pc := 70) dM_count_70 zs_255 ?_
    refine z_iand (pc := 73) dM_count_73 ?_
    refine z_iastore (pc := 74) za_48 (by omega) dM_count_74 ?_
    refine z_iload_n (pc := 75) dM_count_75 rfl rfl ?_
    refine z_bipush (pc := 76) dM_count_76 zb_8 ?_
    refine z_ishr (pc := 78) dM_count_78 (by omega) (by omega) ?_
    refine z_istore_n (L' := [(3, _), (5, _), (4, _), (0, _), (1, _), (2, _)]) (pc := 79) dM_count_79 rfl (by decide) rfl ?_
    refine z_iinc (L' := [(4, _), (3, _), (5, _), (0, _), (1, _), (2, _)]) (pc := 80) dM_count_80 rfl zi_1 (by decide) rfl ?_
    refine z_goto (pc := 83) (tgt := 31) dM_count_83 rfl ?_
    refine z_iload (pc := 31) dM_count_31 rfl ?_
    refine z_iconst (pc := 33) dM_count_33 zi_4 ?_
    refine z_icmp_ge (pc := 34) (by omega) (by omega) (tgt := 86) dM_count_34 rfl (fun h => by exfalso; omega) (fun h => ?_)
    refine z_iload_n (pc := 37) dM_count_37 rfl rfl ?_
    refine z_if_eq (pc := 38) (by omega) (tgt := 49) dM_count_38 rfl (fun h => ?_) (fun h => by exfalso; omega)
    refine z_iload (pc := 49) dM_count_49 rfl ?_
    refine z_istore (L' := [(5, _), (4, _), (3, _), (0, _), (1, _), (2, _)]) (pc := 51) dM_count_51 (by decide) rfl ?_
    refine z_iload_n (pc := 53) dM_count_53 rfl rfl ?_
    refine z_aload_n (pc := 54) dM_count_54 rfl rfl ?_
    refine z_getR (pc := 55) zo_39 rfl zf_M_46_6 dM_count_55 ?_
    refine z_iload (pc := 58) dM_count_58 rfl ?_
    refine z_iaload (pc := 60) za_52 (by omega) dM_count_60 ?_
    refine z_top (congrArg (fun x => Value.int (nI x)) (show _ = A 52 1 by simp [z_set, va_up, z_map])) ?_
    refine z_iadd (pc := 61) dM_count_61 ?_
    refine z_istore_n (L' := [(3, _), (5, _), (4, _), (0, _), (1, _), (2, _)]) (pc := 62) dM_count_62 rfl (by decide) rfl ?_
    refine z_aload_n (pc := 63) dM_count_63 rfl rfl ?_
    refine z_getR (pc := 64) zo_39 rfl zf_M_34_6 dM_count_64 ?_
    refine z_iload (pc := 67) dM_count_67 rfl ?_
    refine z_iload_n (pc := 69) dM_count_69 rfl rfl ?_
    refine z_sipush (pc := 70) dM_count_70 zs_255 ?_
    refine z_iand (pc := 73) dM_count_73 ?_
    refine z_iastore (pc := 74) za_48 (by omega) dM_count_74 ?_
    refine z_iload_n (pc := 75) dM_count_75 rfl rfl ?_
    refine z_bipush (pc := 76) dM_count_76 zb_8 ?_
    refine z_ishr (pc := 78) dM_count_78 (by omega) (by omega) ?_
    refine z_istore_n (L' := [(3, _), (5, _), (4, _), (0, _), (1, _), (2, _)]) (pc := 79) dM_count_79 rfl (by decide) rfl ?_
    refine z_iinc (L' := [(4, _), (3, _), (5, _), (0, _), (1, _), (2, _)]) (pc := 80) dM_count_80 rfl zi_1 (by decide) rfl ?_
    refine z_goto (pc := 83) (tgt := 31) dM_count_83 rfl ?_
    refine z_iload (pc := 31) dM_count_31 rfl ?_
    refine z_iconst (pc := 33) dM_count_33 zi_4 ?_
    refine z_icmp_ge (pc := 34) (by omega) (by omega) (tgt := 86) dM_count_34 rfl (fun h => by exfalso; omega) (fun h => ?_)
    refine z_iload_n (pc := 37) dM_count_37 rfl rfl ?_
    refine z_if_eq (pc := 38) (by omega) (tgt := 49) dM_count_38 rfl (fun h => ?_) (fun h => by exfalso; omega)
    refine z_iload (pc := 49) dM_count_49 rfl ?_
    refine z_istore (L' := [(5, _), (4, _), (3, _), (0, _), (1, _), (2, _)]) (pc := 51) dM_count_51 (by decide) rfl ?_
    refine z_iload_n (pc := 53) dM_count_53 rfl rfl ?_
    refine z_aload_n (pc := 54) dM_count_54 rfl rfl ?_
    refine z_getR (pc := 55) zo_39 rfl zf_M_46_6 dM_count_55 ?_
    refine z_iload (pc := 58) dM_count_58 rfl ?_
    refine z_iaload (pc := 60) za_52 (by omega) dM_count_60 ?_
    refine z_top (congrArg (fun x => Value.int (nI x)) (show _ = A 52 2 by simp [z_set, va_up, z_map])) ?_
    refine z_iadd (pc := 61) dM_count_61 ?_
    refine z_istore_n (L' := [(3, _), (5, _), (4, _), (0, _), (1, _), (2, _)]) (pc := 62) dM_count_62 rfl (by decide) rfl ?_
    refine z_aload_n (pc := 63) dM_count_63 rfl rfl ?_
    refine z_getR (pc := 64) zo_39 rfl zf_M_34_6 dM_count_64 ?_
    refine z_iload (pc := 67) dM_count_67 rfl ?_
    refine z_iload_n (pc := 69) dM_count_69 rfl rfl ?_
    refine z_sipush (pc := 70) dM_count_70 zs_255 ?_
    refine z_iand (pc := 73) dM_count_73 ?_
    refine z_iastore (pc := 74) za_48 (by omega) dM_count_74 ?_
    refine z_iload_n (pc := 75) dM_count_75 rfl rfl ?_
    refine z_bipush (pc := 76) dM_count_76 zb_8 ?_
    refine z_ishr (pc := 78) dM_count_78 (by omega) (by omega) ?_
    refine z_istore_n (L' := [(3, _), (5, _), (4, _), (0, _), (1, _), (2, _)]) (pc := 79) dM_count_79 rfl (by decide) rfl ?_
    refine z_iinc (L' := [(4, _), (3, _), (5, _), (0, _), (1, _), (2, _)]) (pc := 80) dM_count_80 rfl zi_1 (by decide) rfl ?_
    refine z_goto (pc := 83) (tgt := 31) dM_count_83 rfl ?_
    refine z_iload (pc := 31) dM_count_31 rfl ?_
    refine z_iconst (pc := 33) dM_count_33 zi_4 ?_
    refine z_icmp_ge (pc := 34) (by omega) (by omega) (tgt := 86) dM_count_34 rfl (fun h => by exfalso; omega) (fun h => ?_)
    refine z_iload_n (pc := 37) dM_count_37 rfl rfl ?_
    refine z_if_eq (pc := 38) (by omega) (tgt := 49) dM_count_38 rfl (fun h => ?_) (fun h => by exfalso; omega)
    refine z_iload (pc := 49) dM_count_49 rfl ?_
    refine z_istore (L' := [(5, _), (4, _), (3, _), (0, _), (1, _), (2, _)]) (pc := 51) dM_count_51 (by decide) rfl ?_
    refine z_iload_n (pc := 53) dM_count_53 rfl rfl ?_
    refine z_aload_n (pc := 54) dM_count_54 rfl rfl ?_
    refine z_getR (pc := 55) zo_39 rfl zf_M_46_6 dM_count_55 ?_
    refine z_iload (pc := 58) dM_count_58 rfl ?_
    refine z_iaload (pc := 60) za_52 (by omega) dM_count_60 ?_
    refine z_top (congrArg (fun x => Value.int (nI x)) (show _ = A 52 3 by simp [z_set, va_up, z_map])) ?_
    refine z_iadd (pc := 61) dM_count_61 ?_
    refine z_istore_n (L' := [(3, _), (5, _), (4, _), (0, _), (1, _), (2, _)]) (pc := 62) dM_count_62 rfl (by decide) rfl ?_
    refine z_aload_n (pc := 63) dM_count_63 rfl rfl ?_
    refine z_getR (pc := 64) zo_39 rfl zf_M_34_6 dM_count_64 ?_
    refine z_iload (pc := 67) dM_count_67 rfl ?_
    refine z_iload_n (pc := 69) dM_count_69 rfl rfl ?_
    refine z_sipush (pc := 70) dM_count_70 zs_255 ?_
    refine z_iand (pc := 73) dM_count_73 ?_
    refine z_iastore (pc := 74) za_48 (by omega) dM_count_74 ?_
    refine z_iload_n (pc := 75) dM_count_75 rfl rfl ?_
    refine z_bipush (pc := 76) dM_count_76 zb_8 ?_
    refine z_ishr (pc := 78) dM_count_78 (by omega) (by omega) ?_
    refine z_istore_n (L' := [(3, _), (5, _), (4, _), (0, _), (1, _), (2, _)]) (pc := 79) dM_count_79 rfl (by decide) rfl ?_
    refine z_iinc (L' := [(4, _), (3, _), (5, _), (0, _), (1, _), (2, _)]) (pc := 80) dM_count_80 rfl zi_1 (by decide) rfl ?_
    refine z_goto (pc := 83) (tgt := 31) dM_count_83 rfl ?_
    refine z_iload (pc := 31) dM_count_31 rfl ?_
    refine z_iconst (pc := 33) dM_count_33 zi_4 ?_
    refine z_icmp_ge (pc := 34) (by omega) (by omega) (tgt := 86) dM_count_34 rfl (fun h => ?_) (fun h => by exfalso; omega)
    exact z_ret0 (pc := 86) dM_count_86 (hEx _ _ _ (⟨rfl, rfl, fun k h48 => by rw [z_set_ne h48, z_set_ne h48, z_set_ne h48, z_set_ne h48, z_map_ne h48], fun j hj => by rcases z_c16 hj with rfl | rfl | rfl | rfl | rfl | rfl | rfl | rfl | rfl | rfl | rfl | rfl | rfl | rfl | rfl | rfl <;> simp [z_set, va_up, z_map, zcnt, zcn, z_and255] <;> omega⟩))
end
