/-- times, as the reference has it -/
def ztmS (a b : Nat) : Nat → Nat × Nat
  | 0 => (0, a)
  | k + 1 => if b / 2 ^ k &&& 1 = 1 then ((ztmS a b k).1 ^^^ (ztmS a b k).2, zd (ztmS a b k).2) else ((ztmS a b k).1, zd (ztmS a b k).2)
def ztm (a b : Nat) : Nat := (ztmS a b 8).1
theorem ztmS_lt {a : Nat} (ha : a < 256) (b : Nat) : ∀ k, (ztmS a b k).2 < 256
  | 0 => ha
  | k + 1 => by
    unfold ztmS
    split <;> exact zd_lt _ (ztmS_lt ha b k)
theorem ztm2 : ∀ y, y < 256 → ztm 2 y = zd y := by decide +kernel
theorem ztm3 : ∀ y, y < 256 → ztm 3 y = zt y := by decide +kernel
theorem z_and1_lt (x : Nat) : x &&& 1 < 2 ^ 31 := Nat.lt_of_le_of_lt Nat.and_le_right (by decide)
section
variable {l : Launch} {g : z_G} {ad : Nat → Nat} {A B : z_A}
theorem m_doubled {a : Nat} (ha : a < 256) : z_Met l g ad mM_doubled (z_rm 0) [.int (nI a)] A B (z_eq (some (.int (nI (zd a)))) A B) := by
  refine z_Met.of (L := [(0, _)]) (by decide) (Nat.le_of_ble_eq_true rfl) (z_fit_eq (Or.inl rfl)) rfl ?_
  intro Ex hEx
  refine z_iload_n (pc := 0) dM_doubled_0 rfl rfl ?_
  refine z_bipush (pc := 1) dM_doubled_1 zb_127 ?_
  refine z_icmp_le (pc := 3) (by omega) (by omega) (tgt := 16) dM_doubled_3 rfl (fun h1 => ?_) (fun h1 => ?_)
  · refine z_iconst (pc := 16) dM_doubled_16 zi_2 ?_
    refine z_iload_n (pc := 17) dM_doubled_17 rfl rfl ?_
    refine z_imul (pc := 18) dM_doubled_18 ?_
    exact z_reti (pc := 19) dM_doubled_19 (hEx _ _ _ (⟨by first | rw [zd, if_pos (by omega)] | rw [zd, if_neg (by omega)], rfl, rfl⟩))
  · refine z_iconst (pc := 6) dM_doubled_6 zi_2 ?_
    refine z_iload_n (pc := 7) dM_doubled_7 rfl rfl ?_
    refine z_imul (pc := 8) dM_doubled_8 ?_
    refine z_sipush (pc := 9) dM_doubled_9 zs_283 ?_
    refine z_ixor (pc := 12) dM_doubled_12 ?_
    refine z_goto (pc := 13) (tgt := 19) dM_doubled_13 rfl ?_
    exact z_reti (pc := 19) dM_doubled_19 (hEx _ _ _ (⟨by first | rw [zd, if_pos (by omega)] | rw [zd, if_neg (by omega)], rfl, rfl⟩))
theorem m_times {a b : Nat} (ha : a < 256) (hb : b < 256) : z_Met l g ad mM_times (z_rm 1) [.int (nI a), .int (nI b)] A B (z_eq (some (.int (nI (ztm a b)))) A B) := by
  refine z_Met.of (L := [(0, _), (1, _)]) (by decide) (Nat.le_of_ble_eq_true rfl) (z_fit_eq (Or.inl rfl)) rfl ?_
  intro Ex hEx
  refine z_iconst (pc := 0) dM_times_0 zi_0 ?_
  refine z_istore_n (L' := [(2, _), (0, _), (1, _)]) (pc := 1) dM_times_1 rfl (by decide) rfl ?_
  refine z_iload_n (pc := 2) dM_times_2 rfl rfl ?_
  refine z_istore_n (L' := [(3, _), (2, _), (0, _), (1, _)]) (pc := 3) dM_times_3 rfl (by decide) rfl ?_
  refine z_iconst (pc := 4) dM_times_4 zi_0 ?_
  refine z_istore (L' := [(4, _), (3, _), (2, _), (0, _), (1, _)]) (pc := 5) dM_times_5 (by decide) rfl ?_
  
  refine z_for 8 (fun i => [(4, .int (nI i)), (3, .int (nI ((ztmS a b i).2))), (2, .int (nI ((ztmS a b i).1))), (0, .int (nI a)), (1, .int (nI b))]) (fun i => A) (fun i => B) (fun i hi ki => ?_) ?_
  · refine z_iload (pc := 7) dM_times_7 rfl ?_
    refine z_bipush (pc := 9) dM_times_9 zb_8 ?_
    refine z_icmp_ge (pc := 11) (by omega) (by omega) (tgt := 43) dM_times_11 rfl (fun h => by exfalso; omega) (fun h => ?_)
    refine z_iload_n (pc := 14) dM_times_14 rfl rfl ?_
    refine z_iload (pc := 15) dM_times_15 rfl ?_
    refine z_ishr (pc := 17) dM_times_17 (by omega) (by omega) ?_
    refine z_iconst (pc := 18) dM_times_18 zi_1 ?_
    refine z_iand (pc := 19) dM_times_19 ?_
    refine z_iconst (pc := 20) dM_times_20 zi_1 ?_
    refine z_icmp_ne (pc := 21) (by exact z_and1_lt _) (by omega) (tgt := 30) dM_times_21 rfl (fun h1 => ?_) (fun h1 => ?_)
    · have e : ztmS a b (i + 1) = ((ztmS a b i).1, zd (ztmS a b i).2) := by rw [ztmS, if_neg h1]
      rw [e] at ki
      refine z_iload_n (pc := 30) dM_times_30 rfl rfl ?_
      refine z_istore_n (L' := [(2, _), (4, _), (3, _), (0, _), (1, _)]) (pc := 31) dM_times_31 rfl (by decide) rfl ?_
      refine z_iload_n (pc := 32) dM_times_32 rfl rfl ?_
      refine z_callS (pc := 33) (m_doubled (ztmS_lt ha b i)) (by decide) zc_M_63 rfl rfl (Nat.le_of_ble_eq_true rfl) dM_times_33 (fun r A' B' hE => ?_)
      obtain ⟨rfl, rfl, rfl⟩ := hE
      refine z_r1 ?_
      refine z_istore_n (L' := [(3, _), (2, _), (4, _), (0, _), (1, _)]) (pc := 36) dM_times_36 rfl (by decide) rfl ?_
      refine z_iinc (L' := [(4, _), (3, _), (2, _), (0, _), (1, _)]) (pc := 37) dM_times_37 rfl zi_1 (by decide) rfl ?_
      refine z_goto (pc := 40) (tgt := 7) dM_times_40 rfl ?_
      exact ki
    · have e : ztmS a b (i + 1) = ((ztmS a b i).1 ^^^ (ztmS a b i).2, zd (ztmS a b i).2) := by rw [ztmS, if_pos h1]
      rw [e] at ki
      refine z_iload_n (pc := 24) dM_times_24 rfl rfl ?_
      refine z_iload_n (pc := 25) dM_times_25 rfl rfl ?_
      refine z_ixor (pc := 26) dM_times_26 ?_
      refine z_goto (pc := 27) (tgt := 31) dM_times_27 rfl ?_
      refine z_istore_n (L' := [(2, _), (4, _), (3, _), (0, _), (1, _)]) (pc := 31) dM_times_31 rfl (by decide) rfl ?_
      refine z_iload_n (pc := 32) dM_times_32 rfl rfl ?_
      refine z_callS (pc := 33) (m_doubled (ztmS_lt ha b i)) (by decide) zc_M_63 rfl rfl (Nat.le_of_ble_eq_true rfl) dM_times_33 (fun r A' B' hE => ?_)
      obtain ⟨rfl, rfl, rfl⟩ := hE
      refine z_r1 ?_
      refine z_istore_n (L' := [(3, _), (2, _), (4, _), (0, _), (1, _)]) (pc := 36) dM_times_36 rfl (by decide) rfl ?_
      refine z_iinc (L' := [(4, _), (3, _), (2, _), (0, _), (1, _)]) (pc := 37) dM_times_37 rfl zi_1 (by decide) rfl ?_
      refine z_goto (pc := 40) (tgt := 7) dM_times_40 rfl ?_
      exact ki
  · refine z_iload (pc := 7) dM_times_7 rfl ?_
    refine z_bipush (pc := 9) dM_times_9 zb_8 ?_
    refine z_icmp_ge (pc := 11) (by omega) (by omega) (tgt := 43) dM_times_11 rfl (fun h => ?_) (fun h => by exfalso; omega)
    refine z_iload_n (pc := 43) dM_times_43 rfl rfl ?_
    exact z_reti (pc := 44) dM_times_44 (hEx _ _ _ (⟨rfl, rfl, rfl⟩))
theorem m_addWords {r : Nat} (hr : r ≤ 10) : z_Met l g ad mM_addWords (z_rm 0) [.ref (ad 39), .int (nI r)] A B (z_eq none (z_map A 44 16 (fun j => A 44 j ^^^ A 43 (16 * r + j))) B) := by
  refine z_Met.of (L := [(0, _), (1, _)]) (by decide) (Nat.le_of_ble_eq_true rfl) (z_fit_eq rfl) rfl ?_
  intro Ex hEx
  refine z_iconst (pc := 0) dM_addWords_0 zi_0 ?_
  refine z_istore_n (L' := [(2, _), (0, _), (1, _)]) (pc := 1) dM_addWords_1 rfl (by decide) rfl ?_
  refine z_wd (z_map_0 A 44 (fun j => A 44 j ^^^ A 43 (16 * r + j))).symm rfl ?_
  refine z_for 16 (fun i => [(2, .int (nI i)), (0, .ref (ad 39)), (1, .int (nI r))]) (fun i => z_map A 44 i (fun j => A 44 j ^^^ A 43 (16 * r + j))) (fun i => B) (fun i hi ki => ?_) ?_
  · refine z_iload_n (pc := 2) dM_addWords_2 rfl rfl ?_
    refine z_bipush (pc := 3) dM_addWords_3 zb_16 ?_
    refine z_icmp_ge (pc := 5) (by omega) (by omega) (tgt := 38) dM_addWords_5 rfl (fun h => by exfalso; omega) (fun h => ?_)
    refine z_aload_n (pc := 8) dM_addWords_8 rfl rfl ?_
    refine z_getR (pc := 9) zo_39 rfl zf_M_22_6 dM_addWords_9 ?_
    refine z_iload_n (pc := 12) dM_addWords_12 rfl rfl ?_
    refine z_aload_n (pc := 13) dM_addWords_13 rfl rfl ?_
    refine z_getR (pc := 14) zo_39 rfl zf_M_22_6 dM_addWords_14 ?_
    refine z_iload_n (pc := 17) dM_addWords_17 rfl rfl ?_
    refine z_iaload (pc := 18) za_44 (by omega) dM_addWords_18 ?_
    refine z_aload_n (pc := 19) dM_addWords_19 rfl rfl ?_
    refine z_getR (pc := 20) zo_39 rfl zf_M_19_6 dM_addWords_20 ?_
    refine z_bipush (pc := 23) dM_addWords_23 zb_16 ?_
    refine z_iload_n (pc := 25) dM_addWords_25 rfl rfl ?_
    refine z_imul (pc := 26) dM_addWords_26 ?_
    refine z_iload_n (pc := 27) dM_addWords_27 rfl rfl ?_
    refine z_iadd (pc := 28) dM_addWords_28 ?_
    refine z_iaload (pc := 29) za_43 (by omega) dM_addWords_29 ?_
    refine z_ixor (pc := 30) dM_addWords_30 ?_
    refine z_iastore (pc := 31) za_44 (by omega) dM_addWords_31 ?_
    refine z_iinc (L' := [(2, _), (0, _), (1, _)]) (pc := 32) dM_addWords_32 rfl zi_1 (by decide) rfl ?_
    refine z_goto (pc := 35) (tgt := 2) dM_addWords_35 rfl ?_
    refine z_wd (z_map_set ?_) rfl ki
    rw [z_map_ge (Nat.le_refl _), z_map_ne (by decide)]
  · refine z_iload_n (pc := 2) dM_addWords_2 rfl rfl ?_
    refine z_bipush (pc := 3) dM_addWords_3 zb_16 ?_
    refine z_icmp_ge (pc := 5) (by omega) (by omega) (tgt := 38) dM_addWords_5 rfl (fun h => ?_) (fun h => by exfalso; omega)
    exact z_ret0 (pc := 38) dM_addWords_38 (hEx _ _ _ (⟨rfl, rfl, rfl⟩))
theorem m_mixed {c r : Nat} (hc : c < 4) (hr : r < 4) (ho : ∀ j, j < 16 → A 45 j < 256) : z_Met l g ad mM_mixed (z_rm 2) [.ref (ad 39), .int (nI c), .int (nI r)] A B (z_eq (some (.int (nI (zmx (A 45) (4 * c + r))))) A B) := by
  refine z_Met.of (L := [(0, _), (1, _), (2, _)]) (by decide) (Nat.le_of_ble_eq_true rfl) (z_fit_eq (Or.inl rfl)) rfl ?_
  intro Ex hEx
  refine z_aload_n (pc := 0) dM_mixed_0 rfl rfl ?_
  refine z_getR (pc := 1) zo_39 rfl zf_M_25_6 dM_mixed_1 ?_
  refine z_iconst (pc := 4) dM_mixed_4 zi_4 ?_
  refine z_iload_n (pc := 5) dM_mixed_5 rfl rfl ?_
  refine z_imul (pc := 6) dM_mixed_6 ?_
  refine z_iload_n (pc := 7) dM_mixed_7 rfl rfl ?_
  refine z_iadd (pc := 8) dM_mixed_8 ?_
  refine z_iaload (pc := 9) za_45 (by omega) dM_mixed_9 ?_
  refine z_istore_n (L' := [(3, _), (0, _), (1, _), (2, _)]) (pc := 10) dM_mixed_10 rfl (by decide) rfl ?_
  refine z_aload_n (pc := 11) dM_mixed_11 rfl rfl ?_
  refine z_getR (pc := 12) zo_39 rfl zf_M_25_6 dM_mixed_12 ?_
  refine z_iconst (pc := 15) dM_mixed_15 zi_4 ?_
  refine z_iload_n (pc := 16) dM_mixed_16 rfl rfl ?_
  refine z_imul (pc := 17) dM_mixed_17 ?_
  refine z_iload_n (pc := 18) dM_mixed_18 rfl rfl ?_
  refine z_iconst (pc := 19) dM_mixed_19 zi_1 ?_
  refine z_iadd (pc := 20) dM_mixed_20 ?_
  refine z_iconst (pc := 21) dM_mixed_21 zi_4 ?_
  refine z_irem (pc := 22) dM_mixed_22 (by omega) (by omega) (by omega) ?_
  refine z_iadd (pc := 23) dM_mixed_23 ?_
  refine z_iaload (pc := 24) za_45 (by omega) dM_mixed_24 ?_
  refine z_istore (L' := [(4, _), (3, _), (0, _), (1, _), (2, _)]) (pc := 25) dM_mixed_25 (by decide) rfl ?_
  refine z_iconst (pc := 27) dM_mixed_27 zi_2 ?_
  refine z_iload_n (pc := 28) dM_mixed_28 rfl rfl ?_
  refine z_callS (pc := 29) (m_times (by omega) (ho _ (by omega))) (by decide) zc_M_52 rfl rfl (Nat.le_of_ble_eq_true rfl) dM_mixed_29 (fun r A' B' hE => ?_)
  obtain ⟨rfl, rfl, rfl⟩ := hE
  refine z_r1 ?_
  refine z_iconst (pc := 32) dM_mixed_32 zi_3 ?_
  refine z_iload (pc := 33) dM_mixed_33 rfl ?_
  refine z_callS (pc := 35) (m_times (by omega) (ho _ (by omega))) (by decide) zc_M_52 rfl rfl (Nat.le_of_ble_eq_true rfl) dM_mixed_35 (fun r A' B' hE => ?_)
  obtain ⟨rfl, rfl, rfl⟩ := hE
  refine z_r1 ?_
  refine z_ixor (pc := 38) dM_mixed_38 ?_
  refine z_aload_n (pc := 39) dM_mixed_39 rfl rfl ?_
  refine z_getR (pc := 40) zo_39 rfl zf_M_25_6 dM_mixed_40 ?_
  refine z_iconst (pc := 43) dM_mixed_43 zi_4 ?_
  refine z_iload_n (pc := 44) dM_mixed_44 rfl rfl ?_
  refine z_imul (pc := 45) dM_mixed_45 ?_
  refine z_iload_n (pc := 46) dM_mixed_46 rfl rfl ?_
  refine z_iconst (pc := 47) dM_mixed_47 zi_2 ?_
  refine z_iadd (pc := 48) dM_mixed_48 ?_
  refine z_iconst (pc := 49) dM_mixed_49 zi_4 ?_
  refine z_irem (pc := 50) dM_mixed_50 (by omega) (by omega) (by omega) ?_
  refine z_iadd (pc := 51) dM_mixed_51 ?_
  refine z_iaload (pc := 52) za_45 (by omega) dM_mixed_52 ?_
  refine z_ixor (pc := 53) dM_mixed_53 ?_
  refine z_aload_n (pc := 54) dM_mixed_54 rfl rfl ?_
  refine z_getR (pc := 55) zo_39 rfl zf_M_25_6 dM_mixed_55 ?_
  refine z_iconst (pc := 58) dM_mixed_58 zi_4 ?_
  refine z_iload_n (pc := 59) dM_mixed_59 rfl rfl ?_
  refine z_imul (pc := 60) dM_mixed_60 ?_
  refine z_iload_n (pc := 61) dM_mixed_61 rfl rfl ?_
  refine z_iconst (pc := 62) dM_mixed_62 zi_3 ?_
  refine z_iadd (pc := 63) dM_mixed_63 ?_
  refine z_iconst (pc := 64) dM_mixed_64 zi_4 ?_
  refine z_irem (pc := 65) dM_mixed_65 (by omega) (by omega) (by omega) ?_
  refine z_iadd (pc := 66) dM_mixed_66 ?_
  refine z_iaload (pc := 67) za_45 (by omega) dM_mixed_67 ?_
  refine z_ixor (pc := 68) dM_mixed_68 ?_
  exact z_reti (pc := 69) dM_mixed_69 (hEx _ _ _ (⟨by rw [zmx, show (4 * c + r) / 4 = c by omega, show (4 * c + r) % 4 = r by omega, ztm2 _ (ho _ (by omega)), ztm3 _ (ho _ (by omega))], rfl, rfl⟩))
def zW1 (A : z_A) : Nat → Nat := fun j => if j < 16 then A 47 j else A 43 j
theorem zW1_lt {A : z_A} {j : Nat} (h : j < 16) : zW1 A j = A 47 j := if_pos h
theorem m_expand  (hb : z_box A 46) (hK : ∀ j, j < 16 → A 47 j < 256) : z_Met l g ad mM_expand (z_rm 1) [.ref (ad 39)] A B (z_vd (fun A' B' => B = B' ∧ (∀ k, k ≠ 43 → A' k = A k) ∧ ∀ j, j < 176 → A' 43 j = zKX (A 47) j)) := by
  refine z_Met.of (L := [(0, _)]) (by decide) (Nat.le_of_ble_eq_true rfl) z_fit_vd rfl ?_
  intro Ex hEx
  have hK0 : ∀ j, j < 16 → zW1 A j < 256 := fun j hj => by rw [zW1_lt hj]; exact hK j hj
  refine z_iconst (pc := 0) dM_expand_0 zi_0 ?_
  refine z_istore_n (L' := [(1, _), (0, _)]) (pc := 1) dM_expand_1 rfl (by decide) rfl ?_
  refine z_wd (z_map_0 A 43 (A 47)).symm rfl ?_
  refine z_for 16 (fun i => [(1, .int (nI i)), (0, .ref (ad 39))]) (fun i => z_map A 43 i (A 47)) (fun i => B) (fun i hi ki => ?_) ?_
  · refine z_iload_n (pc := 2) dM_expand_2 rfl rfl ?_
    refine z_bipush (pc := 3) dM_expand_3 zb_16 ?_
    refine z_icmp_ge (pc := 5) (by omega) (by omega) (tgt := 26) dM_expand_5 rfl (fun h => by exfalso; omega) (fun h => ?_)
    refine z_aload_n (pc := 8) dM_expand_8 rfl rfl ?_
    refine z_getR (pc := 9) zo_39 rfl zf_M_19_6 dM_expand_9 ?_
    refine z_iload_n (pc := 12) dM_expand_12 rfl rfl ?_
    refine z_aload_n (pc := 13) dM_expand_13 rfl rfl ?_
    refine z_getR (pc := 14) zo_39 rfl zf_M_31_6 dM_expand_14 ?_
    refine z_iload_n (pc := 17) dM_expand_17 rfl rfl ?_
    refine z_iaload (pc := 18) za_47 (by omega) dM_expand_18 ?_
    refine z_iastore (pc := 19) za_43 (by omega) dM_expand_19 ?_
    refine z_iinc (L' := [(1, _), (0, _)]) (pc := 20) dM_expand_20 rfl zi_1 (by decide) rfl ?_
    refine z_goto (pc := 23) (tgt := 2) dM_expand_23 rfl ?_
    refine z_wd (z_map_set ?_) rfl ki
    rw [z_map_ne (by decide)]
  · refine z_iload_n (pc := 2) dM_expand_2 rfl rfl ?_
    refine z_bipush (pc := 3) dM_expand_3 zb_16 ?_
    refine z_icmp_ge (pc := 5) (by omega) (by omega) (tgt := 26) dM_expand_5 rfl (fun h => ?_) (fun h => by exfalso; omega)
    refine z_iconst (pc := 26) dM_expand_26 zi_1 ?_
    refine z_istore_n (L' := [(1, _), (0, _)]) (pc := 27) dM_expand_27 rfl (by decide) rfl ?_
    refine z_iconst (pc := 28) dM_expand_28 zi_4 ?_
    refine z_istore_n (L' := [(2, _), (1, _), (0, _)]) (pc := 29) dM_expand_29 rfl (by decide) rfl ?_
    refine z_wd (A' := va_up A 43 (zkS (zW1 A) 0).1) rfl rfl ?_
    refine z_for 40 (fun m => [(2, .int (nI (m + 4))), (1, .int (nI ((zkS (zW1 A) m).2))), (0, .ref (ad 39))]) (fun m => va_up A 43 (zkS (zW1 A) m).1) (fun m => B) (fun m hm km => ?_) ?_
    · refine z_iload_n (pc := 30) dM_expand_30 rfl rfl ?_
      refine z_bipush (pc := 31) dM_expand_31 zb_44 ?_
      refine z_icmp_ge (pc := 33) (by omega) (by omega) (tgt := 154) dM_expand_33 rfl (fun h => by exfalso; omega) (fun h => ?_)
      refine z_iconst (pc := 36) dM_expand_36 zi_0 ?_
      refine z_istore_n (L' := [(3, _), (2, _), (1, _), (0, _)]) (pc := 37) dM_expand_37 rfl (by decide) rfl ?_
      by_cases h4 : (m + 4) % 4 = 0
      · have e : zkS (zW1 A) (m + 1) = (zkB (zkS (zW1 A) m).1 (m + 4) (zkS (zW1 A) m).2, zd (zkS (zW1 A) m).2) := by rw [zkS, if_pos h4]
        rw [e] at km
        refine z_wd (z_seg_0 (va_up A 43 (zkS (zW1 A) m).1) 43 (4 * (m + 4)) (zkw2 ((va_up A 43 (zkS (zW1 A) m).1) 43) (m + 4))).symm rfl ?_
        refine z_for 4 (fun r => [(3, .int (nI r)), (2, .int (nI (m + 4))), (1, .int (nI ((zkS (zW1 A) m).2))), (0, .ref (ad 39))]) (fun r => z_seg (va_up A 43 (zkS (zW1 A) m).1) 43 (4 * (m + 4)) r (zkw2 ((va_up A 43 (zkS (zW1 A) m).1) 43) (m + 4))) (fun r => B) (fun r hr kr => ?_) ?_
        · refine z_iload_n (pc := 38) dM_expand_38 rfl rfl ?_
          refine z_iconst (pc := 39) dM_expand_39 zi_4 ?_
          refine z_icmp_ge (pc := 40) (by omega) (by omega) (tgt := 119) dM_expand_40 rfl (fun h => by exfalso; omega) (fun h => ?_)
          refine z_iload_n (pc := 43) dM_expand_43 rfl rfl ?_
          refine z_iconst (pc := 44) dM_expand_44 zi_4 ?_
          refine z_irem (pc := 45) dM_expand_45 (by omega) (by omega) (by omega) ?_
          refine z_if_ne (pc := 46) (by omega) (tgt := 73) dM_expand_46 rfl (fun h => by exfalso; omega) (fun h => ?_)
          refine z_aload_n (pc := 49) dM_expand_49 rfl rfl ?_
          refine z_getR (pc := 50) zo_39 rfl zf_M_28_6 dM_expand_50 ?_
          refine z_aload_n (pc := 53) dM_expand_53 rfl rfl ?_
          refine z_getR (pc := 54) zo_39 rfl zf_M_19_6 dM_expand_54 ?_
          refine z_iconst (pc := 57) dM_expand_57 zi_4 ?_
          refine z_iload_n (pc := 58) dM_expand_58 rfl rfl ?_
          refine z_imul (pc := 59) dM_expand_59 ?_
          refine z_iconst (pc := 60) dM_expand_60 zi_4 ?_
          refine z_isub (pc := 61) dM_expand_61 (by omega) ?_
          refine z_iload_n (pc := 62) dM_expand_62 rfl rfl ?_
          refine z_iconst (pc := 63) dM_expand_63 zi_1 ?_
          refine z_iadd (pc := 64) dM_expand_64 ?_
          refine z_iconst (pc := 65) dM_expand_65 zi_4 ?_
          refine z_irem (pc := 66) dM_expand_66 (by omega) (by omega) (by omega) ?_
          refine z_iadd (pc := 67) dM_expand_67 ?_
          refine z_iaload (pc := 68) za_43 (by omega) dM_expand_68 ?_
          refine z_iaload (pc := 69) za_46 (by rw [z_seg_out (Or.inl (by omega)), va_up_self]; exact zkS_by hK0 m _ (by omega)) dM_expand_69 ?_
          refine z_goto (pc := 70) (tgt := 85) dM_expand_70 rfl ?_
          refine z_istore (L' := [(4, _), (3, _), (2, _), (1, _), (0, _)]) (pc := 85) dM_expand_85 (by decide) rfl ?_
          refine z_aload_n (pc := 87) dM_expand_87 rfl rfl ?_
          refine z_getR (pc := 88) zo_39 rfl zf_M_19_6 dM_expand_88 ?_
          refine z_iconst (pc := 91) dM_expand_91 zi_4 ?_
          refine z_iload_n (pc := 92) dM_expand_92 rfl rfl ?_
          refine z_imul (pc := 93) dM_expand_93 ?_
          refine z_iload_n (pc := 94) dM_expand_94 rfl rfl ?_
          refine z_iadd (pc := 95) dM_expand_95 ?_
          refine z_aload_n (pc := 96) dM_expand_96 rfl rfl ?_
          refine z_getR (pc := 97) zo_39 rfl zf_M_19_6 dM_expand_97 ?_
          refine z_iconst (pc := 100) dM_expand_100 zi_4 ?_
          refine z_iload_n (pc := 101) dM_expand_101 rfl rfl ?_
          refine z_imul (pc := 102) dM_expand_102 ?_
          refine z_bipush (pc := 103) dM_expand_103 zb_16 ?_
          refine z_isub (pc := 105) dM_expand_105 (by omega) ?_
          refine z_iload_n (pc := 106) dM_expand_106 rfl rfl ?_
          refine z_iadd (pc := 107) dM_expand_107 ?_
          refine z_iaload (pc := 108) za_43 (by omega) dM_expand_108 ?_
          refine z_iload (pc := 109) dM_expand_109 rfl ?_
          refine z_ixor (pc := 111) dM_expand_111 ?_
          refine z_iastore (pc := 112) za_43 (by omega) dM_expand_112 ?_
          refine z_iinc (L' := [(3, _), (4, _), (2, _), (1, _), (0, _)]) (pc := 113) dM_expand_113 rfl zi_1 (by decide) rfl ?_
          refine z_goto (pc := 116) (tgt := 38) dM_expand_116 rfl ?_
          refine z_ls (L' := [(3, _), (2, _), (1, _), (0, _)]) [0, 2, 3, 4] rfl ?_
          refine z_wd (z_seg_set ?_) rfl kr
          rw [z_seg_out (Or.inl (by omega)), z_seg_out (Or.inl (by omega)), z_seg_ne (i := 46) (by decide), va_up_ne (j := 46) _ _ (by decide), va_up_self, hb _ (zkS_by hK0 m _ (by omega)), zkw2, Nat.add_sub_cancel_left, show 4 * (m + 4) - 16 + r = 4 * (m + 4 - 4) + r by omega, show 4 * (m + 4) - 4 + (r + 1) % 4 = 4 * (m + 4 - 1) + (r + 1) % 4 by omega]
        · refine z_iload_n (pc := 38) dM_expand_38 rfl rfl ?_
          refine z_iconst (pc := 39) dM_expand_39 zi_4 ?_
          refine z_icmp_ge (pc := 40) (by omega) (by omega) (tgt := 119) dM_expand_40 rfl (fun h => ?_) (fun h => by exfalso; omega)
          refine z_iload_n (pc := 119) dM_expand_119 rfl rfl ?_
          refine z_iconst (pc := 120) dM_expand_120 zi_4 ?_
          refine z_irem (pc := 121) dM_expand_121 (by omega) (by omega) (by omega) ?_
          refine z_if_ne (pc := 122) (by omega) (tgt := 148) dM_expand_122 rfl (fun h => by exfalso; omega) (fun h => ?_)
          refine z_aload_n (pc := 125) dM_expand_125 rfl rfl ?_
          refine z_getR (pc := 126) zo_39 rfl zf_M_19_6 dM_expand_126 ?_
          refine z_iconst (pc := 129) dM_expand_129 zi_4 ?_
          refine z_iload_n (pc := 130) dM_expand_130 rfl rfl ?_
          refine z_imul (pc := 131) dM_expand_131 ?_
          refine z_aload_n (pc := 132) dM_expand_132 rfl rfl ?_
          refine z_getR (pc := 133) zo_39 rfl zf_M_19_6 dM_expand_133 ?_
          refine z_iconst (pc := 136) dM_expand_136 zi_4 ?_
          refine z_iload_n (pc := 137) dM_expand_137 rfl rfl ?_
          refine z_imul (pc := 138) dM_expand_138 ?_
          refine z_iaload (pc := 139) za_43 (by omega) dM_expand_139 ?_
          refine z_iload_n (pc := 140) dM_expand_140 rfl rfl ?_
          refine z_ixor (pc := 141) dM_expand_141 ?_
          refine z_iastore (pc := 142) za_43 (by omega) dM_expand_142 ?_
          refine z_iload_n (pc := 143) dM_expand_143 rfl rfl ?_
          refine z_callS (pc := 144) (m_doubled (zkS_c _ _)) (by decide) zc_M_63 rfl rfl (Nat.le_of_ble_eq_true rfl) dM_expand_144 (fun r A' B' hE => ?_)
          obtain ⟨rfl, rfl, rfl⟩ := hE
          refine z_r1 ?_
          refine z_istore_n (L' := [(1, _), (3, _), (2, _), (0, _)]) (pc := 147) dM_expand_147 rfl (by decide) rfl ?_
          refine z_iinc (L' := [(2, _), (1, _), (3, _), (0, _)]) (pc := 148) dM_expand_148 rfl zi_1 (by decide) rfl ?_
          refine z_goto (pc := 151) (tgt := 30) dM_expand_151 rfl ?_
          refine z_ls (L' := [(2, _), (1, _), (0, _)]) [0, 1, 3] rfl ?_
          refine z_wd ?_ rfl km
          rw [z_kB, z_up_up, va_up_self]
      · have e : zkS (zW1 A) (m + 1) = (zkA (zkS (zW1 A) m).1 (m + 4), (zkS (zW1 A) m).2) := by rw [zkS, if_neg h4]
        rw [e] at km
        refine z_wd (z_seg_0 (va_up A 43 (zkS (zW1 A) m).1) 43 (4 * (m + 4)) (zkw1 ((va_up A 43 (zkS (zW1 A) m).1) 43) (m + 4))).symm rfl ?_
        refine z_for 4 (fun r => [(3, .int (nI r)), (2, .int (nI (m + 4))), (1, .int (nI ((zkS (zW1 A) m).2))), (0, .ref (ad 39))]) (fun r => z_seg (va_up A 43 (zkS (zW1 A) m).1) 43 (4 * (m + 4)) r (zkw1 ((va_up A 43 (zkS (zW1 A) m).1) 43) (m + 4))) (fun r => B) (fun r hr kr => ?_) ?_
        · refine z_iload_n (pc := 38) dM_expand_38 rfl rfl ?_
          refine z_iconst (pc := 39) dM_expand_39 zi_4 ?_
          refine z_icmp_ge (pc := 40) (by omega) (by omega) (tgt := 119) dM_expand_40 rfl (fun h => by exfalso; omega) (fun h => ?_)
          refine z_iload_n (pc := 43) dM_expand_43 rfl rfl ?_
          refine z_iconst (pc := 44) dM_expand_44 zi_4 ?_
          refine z_irem (pc := 45) dM_expand_45 (by omega) (by omega) (by omega) ?_
          refine z_if_ne (pc := 46) (by omega) (tgt := 73) dM_expand_46 rfl (fun h => ?_) (fun h => by exfalso; omega)
          refine z_aload_n (pc := 73) dM_expand_73 rfl rfl ?_
          refine z_getR (pc := 74) zo_39 rfl zf_M_19_6 dM_expand_74 ?_
          refine z_iconst (pc := 77) dM_expand_77 zi_4 ?_
          refine z_iload_n (pc := 78) dM_expand_78 rfl rfl ?_
          refine z_imul (pc := 79) dM_expand_79 ?_
          refine z_iconst (pc := 80) dM_expand_80 zi_4 ?_
          refine z_isub (pc := 81) dM_expand_81 (by omega) ?_
          refine z_iload_n (pc := 82) dM_expand_82 rfl rfl ?_
          refine z_iadd (pc := 83) dM_expand_83 ?_
          refine z_iaload (pc := 84) za_43 (by omega) dM_expand_84 ?_
          refine z_istore (L' := [(4, _), (3, _), (2, _), (1, _), (0, _)]) (pc := 85) dM_expand_85 (by decide) rfl ?_
          refine z_aload_n (pc := 87) dM_expand_87 rfl rfl ?_
          refine z_getR (pc := 88) zo_39 rfl zf_M_19_6 dM_expand_88 ?_
          refine z_iconst (pc := 91) dM_expand_91 zi_4 ?_
          refine z_iload_n (pc := 92) dM_expand_92 rfl rfl ?_
          refine z_imul (pc := 93) dM_expand_93 ?_
          refine z_iload_n (pc := 94) dM_expand_94 rfl rfl ?_
          refine z_iadd (pc := 95) dM_expand_95 ?_
          refine z_aload_n (pc := 96) dM_expand_96 rfl rfl ?_
          refine z_getR (pc := 97) zo_39 rfl zf_M_19_6 dM_expand_97 ?_
          refine z_iconst (pc := 100) dM_expand_100 zi_4 ?_
          refine z_iload_n (pc := 101) dM_expand_101 rfl rfl ?_
          refine z_imul (pc := 102) dM_expand_102 ?_
          refine z_bipush (pc := 103) dM_expand_103 zb_16 ?_
          refine z_isub (pc := 105) dM_expand_105 (by omega) ?_
          refine z_iload_n (pc := 106) dM_expand_106 rfl rfl ?_
          refine z_iadd (pc := 107) dM_expand_107 ?_
          refine z_iaload (pc := 108) za_43 (by omega) dM_expand_108 ?_
          refine z_iload (pc := 109) dM_expand_109 rfl ?_
          refine z_ixor (pc := 111) dM_expand_111 ?_
          refine z_iastore (pc := 112) za_43 (by omega) dM_expand_112 ?_
          refine z_iinc (L' := [(3, _), (4, _), (2, _), (1, _), (0, _)]) (pc := 113) dM_expand_113 rfl zi_1 (by decide) rfl ?_
          refine z_goto (pc := 116) (tgt := 38) dM_expand_116 rfl ?_
          refine z_ls (L' := [(3, _), (2, _), (1, _), (0, _)]) [0, 2, 3, 4] rfl ?_
          refine z_wd (z_seg_set ?_) rfl kr
          rw [z_seg_out (Or.inl (by omega)), z_seg_out (Or.inl (by omega)), zkw1, Nat.add_sub_cancel_left, show 4 * (m + 4) - 16 + r = 4 * (m + 4 - 4) + r by omega, show 4 * (m + 4) - 4 + r = 4 * (m + 4 - 1) + r by omega]
        · refine z_iload_n (pc := 38) dM_expand_38 rfl rfl ?_
          refine z_iconst (pc := 39) dM_expand_39 zi_4 ?_
          refine z_icmp_ge (pc := 40) (by omega) (by omega) (tgt := 119) dM_expand_40 rfl (fun h => ?_) (fun h => by exfalso; omega)
          refine z_iload_n (pc := 119) dM_expand_119 rfl rfl ?_
          refine z_iconst (pc := 120) dM_expand_120 zi_4 ?_
          refine z_irem (pc := 121) dM_expand_121 (by omega) (by omega) (by omega) ?_
          refine z_if_ne (pc := 122) (by omega) (tgt := 148) dM_expand_122 rfl (fun h => ?_) (fun h => by exfalso; omega)
          refine z_iinc (L' := [(2, _), (3, _), (1, _), (0, _)]) (pc := 148) dM_expand_148 rfl zi_1 (by decide) rfl ?_
          refine z_goto (pc := 151) (tgt := 30) dM_expand_151 rfl ?_
          refine z_ls (L' := [(2, _), (1, _), (0, _)]) [0, 2, 3] rfl ?_
          refine z_wd ?_ rfl km
          show va_up (va_up A 43 (zkS (zW1 A) m).1) 43 (zkA ((va_up A 43 (zkS (zW1 A) m).1) 43) (m + 4)) = _
          rw [z_up_up, va_up_self]
    · refine z_iload_n (pc := 30) dM_expand_30 rfl rfl ?_
      refine z_bipush (pc := 31) dM_expand_31 zb_44 ?_
      refine z_icmp_ge (pc := 33) (by omega) (by omega) (tgt := 154) dM_expand_33 rfl (fun h => ?_) (fun h => by exfalso; omega)
      exact z_ret0 (pc := 154) dM_expand_154 (hEx _ _ _ (⟨rfl, rfl, fun k hk => va_up_ne _ _ hk, fun j hj => by rw [va_up_self]; exact (zkS_cg (fun j' h' => zW1_lt h') 40).2 j (by omega)⟩))
theorem m_encipher  (hb : z_box A 46) (hK : ∀ j, j < 16 → A 47 j < 256) (hX : ∀ j, j < 16 → A 48 j < 256) : z_Met l g ad mM_encipher (z_rm 3) [.ref (ad 39)] A B (z_vd (fun A' B' => B = B' ∧ (∀ k, k ≠ 43 → k ≠ 44 → k ≠ 45 → k ≠ 48 → A' k = A k) ∧ ∀ j, j < 16 → A' 48 j = zE (A 47) (A 48) j)) := by
  refine z_Met.of (L := [(0, _)]) (by decide) (Nat.le_of_ble_eq_true rfl) z_fit_vd rfl ?_
  intro Ex hEx
  have hKb := zKX_by hK
  refine z_aload_n (pc := 0) dM_encipher_0 rfl rfl ?_
  refine z_callV (pc := 1) (m_expand hb hK) (by decide) zo_39 rfl zc_M_67 rfl rfl (Nat.le_of_ble_eq_true rfl) dM_encipher_1 (fun r A' B' hE => ?_)
  obtain ⟨rfl, rfl, hA0, hW0⟩ := hE
  refine z_r0 ?_
  refine z_iconst (pc := 4) dM_encipher_4 zi_0 ?_
  refine z_istore_n (L' := [(1, _), (0, _)]) (pc := 5) dM_encipher_5 rfl (by decide) rfl ?_
  refine z_wd (z_map_0 A' 44 (A' 48)).symm rfl ?_
  refine z_for 16 (fun i => [(1, .int (nI i)), (0, .ref (ad 39))]) (fun i => z_map A' 44 i (A' 48)) (fun i => B) (fun i hi ki => ?_) ?_
  · refine z_iload_n (pc := 6) dM_encipher_6 rfl rfl ?_
    refine z_bipush (pc := 7) dM_encipher_7 zb_16 ?_
    refine z_icmp_ge (pc := 9) (by omega) (by omega) (tgt := 30) dM_encipher_9 rfl (fun h => by exfalso; omega) (fun h => ?_)
    refine z_aload_n (pc := 12) dM_encipher_12 rfl rfl ?_
    refine z_getR (pc := 13) zo_39 rfl zf_M_22_6 dM_encipher_13 ?_
    refine z_iload_n (pc := 16) dM_encipher_16 rfl rfl ?_
    refine z_aload_n (pc := 17) dM_encipher_17 rfl rfl ?_
    refine z_getR (pc := 18) zo_39 rfl zf_M_34_6 dM_encipher_18 ?_
    refine z_iload_n (pc := 21) dM_encipher_21 rfl rfl ?_
    refine z_iaload (pc := 22) za_48 (by omega) dM_encipher_22 ?_
    refine z_iastore (pc := 23) za_44 (by omega) dM_encipher_23 ?_
    refine z_iinc (L' := [(1, _), (0, _)]) (pc := 24) dM_encipher_24 rfl zi_1 (by decide) rfl ?_
    refine z_goto (pc := 27) (tgt := 6) dM_encipher_27 rfl ?_
    refine z_wd (z_map_set ?_) rfl ki
    rw [z_map_ne (by decide)]
  · refine z_iload_n (pc := 6) dM_encipher_6 rfl rfl ?_
    refine z_bipush (pc := 7) dM_encipher_7 zb_16 ?_
    refine z_icmp_ge (pc := 9) (by omega) (by omega) (tgt := 30) dM_encipher_9 rfl (fun h => ?_) (fun h => by exfalso; omega)
    refine z_aload_n (pc := 30) dM_encipher_30 rfl rfl ?_
    refine z_iconst (pc := 31) dM_encipher_31 zi_0 ?_
    refine z_callV (pc := 32) (m_addWords (r := 0) (by omega)) (by decide) zo_39 rfl zc_M_70 rfl rfl (Nat.le_of_ble_eq_true rfl) dM_encipher_32 (fun r A' B' hE => ?_)
    obtain ⟨rfl, rfl, rfl⟩ := hE
    refine z_r0 ?_
    refine z_iconst (pc := 35) dM_encipher_35 zi_1 ?_
    refine z_istore_n (L' := [(1, _), (0, _)]) (pc := 36) dM_encipher_36 rfl (by decide) rfl ?_
    refine z_loop 10 (fun m L A' B' => L = [(1, .int (nI (m + 1))), (0, .ref (ad 39))] ∧ B = B' ∧ (∀ k, k ≠ 43 → k ≠ 44 → k ≠ 45 → A' k = A k) ∧ (∀ j, j < 176 → A' 43 j = zKX (A 47) j) ∧ ∀ j, j < 16 → A' 44 j = zEs (zKX (A 47)) (A 48) m j) ?_ ?_ _ _ _ ⟨rfl, rfl, ?_, ?_, ?_⟩
    · rintro m L A1 B1 hm ⟨rfl, rfl, hA, hW, hs⟩ km
      have hsb := zEs_by hKb hX m (by omega)
      have hb1 : z_box A1 46 := fun j hj => by rw [hA 46 (by decide) (by decide) (by decide)]; exact hb j hj
      refine z_iload_n (pc := 37) dM_encipher_37 rfl rfl ?_
      refine z_bipush (pc := 38) dM_encipher_38 zb_10 ?_
      refine z_icmp_gt (pc := 40) (by omega) (by omega) (tgt := 170) dM_encipher_40 rfl (fun h => by exfalso; omega) (fun h => ?_)
      refine z_iconst (pc := 43) dM_encipher_43 zi_0 ?_
      refine z_istore_n (L' := [(2, _), (1, _), (0, _)]) (pc := 44) dM_encipher_44 rfl (by decide) rfl ?_
      refine z_wd (z_map_0 A1 45 (zmv (A1 44))).symm rfl ?_
      refine z_for 4 (fun c => [(2, .int (nI c)), (1, .int (nI (m + 1))), (0, .ref (ad 39))]) (fun c => z_map A1 45 (4 * c) (zmv (A1 44))) (fun c => B) (fun c hc kc => ?_) ?_
      · refine z_iload_n (pc := 45) dM_encipher_45 rfl rfl ?_
        refine z_iconst (pc := 46) dM_encipher_46 zi_4 ?_
        refine z_icmp_ge (pc := 47) (by omega) (by omega) (tgt := 98) dM_encipher_47 rfl (fun h => by exfalso; omega) (fun h => ?_)
        refine z_iconst (pc := 50) dM_encipher_50 zi_0 ?_
        refine z_istore_n (L' := [(3, _), (2, _), (1, _), (0, _)]) (pc := 51) dM_encipher_51 rfl (by decide) rfl ?_
        refine z_for 4 (fun r => [(3, .int (nI r)), (2, .int (nI c)), (1, .int (nI (m + 1))), (0, .ref (ad 39))]) (fun r => z_map A1 45 (4 * c + r) (zmv (A1 44))) (fun r => B) (fun r hr kr => ?_) ?_
        · refine z_iload_n (pc := 52) dM_encipher_52 rfl rfl ?_
          refine z_iconst (pc := 53) dM_encipher_53 zi_4 ?_
          refine z_icmp_ge (pc := 54) (by omega) (by omega) (tgt := 92) dM_encipher_54 rfl (fun h => by exfalso; omega) (fun h => ?_)
          refine z_aload_n (pc := 57) dM_encipher_57 rfl rfl ?_
          refine z_getR (pc := 58) zo_39 rfl zf_M_25_6 dM_encipher_58 ?_
          refine z_iconst (pc := 61) dM_encipher_61 zi_4 ?_
          refine z_iload_n (pc := 62) dM_encipher_62 rfl rfl ?_
          refine z_imul (pc := 63) dM_encipher_63 ?_
          refine z_iload_n (pc := 64) dM_encipher_64 rfl rfl ?_
          refine z_iadd (pc := 65) dM_encipher_65 ?_
          refine z_aload_n (pc := 66) dM_encipher_66 rfl rfl ?_
          refine z_getR (pc := 67) zo_39 rfl zf_M_28_6 dM_encipher_67 ?_
          refine z_aload_n (pc := 70) dM_encipher_70 rfl rfl ?_
          refine z_getR (pc := 71) zo_39 rfl zf_M_22_6 dM_encipher_71 ?_
          refine z_iconst (pc := 74) dM_encipher_74 zi_4 ?_
          refine z_iload_n (pc := 75) dM_encipher_75 rfl rfl ?_
          refine z_iload_n (pc := 76) dM_encipher_76 rfl rfl ?_
          refine z_iadd (pc := 77) dM_encipher_77 ?_
          refine z_iconst (pc := 78) dM_encipher_78 zi_4 ?_
          refine z_irem (pc := 79) dM_encipher_79 (by omega) (by omega) (by omega) ?_
          refine z_imul (pc := 80) dM_encipher_80 ?_
          refine z_iload_n (pc := 81) dM_encipher_81 rfl rfl ?_
          refine z_iadd (pc := 82) dM_encipher_82 ?_
          refine z_iaload (pc := 83) za_44 (by omega) dM_encipher_83 ?_
          refine z_iaload (pc := 84) za_46 (by rw [z_map_ne (by decide), hs _ (by omega)]; exact hsb _ (by omega)) dM_encipher_84 ?_
          refine z_iastore (pc := 85) za_45 (by omega) dM_encipher_85 ?_
          refine z_iinc (L' := [(3, _), (2, _), (1, _), (0, _)]) (pc := 86) dM_encipher_86 rfl zi_1 (by decide) rfl ?_
          refine z_goto (pc := 89) (tgt := 52) dM_encipher_89 rfl ?_
          refine z_wd (z_map_set ?_) rfl kr
          rw [z_map_ne (by decide), z_map_ne (by decide), hb1 _ (by rw [hs _ (by omega)]; exact hsb _ (by omega)), zmv, show (4 * c + r) / 4 = c by omega, show (4 * c + r) % 4 = r by omega]
        · refine z_iload_n (pc := 52) dM_encipher_52 rfl rfl ?_
          refine z_iconst (pc := 53) dM_encipher_53 zi_4 ?_
          refine z_icmp_ge (pc := 54) (by omega) (by omega) (tgt := 92) dM_encipher_54 rfl (fun h => ?_) (fun h => by exfalso; omega)
          refine z_iinc (L' := [(2, _), (3, _), (1, _), (0, _)]) (pc := 92) dM_encipher_92 rfl zi_1 (by decide) rfl ?_
          refine z_goto (pc := 95) (tgt := 45) dM_encipher_95 rfl ?_
          refine z_ls (L' := [(2, _), (1, _), (0, _)]) [0, 2, 3] rfl ?_
          exact z_wd (by rw [show 4 * (c + 1) = 4 * c + 4 by omega]) rfl kc
      · refine z_iload_n (pc := 45) dM_encipher_45 rfl rfl ?_
        refine z_iconst (pc := 46) dM_encipher_46 zi_4 ?_
        refine z_icmp_ge (pc := 47) (by omega) (by omega) (tgt := 98) dM_encipher_47 rfl (fun h => ?_) (fun h => by exfalso; omega)
        refine z_iconst (pc := 98) dM_encipher_98 zi_0 ?_
        refine z_istore_n (L' := [(2, _), (1, _), (0, _)]) (pc := 99) dM_encipher_99 rfl (by decide) rfl ?_
        refine z_wd (z_map_0 (z_map A1 45 16 (zmv (A1 44))) 44 (fun j => if m + 1 < 10 then zmx ((z_map A1 45 16 (zmv (A1 44))) 45) j else (z_map A1 45 16 (zmv (A1 44))) 45 j)).symm rfl ?_
        refine z_for 4 (fun c => [(2, .int (nI c)), (1, .int (nI (m + 1))), (0, .ref (ad 39))]) (fun c => z_map (z_map A1 45 16 (zmv (A1 44))) 44 (4 * c) (fun j => if m + 1 < 10 then zmx ((z_map A1 45 16 (zmv (A1 44))) 45) j else (z_map A1 45 16 (zmv (A1 44))) 45 j)) (fun c => B) (fun c hc kc => ?_) ?_
        · refine z_iload_n (pc := 100) dM_encipher_100 rfl rfl ?_
          refine z_iconst (pc := 101) dM_encipher_101 zi_4 ?_
          refine z_icmp_ge (pc := 102) (by omega) (by omega) (tgt := 159) dM_encipher_102 rfl (fun h => by exfalso; omega) (fun h => ?_)
          refine z_iconst (pc := 105) dM_encipher_105 zi_0 ?_
          refine z_istore_n (L' := [(3, _), (2, _), (1, _), (0, _)]) (pc := 106) dM_encipher_106 rfl (by decide) rfl ?_
          refine z_for 4 (fun r => [(3, .int (nI r)), (2, .int (nI c)), (1, .int (nI (m + 1))), (0, .ref (ad 39))]) (fun r => z_map (z_map A1 45 16 (zmv (A1 44))) 44 (4 * c + r) (fun j => if m + 1 < 10 then zmx ((z_map A1 45 16 (zmv (A1 44))) 45) j else (z_map A1 45 16 (zmv (A1 44))) 45 j)) (fun r => B) (fun r hr kr => ?_) ?_
          · refine z_iload_n (pc := 107) dM_encipher_107 rfl rfl ?_
            refine z_iconst (pc := 108) dM_encipher_108 zi_4 ?_
            refine z_icmp_ge (pc := 109) (by omega) (by omega) (tgt := 153) dM_encipher_109 rfl (fun h => by exfalso; omega) (fun h => ?_)
            refine z_aload_n (pc := 112) dM_encipher_112 rfl rfl ?_
            refine z_getR (pc := 113) zo_39 rfl zf_M_22_6 dM_encipher_113 ?_
            refine z_iconst (pc := 116) dM_encipher_116 zi_4 ?_
            refine z_iload_n (pc := 117) dM_encipher_117 rfl rfl ?_
            refine z_imul (pc := 118) dM_encipher_118 ?_
            refine z_iload_n (pc := 119) dM_encipher_119 rfl rfl ?_
            refine z_iadd (pc := 120) dM_encipher_120 ?_
            refine z_iload_n (pc := 121) dM_encipher_121 rfl rfl ?_
            refine z_bipush (pc := 122) dM_encipher_122 zb_10 ?_
            refine z_icmp_ne (pc := 124) (by omega) (by omega) (tgt := 140) dM_encipher_124 rfl (fun h9 => ?_) (fun h9 => ?_)
            · refine z_aload_n (pc := 140) dM_encipher_140 rfl rfl ?_
              refine z_iload_n (pc := 141) dM_encipher_141 rfl rfl ?_
              refine z_iload_n (pc := 142) dM_encipher_142 rfl rfl ?_
              refine z_callV (pc := 143) (m_mixed hc hr (fun j hj => by rw [z_map_ne (by decide), z_map_lt hj]; exact zmv_lt (fun j' h' => by rw [hs j' h']; exact hsb j' h') j hj)) (by decide) zo_39 rfl zc_M_74 rfl rfl (Nat.le_of_ble_eq_true rfl) dM_encipher_143 (fun r A' B' hE => ?_)
              obtain ⟨rfl, rfl, rfl⟩ := hE
              refine z_r1 ?_
              refine z_iastore (pc := 146) za_44 (by omega) dM_encipher_146 ?_
              refine z_iinc (L' := [(3, _), (2, _), (1, _), (0, _)]) (pc := 147) dM_encipher_147 rfl zi_1 (by decide) rfl ?_
              refine z_goto (pc := 150) (tgt := 107) dM_encipher_150 rfl ?_
              refine z_wd (z_map_set ?_) rfl kr
              first | rw [z_map_ne (by decide), if_neg (by omega)] | rw [z_map_ne (by decide), if_pos (by omega)]
            · refine z_aload_n (pc := 127) dM_encipher_127 rfl rfl ?_
              refine z_getR (pc := 128) zo_39 rfl zf_M_25_6 dM_encipher_128 ?_
              refine z_iconst (pc := 131) dM_encipher_131 zi_4 ?_
              refine z_iload_n (pc := 132) dM_encipher_132 rfl rfl ?_
              refine z_imul (pc := 133) dM_encipher_133 ?_
              refine z_iload_n (pc := 134) dM_encipher_134 rfl rfl ?_
              refine z_iadd (pc := 135) dM_encipher_135 ?_
              refine z_iaload (pc := 136) za_45 (by omega) dM_encipher_136 ?_
              refine z_goto (pc := 137) (tgt := 146) dM_encipher_137 rfl ?_
              refine z_iastore (pc := 146) za_44 (by omega) dM_encipher_146 ?_
              refine z_iinc (L' := [(3, _), (2, _), (1, _), (0, _)]) (pc := 147) dM_encipher_147 rfl zi_1 (by decide) rfl ?_
              refine z_goto (pc := 150) (tgt := 107) dM_encipher_150 rfl ?_
              refine z_wd (z_map_set ?_) rfl kr
              first | rw [z_map_ne (by decide), if_neg (by omega)] | rw [z_map_ne (by decide), if_pos (by omega)]
          · refine z_iload_n (pc := 107) dM_encipher_107 rfl rfl ?_
            refine z_iconst (pc := 108) dM_encipher_108 zi_4 ?_
            refine z_icmp_ge (pc := 109) (by omega) (by omega) (tgt := 153) dM_encipher_109 rfl (fun h => ?_) (fun h => by exfalso; omega)
            refine z_iinc (L' := [(2, _), (3, _), (1, _), (0, _)]) (pc := 153) dM_encipher_153 rfl zi_1 (by decide) rfl ?_
            refine z_goto (pc := 156) (tgt := 100) dM_encipher_156 rfl ?_
            refine z_ls (L' := [(2, _), (1, _), (0, _)]) [0, 2, 3] rfl ?_
            exact z_wd (by rw [show 4 * (c + 1) = 4 * c + 4 by omega]) rfl kc
        · refine z_iload_n (pc := 100) dM_encipher_100 rfl rfl ?_
          refine z_iconst (pc := 101) dM_encipher_101 zi_4 ?_
          refine z_icmp_ge (pc := 102) (by omega) (by omega) (tgt := 159) dM_encipher_102 rfl (fun h => ?_) (fun h => by exfalso; omega)
          refine z_aload_n (pc := 159) dM_encipher_159 rfl rfl ?_
          refine z_iload_n (pc := 160) dM_encipher_160 rfl rfl ?_
          refine z_callV (pc := 161) (m_addWords (r := m + 1) (by omega)) (by decide) zo_39 rfl zc_M_70 rfl rfl (Nat.le_of_ble_eq_true rfl) dM_encipher_161 (fun r A' B' hE => ?_)
          obtain ⟨rfl, rfl, rfl⟩ := hE
          refine z_r0 ?_
          refine z_iinc (L' := [(1, _), (2, _), (0, _)]) (pc := 164) dM_encipher_164 rfl zi_1 (by decide) rfl ?_
          refine z_goto (pc := 167) (tgt := 37) dM_encipher_167 rfl ?_
          refine z_ls (L' := [(1, _), (0, _)]) [0, 2] rfl ?_
          refine km _ _ _ ⟨rfl, rfl, fun k h43 h44 h45 => by rw [z_map_ne h44, z_map_ne h44, z_map_ne h45, hA k h43 h44 h45], fun j hj => by rw [z_map_ne (by decide), z_map_ne (by decide), z_map_ne (by decide)]; exact hW j hj, fun j hj => ?_⟩
          show _ = zrd _ (m + 1) _ j
          rw [z_map_lt hj, z_map_lt hj, z_map_ne (i := 43) (by decide), z_map_ne (i := 43) (by decide), hW _ (by omega), zrd]
          by_cases h9 : m + 1 < 10
          · rw [if_pos h9, if_pos h9, zmx_cg (s' := zmv (zEs (zKX (A 47)) (A 48) m)) (fun j' h' => by rw [z_map_lt h']; exact zmv_cg hs j' h') j hj]
          · rw [if_neg h9, if_neg h9, z_map_lt hj, zmv_cg hs j hj]
    · rintro L A1 B1 ⟨rfl, rfl, hA, hW, hs⟩
      refine z_iload_n (pc := 37) dM_encipher_37 rfl rfl ?_
      refine z_bipush (pc := 38) dM_encipher_38 zb_10 ?_
      refine z_icmp_gt (pc := 40) (by omega) (by omega) (tgt := 170) dM_encipher_40 rfl (fun h => ?_) (fun h => by exfalso; omega)
      refine z_iconst (pc := 170) dM_encipher_170 zi_0 ?_
      refine z_istore_n (L' := [(1, _), (0, _)]) (pc := 171) dM_encipher_171 rfl (by decide) rfl ?_
      refine z_wd (z_map_0 A1 48 (A1 44)).symm rfl ?_
      refine z_for 16 (fun i => [(1, .int (nI i)), (0, .ref (ad 39))]) (fun i => z_map A1 48 i (A1 44)) (fun i => B) (fun i hi ki => ?_) ?_
      · refine z_iload_n (pc := 172) dM_encipher_172 rfl rfl ?_
        refine z_bipush (pc := 173) dM_encipher_173 zb_16 ?_
        refine z_icmp_ge (pc := 175) (by omega) (by omega) (tgt := 196) dM_encipher_175 rfl (fun h => by exfalso; omega) (fun h => ?_)
        refine z_aload_n (pc := 178) dM_encipher_178 rfl rfl ?_
        refine z_getR (pc := 179) zo_39 rfl zf_M_34_6 dM_encipher_179 ?_
        refine z_iload_n (pc := 182) dM_encipher_182 rfl rfl ?_
        refine z_aload_n (pc := 183) dM_encipher_183 rfl rfl ?_
        refine z_getR (pc := 184) zo_39 rfl zf_M_22_6 dM_encipher_184 ?_
        refine z_iload_n (pc := 187) dM_encipher_187 rfl rfl ?_
        refine z_iaload (pc := 188) za_44 (by omega) dM_encipher_188 ?_
        refine z_iastore (pc := 189) za_48 (by omega) dM_encipher_189 ?_
        refine z_iinc (L' := [(1, _), (0, _)]) (pc := 190) dM_encipher_190 rfl zi_1 (by decide) rfl ?_
        refine z_goto (pc := 193) (tgt := 172) dM_encipher_193 rfl ?_
        refine z_wd (z_map_set ?_) rfl ki
        rw [z_map_ne (by decide)]
      · refine z_iload_n (pc := 172) dM_encipher_172 rfl rfl ?_
        refine z_bipush (pc := 173) dM_encipher_173 zb_16 ?_
        refine z_icmp_ge (pc := 175) (by omega) (by omega) (tgt := 196) dM_encipher_175 rfl (fun h => ?_) (fun h => by exfalso; omega)
        exact z_ret0 (pc := 196) dM_encipher_196 (hEx _ _ _ (⟨rfl, rfl, fun k h43 h44 h45 h48 => by rw [z_map_ne h48, hA k h43 h44 h45], fun j hj => by rw [z_map_lt hj, hs j hj]; rfl⟩))
    · intro k h43 h44 h45
      rw [z_map_ne h44, z_map_ne h44, hA0 k h43]
    · intro j hj
      rw [z_map_ne (by decide), z_map_ne (by decide)]
      exact hW0 j hj
    · intro j hj
      rw [z_map_lt hj, z_map_lt hj, z_map_ne (i := 43) (by decide), hW0 _ (by omega), hA0 48 (by decide)]
      rfl
end
