/-! what seal and open are made of -/
def zHw (w : Nat) (hk : Nat → Nat) : Nat := zHk (zow w) (zvw w) (zblk (zmw w) hk 0 16)
theorem zHw_lt (w : Nat) (hk : Nat → Nat) : zHw w hk < 2 ^ 128 := by
  unfold zHw zHk
  split
  · exact zblk_lt _ _ _ _
  · exact zml_lt (zvw_lt w) (zblk_lt _ _ _ _) 128
theorem zHw_cg {w : Nat} {hk hk' : Nat → Nat} (h : ∀ j, j < 16 → hk j = hk' j) : zHw w hk = zHw w hk' := by
  unfold zHw
  rw [zblk_cg (b := hk) (b' := hk') (fun j hj _ => h (0 + j) (by omega))]
def z00 : Nat → Nat := fun _ => 0
theorem z00_lt (j : Nat) : z00 j < 256 := by show 0 < 256; decide
def zHkey (K : Nat → Nat) (j : Nat) : Nat := zE K z00 j
/-- the sum of a row, from S -/
def zrow (w H : Nat) (X : Nat → Nat) (n S : Nat) : Nat := zfr (zmw w) (zvw w) H X n S ((n + 15) / 16)
def zlen (w H a b S : Nat) : Nat := zmul (zvw w) (S ^^^ zblk (zmw w) (zlb (zow w) a b) 0 16) H
theorem zrow_cg {w H : Nat} {X X' : Nat → Nat} {n S : Nat} (h : ∀ j, j < n → X j = X' j) : zrow w H X n S = zrow w H X' n S := zfr_cg h _
/-- aside, text, lengths -/
def zhsh (w H : Nat) (Y : Nat → Nat) (al : Nat) (X : Nat → Nat) (n : Nat) : Nat := zlen w H al n (zrow w H X n (zrow w H Y al 0))
theorem zhsh_cg {w H : Nat} {Y Y' : Nat → Nat} {al : Nat} {X X' : Nat → Nat} {n : Nat} (hY : ∀ j, j < al → Y j = Y' j) (hX : ∀ j, j < n → X j = X' j) : zhsh w H Y al X n = zhsh w H Y' al X' n := by
  unfold zhsh
  rw [zrow_cg hY, zrow_cg hX]
def zJ (K N : Nat → Nat) (nl j : Nat) : Nat := if nl = 12 then (if j < 12 then N j else if j = 15 then 1 else 0) else zby (zmw 0) (zlen 0 (zHw 0 (zHkey K)) 0 nl (zrow 0 (zHw 0 (zHkey K)) N nl 0)) j
theorem zJ_lt {K N : Nat → Nat} {nl : Nat} (hN : ∀ j, j < nl → N j < 256) (j : Nat) : zJ K N nl j < 256 := by
  unfold zJ
  by_cases h : nl = 12
  · rw [if_pos h]
    by_cases h2 : j < 12
    · rw [if_pos h2]; exact hN j (by omega)
    · rw [if_neg h2]; split <;> decide
  · rw [if_neg h]; exact zby_lt _ _ _
def zdv (i : Nat) (N : Nat → Nat) (k : Nat) : Nat := if k = 0 then i else if k < 4 then 0 else N (k - 4)
def zdk (K N : Nat → Nat) (i j : Nat) : Nat := if j < 8 then zE K (zdv i N) j else zE K (zdv (i + 1) N) (j - 8)
def zdu (S : Nat) (N : Nat → Nat) (j : Nat) : Nat := if j < 12 then zby (zmw 1) S j ^^^ N j else if j = 15 then zby (zmw 1) S j &&& 127 else zby (zmw 1) S j
def z128 (s : Nat → Nat) (j : Nat) : Nat := if j = 15 then s j ||| 128 else s j
section
variable {l : Launch} {g : z_G} {ad : Nat → Nat} {A B : z_A}
theorem m_useKey   : z_Met l g ad mM_useKey (z_rm 0) [.ref (ad 39)] A B (z_eq none (z_map A 47 16 (A 40)) B) := by
  refine z_Met.of (L := [(0, _)]) (by decide) (Nat.le_of_ble_eq_true rfl) (z_fit_eq rfl) rfl ?_
  intro Ex hEx
  refine z_iconst (pc := 0) dM_useKey_0 zi_0 ?_
  refine z_istore_n (L' := [(1, _), (0, _)]) (pc := 1) dM_useKey_1 rfl (by decide) rfl ?_
  refine z_wd (z_map_0 A 47 (A 40)).symm rfl ?_
  refine z_for 16 (fun i => [(1, .int (nI i)), (0, .ref (ad 39))]) (fun i => z_map A 47 i (A 40)) (fun i => B) (fun i hi ki => ?_) ?_
  · refine z_iload_n (pc := 2) dM_useKey_2 rfl rfl ?_
    refine z_bipush (pc := 3) dM_useKey_3 zb_16 ?_
    refine z_icmp_ge (pc := 5) (by omega) (by omega) (tgt := 26) dM_useKey_5 rfl (fun h => by exfalso; omega) (fun h => ?_)
    refine z_aload_n (pc := 8) dM_useKey_8 rfl rfl ?_
    refine z_getR (pc := 9) zo_39 rfl zf_M_31_6 dM_useKey_9 ?_
    refine z_iload_n (pc := 12) dM_useKey_12 rfl rfl ?_
    refine z_aload_n (pc := 13) dM_useKey_13 rfl rfl ?_
    refine z_getR (pc := 14) zo_39 rfl zf_M_7_6 dM_useKey_14 ?_
    refine z_iload_n (pc := 17) dM_useKey_17 rfl rfl ?_
    refine z_iaload (pc := 18) za_40 (by omega) dM_useKey_18 ?_
    refine z_iastore (pc := 19) za_47 (by omega) dM_useKey_19 ?_
    refine z_iinc (L' := [(1, _), (0, _)]) (pc := 20) dM_useKey_20 rfl zi_1 (by decide) rfl ?_
    refine z_goto (pc := 23) (tgt := 2) dM_useKey_23 rfl ?_
    refine z_wd (z_map_set ?_) rfl ki
    rw [z_map_ne (by decide)]
  · refine z_iload_n (pc := 2) dM_useKey_2 rfl rfl ?_
    refine z_bipush (pc := 3) dM_useKey_3 zb_16 ?_
    refine z_icmp_ge (pc := 5) (by omega) (by omega) (tgt := 26) dM_useKey_5 rfl (fun h => ?_) (fun h => by exfalso; omega)
    exact z_ret0 (pc := 26) dM_useKey_26 (hEx _ _ _ (⟨rfl, rfl, rfl⟩))
theorem m_keepBlock   : z_Met l g ad mM_keepBlock (z_rm 0) [.ref (ad 39)] A B (z_eq none (z_set (z_map A 42 16 (A 48)) 39 3 16) B) := by
  refine z_Met.of (L := [(0, _)]) (by decide) (Nat.le_of_ble_eq_true rfl) (z_fit_eq rfl) rfl ?_
  intro Ex hEx
  refine z_iconst (pc := 0) dM_keepBlock_0 zi_0 ?_
  refine z_istore_n (L' := [(1, _), (0, _)]) (pc := 1) dM_keepBlock_1 rfl (by decide) rfl ?_
  refine z_wd (z_map_0 A 42 (A 48)).symm rfl ?_
  refine z_for 16 (fun i => [(1, .int (nI i)), (0, .ref (ad 39))]) (fun i => z_map A 42 i (A 48)) (fun i => B) (fun i hi ki => ?_) ?_
  · refine z_iload_n (pc := 2) dM_keepBlock_2 rfl rfl ?_
    refine z_bipush (pc := 3) dM_keepBlock_3 zb_16 ?_
    refine z_icmp_ge (pc := 5) (by omega) (by omega) (tgt := 26) dM_keepBlock_5 rfl (fun h => by exfalso; omega) (fun h => ?_)
    refine z_aload_n (pc := 8) dM_keepBlock_8 rfl rfl ?_
    refine z_getR (pc := 9) zo_39 rfl zf_M_16_6 dM_keepBlock_9 ?_
    refine z_iload_n (pc := 12) dM_keepBlock_12 rfl rfl ?_
    refine z_aload_n (pc := 13) dM_keepBlock_13 rfl rfl ?_
    refine z_getR (pc := 14) zo_39 rfl zf_M_34_6 dM_keepBlock_14 ?_
    refine z_iload_n (pc := 17) dM_keepBlock_17 rfl rfl ?_
    refine z_iaload (pc := 18) za_48 (by omega) dM_keepBlock_18 ?_
    refine z_iastore (pc := 19) za_42 (by omega) dM_keepBlock_19 ?_
    refine z_iinc (L' := [(1, _), (0, _)]) (pc := 20) dM_keepBlock_20 rfl zi_1 (by decide) rfl ?_
    refine z_goto (pc := 23) (tgt := 2) dM_keepBlock_23 rfl ?_
    refine z_wd (z_map_set ?_) rfl ki
    rw [z_map_ne (by decide)]
  · refine z_iload_n (pc := 2) dM_keepBlock_2 rfl rfl ?_
    refine z_bipush (pc := 3) dM_keepBlock_3 zb_16 ?_
    refine z_icmp_ge (pc := 5) (by omega) (by omega) (tgt := 26) dM_keepBlock_5 rfl (fun h => ?_) (fun h => by exfalso; omega)
    refine z_aload_n (pc := 26) dM_keepBlock_26 rfl rfl ?_
    refine z_bipush (pc := 27) dM_keepBlock_27 zb_16 ?_
    refine z_putI (pc := 29) zo_39 rfl zp_M_105_6 dM_keepBlock_29 ?_
    exact z_ret0 (pc := 32) dM_keepBlock_32 (hEx _ _ _ (⟨rfl, rfl, rfl⟩))
theorem m_beginOutward  (hb : z_box A 46) (hK : ∀ j, j < 16 → A 40 j < 256) : z_Met l g ad mM_beginOutward (z_rm 4) [.ref (ad 39)] A B (z_vd (fun A' B' => B = B' ∧ z_fr [43, 44, 45, 47, 48, 49, 50, 51] A A' ∧ (∀ j, j < 16 → A' 47 j = A 40 j) ∧ zbr (A' 49) 128 0 ∧ zbr (A' 50) 128 (zHw 0 (zHkey (A 40))))) := by
  refine z_Met.of (L := [(0, _)]) (by decide) (Nat.le_of_ble_eq_true rfl) z_fit_vd rfl ?_
  intro Ex hEx
  refine z_aload_n (pc := 0) dM_beginOutward_0 rfl rfl ?_
  refine z_callV (pc := 1) (m_useKey) (by decide) zo_39 rfl zc_M_108 rfl rfl (Nat.le_of_ble_eq_true rfl) dM_beginOutward_1 (fun r A' B' hE => ?_)
  obtain ⟨rfl, rfl, rfl⟩ := hE
  refine z_r0 ?_
  refine z_iconst (pc := 4) dM_beginOutward_4 zi_0 ?_
  refine z_istore_n (L' := [(1, _), (0, _)]) (pc := 5) dM_beginOutward_5 rfl (by decide) rfl ?_
  refine z_wd (z_map_0 (z_map A 47 16 (A 40)) 48 z00).symm rfl ?_
  refine z_for 16 (fun i => [(1, .int (nI i)), (0, .ref (ad 39))]) (fun i => z_map (z_map A 47 16 (A 40)) 48 i z00) (fun i => B) (fun i hi ki => ?_) ?_
  · refine z_iload_n (pc := 6) dM_beginOutward_6 rfl rfl ?_
    refine z_bipush (pc := 7) dM_beginOutward_7 zb_16 ?_
    refine z_icmp_ge (pc := 9) (by omega) (by omega) (tgt := 25) dM_beginOutward_9 rfl (fun h => by exfalso; omega) (fun h => ?_)
    refine z_aload_n (pc := 12) dM_beginOutward_12 rfl rfl ?_
    refine z_getR (pc := 13) zo_39 rfl zf_M_34_6 dM_beginOutward_13 ?_
    refine z_iload_n (pc := 16) dM_beginOutward_16 rfl rfl ?_
    refine z_iconst (pc := 17) dM_beginOutward_17 zi_0 ?_
    refine z_iastore (pc := 18) za_48 (by omega) dM_beginOutward_18 ?_
    refine z_iinc (L' := [(1, _), (0, _)]) (pc := 19) dM_beginOutward_19 rfl zi_1 (by decide) rfl ?_
    refine z_goto (pc := 22) (tgt := 6) dM_beginOutward_22 rfl ?_
    exact z_wd (z_map_set rfl) rfl ki
  · refine z_iload_n (pc := 6) dM_beginOutward_6 rfl rfl ?_
    refine z_bipush (pc := 7) dM_beginOutward_7 zb_16 ?_
    refine z_icmp_ge (pc := 9) (by omega) (by omega) (tgt := 25) dM_beginOutward_9 rfl (fun h => ?_) (fun h => by exfalso; omega)
    refine z_aload_n (pc := 25) dM_beginOutward_25 rfl rfl ?_
    have hK2 : ∀ j, j < 16 → (z_map (z_map A 47 16 (A 40)) 48 16 z00) 47 j = A 40 j := fun j hj => by rw [z_map_ne (by decide), z_map_lt hj]
    have hX2 : ∀ j, j < 16 → (z_map (z_map A 47 16 (A 40)) 48 16 z00) 48 j = z00 j := fun j hj => by rw [z_map_lt hj]
    refine z_callV (pc := 26) (m_encipher (fun j hj => by rw [z_map_ne (by decide), z_map_ne (by decide)]; exact hb j hj) (fun j hj => by rw [hK2 j hj]; exact hK j hj) (fun j hj => by rw [hX2 j hj]; exact z00_lt j)) (by decide) zo_39 rfl zc_M_111 rfl rfl (Nat.le_of_ble_eq_true rfl) dM_beginOutward_26 (fun r A' B' hE => ?_)
    obtain ⟨rfl, rfl, hA3, hX3⟩ := hE
    have hX4 : ∀ j, j < 16 → A' 48 j = zHkey (A 40) j := fun j hj => by rw [hX3 j hj]; exact zE_cg hK2 hX2 j hj
    refine z_r0 ?_
    refine z_aload_n (pc := 29) dM_beginOutward_29 rfl rfl ?_
    refine z_iconst (pc := 30) dM_beginOutward_30 zi_0 ?_
    refine z_callV (pc := 31) (m_beginHash (w := 0) (Or.inl rfl) (fun j hj => by rw [hX4 j hj]; exact zE_by hK (fun j _ => z00_lt j) j hj)) (by decide) zo_39 rfl zc_M_117 rfl rfl (Nat.le_of_ble_eq_true rfl) dM_beginOutward_31 (fun r A' B' hE => ?_)
    obtain ⟨rfl, rfl, hA5, hs5, hh5⟩ := hE
    refine z_r0 ?_
    exact z_ret0 (pc := 34) dM_beginOutward_34 (hEx _ _ _ (⟨rfl, rfl, fun k hk => by rw [hA5 k (z_nm hk (by decide)) (z_nm hk (by decide)) (z_nm hk (by decide)), hA3 k (z_nm hk (by decide)) (z_nm hk (by decide)) (z_nm hk (by decide)) (z_nm hk (by decide)), z_map_ne (z_nm hk (by decide)), z_map_ne (z_nm hk (by decide))], fun j hj => by rw [hA5 47 (by decide) (by decide) (by decide), hA3 47 (by decide) (by decide) (by decide) (by decide)]; exact hK2 j hj, hs5, by rw [← zHw_cg hX4]; exact hh5⟩))
theorem m_makeStart  (hb : z_box A 46) (hK : ∀ j, j < 16 → A 40 j < 256) (hl : A 41 1 ≤ 24) (hN : ∀ j, j < A 41 1 → A 40 (64 + j) < 256) : z_Met l g ad mM_makeStart (z_rm 5) [.ref (ad 39)] A B (z_vd (fun A' B' => B = B' ∧ z_fr [43, 44, 45, 47, 48, 49, 50, 51, 52] A A' ∧ ∀ j, j < 16 → A' 52 j = zJ (A 40) (fun j => A 40 (64 + j)) (A 41 1) j)) := by
  refine z_Met.of (L := [(0, _)]) (by decide) (Nat.le_of_ble_eq_true rfl) z_fit_vd rfl ?_
  intro Ex hEx
  refine z_aload_n (pc := 0) dM_makeStart_0 rfl rfl ?_
  refine z_getR (pc := 1) zo_39 rfl zf_M_13_6 dM_makeStart_1 ?_
  refine z_iconst (pc := 4) dM_makeStart_4 zi_1 ?_
  refine z_iaload (pc := 5) za_41 (by omega) dM_makeStart_5 ?_
  refine z_bipush (pc := 6) dM_makeStart_6 zb_12 ?_
  refine z_icmp_ne (pc := 8) (by omega) (by omega) (tgt := 63) dM_makeStart_8 rfl (fun h12 => ?_) (fun h12 => ?_)
  · refine z_aload_n (pc := 63) dM_makeStart_63 rfl rfl ?_
    refine z_callV (pc := 64) (m_beginOutward hb hK) (by decide) zo_39 rfl zc_M_127 rfl rfl (Nat.le_of_ble_eq_true rfl) dM_makeStart_64 (fun r A' B' hE => ?_)
    obtain ⟨rfl, rfl, hA1, hK1, hs1, hh1⟩ := hE
    have e40 : A' 40 = A 40 := hA1 40 (by decide)
    have e41 : A' 41 = A 41 := hA1 41 (by decide)
    refine z_r0 ?_
    refine z_aload_n (pc := 67) dM_makeStart_67 rfl rfl ?_
    refine z_iconst (pc := 68) dM_makeStart_68 zi_0 ?_
    refine z_bipush (pc := 69) dM_makeStart_69 zb_64 ?_
    refine z_aload_n (pc := 71) dM_makeStart_71 rfl rfl ?_
    refine z_getR (pc := 72) zo_39 rfl zf_M_13_6 dM_makeStart_72 ?_
    refine z_iconst (pc := 75) dM_makeStart_75 zi_1 ?_
    refine z_iaload (pc := 76) za_41 (by omega) dM_makeStart_76 ?_
    refine z_callV (pc := 77) (m_feedRow (w := 0) (Or.inl rfl) hs1 ⟨hh1, zHw_lt _ _⟩ (by rw [e41]; omega) (fun j hj => by rw [e41] at hj; rw [e40]; exact hN j hj)) (by decide) zo_39 rfl zc_M_120 rfl rfl (Nat.le_of_ble_eq_true rfl) dM_makeStart_77 (fun r A' B' hE => ?_)
    obtain ⟨rfl, rfl, hA2, hs2⟩ := hE
    rw [e40, e41] at hs2
    have e41' : A' 41 = A 41 := (hA2 41 (by decide) (by decide) (by decide)).trans e41
    have hh2 : zbr (A' 50) 128 (zHw 0 (zHkey (A 40))) := by rw [hA2 50 (by decide) (by decide) (by decide)]; exact hh1
    refine z_r0 ?_
    refine z_aload_n (pc := 80) dM_makeStart_80 rfl rfl ?_
    refine z_iconst (pc := 81) dM_makeStart_81 zi_0 ?_
    refine z_iconst (pc := 82) dM_makeStart_82 zi_0 ?_
    refine z_aload_n (pc := 83) dM_makeStart_83 rfl rfl ?_
    refine z_getR (pc := 84) zo_39 rfl zf_M_13_6 dM_makeStart_84 ?_
    refine z_iconst (pc := 87) dM_makeStart_87 zi_1 ?_
    refine z_iaload (pc := 88) za_41 (by omega) dM_makeStart_88 ?_
    refine z_callV (pc := 89) (m_feedLengths0 (a := 0) hs2 ⟨hh2, zHw_lt _ _⟩ (by omega) (by rw [e41']; omega)) (by decide) zo_39 rfl zc_M_130 rfl rfl (Nat.le_of_ble_eq_true rfl) dM_makeStart_89 (fun r A' B' hE => ?_)
    obtain ⟨rfl, rfl, hA3, hs3⟩ := hE
    rw [e41'] at hs3
    refine z_r0 ?_
    refine z_aload_n (pc := 92) dM_makeStart_92 rfl rfl ?_
    refine z_iconst (pc := 93) dM_makeStart_93 zi_0 ?_
    refine z_callV (pc := 94) (m_endHash (w := 0) (Or.inl rfl) hs3) (by decide) zo_39 rfl zc_M_124 rfl rfl (Nat.le_of_ble_eq_true rfl) dM_makeStart_94 (fun r A' B' hE => ?_)
    obtain ⟨rfl, rfl, hA4, hX4⟩ := hE
    refine z_r0 ?_
    refine z_iconst (pc := 97) dM_makeStart_97 zi_0 ?_
    refine z_istore_n (L' := [(1, _), (0, _)]) (pc := 98) dM_makeStart_98 rfl (by decide) rfl ?_
    refine z_wd (z_map_0 A' 52 (A' 48)).symm rfl ?_
    refine z_for 16 (fun i => [(1, .int (nI i)), (0, .ref (ad 39))]) (fun i => z_map A' 52 i (A' 48)) (fun i => B) (fun i hi ki => ?_) ?_
    · refine z_iload_n (pc := 99) dM_makeStart_99 rfl rfl ?_
      refine z_bipush (pc := 100) dM_makeStart_100 zb_16 ?_
      refine z_icmp_ge (pc := 102) (by omega) (by omega) (tgt := 123) dM_makeStart_102 rfl (fun h => by exfalso; omega) (fun h => ?_)
      refine z_aload_n (pc := 105) dM_makeStart_105 rfl rfl ?_
      refine z_getR (pc := 106) zo_39 rfl zf_M_46_6 dM_makeStart_106 ?_
      refine z_iload_n (pc := 109) dM_makeStart_109 rfl rfl ?_
      refine z_aload_n (pc := 110) dM_makeStart_110 rfl rfl ?_
      refine z_getR (pc := 111) zo_39 rfl zf_M_34_6 dM_makeStart_111 ?_
      refine z_iload_n (pc := 114) dM_makeStart_114 rfl rfl ?_
      refine z_iaload (pc := 115) za_48 (by omega) dM_makeStart_115 ?_
      refine z_iastore (pc := 116) za_52 (by omega) dM_makeStart_116 ?_
      refine z_iinc (L' := [(1, _), (0, _)]) (pc := 117) dM_makeStart_117 rfl zi_1 (by decide) rfl ?_
      refine z_goto (pc := 120) (tgt := 99) dM_makeStart_120 rfl ?_
      refine z_wd (z_map_set ?_) rfl ki
      rw [z_map_ne (by decide)]
    · refine z_iload_n (pc := 99) dM_makeStart_99 rfl rfl ?_
      refine z_bipush (pc := 100) dM_makeStart_100 zb_16 ?_
      refine z_icmp_ge (pc := 102) (by omega) (by omega) (tgt := 123) dM_makeStart_102 rfl (fun h => ?_) (fun h => by exfalso; omega)
      exact z_ret0 (pc := 123) dM_makeStart_123 (hEx _ _ _ (⟨rfl, rfl, fun k hk => by rw [z_map_ne (z_nm hk (by decide)), hA4 k (z_nm hk (by decide)), hA3 k (z_nm hk (by decide)) (z_nm hk (by decide)) (z_nm hk (by decide)), hA2 k (z_nm hk (by decide)) (z_nm hk (by decide)) (z_nm hk (by decide))]; exact hA1 k (fun q => hk (by revert q; simp; omega)), fun j hj => by rw [z_map_lt hj, hX4 j hj, zJ, if_neg h12]; rfl⟩))
  · refine z_iconst (pc := 11) dM_makeStart_11 zi_0 ?_
    refine z_istore_n (L' := [(1, _), (0, _)]) (pc := 12) dM_makeStart_12 rfl (by decide) rfl ?_
    refine z_wd (z_map_0 A 48 (fun k => if k < 12 then A 40 (64 + k) else if k = 15 then 1 else 0)).symm rfl ?_
    refine z_for 16 (fun i => [(1, .int (nI i)), (0, .ref (ad 39))]) (fun i => z_map A 48 i (fun k => if k < 12 then A 40 (64 + k) else if k = 15 then 1 else 0)) (fun i => B) (fun i hi ki => ?_) ?_
    · refine z_iload_n (pc := 13) dM_makeStart_13 rfl rfl ?_
      refine z_bipush (pc := 14) dM_makeStart_14 zb_16 ?_
      refine z_icmp_ge (pc := 16) (by omega) (by omega) (tgt := 60) dM_makeStart_16 rfl (fun h => by exfalso; omega) (fun h => ?_)
      refine z_aload_n (pc := 19) dM_makeStart_19 rfl rfl ?_
      refine z_getR (pc := 20) zo_39 rfl zf_M_34_6 dM_makeStart_20 ?_
      refine z_iload_n (pc := 23) dM_makeStart_23 rfl rfl ?_
      refine z_iload_n (pc := 24) dM_makeStart_24 rfl rfl ?_
      refine z_bipush (pc := 25) dM_makeStart_25 zb_12 ?_
      refine z_icmp_ge (pc := 27) (by omega) (by omega) (tgt := 42) dM_makeStart_27 rfl (fun h1 => ?_) (fun h1 => ?_)
      · refine z_iload_n (pc := 42) dM_makeStart_42 rfl rfl ?_
        refine z_bipush (pc := 43) dM_makeStart_43 zb_15 ?_
        refine z_icmp_ne (pc := 45) (by omega) (by omega) (tgt := 52) dM_makeStart_45 rfl (fun h2 => ?_) (fun h2 => ?_)
        · refine z_iconst (pc := 52) dM_makeStart_52 zi_0 ?_
          refine z_iastore (pc := 53) za_48 (by omega) dM_makeStart_53 ?_
          refine z_iinc (L' := [(1, _), (0, _)]) (pc := 54) dM_makeStart_54 rfl zi_1 (by decide) rfl ?_
          refine z_goto (pc := 57) (tgt := 13) dM_makeStart_57 rfl ?_
          refine z_wd (z_map_set ?_) rfl ki
          first | rw [z_map_ne (by decide), if_pos (by omega)] | rw [if_neg (by omega), if_pos (by omega)] | rw [if_neg (by omega), if_neg (by omega)]
        · refine z_iconst (pc := 48) dM_makeStart_48 zi_1 ?_
          refine z_goto (pc := 49) (tgt := 53) dM_makeStart_49 rfl ?_
          refine z_iastore (pc := 53) za_48 (by omega) dM_makeStart_53 ?_
          refine z_iinc (L' := [(1, _), (0, _)]) (pc := 54) dM_makeStart_54 rfl zi_1 (by decide) rfl ?_
          refine z_goto (pc := 57) (tgt := 13) dM_makeStart_57 rfl ?_
          refine z_wd (z_map_set ?_) rfl ki
          first | rw [z_map_ne (by decide), if_pos (by omega)] | rw [if_neg (by omega), if_pos (by omega)] | rw [if_neg (by omega), if_neg (by omega)]
      · refine z_aload_n (pc := 30) dM_makeStart_30 rfl rfl ?_
        refine z_getR (pc := 31) zo_39 rfl zf_M_7_6 dM_makeStart_31 ?_
        refine z_bipush (pc := 34) dM_makeStart_34 zb_64 ?_
        refine z_iload_n (pc := 36) dM_makeStart_36 rfl rfl ?_
        refine z_iadd (pc := 37) dM_makeStart_37 ?_
        refine z_iaload (pc := 38) za_40 (by omega) dM_makeStart_38 ?_
        refine z_goto (pc := 39) (tgt := 53) dM_makeStart_39 rfl ?_
        refine z_iastore (pc := 53) za_48 (by omega) dM_makeStart_53 ?_
        refine z_iinc (L' := [(1, _), (0, _)]) (pc := 54) dM_makeStart_54 rfl zi_1 (by decide) rfl ?_
        refine z_goto (pc := 57) (tgt := 13) dM_makeStart_57 rfl ?_
        refine z_wd (z_map_set ?_) rfl ki
        first | rw [z_map_ne (by decide), if_pos (by omega)] | rw [if_neg (by omega), if_pos (by omega)] | rw [if_neg (by omega), if_neg (by omega)]
    · refine z_iload_n (pc := 13) dM_makeStart_13 rfl rfl ?_
      refine z_bipush (pc := 14) dM_makeStart_14 zb_16 ?_
      refine z_icmp_ge (pc := 16) (by omega) (by omega) (tgt := 60) dM_makeStart_16 rfl (fun h => ?_) (fun h => by exfalso; omega)
      refine z_goto (pc := 60) (tgt := 97) dM_makeStart_60 rfl ?_
      refine z_iconst (pc := 97) dM_makeStart_97 zi_0 ?_
      refine z_istore_n (L' := [(1, _), (0, _)]) (pc := 98) dM_makeStart_98 rfl (by decide) rfl ?_
      refine z_wd (z_map_0 (z_map A 48 16 (fun k => if k < 12 then A 40 (64 + k) else if k = 15 then 1 else 0)) 52 ((z_map A 48 16 (fun k => if k < 12 then A 40 (64 + k) else if k = 15 then 1 else 0)) 48)).symm rfl ?_
      refine z_for 16 (fun i => [(1, .int (nI i)), (0, .ref (ad 39))]) (fun i => z_map (z_map A 48 16 (fun k => if k < 12 then A 40 (64 + k) else if k = 15 then 1 else 0)) 52 i ((z_map A 48 16 (fun k => if k < 12 then A 40 (64 + k) else if k = 15 then 1 else 0)) 48)) (fun i => B) (fun i hi ki => ?_) ?_
      · refine z_iload_n (pc := 99) dM_makeStart_99 rfl rfl ?_
        refine z_bipush (pc := 100) dM_makeStart_100 zb_16 ?_
        refine z_icmp_ge (pc := 102) (by omega) (by omega) (tgt := 123) dM_makeStart_102 rfl (fun h => by exfalso; omega) (fun h => ?_)
        refine z_aload_n (pc := 105) dM_makeStart_105 rfl rfl ?_
        refine z_getR (pc := 106) zo_39 rfl zf_M_46_6 dM_makeStart_106 ?_
        refine z_iload_n (pc := 109) dM_makeStart_109 rfl rfl ?_
        refine z_aload_n (pc := 110) dM_makeStart_110 rfl rfl ?_
        refine z_getR (pc := 111) zo_39 rfl zf_M_34_6 dM_makeStart_111 ?_
        refine z_iload_n (pc := 114) dM_makeStart_114 rfl rfl ?_
        refine z_iaload (pc := 115) za_48 (by omega) dM_makeStart_115 ?_
        refine z_iastore (pc := 116) za_52 (by omega) dM_makeStart_116 ?_
        refine z_iinc (L' := [(1, _), (0, _)]) (pc := 117) dM_makeStart_117 rfl zi_1 (by decide) rfl ?_
        refine z_goto (pc := 120) (tgt := 99) dM_makeStart_120 rfl ?_
        refine z_wd (z_map_set ?_) rfl ki
        rw [z_map_ne (by decide)]
      · refine z_iload_n (pc := 99) dM_makeStart_99 rfl rfl ?_
        refine z_bipush (pc := 100) dM_makeStart_100 zb_16 ?_
        refine z_icmp_ge (pc := 102) (by omega) (by omega) (tgt := 123) dM_makeStart_102 rfl (fun h => ?_) (fun h => by exfalso; omega)
        exact z_ret0 (pc := 123) dM_makeStart_123 (hEx _ _ _ (⟨rfl, rfl, fun k hk => by rw [z_map_ne (z_nm hk (by decide)), z_map_ne (z_nm hk (by decide))], fun j hj => by rw [z_map_lt hj, z_map_lt hj, zJ, if_pos h12]⟩))
theorem m_cipher0 {n : Nat} (hn : n ≤ 64) (hb : z_box A 46) (hK : ∀ j, j < 16 → A 47 j < 256) (hJ : ∀ j, j < 16 → A 52 j < 256) : z_Met l g ad mM_cipher (z_rm 4) [.ref (ad 39), .int (nI n), .int (nI 1)] A B (z_vd (fun A' B' => B = B' ∧ z_fr [40, 43, 44, 45, 48] A A' ∧ (∀ i, i < 256 → A' 40 i = A 40 i) ∧ ∀ j, j < n → A' 40 (256 + j) = A 40 (192 + j) ^^^ zE (A 47) (zcnt 0 (A 52) ((j / 16) + 1)) (j % 16))) := by
  refine z_Met.of (L := [(0, _), (1, _), (2, _)]) (by decide) (Nat.le_of_ble_eq_true rfl) z_fit_vd rfl ?_
  intro Ex hEx
  refine z_iconst (pc := 0) dM_cipher_0 zi_0 ?_
  refine z_istore_n (L' := [(3, _), (0, _), (1, _), (2, _)]) (pc := 1) dM_cipher_1 rfl (by decide) rfl ?_
  refine z_loop ((n + 15) / 16) (fun q L A' B' => L = [(3, .int (nI (16 * q))), (0, .ref (ad 39)), (1, .int (nI n)), (2, .int (nI 1))] ∧ B = B' ∧ z_fr [40, 43, 44, 45, 48] A A' ∧ (∀ i, i < 256 → A' 40 i = A 40 i) ∧ ∀ j, j < 16 * q → j < n → A' 40 (256 + j) = A 40 (192 + j) ^^^ zE (A 47) (zcnt 0 (A 52) ((j / 16) + 1)) (j % 16)) ?_ ?_ _ _ _ ⟨rfl, rfl, fun _ _ => rfl, fun _ _ => rfl, fun j hj _ => by omega⟩
  · rintro q L A1 B1 hq ⟨rfl, rfl, hA, hlo, hC⟩ kq
    have e47 : A1 47 = A 47 := hA 47 (by decide)
    have e52 : A1 52 = A 52 := hA 52 (by decide)
    have e46 : A1 46 = A 46 := hA 46 (by decide)
    refine z_iload_n (pc := 2) dM_cipher_2 rfl rfl ?_
    refine z_iload_n (pc := 3) dM_cipher_3 rfl rfl ?_
    refine z_icmp_ge (pc := 4) (by omega) (by omega) (tgt := 95) dM_cipher_4 rfl (fun h => by exfalso; omega) (fun h => ?_)
    refine z_aload_n (pc := 7) dM_cipher_7 rfl rfl ?_
    refine z_iload_n (pc := 8) dM_cipher_8 rfl rfl ?_
    refine z_if_eq (pc := 9) (by omega) (tgt := 21) dM_cipher_9 rfl (fun h => by exfalso; omega) (fun h => ?_)
    refine z_iload_n (pc := 12) dM_cipher_12 rfl rfl ?_
    refine z_bipush (pc := 13) dM_cipher_13 zb_16 ?_
    refine z_idiv (pc := 15) dM_cipher_15 (by omega) (by omega) (by omega) ?_
    refine z_iconst (pc := 16) dM_cipher_16 zi_1 ?_
    refine z_iadd (pc := 17) dM_cipher_17 ?_
    refine z_goto (pc := 18) (tgt := 25) dM_cipher_18 rfl ?_
    refine z_iload_n (pc := 25) dM_cipher_25 rfl rfl ?_
    refine z_callV (pc := 26) (m_count0 (n := 16 * q / 16 + 1) (by omega) (fun j hj => by rw [e52]; exact hJ j hj)) (by decide) zo_39 rfl zc_M_133 rfl rfl (Nat.le_of_ble_eq_true rfl) dM_cipher_26 (fun r A' B' hE => ?_)
    obtain ⟨rfl, rfl, hA3, hX3⟩ := hE
    rw [e52, show 16 * q / 16 = q by omega] at hX3
    refine z_r0 ?_
    refine z_aload_n (pc := 29) dM_cipher_29 rfl rfl ?_
    refine z_callV (pc := 30) (m_encipher (fun j hj => by rw [hA3 46 (by decide), e46]; exact hb j hj) (fun j hj => by rw [hA3 47 (by decide), e47]; exact hK j hj) (fun j hj => by rw [hX3 j hj]; exact zcnt_lt hJ j hj)) (by decide) zo_39 rfl zc_M_111 rfl rfl (Nat.le_of_ble_eq_true rfl) dM_cipher_30 (fun r A' B' hE => ?_)
    obtain ⟨rfl, rfl, hA4, hX4⟩ := hE
    have hX5 : ∀ j, j < 16 → A' 48 j = zE (A 47) (zcnt 0 (A 52) (q + 1)) j := fun j hj => by rw [hX4 j hj]; exact zE_cg (fun j' _ => by rw [hA3 47 (by decide), e47]) hX3 j hj
    have e40 : A' 40 = A1 40 := (hA4 40 (by decide) (by decide) (by decide) (by decide)).trans (hA3 40 (by decide))
    refine z_r0 ?_
    refine z_iload_n (pc := 33) dM_cipher_33 rfl rfl ?_
    refine z_istore (L' := [(4, _), (3, _), (0, _), (1, _), (2, _)]) (pc := 34) dM_cipher_34 (by decide) rfl ?_
    refine z_wd (z_seg_0 A' 40 (256 + 16 * q) (fun x => A' 40 (x - 64) ^^^ A' 48 (x - 256 - 16 * q))).symm rfl ?_
    refine z_for (min 16 (n - 16 * q)) (fun i => [(4, .int (nI (16 * q + i))), (3, .int (nI (16 * q))), (0, .ref (ad 39)), (1, .int (nI n)), (2, .int (nI 1))]) (fun i => z_seg A' 40 (256 + 16 * q) i (fun x => A' 40 (x - 64) ^^^ A' 48 (x - 256 - 16 * q))) (fun i => B) (fun i hi ki => ?_) ?_
    · refine z_iload (pc := 36) dM_cipher_36 rfl ?_
      refine z_iload_n (pc := 38) dM_cipher_38 rfl rfl ?_
      refine z_icmp_ge (pc := 39) (by omega) (by omega) (tgt := 89) dM_cipher_39 rfl (fun h => by exfalso; omega) (fun h => ?_)
      refine z_iload (pc := 42) dM_cipher_42 rfl ?_
      refine z_iload_n (pc := 44) dM_cipher_44 rfl rfl ?_
      refine z_bipush (pc := 45) dM_cipher_45 zb_16 ?_
      refine z_iadd (pc := 47) dM_cipher_47 ?_
      refine z_icmp_ge (pc := 48) (by omega) (by omega) (tgt := 89) dM_cipher_48 rfl (fun h => by exfalso; omega) (fun h => ?_)
      refine z_aload_n (pc := 51) dM_cipher_51 rfl rfl ?_
      refine z_getR (pc := 52) zo_39 rfl zf_M_7_6 dM_cipher_52 ?_
      refine z_sipush (pc := 55) dM_cipher_55 zs_256 ?_
      refine z_iload (pc := 58) dM_cipher_58 rfl ?_
      refine z_iadd (pc := 60) dM_cipher_60 ?_
      refine z_aload_n (pc := 61) dM_cipher_61 rfl rfl ?_
      refine z_getR (pc := 62) zo_39 rfl zf_M_7_6 dM_cipher_62 ?_
      refine z_sipush (pc := 65) dM_cipher_65 zs_192 ?_
      refine z_iload (pc := 68) dM_cipher_68 rfl ?_
      refine z_iadd (pc := 70) dM_cipher_70 ?_
      refine z_iaload (pc := 71) za_40 (by omega) dM_cipher_71 ?_
      refine z_aload_n (pc := 72) dM_cipher_72 rfl rfl ?_
      refine z_getR (pc := 73) zo_39 rfl zf_M_34_6 dM_cipher_73 ?_
      refine z_iload (pc := 76) dM_cipher_76 rfl ?_
      refine z_iload_n (pc := 78) dM_cipher_78 rfl rfl ?_
      refine z_isub (pc := 79) dM_cipher_79 (by omega) ?_
      refine z_iaload (pc := 80) za_48 (by omega) dM_cipher_80 ?_
      refine z_ixor (pc := 81) dM_cipher_81 ?_
      refine z_iastore (pc := 82) za_40 (by omega) dM_cipher_82 ?_
      refine z_iinc (L' := [(4, _), (3, _), (0, _), (1, _), (2, _)]) (pc := 83) dM_cipher_83 rfl zi_1 (by decide) rfl ?_
      refine z_goto (pc := 86) (tgt := 36) dM_cipher_86 rfl ?_
      rw [show 256 + (16 * q + i) = 256 + 16 * q + i by omega, Nat.add_assoc (16 * q) i 1]
      refine z_wd (z_seg_set ?_) rfl ki
      rw [z_seg_out (Or.inl (by omega)), z_seg_ne (by decide), show 256 + 16 * q + i - 64 = 192 + (16 * q + i) by omega, show 256 + 16 * q + i - 256 - 16 * q = 16 * q + i - 16 * q by omega]
    · refine z_iload (pc := 36) dM_cipher_36 rfl ?_
      refine z_iload_n (pc := 38) dM_cipher_38 rfl rfl ?_
      refine z_icmp_ge (pc := 39) (by omega) (by omega) (tgt := 89) dM_cipher_39 rfl (fun h1 => ?_) (fun h1 => ?_)
      · refine z_iinc (L' := [(3, _), (4, _), (0, _), (1, _), (2, _)]) (pc := 89) dM_cipher_89 rfl zi_16 (by decide) rfl ?_
        refine z_goto (pc := 92) (tgt := 2) dM_cipher_92 rfl ?_
        refine z_ls (L' := [(3, _), (0, _), (1, _), (2, _)]) [0, 2, 3, 4] rfl ?_
        refine kq _ _ _ ⟨rfl, rfl, fun k hk => by rw [z_seg_ne (z_nm hk (by decide)), hA4 k (z_nm hk (by decide)) (z_nm hk (by decide)) (z_nm hk (by decide)) (z_nm hk (by decide)), hA3 k (z_nm hk (by decide)), hA k hk], fun i hi => by rw [z_seg_out (Or.inl (by omega)), e40]; exact hlo i hi, fun j hj hn => ?_⟩
        by_cases hjq : j < 16 * q
        · rw [z_seg_out (Or.inl (by omega)), e40]; exact hC j hjq hn
        · rw [z_seg_in (by omega) (by omega), e40, hlo _ (by omega), show 256 + j - 64 = 192 + j by omega, hX5 _ (by omega), show 256 + j - 256 - 16 * q = j % 16 by omega, show j / 16 = q by omega]
      · refine z_iload (pc := 42) dM_cipher_42 rfl ?_
        refine z_iload_n (pc := 44) dM_cipher_44 rfl rfl ?_
        refine z_bipush (pc := 45) dM_cipher_45 zb_16 ?_
        refine z_iadd (pc := 47) dM_cipher_47 ?_
        refine z_icmp_ge (pc := 48) (by omega) (by omega) (tgt := 89) dM_cipher_48 rfl (fun h => ?_) (fun h => by exfalso; omega)
        refine z_iinc (L' := [(3, _), (4, _), (0, _), (1, _), (2, _)]) (pc := 89) dM_cipher_89 rfl zi_16 (by decide) rfl ?_
        refine z_goto (pc := 92) (tgt := 2) dM_cipher_92 rfl ?_
        refine z_ls (L' := [(3, _), (0, _), (1, _), (2, _)]) [0, 2, 3, 4] rfl ?_
        refine kq _ _ _ ⟨rfl, rfl, fun k hk => by rw [z_seg_ne (z_nm hk (by decide)), hA4 k (z_nm hk (by decide)) (z_nm hk (by decide)) (z_nm hk (by decide)) (z_nm hk (by decide)), hA3 k (z_nm hk (by decide)), hA k hk], fun i hi => by rw [z_seg_out (Or.inl (by omega)), e40]; exact hlo i hi, fun j hj hn => ?_⟩
        by_cases hjq : j < 16 * q
        · rw [z_seg_out (Or.inl (by omega)), e40]; exact hC j hjq hn
        · rw [z_seg_in (by omega) (by omega), e40, hlo _ (by omega), show 256 + j - 64 = 192 + j by omega, hX5 _ (by omega), show 256 + j - 256 - 16 * q = j % 16 by omega, show j / 16 = q by omega]
  · rintro L A1 B1 ⟨rfl, rfl, hA, hlo, hC⟩
    refine z_iload_n (pc := 2) dM_cipher_2 rfl rfl ?_
    refine z_iload_n (pc := 3) dM_cipher_3 rfl rfl ?_
    refine z_icmp_ge (pc := 4) (by omega) (by omega) (tgt := 95) dM_cipher_4 rfl (fun h => ?_) (fun h => by exfalso; omega)
    exact z_ret0 (pc := 95) dM_cipher_95 (hEx _ _ _ (⟨rfl, rfl, hA, hlo, fun j hj => hC j (by omega) hj⟩))
theorem m_cipher1 {n : Nat} (hn : n ≤ 64) (hb : z_box A 46) (hK : ∀ j, j < 16 → A 47 j < 256) (hJ : ∀ j, j < 16 → A 52 j < 256) : z_Met l g ad mM_cipher (z_rm 4) [.ref (ad 39), .int (nI n), .int (nI 0)] A B (z_vd (fun A' B' => B = B' ∧ z_fr [40, 43, 44, 45, 48] A A' ∧ (∀ i, i < 256 → A' 40 i = A 40 i) ∧ ∀ j, j < n → A' 40 (256 + j) = A 40 (192 + j) ^^^ zE (A 47) (zcnt 1 (A 52) (j / 16)) (j % 16))) := by
  refine z_Met.of (L := [(0, _), (1, _), (2, _)]) (by decide) (Nat.le_of_ble_eq_true rfl) z_fit_vd rfl ?_
  intro Ex hEx
  refine z_iconst (pc := 0) dM_cipher_0 zi_0 ?_
  refine z_istore_n (L' := [(3, _), (0, _), (1, _), (2, _)]) (pc := 1) dM_cipher_1 rfl (by decide) rfl ?_
  refine z_loop ((n + 15) / 16) (fun q L A' B' => L = [(3, .int (nI (16 * q))), (0, .ref (ad 39)), (1, .int (nI n)), (2, .int (nI 0))] ∧ B = B' ∧ z_fr [40, 43, 44, 45, 48] A A' ∧ (∀ i, i < 256 → A' 40 i = A 40 i) ∧ ∀ j, j < 16 * q → j < n → A' 40 (256 + j) = A 40 (192 + j) ^^^ zE (A 47) (zcnt 1 (A 52) (j / 16)) (j % 16)) ?_ ?_ _ _ _ ⟨rfl, rfl, fun _ _ => rfl, fun _ _ => rfl, fun j hj _ => by omega⟩
  · rintro q L A1 B1 hq ⟨rfl, rfl, hA, hlo, hC⟩ kq
    have e47 : A1 47 = A 47 := hA 47 (by decide)
    have e52 : A1 52 = A 52 := hA 52 (by decide)
    have e46 : A1 46 = A 46 := hA 46 (by decide)
    refine z_iload_n (pc := 2) dM_cipher_2 rfl rfl ?_
    refine z_iload_n (pc := 3) dM_cipher_3 rfl rfl ?_
    refine z_icmp_ge (pc := 4) (by omega) (by omega) (tgt := 95) dM_cipher_4 rfl (fun h => by exfalso; omega) (fun h => ?_)
    refine z_aload_n (pc := 7) dM_cipher_7 rfl rfl ?_
    refine z_iload_n (pc := 8) dM_cipher_8 rfl rfl ?_
    refine z_if_eq (pc := 9) (by omega) (tgt := 21) dM_cipher_9 rfl (fun h => ?_) (fun h => by exfalso; omega)
    refine z_iload_n (pc := 21) dM_cipher_21 rfl rfl ?_
    refine z_bipush (pc := 22) dM_cipher_22 zb_16 ?_
    refine z_idiv (pc := 24) dM_cipher_24 (by omega) (by omega) (by omega) ?_
    refine z_iload_n (pc := 25) dM_cipher_25 rfl rfl ?_
    refine z_callV (pc := 26) (m_count1 (n := 16 * q / 16) (by omega) (fun j hj => by rw [e52]; exact hJ j hj)) (by decide) zo_39 rfl zc_M_133 rfl rfl (Nat.le_of_ble_eq_true rfl) dM_cipher_26 (fun r A' B' hE => ?_)
    obtain ⟨rfl, rfl, hA3, hX3⟩ := hE
    rw [e52, show 16 * q / 16 = q by omega] at hX3
    refine z_r0 ?_
    refine z_aload_n (pc := 29) dM_cipher_29 rfl rfl ?_
    refine z_callV (pc := 30) (m_encipher (fun j hj => by rw [hA3 46 (by decide), e46]; exact hb j hj) (fun j hj => by rw [hA3 47 (by decide), e47]; exact hK j hj) (fun j hj => by rw [hX3 j hj]; exact zcnt_lt hJ j hj)) (by decide) zo_39 rfl zc_M_111 rfl rfl (Nat.le_of_ble_eq_true rfl) dM_cipher_30 (fun r A' B' hE => ?_)
    obtain ⟨rfl, rfl, hA4, hX4⟩ := hE
    have hX5 : ∀ j, j < 16 → A' 48 j = zE (A 47) (zcnt 1 (A 52) q) j := fun j hj => by rw [hX4 j hj]; exact zE_cg (fun j' _ => by rw [hA3 47 (by decide), e47]) hX3 j hj
    have e40 : A' 40 = A1 40 := (hA4 40 (by decide) (by decide) (by decide) (by decide)).trans (hA3 40 (by decide))
    refine z_r0 ?_
    refine z_iload_n (pc := 33) dM_cipher_33 rfl rfl ?_
    refine z_istore (L' := [(4, _), (3, _), (0, _), (1, _), (2, _)]) (pc := 34) dM_cipher_34 (by decide) rfl ?_
    refine z_wd (z_seg_0 A' 40 (256 + 16 * q) (fun x => A' 40 (x - 64) ^^^ A' 48 (x - 256 - 16 * q))).symm rfl ?_
    refine z_for (min 16 (n - 16 * q)) (fun i => [(4, .int (nI (16 * q + i))), (3, .int (nI (16 * q))), (0, .ref (ad 39)), (1, .int (nI n)), (2, .int (nI 0))]) (fun i => z_seg A' 40 (256 + 16 * q) i (fun x => A' 40 (x - 64) ^^^ A' 48 (x - 256 - 16 * q))) (fun i => B) (fun i hi ki => ?_) ?_
    · refine z_iload (pc := 36) dM_cipher_36 rfl ?_
      refine z_iload_n (pc := 38) dM_cipher_38 rfl rfl ?_
      refine z_icmp_ge (pc := 39) (by omega) (by omega) (tgt := 89) dM_cipher_39 rfl (fun h => by exfalso; omega) (fun h => ?_)
      refine z_iload (pc := 42) dM_cipher_42 rfl ?_
      refine z_iload_n (pc := 44) dM_cipher_44 rfl rfl ?_
      refine z_bipush (pc := 45) dM_cipher_45 zb_16 ?_
      refine z_iadd (pc := 47) dM_cipher_47 ?_
      refine z_icmp_ge (pc := 48) (by omega) (by omega) (tgt := 89) dM_cipher_48 rfl (fun h => by exfalso; omega) (fun h => ?_)
      refine z_aload_n (pc := 51) dM_cipher_51 rfl rfl ?_
      refine z_getR (pc := 52) zo_39 rfl zf_M_7_6 dM_cipher_52 ?_
      refine z_sipush (pc := 55) dM_cipher_55 zs_256 ?_
      refine z_iload (pc := 58) dM_cipher_58 rfl ?_
      refine z_iadd (pc := 60) dM_cipher_60 ?_
      refine z_aload_n (pc := 61) dM_cipher_61 rfl rfl ?_
      refine z_getR (pc := 62) zo_39 rfl zf_M_7_6 dM_cipher_62 ?_
      refine z_sipush (pc := 65) dM_cipher_65 zs_192 ?_
      refine z_iload (pc := 68) dM_cipher_68 rfl ?_
      refine z_iadd (pc := 70) dM_cipher_70 ?_
      refine z_iaload (pc := 71) za_40 (by omega) dM_cipher_71 ?_
      refine z_aload_n (pc := 72) dM_cipher_72 rfl rfl ?_
      refine z_getR (pc := 73) zo_39 rfl zf_M_34_6 dM_cipher_73 ?_
      refine z_iload (pc := 76) dM_cipher_76 rfl ?_
      refine z_iload_n (pc := 78) dM_cipher_78 rfl rfl ?_
      refine z_isub (pc := 79) dM_cipher_79 (by omega) ?_
      refine z_iaload (pc := 80) za_48 (by omega) dM_cipher_80 ?_
      refine z_ixor (pc := 81) dM_cipher_81 ?_
      refine z_iastore (pc := 82) za_40 (by omega) dM_cipher_82 ?_
      refine z_iinc (L' := [(4, _), (3, _), (0, _), (1, _), (2, _)]) (pc := 83) dM_cipher_83 rfl zi_1 (by decide) rfl ?_
      refine z_goto (pc := 86) (tgt := 36) dM_cipher_86 rfl ?_
      rw [show 256 + (16 * q + i) = 256 + 16 * q + i by omega, Nat.add_assoc (16 * q) i 1]
      refine z_wd (z_seg_set ?_) rfl ki
      rw [z_seg_out (Or.inl (by omega)), z_seg_ne (by decide), show 256 + 16 * q + i - 64 = 192 + (16 * q + i) by omega, show 256 + 16 * q + i - 256 - 16 * q = 16 * q + i - 16 * q by omega]
    · refine z_iload (pc := 36) dM_cipher_36 rfl ?_
      refine z_iload_n (pc := 38) dM_cipher_38 rfl rfl ?_
      refine z_icmp_ge (pc := 39) (by omega) (by omega) (tgt := 89) dM_cipher_39 rfl (fun h1 => ?_) (fun h1 => ?_)
      · refine z_iinc (L' := [(3, _), (4, _), (0, _), (1, _), (2, _)]) (pc := 89) dM_cipher_89 rfl zi_16 (by decide) rfl ?_
        refine z_goto (pc := 92) (tgt := 2) dM_cipher_92 rfl ?_
        refine z_ls (L' := [(3, _), (0, _), (1, _), (2, _)]) [0, 2, 3, 4] rfl ?_
        refine kq _ _ _ ⟨rfl, rfl, fun k hk => by rw [z_seg_ne (z_nm hk (by decide)), hA4 k (z_nm hk (by decide)) (z_nm hk (by decide)) (z_nm hk (by decide)) (z_nm hk (by decide)), hA3 k (z_nm hk (by decide)), hA k hk], fun i hi => by rw [z_seg_out (Or.inl (by omega)), e40]; exact hlo i hi, fun j hj hn => ?_⟩
        by_cases hjq : j < 16 * q
        · rw [z_seg_out (Or.inl (by omega)), e40]; exact hC j hjq hn
        · rw [z_seg_in (by omega) (by omega), e40, hlo _ (by omega), show 256 + j - 64 = 192 + j by omega, hX5 _ (by omega), show 256 + j - 256 - 16 * q = j % 16 by omega, show j / 16 = q by omega]
      · refine z_iload (pc := 42) dM_cipher_42 rfl ?_
        refine z_iload_n (pc := 44) dM_cipher_44 rfl rfl ?_
        refine z_bipush (pc := 45) dM_cipher_45 zb_16 ?_
        refine z_iadd (pc := 47) dM_cipher_47 ?_
        refine z_icmp_ge (pc := 48) (by omega) (by omega) (tgt := 89) dM_cipher_48 rfl (fun h => ?_) (fun h => by exfalso; omega)
        refine z_iinc (L' := [(3, _), (4, _), (0, _), (1, _), (2, _)]) (pc := 89) dM_cipher_89 rfl zi_16 (by decide) rfl ?_
        refine z_goto (pc := 92) (tgt := 2) dM_cipher_92 rfl ?_
        refine z_ls (L' := [(3, _), (0, _), (1, _), (2, _)]) [0, 2, 3, 4] rfl ?_
        refine kq _ _ _ ⟨rfl, rfl, fun k hk => by rw [z_seg_ne (z_nm hk (by decide)), hA4 k (z_nm hk (by decide)) (z_nm hk (by decide)) (z_nm hk (by decide)) (z_nm hk (by decide)), hA3 k (z_nm hk (by decide)), hA k hk], fun i hi => by rw [z_seg_out (Or.inl (by omega)), e40]; exact hlo i hi, fun j hj hn => ?_⟩
        by_cases hjq : j < 16 * q
        · rw [z_seg_out (Or.inl (by omega)), e40]; exact hC j hjq hn
        · rw [z_seg_in (by omega) (by omega), e40, hlo _ (by omega), show 256 + j - 64 = 192 + j by omega, hX5 _ (by omega), show 256 + j - 256 - 16 * q = j % 16 by omega, show j / 16 = q by omega]
  · rintro L A1 B1 ⟨rfl, rfl, hA, hlo, hC⟩
    refine z_iload_n (pc := 2) dM_cipher_2 rfl rfl ?_
    refine z_iload_n (pc := 3) dM_cipher_3 rfl rfl ?_
    refine z_icmp_ge (pc := 4) (by omega) (by omega) (tgt := 95) dM_cipher_4 rfl (fun h => ?_) (fun h => by exfalso; omega)
    exact z_ret0 (pc := 95) dM_cipher_95 (hEx _ _ _ (⟨rfl, rfl, hA, hlo, fun j hj => hC j (by omega) hj⟩))
end
