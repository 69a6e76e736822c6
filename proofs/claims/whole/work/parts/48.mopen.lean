section
variable {l : Launch} {g : z_G} {ad : Nat → Nat} {A B : z_A} {n : Nat → Nat} {R : Nat → Nat → Nat} {m : Nat} {X : Nat → Nat}
theorem m_open0_0  (hrd : zrdy 0 n) (hn : 16 ≤ n 3) (hok : (∀ j, j < 16 → R 3 (n 3 - 16 + j) = zdue 0 (R 0) (R 1) (n 1) (R 2) (n 2) (R 3) (n 3 - 16) j)) (hb : z_box A 46) (hs : zMR A n R m X) (hv : zVS n R m X) : z_Met l g ad mM_open (z_rm 7) [.ref (ad 39), .int (nI 0)] A B (z_an (n 3 - 16) (zMP A B 0 n R (n 3 - 16) (zopen 0 (R 0) (R 1) (n 1) (R 3) (n 3 - 16)))) := by
  refine z_Met.of (L := [(0, _), (1, _)]) (by decide) (Nat.le_of_ble_eq_true rfl) z_fit_an rfl ?_
  intro Ex hEx
  have k0 := hv.1 0 (by decide)
  have k1 := hv.1 1 (by decide)
  have k2 := hv.1 2 (by decide)
  have k3 := hv.1 3 (by decide)
  have l0 := zmost_le 0
  have l3 := zmost_le 3
  have e0 := (hs.1 0 (by decide)).1
  have e1 := (hs.1 1 (by decide)).1
  have e2 := (hs.1 2 (by decide)).1
  have e3 := (hs.1 3 (by decide)).1
  have l1 : zmost 1 = 24 := rfl
  have l2 : zmost 2 = 32 := rfl
  have n0 : n 0 = 16 := hrd.1
  have n1 : 1 ≤ n 1 := hrd.2
  have r0 := hs.r0
  have r1 := hs.r1
  have r2 := hs.r2
  have r3 := hs.r3
  have s40 : (z_set A 39 0 0) 40 = A 40 := z_set_ne (by decide)
  have s41 : (z_set A 39 0 0) 41 = A 41 := z_set_ne (by decide)
  have s46 : (z_set A 39 0 0) 46 = A 46 := z_set_ne (by decide)
  have b0 : ∀ j, j < 16 → R 0 j < 256 := fun j hj => k0.2 j (by omega)
  refine z_aload_n (pc := 0) dM_open_0 rfl rfl ?_
  refine z_iload_n (pc := 1) dM_open_1 rfl rfl ?_
  refine z_if_eq (pc := 2) (by omega) (tgt := 14) dM_open_2 rfl (fun h => ?_) (fun h => by exfalso; omega)
  refine z_aload_n (pc := 14) dM_open_14 rfl rfl ?_
  refine z_iload_n (pc := 15) dM_open_15 rfl rfl ?_
  refine z_callV (pc := 16) (m_isReady (w := 0) (by omega) (by omega) (by omega)) (by decide) zo_39 rfl zc_M_141 rfl rfl (Nat.le_of_ble_eq_true rfl) dM_open_16 (fun r A' B' hE => ?_)
  obtain ⟨rfl, rfl, rfl⟩ := hE
  refine z_r1 ?_
  refine z_top (congrArg (fun x => Value.int (nI x)) (if_pos ((z_rd e0 e1).mpr hrd))) ?_
  refine z_if_eq (pc := 19) (by omega) (tgt := 33) dM_open_19 rfl (fun h => by exfalso; omega) (fun h => ?_)
  refine z_aload_n (pc := 22) dM_open_22 rfl rfl ?_
  refine z_getR (pc := 23) zo_39 rfl zf_M_13_6 dM_open_23 ?_
  refine z_iconst (pc := 26) dM_open_26 zi_3 ?_
  refine z_iaload (pc := 27) za_41 (by omega) dM_open_27 ?_
  refine z_bipush (pc := 28) dM_open_28 zb_16 ?_
  refine z_icmp_ge (pc := 30) (by omega) (by omega) (tgt := 37) dM_open_30 rfl (fun h => ?_) (fun h => by exfalso; omega)
  refine z_iconst (pc := 37) dM_open_37 zi_0 ?_
  refine z_putI (pc := 38) zo_39 rfl zp_M_59_6 dM_open_38 ?_
  refine z_aload_n (pc := 41) dM_open_41 rfl rfl ?_
  refine z_getI (pc := 42) zo_39 rfl zf_M_59_6 dM_open_42 ?_
  refine z_top (congrArg (fun x => Value.int (nI x)) z_set_at) ?_
  refine z_if_le (pc := 45) (by omega) (tgt := 50) dM_open_45 rfl (fun h => ?_) (fun h => by exfalso; omega)
  refine z_aload_n (pc := 50) dM_open_50 rfl rfl ?_
  refine z_getR (pc := 51) zo_39 rfl zf_M_13_6 dM_open_51 ?_
  refine z_iconst (pc := 54) dM_open_54 zi_3 ?_
  refine z_iaload (pc := 55) za_41 (by omega) dM_open_55 ?_
  refine z_top (congrArg (fun x => Value.int (nI x)) (show _ = n 3 by rw [s41]; exact e3)) ?_
  refine z_bipush (pc := 56) dM_open_56 zb_16 ?_
  refine z_isub (pc := 58) dM_open_58 (by omega) ?_
  refine z_istore_n (L' := [(2, _), (0, _), (1, _)]) (pc := 59) dM_open_59 rfl (by decide) rfl ?_
  refine z_iload_n (pc := 60) dM_open_60 rfl rfl ?_
  refine z_if_ne (pc := 61) (by omega) (tgt := 89) dM_open_61 rfl (fun h => by exfalso; omega) (fun h => ?_)
  refine z_aload_n (pc := 64) dM_open_64 rfl rfl ?_
  refine z_callV (pc := 65) (m_makeStart (fun j hj => by rw [s46]; exact hb j hj) (fun j hj => by rw [s40, r0 j (by omega)]; exact b0 j hj) (by rw [s41, e1]; omega) (fun j hj => by rw [s41, e1] at hj; rw [s40, r1 j hj]; exact k1.2 j hj)) (by decide) zo_39 rfl zc_M_144 rfl rfl (Nat.le_of_ble_eq_true rfl) dM_open_65 (fun r A1 B' hE => ?_)
  obtain ⟨rfl, rfl, f1, j1⟩ := hE
  replace j1 : ∀ j, j < 16 → A1 52 j = (zJ (R 0) (R 1) (n 1)) j := fun j hj => by rw [j1 j hj, s40, s41, e1]; exact zJ_cg (fun j' h' => r0 j' (by omega)) r1 j
  have jb : ∀ j, j < 16 → (zJ (R 0) (R 1) (n 1)) j < 256 := fun j _ => zJ_lt k1.2 j
  have q40 : A1 40 = A 40 := (f1 40 (by decide)).trans s40
  refine z_r0 ?_
  refine z_aload_n (pc := 68) dM_open_68 rfl rfl ?_
  refine z_callV (pc := 69) (m_useKey) (by decide) zo_39 rfl zc_M_108 rfl rfl (Nat.le_of_ble_eq_true rfl) dM_open_69 (fun r A' B' hE => ?_)
  obtain ⟨rfl, rfl, rfl⟩ := hE
  have g1 : z_fr [40, 43, 44, 45, 47, 48, 49, 50, 51, 52, 53] (z_set A 39 0 0) (z_map A1 47 16 (A1 40)) := fun q hk => by rw [z_map_ne (z_nm hk (by decide))]; exact f1 q (fun q => hk (by revert q; simp; omega))
  have g47 : ∀ j, j < 16 → z_map A1 47 16 (A1 40) 47 j = R 0 j := fun j hj => by rw [z_map_lt hj, q40]; exact r0 j (by omega)
  have g52 : ∀ j, j < 16 → z_map A1 47 16 (A1 40) 52 j = (zJ (R 0) (R 1) (n 1)) j := fun j hj => by rw [z_map_ne (by decide)]; exact j1 j hj
  have g40 : z_map A1 47 16 (A1 40) 40 = A 40 := (z_map_ne (by decide)).trans q40
  have g41 : z_map A1 47 16 (A1 40) 41 = A 41 := ((z_map_ne (by decide)).trans (f1 41 (by decide))).trans s41
  have g46 : z_map A1 47 16 (A1 40) 46 = A 46 := ((z_map_ne (by decide)).trans (f1 46 (by decide))).trans s46
  generalize z_map A1 47 16 (A1 40) = A2 at *
  refine z_r0 ?_
  refine z_aload_n (pc := 72) dM_open_72 rfl rfl ?_
  refine z_sipush (pc := 73) dM_open_73 zs_192 ?_
  refine z_iload_n (pc := 76) dM_open_76 rfl rfl ?_
  refine z_callV (pc := 77) (m_sealOutward (fr := 192) (n := n 3 - 16) (fun j hj => by rw [g40, r0 j (by omega)]; exact b0 j hj) (fun j hj => by rw [g52 j hj]; exact jb j hj) (fun j hj => by rw [g46]; exact hb j hj) (by rw [g41, e2]; omega) (fun j hj => by rw [g41, e2] at hj; rw [g40, r2 j hj]; exact k2.2 j hj) (by omega) (by omega) (fun j hj => by rw [g40, r3 j (by omega)]; exact k3.2 j (by omega))) (by decide) zo_39 rfl zc_M_150 rfl rfl (Nat.le_of_ble_eq_true rfl) dM_open_77 (fun r A3 B' hE => ?_)
  obtain ⟨rfl, rfl, f3, t3, p47⟩ := hE
  replace t3 : ∀ j, j < 16 → A3 53 j = (zD0 (R 0) (zJ (R 0) (R 1) (n 1)) (R 2) (n 2) (R 3) (n 3 - 16)) j := fun j hj => by
    rw [t3 j hj, g41, e2, g40]
    exact zD0_cg (fun j' h' => r0 j' (by omega)) g52 (fun j' h' => r2 j' h') (fun j' h' => r3 j' (by omega)) j hj
  replace p47 : ∀ j, j < 16 → A3 47 j = R 0 j := fun j hj => by rw [p47 j hj, g40]; exact r0 j (by omega)
  have p52 : ∀ j, j < 16 → A3 52 j = (zJ (R 0) (R 1) (n 1)) j := fun j hj => by rw [f3 52 (by decide)]; exact g52 j hj
  have p40 : A3 40 = A 40 := (f3 40 (by decide)).trans g40
  refine z_r0 ?_
  refine z_aload_n (pc := 80) dM_open_80 rfl rfl ?_
  refine z_iload_n (pc := 81) dM_open_81 rfl rfl ?_
  refine z_iconst (pc := 82) dM_open_82 zi_1 ?_
  refine z_callV (pc := 83) (m_cipher0 (n := n 3 - 16) (by omega) (fun j hj => by rw [f3 46 (by decide), g46]; exact hb j hj) (fun j hj => by rw [p47 j hj]; exact b0 j hj) (fun j hj => by rw [p52 j hj]; exact jb j hj)) (by decide) zo_39 rfl zc_M_147 rfl rfl (Nat.le_of_ble_eq_true rfl) dM_open_83 (fun r A4 B' hE => ?_)
  obtain ⟨rfl, rfl, f4, lo4, c4⟩ := hE
  have CC : ∀ j, j < n 3 - 16 → A4 40 (256 + j) = (zC0 (R 0) (zJ (R 0) (R 1) (n 1)) (R 3)) j := fun j hj => by
    rw [c4 j hj, p40, r3 j (by omega)]
    exact congrArg _ (zE_cg p47 (zcnt_cg p52) _ (Nat.mod_lt _ (by decide)))
  have F : z_fr [40, 43, 44, 45, 47, 48, 49, 50, 51, 52, 53] (z_set A 39 0 0) A4 := fun q hk => (f4 q (fun q => hk (by revert q; simp; omega))).trans ((f3 q (fun q => hk (by revert q; simp; omega))).trans (g1 q hk))
  have LO : ∀ i, i < 256 → A4 40 i = A 40 i := fun i hi => by rw [lo4 i hi, p40]
  have t4 : ∀ j, j < 16 → A4 53 j = (zD0 (R 0) (zJ (R 0) (R 1) (n 1)) (R 2) (n 2) (R 3) (n 3 - 16)) j := fun j hj => by rw [f4 53 (by decide)]; exact t3 j hj
  have tb : ∀ j, j < 16 → (zD0 (R 0) (zJ (R 0) (R 1) (n 1)) (R 2) (n 2) (R 3) (n 3 - 16)) j < 256 := fun j hj => z_xor8 (zby_lt _ _ _) (zE_by b0 jb j hj)
  refine z_r0 ?_
  refine z_goto (pc := 86) (tgt := 98) dM_open_86 rfl ?_
  refine z_iconst (pc := 98) dM_open_98 zi_0 ?_
  refine z_istore_n (L' := [(3, _), (2, _), (0, _), (1, _)]) (pc := 99) dM_open_99 rfl (by decide) rfl ?_
  have rbe : ∀ j, j < 16 → A4 40 (192 + (n 3 - 16) + j) = R 3 (n 3 - 16 + j) := fun j hj => by rw [LO _ (by omega), show 192 + (n 3 - 16) + j = 192 + (n 3 - 16 + j) by omega]; exact r3 _ (by omega)
  have h39 : A4 39 0 = 0 := by rw [F 39 (by decide), z_set_at]
  have hc : ∀ j, j < 16 → A4 53 j = A4 40 (192 + (n 3 - 16) + j) := fun j hj => by rw [t4 j hj, rbe j hj, hok j hj, zdue, if_pos rfl]
  refine z_wd (A' := z_set A4 39 0 (zne (A4 53) (fun j => A4 40 (192 + (n 3 - 16) + j)) 0)) (z_set_self h39).symm rfl ?_
  refine z_for 16 (fun i => [(3, .int (nI i)), (2, .int (nI (n 3 - 16))), (0, .ref (ad 39)), (1, .int (nI 0))]) (fun i => z_set A4 39 0 (zne (A4 53) (fun j => A4 40 (192 + (n 3 - 16) + j)) i)) (fun i => B) (fun i hi ki => ?_) ?_
  · refine z_iload_n (pc := 100) dM_open_100 rfl rfl ?_
    refine z_bipush (pc := 101) dM_open_101 zb_16 ?_
    refine z_icmp_ge (pc := 103) (by omega) (by omega) (tgt := 145) dM_open_103 rfl (fun h => by exfalso; omega) (fun h => ?_)
    refine z_aload_n (pc := 106) dM_open_106 rfl rfl ?_
    refine z_aload_n (pc := 107) dM_open_107 rfl rfl ?_
    refine z_getR (pc := 108) zo_39 rfl zf_M_49_6 dM_open_108 ?_
    refine z_iload_n (pc := 111) dM_open_111 rfl rfl ?_
    refine z_iaload (pc := 112) za_53 (by omega) dM_open_112 ?_
    refine z_aload_n (pc := 113) dM_open_113 rfl rfl ?_
    refine z_getR (pc := 114) zo_39 rfl zf_M_7_6 dM_open_114 ?_
    refine z_sipush (pc := 117) dM_open_117 zs_192 ?_
    refine z_iload_n (pc := 120) dM_open_120 rfl rfl ?_
    refine z_iadd (pc := 121) dM_open_121 ?_
    refine z_iload_n (pc := 122) dM_open_122 rfl rfl ?_
    refine z_iadd (pc := 123) dM_open_123 ?_
    refine z_iaload (pc := 124) za_40 (by omega) dM_open_124 ?_
    refine z_icmp_eq (pc := 125) (by rw [z_set_ne (by decide), t4 _ hi]; have := tb i hi; omega) (by rw [z_set_ne (by decide), rbe i hi]; have := k3.2 (n 3 - 16 + i) (by omega); omega) (tgt := 132) dM_open_125 rfl (fun h5 => ?_) (fun h5 => ?_)
    · refine z_aload_n (pc := 132) dM_open_132 rfl rfl ?_
      refine z_getI (pc := 133) zo_39 rfl zf_M_59_6 dM_open_133 ?_
      refine z_putI (pc := 136) zo_39 rfl zp_M_59_6 dM_open_136 ?_
      refine z_iinc (L' := [(3, _), (2, _), (0, _), (1, _)]) (pc := 139) dM_open_139 rfl zi_1 (by decide) rfl ?_
      refine z_goto (pc := 142) (tgt := 100) dM_open_142 rfl ?_
      rw [z_set_ne (by decide), z_set_ne (by decide)] at h5
      refine z_wd ?_ rfl ki
      first | rw [z_set_set, z_set_at, zne, if_pos h5] | rw [z_set_set, zne, if_neg h5]
    · refine z_iconst (pc := 128) dM_open_128 zi_3 ?_
      refine z_goto (pc := 129) (tgt := 136) dM_open_129 rfl ?_
      refine z_putI (pc := 136) zo_39 rfl zp_M_59_6 dM_open_136 ?_
      refine z_iinc (L' := [(3, _), (2, _), (0, _), (1, _)]) (pc := 139) dM_open_139 rfl zi_1 (by decide) rfl ?_
      refine z_goto (pc := 142) (tgt := 100) dM_open_142 rfl ?_
      rw [z_set_ne (by decide), z_set_ne (by decide)] at h5
      refine z_wd ?_ rfl ki
      first | rw [z_set_set, z_set_at, zne, if_pos h5] | rw [z_set_set, zne, if_neg h5]
  · refine z_wd (A' := A4) (by rw [zne_0 _ _ 16 hc]; exact z_set_self h39) rfl ?_
    refine z_iload_n (pc := 100) dM_open_100 rfl rfl ?_
    refine z_bipush (pc := 101) dM_open_101 zb_16 ?_
    refine z_icmp_ge (pc := 103) (by omega) (by omega) (tgt := 145) dM_open_103 rfl (fun h => ?_) (fun h => by exfalso; omega)
    refine z_aload_n (pc := 145) dM_open_145 rfl rfl ?_
    refine z_getI (pc := 146) zo_39 rfl zf_M_59_6 dM_open_146 ?_
    refine z_top (congrArg (fun x => Value.int (nI x)) h39) ?_
    refine z_if_le (pc := 149) (by omega) (tgt := 154) dM_open_149 rfl (fun h => ?_) (fun h => by exfalso; omega)
    refine z_iconst (pc := 154) dM_open_154 zi_0 ?_
    refine z_istore_n (L' := [(3, _), (2, _), (0, _), (1, _)]) (pc := 155) dM_open_155 rfl (by decide) rfl ?_
    refine z_wd (z_map_0 A4 42 (fun j => A4 40 (256 + j))).symm rfl ?_
    refine z_for (n 3 - 16) (fun i => [(3, .int (nI i)), (2, .int (nI (n 3 - 16))), (0, .ref (ad 39)), (1, .int (nI 0))]) (fun i => z_map A4 42 i (fun j => A4 40 (256 + j))) (fun i => B) (fun i hi ki => ?_) ?_
    · refine z_iload_n (pc := 156) dM_open_156 rfl rfl ?_
      refine z_iload_n (pc := 157) dM_open_157 rfl rfl ?_
      refine z_icmp_ge (pc := 158) (by omega) (by omega) (tgt := 183) dM_open_158 rfl (fun h => by exfalso; omega) (fun h => ?_)
      refine z_aload_n (pc := 161) dM_open_161 rfl rfl ?_
      refine z_getR (pc := 162) zo_39 rfl zf_M_16_6 dM_open_162 ?_
      refine z_iload_n (pc := 165) dM_open_165 rfl rfl ?_
      refine z_aload_n (pc := 166) dM_open_166 rfl rfl ?_
      refine z_getR (pc := 167) zo_39 rfl zf_M_7_6 dM_open_167 ?_
      refine z_sipush (pc := 170) dM_open_170 zs_256 ?_
      refine z_iload_n (pc := 173) dM_open_173 rfl rfl ?_
      refine z_iadd (pc := 174) dM_open_174 ?_
      refine z_iaload (pc := 175) za_40 (by omega) dM_open_175 ?_
      refine z_iastore (pc := 176) za_42 (by omega) dM_open_176 ?_
      refine z_iinc (L' := [(3, _), (2, _), (0, _), (1, _)]) (pc := 177) dM_open_177 rfl zi_1 (by decide) rfl ?_
      refine z_goto (pc := 180) (tgt := 156) dM_open_180 rfl ?_
      refine z_wd (z_map_set ?_) rfl ki
      rw [z_map_ne (by decide)]
    · refine z_iload_n (pc := 156) dM_open_156 rfl rfl ?_
      refine z_iload_n (pc := 157) dM_open_157 rfl rfl ?_
      refine z_icmp_ge (pc := 158) (by omega) (by omega) (tgt := 183) dM_open_158 rfl (fun h => ?_) (fun h => by exfalso; omega)
      refine z_aload_n (pc := 183) dM_open_183 rfl rfl ?_
      refine z_iload_n (pc := 184) dM_open_184 rfl rfl ?_
      refine z_putI (pc := 185) zo_39 rfl zp_M_105_6 dM_open_185 ?_
      refine z_aload_n (pc := 188) dM_open_188 rfl rfl ?_
      refine z_getI (pc := 189) zo_39 rfl zf_M_105_6 dM_open_189 ?_
      refine z_top (congrArg (fun x => Value.int (nI x)) z_set_at) ?_
      exact z_reti (pc := 192) dM_open_192 (hEx _ _ _ (⟨rfl, rfl, fun q hq => by rw [z_set_ne (by omega), z_map_ne (by omega), F q (by simp; omega), z_set_ne (by omega)], by rw [z_set_nj (by decide), z_map_ne (by decide), h39], fun j hj => by rw [z_set_ne (by decide), z_map_ne (by decide), F 46 (by decide), s46]; exact hb j hj, hs.res (fun i hi => by rw [z_set_ne (by decide), z_map_ne (by decide)]; exact LO i hi) (by rw [z_set_ne (by decide), z_map_ne (by decide), F 41 (by decide), s41]) z_set_at (fun j hj => by rw [z_set_ne (by decide), z_map_lt hj, CC j hj, zopen, if_pos rfl]) hv⟩))
theorem m_open3_0  (hrd : zrdy 0 n) (hn : 16 ≤ n 3) (hok : ¬ (∀ j, j < 16 → R 3 (n 3 - 16 + j) = zdue 0 (R 0) (R 1) (n 1) (R 2) (n 2) (R 3) (n 3 - 16) j)) (hb : z_box A 46) (hs : zMR A n R m X) (hv : zVS n R m X) : z_Met l g ad mM_open (z_rm 7) [.ref (ad 39), .int (nI 0)] A B (z_an 0 (zMP A B 3 n R m X)) := by
  refine z_Met.of (L := [(0, _), (1, _)]) (by decide) (Nat.le_of_ble_eq_true rfl) z_fit_an rfl ?_
  intro Ex hEx
  have k0 := hv.1 0 (by decide)
  have k1 := hv.1 1 (by decide)
  have k2 := hv.1 2 (by decide)
  have k3 := hv.1 3 (by decide)
  have l0 := zmost_le 0
  have l3 := zmost_le 3
  have e0 := (hs.1 0 (by decide)).1
  have e1 := (hs.1 1 (by decide)).1
  have e2 := (hs.1 2 (by decide)).1
  have e3 := (hs.1 3 (by decide)).1
  have l1 : zmost 1 = 24 := rfl
  have l2 : zmost 2 = 32 := rfl
  have n0 : n 0 = 16 := hrd.1
  have n1 : 1 ≤ n 1 := hrd.2
  have r0 := hs.r0
  have r1 := hs.r1
  have r2 := hs.r2
  have r3 := hs.r3
  have s40 : (z_set A 39 0 0) 40 = A 40 := z_set_ne (by decide)
  have s41 : (z_set A 39 0 0) 41 = A 41 := z_set_ne (by decide)
  have s46 : (z_set A 39 0 0) 46 = A 46 := z_set_ne (by decide)
  have b0 : ∀ j, j < 16 → R 0 j < 256 := fun j hj => k0.2 j (by omega)
  refine z_aload_n (pc := 0) dM_open_0 rfl rfl ?_
  refine z_iload_n (pc := 1) dM_open_1 rfl rfl ?_
  refine z_if_eq (pc := 2) (by omega) (tgt := 14) dM_open_2 rfl (fun h => ?_) (fun h => by exfalso; omega)
  refine z_aload_n (pc := 14) dM_open_14 rfl rfl ?_
  refine z_iload_n (pc := 15) dM_open_15 rfl rfl ?_
  refine z_callV (pc := 16) (m_isReady (w := 0) (by omega) (by omega) (by omega)) (by decide) zo_39 rfl zc_M_141 rfl rfl (Nat.le_of_ble_eq_true rfl) dM_open_16 (fun r A' B' hE => ?_)
  obtain ⟨rfl, rfl, rfl⟩ := hE
  refine z_r1 ?_
  refine z_top (congrArg (fun x => Value.int (nI x)) (if_pos ((z_rd e0 e1).mpr hrd))) ?_
  refine z_if_eq (pc := 19) (by omega) (tgt := 33) dM_open_19 rfl (fun h => by exfalso; omega) (fun h => ?_)
  refine z_aload_n (pc := 22) dM_open_22 rfl rfl ?_
  refine z_getR (pc := 23) zo_39 rfl zf_M_13_6 dM_open_23 ?_
  refine z_iconst (pc := 26) dM_open_26 zi_3 ?_
  refine z_iaload (pc := 27) za_41 (by omega) dM_open_27 ?_
  refine z_bipush (pc := 28) dM_open_28 zb_16 ?_
  refine z_icmp_ge (pc := 30) (by omega) (by omega) (tgt := 37) dM_open_30 rfl (fun h => ?_) (fun h => by exfalso; omega)
  refine z_iconst (pc := 37) dM_open_37 zi_0 ?_
  refine z_putI (pc := 38) zo_39 rfl zp_M_59_6 dM_open_38 ?_
  refine z_aload_n (pc := 41) dM_open_41 rfl rfl ?_
  refine z_getI (pc := 42) zo_39 rfl zf_M_59_6 dM_open_42 ?_
  refine z_top (congrArg (fun x => Value.int (nI x)) z_set_at) ?_
  refine z_if_le (pc := 45) (by omega) (tgt := 50) dM_open_45 rfl (fun h => ?_) (fun h => by exfalso; omega)
  refine z_aload_n (pc := 50) dM_open_50 rfl rfl ?_
  refine z_getR (pc := 51) zo_39 rfl zf_M_13_6 dM_open_51 ?_
  refine z_iconst (pc := 54) dM_open_54 zi_3 ?_
  refine z_iaload (pc := 55) za_41 (by omega) dM_open_55 ?_
  refine z_top (congrArg (fun x => Value.int (nI x)) (show _ = n 3 by rw [s41]; exact e3)) ?_
  refine z_bipush (pc := 56) dM_open_56 zb_16 ?_
  refine z_isub (pc := 58) dM_open_58 (by omega) ?_
  refine z_istore_n (L' := [(2, _), (0, _), (1, _)]) (pc := 59) dM_open_59 rfl (by decide) rfl ?_
  refine z_iload_n (pc := 60) dM_open_60 rfl rfl ?_
  refine z_if_ne (pc := 61) (by omega) (tgt := 89) dM_open_61 rfl (fun h => by exfalso; omega) (fun h => ?_)
  refine z_aload_n (pc := 64) dM_open_64 rfl rfl ?_
  refine z_callV (pc := 65) (m_makeStart (fun j hj => by rw [s46]; exact hb j hj) (fun j hj => by rw [s40, r0 j (by omega)]; exact b0 j hj) (by rw [s41, e1]; omega) (fun j hj => by rw [s41, e1] at hj; rw [s40, r1 j hj]; exact k1.2 j hj)) (by decide) zo_39 rfl zc_M_144 rfl rfl (Nat.le_of_ble_eq_true rfl) dM_open_65 (fun r A1 B' hE => ?_)
  obtain ⟨rfl, rfl, f1, j1⟩ := hE
  replace j1 : ∀ j, j < 16 → A1 52 j = (zJ (R 0) (R 1) (n 1)) j := fun j hj => by rw [j1 j hj, s40, s41, e1]; exact zJ_cg (fun j' h' => r0 j' (by omega)) r1 j
  have jb : ∀ j, j < 16 → (zJ (R 0) (R 1) (n 1)) j < 256 := fun j _ => zJ_lt k1.2 j
  have q40 : A1 40 = A 40 := (f1 40 (by decide)).trans s40
  refine z_r0 ?_
  refine z_aload_n (pc := 68) dM_open_68 rfl rfl ?_
  refine z_callV (pc := 69) (m_useKey) (by decide) zo_39 rfl zc_M_108 rfl rfl (Nat.le_of_ble_eq_true rfl) dM_open_69 (fun r A' B' hE => ?_)
  obtain ⟨rfl, rfl, rfl⟩ := hE
  have g1 : z_fr [40, 43, 44, 45, 47, 48, 49, 50, 51, 52, 53] (z_set A 39 0 0) (z_map A1 47 16 (A1 40)) := fun q hk => by rw [z_map_ne (z_nm hk (by decide))]; exact f1 q (fun q => hk (by revert q; simp; omega))
  have g47 : ∀ j, j < 16 → z_map A1 47 16 (A1 40) 47 j = R 0 j := fun j hj => by rw [z_map_lt hj, q40]; exact r0 j (by omega)
  have g52 : ∀ j, j < 16 → z_map A1 47 16 (A1 40) 52 j = (zJ (R 0) (R 1) (n 1)) j := fun j hj => by rw [z_map_ne (by decide)]; exact j1 j hj
  have g40 : z_map A1 47 16 (A1 40) 40 = A 40 := (z_map_ne (by decide)).trans q40
  have g41 : z_map A1 47 16 (A1 40) 41 = A 41 := ((z_map_ne (by decide)).trans (f1 41 (by decide))).trans s41
  have g46 : z_map A1 47 16 (A1 40) 46 = A 46 := ((z_map_ne (by decide)).trans (f1 46 (by decide))).trans s46
  generalize z_map A1 47 16 (A1 40) = A2 at *
  refine z_r0 ?_
  refine z_aload_n (pc := 72) dM_open_72 rfl rfl ?_
  refine z_sipush (pc := 73) dM_open_73 zs_192 ?_
  refine z_iload_n (pc := 76) dM_open_76 rfl rfl ?_
  refine z_callV (pc := 77) (m_sealOutward (fr := 192) (n := n 3 - 16) (fun j hj => by rw [g40, r0 j (by omega)]; exact b0 j hj) (fun j hj => by rw [g52 j hj]; exact jb j hj) (fun j hj => by rw [g46]; exact hb j hj) (by rw [g41, e2]; omega) (fun j hj => by rw [g41, e2] at hj; rw [g40, r2 j hj]; exact k2.2 j hj) (by omega) (by omega) (fun j hj => by rw [g40, r3 j (by omega)]; exact k3.2 j (by omega))) (by decide) zo_39 rfl zc_M_150 rfl rfl (Nat.le_of_ble_eq_true rfl) dM_open_77 (fun r A3 B' hE => ?_)
  obtain ⟨rfl, rfl, f3, t3, p47⟩ := hE
  replace t3 : ∀ j, j < 16 → A3 53 j = (zD0 (R 0) (zJ (R 0) (R 1) (n 1)) (R 2) (n 2) (R 3) (n 3 - 16)) j := fun j hj => by
    rw [t3 j hj, g41, e2, g40]
    exact zD0_cg (fun j' h' => r0 j' (by omega)) g52 (fun j' h' => r2 j' h') (fun j' h' => r3 j' (by omega)) j hj
  replace p47 : ∀ j, j < 16 → A3 47 j = R 0 j := fun j hj => by rw [p47 j hj, g40]; exact r0 j (by omega)
  have p52 : ∀ j, j < 16 → A3 52 j = (zJ (R 0) (R 1) (n 1)) j := fun j hj => by rw [f3 52 (by decide)]; exact g52 j hj
  have p40 : A3 40 = A 40 := (f3 40 (by decide)).trans g40
  refine z_r0 ?_
  refine z_aload_n (pc := 80) dM_open_80 rfl rfl ?_
  refine z_iload_n (pc := 81) dM_open_81 rfl rfl ?_
  refine z_iconst (pc := 82) dM_open_82 zi_1 ?_
  refine z_callV (pc := 83) (m_cipher0 (n := n 3 - 16) (by omega) (fun j hj => by rw [f3 46 (by decide), g46]; exact hb j hj) (fun j hj => by rw [p47 j hj]; exact b0 j hj) (fun j hj => by rw [p52 j hj]; exact jb j hj)) (by decide) zo_39 rfl zc_M_147 rfl rfl (Nat.le_of_ble_eq_true rfl) dM_open_83 (fun r A4 B' hE => ?_)
  obtain ⟨rfl, rfl, f4, lo4, c4⟩ := hE
  have CC : ∀ j, j < n 3 - 16 → A4 40 (256 + j) = (zC0 (R 0) (zJ (R 0) (R 1) (n 1)) (R 3)) j := fun j hj => by
    rw [c4 j hj, p40, r3 j (by omega)]
    exact congrArg _ (zE_cg p47 (zcnt_cg p52) _ (Nat.mod_lt _ (by decide)))
  have F : z_fr [40, 43, 44, 45, 47, 48, 49, 50, 51, 52, 53] (z_set A 39 0 0) A4 := fun q hk => (f4 q (fun q => hk (by revert q; simp; omega))).trans ((f3 q (fun q => hk (by revert q; simp; omega))).trans (g1 q hk))
  have LO : ∀ i, i < 256 → A4 40 i = A 40 i := fun i hi => by rw [lo4 i hi, p40]
  have t4 : ∀ j, j < 16 → A4 53 j = (zD0 (R 0) (zJ (R 0) (R 1) (n 1)) (R 2) (n 2) (R 3) (n 3 - 16)) j := fun j hj => by rw [f4 53 (by decide)]; exact t3 j hj
  have tb : ∀ j, j < 16 → (zD0 (R 0) (zJ (R 0) (R 1) (n 1)) (R 2) (n 2) (R 3) (n 3 - 16)) j < 256 := fun j hj => z_xor8 (zby_lt _ _ _) (zE_by b0 jb j hj)
  refine z_r0 ?_
  refine z_goto (pc := 86) (tgt := 98) dM_open_86 rfl ?_
  refine z_iconst (pc := 98) dM_open_98 zi_0 ?_
  refine z_istore_n (L' := [(3, _), (2, _), (0, _), (1, _)]) (pc := 99) dM_open_99 rfl (by decide) rfl ?_
  have rbe : ∀ j, j < 16 → A4 40 (192 + (n 3 - 16) + j) = R 3 (n 3 - 16 + j) := fun j hj => by rw [LO _ (by omega), show 192 + (n 3 - 16) + j = 192 + (n 3 - 16 + j) by omega]; exact r3 _ (by omega)
  have h39 : A4 39 0 = 0 := by rw [F 39 (by decide), z_set_at]
  have hc : ¬ (∀ j, j < 16 → A4 53 j = A4 40 (192 + (n 3 - 16) + j)) := fun q => hok (fun j hj => by rw [← rbe j hj, ← q j hj, t4 j hj, zdue, if_pos rfl])
  refine z_wd (A' := z_set A4 39 0 (zne (A4 53) (fun j => A4 40 (192 + (n 3 - 16) + j)) 0)) (z_set_self h39).symm rfl ?_
  refine z_for 16 (fun i => [(3, .int (nI i)), (2, .int (nI (n 3 - 16))), (0, .ref (ad 39)), (1, .int (nI 0))]) (fun i => z_set A4 39 0 (zne (A4 53) (fun j => A4 40 (192 + (n 3 - 16) + j)) i)) (fun i => B) (fun i hi ki => ?_) ?_
  · refine z_iload_n (pc := 100) dM_open_100 rfl rfl ?_
    refine z_bipush (pc := 101) dM_open_101 zb_16 ?_
    refine z_icmp_ge (pc := 103) (by omega) (by omega) (tgt := 145) dM_open_103 rfl (fun h => by exfalso; omega) (fun h => ?_)
    refine z_aload_n (pc := 106) dM_open_106 rfl rfl ?_
    refine z_aload_n (pc := 107) dM_open_107 rfl rfl ?_
    refine z_getR (pc := 108) zo_39 rfl zf_M_49_6 dM_open_108 ?_
    refine z_iload_n (pc := 111) dM_open_111 rfl rfl ?_
    refine z_iaload (pc := 112) za_53 (by omega) dM_open_112 ?_
    refine z_aload_n (pc := 113) dM_open_113 rfl rfl ?_
    refine z_getR (pc := 114) zo_39 rfl zf_M_7_6 dM_open_114 ?_
    refine z_sipush (pc := 117) dM_open_117 zs_192 ?_
    refine z_iload_n (pc := 120) dM_open_120 rfl rfl ?_
    refine z_iadd (pc := 121) dM_open_121 ?_
    refine z_iload_n (pc := 122) dM_open_122 rfl rfl ?_
    refine z_iadd (pc := 123) dM_open_123 ?_
    refine z_iaload (pc := 124) za_40 (by omega) dM_open_124 ?_
    refine z_icmp_eq (pc := 125) (by rw [z_set_ne (by decide), t4 _ hi]; have := tb i hi; omega) (by rw [z_set_ne (by decide), rbe i hi]; have := k3.2 (n 3 - 16 + i) (by omega); omega) (tgt := 132) dM_open_125 rfl (fun h5 => ?_) (fun h5 => ?_)
    · refine z_aload_n (pc := 132) dM_open_132 rfl rfl ?_
      refine z_getI (pc := 133) zo_39 rfl zf_M_59_6 dM_open_133 ?_
      refine z_putI (pc := 136) zo_39 rfl zp_M_59_6 dM_open_136 ?_
      refine z_iinc (L' := [(3, _), (2, _), (0, _), (1, _)]) (pc := 139) dM_open_139 rfl zi_1 (by decide) rfl ?_
      refine z_goto (pc := 142) (tgt := 100) dM_open_142 rfl ?_
      rw [z_set_ne (by decide), z_set_ne (by decide)] at h5
      refine z_wd ?_ rfl ki
      first | rw [z_set_set, z_set_at, zne, if_pos h5] | rw [z_set_set, zne, if_neg h5]
    · refine z_iconst (pc := 128) dM_open_128 zi_3 ?_
      refine z_goto (pc := 129) (tgt := 136) dM_open_129 rfl ?_
      refine z_putI (pc := 136) zo_39 rfl zp_M_59_6 dM_open_136 ?_
      refine z_iinc (L' := [(3, _), (2, _), (0, _), (1, _)]) (pc := 139) dM_open_139 rfl zi_1 (by decide) rfl ?_
      refine z_goto (pc := 142) (tgt := 100) dM_open_142 rfl ?_
      rw [z_set_ne (by decide), z_set_ne (by decide)] at h5
      refine z_wd ?_ rfl ki
      first | rw [z_set_set, z_set_at, zne, if_pos h5] | rw [z_set_set, zne, if_neg h5]
  · refine z_wd (A' := z_set A4 39 0 3) (by rw [zne_3 _ _ 16 hc]) rfl ?_
    refine z_iload_n (pc := 100) dM_open_100 rfl rfl ?_
    refine z_bipush (pc := 101) dM_open_101 zb_16 ?_
    refine z_icmp_ge (pc := 103) (by omega) (by omega) (tgt := 145) dM_open_103 rfl (fun h => ?_) (fun h => by exfalso; omega)
    refine z_aload_n (pc := 145) dM_open_145 rfl rfl ?_
    refine z_getI (pc := 146) zo_39 rfl zf_M_59_6 dM_open_146 ?_
    refine z_top (congrArg (fun x => Value.int (nI x)) z_set_at) ?_
    refine z_if_le (pc := 149) (by omega) (tgt := 154) dM_open_149 rfl (fun h => by exfalso; omega) (fun h => ?_)
    refine z_iconst (pc := 152) dM_open_152 zi_0 ?_
    exact z_reti (pc := 153) dM_open_153 (hEx _ _ _ (⟨rfl, rfl, fun q hq => by rw [z_set_ne (by omega), F q (by simp; omega), z_set_ne (by omega)], z_set_at, fun j hj => by rw [z_set_ne (by decide), F 46 (by decide), s46]; exact hb j hj, hs.mv (fun i hi => by rw [z_set_ne (by decide)]; exact LO i hi) (by rw [z_set_ne (by decide), F 41 (by decide), s41]) (by rw [z_set_nj (by decide), F 39 (by decide), z_set_nj (by decide)]) (by rw [z_set_ne (by decide), F 42 (by decide), z_set_ne (by decide)]) hv⟩))
theorem m_open0_1  (hrd : zrdy 1 n) (hn : 16 ≤ n 3) (hok : (∀ j, j < 16 → R 3 (n 3 - 16 + j) = zdue 1 (R 0) (R 1) (n 1) (R 2) (n 2) (R 3) (n 3 - 16) j)) (hb : z_box A 46) (hs : zMR A n R m X) (hv : zVS n R m X) : z_Met l g ad mM_open (z_rm 7) [.ref (ad 39), .int (nI 1)] A B (z_an (n 3 - 16) (zMP A B 0 n R (n 3 - 16) (zopen 1 (R 0) (R 1) (n 1) (R 3) (n 3 - 16)))) := by
  refine z_Met.of (L := [(0, _), (1, _)]) (by decide) (Nat.le_of_ble_eq_true rfl) z_fit_an rfl ?_
  intro Ex hEx
  have k0 := hv.1 0 (by decide)
  have k1 := hv.1 1 (by decide)
  have k2 := hv.1 2 (by decide)
  have k3 := hv.1 3 (by decide)
  have l0 := zmost_le 0
  have l3 := zmost_le 3
  have e0 := (hs.1 0 (by decide)).1
  have e1 := (hs.1 1 (by decide)).1
  have e2 := (hs.1 2 (by decide)).1
  have e3 := (hs.1 3 (by decide)).1
  have l1 : zmost 1 = 24 := rfl
  have l2 : zmost 2 = 32 := rfl
  have n0 : n 0 = 16 := hrd.1
  have n1 : n 1 = 12 := hrd.2
  have r0 := hs.r0
  have r1 := hs.r1
  have r2 := hs.r2
  have r3 := hs.r3
  have s40 : (z_set A 39 0 0) 40 = A 40 := z_set_ne (by decide)
  have s41 : (z_set A 39 0 0) 41 = A 41 := z_set_ne (by decide)
  have s46 : (z_set A 39 0 0) 46 = A 46 := z_set_ne (by decide)
  have b0 : ∀ j, j < 16 → R 0 j < 256 := fun j hj => k0.2 j (by omega)
  refine z_aload_n (pc := 0) dM_open_0 rfl rfl ?_
  refine z_iload_n (pc := 1) dM_open_1 rfl rfl ?_
  refine z_if_eq (pc := 2) (by omega) (tgt := 14) dM_open_2 rfl (fun h => by exfalso; omega) (fun h => ?_)
  refine z_iload_n (pc := 5) dM_open_5 rfl rfl ?_
  refine z_iconst (pc := 6) dM_open_6 zi_1 ?_
  refine z_icmp_eq (pc := 7) (by omega) (by omega) (tgt := 14) dM_open_7 rfl (fun h => ?_) (fun h => by exfalso; omega)
  refine z_aload_n (pc := 14) dM_open_14 rfl rfl ?_
  refine z_iload_n (pc := 15) dM_open_15 rfl rfl ?_
  refine z_callV (pc := 16) (m_isReady (w := 1) (by omega) (by omega) (by omega)) (by decide) zo_39 rfl zc_M_141 rfl rfl (Nat.le_of_ble_eq_true rfl) dM_open_16 (fun r A' B' hE => ?_)
  obtain ⟨rfl, rfl, rfl⟩ := hE
  refine z_r1 ?_
  refine z_top (congrArg (fun x => Value.int (nI x)) (if_pos ((z_rd e0 e1).mpr hrd))) ?_
  refine z_if_eq (pc := 19) (by omega) (tgt := 33) dM_open_19 rfl (fun h => by exfalso; omega) (fun h => ?_)
  refine z_aload_n (pc := 22) dM_open_22 rfl rfl ?_
  refine z_getR (pc := 23) zo_39 rfl zf_M_13_6 dM_open_23 ?_
  refine z_iconst (pc := 26) dM_open_26 zi_3 ?_
  refine z_iaload (pc := 27) za_41 (by omega) dM_open_27 ?_
  refine z_bipush (pc := 28) dM_open_28 zb_16 ?_
  refine z_icmp_ge (pc := 30) (by omega) (by omega) (tgt := 37) dM_open_30 rfl (fun h => ?_) (fun h => by exfalso; omega)
  refine z_iconst (pc := 37) dM_open_37 zi_0 ?_
  refine z_putI (pc := 38) zo_39 rfl zp_M_59_6 dM_open_38 ?_
  refine z_aload_n (pc := 41) dM_open_41 rfl rfl ?_
  refine z_getI (pc := 42) zo_39 rfl zf_M_59_6 dM_open_42 ?_
  refine z_top (congrArg (fun x => Value.int (nI x)) z_set_at) ?_
  refine z_if_le (pc := 45) (by omega) (tgt := 50) dM_open_45 rfl (fun h => ?_) (fun h => by exfalso; omega)
  refine z_aload_n (pc := 50) dM_open_50 rfl rfl ?_
  refine z_getR (pc := 51) zo_39 rfl zf_M_13_6 dM_open_51 ?_
  refine z_iconst (pc := 54) dM_open_54 zi_3 ?_
  refine z_iaload (pc := 55) za_41 (by omega) dM_open_55 ?_
  refine z_top (congrArg (fun x => Value.int (nI x)) (show _ = n 3 by rw [s41]; exact e3)) ?_
  refine z_bipush (pc := 56) dM_open_56 zb_16 ?_
  refine z_isub (pc := 58) dM_open_58 (by omega) ?_
  refine z_istore_n (L' := [(2, _), (0, _), (1, _)]) (pc := 59) dM_open_59 rfl (by decide) rfl ?_
  refine z_iload_n (pc := 60) dM_open_60 rfl rfl ?_
  refine z_if_ne (pc := 61) (by omega) (tgt := 89) dM_open_61 rfl (fun h => ?_) (fun h => by exfalso; omega)
  refine z_aload_n (pc := 89) dM_open_89 rfl rfl ?_
  refine z_callV (pc := 90) (m_deriveKeys (fun j hj => by rw [s46]; exact hb j hj) (fun j hj => by rw [s40, r0 j (by omega)]; exact b0 j hj) (fun j hj => by rw [s40, r1 j (by omega)]; exact k1.2 j (by omega))) (by decide) zo_39 rfl zc_M_153 rfl rfl (Nat.le_of_ble_eq_true rfl) dM_open_90 (fun r A2 B' hE => ?_)
  obtain ⟨rfl, rfl, f1, lo1, h1, h2⟩ := hE
  have hN12 : ∀ j, j < 12 → R 1 j < 256 := fun j hj => k1.2 j (by omega)
  have g1 : z_fr [40, 43, 44, 45, 47, 48, 49, 50, 51, 52, 53] (z_set A 39 0 0) A2 := fun q hk => f1 q (fun q => hk (by revert q; simp; omega))
  have g52 : ∀ j, j < 16 → A2 52 j = (zdk (R 0) (R 1) 0) j := fun j hj => by rw [h1 j hj, s40]; exact zdk_cg (fun j' h' => r0 j' (by omega)) (fun j' h' => r1 j' (by omega)) j hj
  have g47 : ∀ j, j < 16 → A2 47 j = (zdk (R 0) (R 1) 2) j := fun j hj => by rw [h2 j hj, s40]; exact zdk_cg (fun j' h' => r0 j' (by omega)) (fun j' h' => r1 j' (by omega)) j hj
  have g40 : ∀ x, x < 256 → A2 40 x = A 40 x := fun x hx => by rw [lo1 x hx, s40]
  have g41 : A2 41 = A 41 := (f1 41 (by decide)).trans s41
  have g46 : A2 46 = A 46 := (f1 46 (by decide)).trans s46
  have kb : ∀ j, j < 16 → (zdk (R 0) (R 1) 2) j < 256 := zdk_lt' b0 hN12 (by omega)
  have hbk : ∀ j, j < 16 → (zdk (R 0) (R 1) 0) j < 256 := zdk_lt' b0 hN12 (by omega)
  refine z_r0 ?_
  refine z_aload_n (pc := 93) dM_open_93 rfl rfl ?_
  refine z_iload_n (pc := 94) dM_open_94 rfl rfl ?_
  refine z_callV (pc := 95) (m_openInward (k := n 3 - 16) (by omega) (fun j hj => by rw [g46]; exact hb j hj) (fun j hj => by rw [g47 j hj]; exact kb j hj) (fun j hj => by rw [g52 j hj]; exact hbk j hj) (fun j hj => by rw [g40 _ (by omega), r1 j (by omega)]; exact hN12 j hj) (by rw [g41, e2]; omega) (fun j hj => by rw [g41, e2] at hj; rw [g40 _ (by omega), r2 j hj]; exact k2.2 j hj) (fun j hj => by rw [g40 _ (by omega), r3 j (by omega)]; exact k3.2 j (by omega))) (by decide) zo_39 rfl zc_M_162 rfl rfl (Nat.le_of_ble_eq_true rfl) dM_open_95 (fun r A4 B' hE => ?_)
  obtain ⟨rfl, rfl, f4, lo4, c4, t4⟩ := hE
  have cP : ∀ j, j < n 3 - 16 → zC1 (A2 47) (fun j => A2 40 (192 + (n 3 - 16) + j)) (fun j => A2 40 (192 + j)) j = (zC1 (zdk (R 0) (R 1) 2) (fun j => R 3 ((n 3 - 16) + j)) (R 3)) j := zC1_cg (n := n 3 - 16) g47 (fun j' h' => by rw [g40 _ (by omega), show 192 + (n 3 - 16) + j' = 192 + (n 3 - 16 + j') by omega]; exact r3 _ (by omega)) (fun j' h' => by rw [g40 _ (by omega)]; exact r3 j' (by omega))
  have CC : ∀ j, j < n 3 - 16 → A4 40 (256 + j) = (zC1 (zdk (R 0) (R 1) 2) (fun j => R 3 ((n 3 - 16) + j)) (R 3)) j := fun j hj => by rw [c4 j hj]; exact cP j hj
  replace t4 : ∀ j, j < 16 → A4 53 j = (zD1 (zdk (R 0) (R 1) 2) (zdk (R 0) (R 1) 0) (R 1) (R 2) (n 2) (zC1 (zdk (R 0) (R 1) 2) (fun j => R 3 ((n 3 - 16) + j)) (R 3)) (n 3 - 16)) j := fun j hj => by
    rw [t4 j hj, g41, e2]
    exact zD1_cg g47 g52 (fun j' h' => by rw [g40 _ (by omega)]; exact r1 j' (by omega)) (fun j' h' => by rw [g40 _ (by omega)]; exact r2 j' h') cP j hj
  have F : z_fr [40, 43, 44, 45, 47, 48, 49, 50, 51, 52, 53] (z_set A 39 0 0) A4 := fun q hk => (f4 q (fun q => hk (by revert q; simp; omega))).trans (g1 q hk)
  have LO : ∀ i, i < 256 → A4 40 i = A 40 i := fun i hi => by rw [lo4 i hi]; exact g40 i hi
  have tb : ∀ j, j < 16 → (zD1 (zdk (R 0) (R 1) 2) (zdk (R 0) (R 1) 0) (R 1) (R 2) (n 2) (zC1 (zdk (R 0) (R 1) 2) (fun j => R 3 ((n 3 - 16) + j)) (R 3)) (n 3 - 16)) j < 256 := fun j hj => zE_by kb (zdu_lt' hN12) j hj
  refine z_r0 ?_
  refine z_iconst (pc := 98) dM_open_98 zi_0 ?_
  refine z_istore_n (L' := [(3, _), (2, _), (0, _), (1, _)]) (pc := 99) dM_open_99 rfl (by decide) rfl ?_
  have rbe : ∀ j, j < 16 → A4 40 (192 + (n 3 - 16) + j) = R 3 (n 3 - 16 + j) := fun j hj => by rw [LO _ (by omega), show 192 + (n 3 - 16) + j = 192 + (n 3 - 16 + j) by omega]; exact r3 _ (by omega)
  have h39 : A4 39 0 = 0 := by rw [F 39 (by decide), z_set_at]
  have hc : ∀ j, j < 16 → A4 53 j = A4 40 (192 + (n 3 - 16) + j) := fun j hj => by rw [t4 j hj, rbe j hj, hok j hj, zdue, if_neg (by decide)]
  refine z_wd (A' := z_set A4 39 0 (zne (A4 53) (fun j => A4 40 (192 + (n 3 - 16) + j)) 0)) (z_set_self h39).symm rfl ?_
  refine z_for 16 (fun i => [(3, .int (nI i)), (2, .int (nI (n 3 - 16))), (0, .ref (ad 39)), (1, .int (nI 1))]) (fun i => z_set A4 39 0 (zne (A4 53) (fun j => A4 40 (192 + (n 3 - 16) + j)) i)) (fun i => B) (fun i hi ki => ?_) ?_
  · refine z_iload_n (pc := 100) dM_open_100 rfl rfl ?_
    refine z_bipush (pc := 101) dM_open_101 zb_16 ?_
    refine z_icmp_ge (pc := 103) (by omega) (by omega) (tgt := 145) dM_open_103 rfl (fun h => by exfalso; omega) (fun h => ?_)
    refine z_aload_n (pc := 106) dM_open_106 rfl rfl ?_
    refine z_aload_n (pc := 107) dM_open_107 rfl rfl ?_
    refine z_getR (pc := 108) zo_39 rfl zf_M_49_6 dM_open_108 ?_
    refine z_iload_n (pc := 111) dM_open_111 rfl rfl ?_
    refine z_iaload (pc := 112) za_53 (by omega) dM_open_112 ?_
    refine z_aload_n (pc := 113) dM_open_113 rfl rfl ?_
    refine z_getR (pc := 114) zo_39 rfl zf_M_7_6 dM_open_114 ?_
    refine z_sipush (pc := 117) dM_open_117 zs_192 ?_
    refine z_iload_n (pc := 120) dM_open_120 rfl rfl ?_
    refine z_iadd (pc := 121) dM_open_121 ?_
    refine z_iload_n (pc := 122) dM_open_122 rfl rfl ?_
    refine z_iadd (pc := 123) dM_open_123 ?_
    refine z_iaload (pc := 124) za_40 (by omega) dM_open_124 ?_
    refine z_icmp_eq (pc := 125) (by rw [z_set_ne (by decide), t4 _ hi]; have := tb i hi; omega) (by rw [z_set_ne (by decide), rbe i hi]; have := k3.2 (n 3 - 16 + i) (by omega); omega) (tgt := 132) dM_open_125 rfl (fun h5 => ?_) (fun h5 => ?_)
    · refine z_aload_n (pc := 132) dM_open_132 rfl rfl ?_
      refine z_getI (pc := 133) zo_39 rfl zf_M_59_6 dM_open_133 ?_
      refine z_putI (pc := 136) zo_39 rfl zp_M_59_6 dM_open_136 ?_
      refine z_iinc (L' := [(3, _), (2, _), (0, _), (1, _)]) (pc := 139) dM_open_139 rfl zi_1 (by decide) rfl ?_
      refine z_goto (pc := 142) (tgt := 100) dM_open_142 rfl ?_
      rw [z_set_ne (by decide), z_set_ne (by decide)] at h5
      refine z_wd ?_ rfl ki
      first | rw [z_set_set, z_set_at, zne, if_pos h5] | rw [z_set_set, zne, if_neg h5]
    · refine z_iconst (pc := 128) dM_open_128 zi_3 ?_
      refine z_goto (pc := 129) (tgt := 136) dM_open_129 rfl ?_
      refine z_putI (pc := 136) zo_39 rfl zp_M_59_6 dM_open_136 ?_
      refine z_iinc (L' := [(3, _), (2, _), (0, _), (1, _)]) (pc := 139) dM_open_139 rfl zi_1 (by decide) rfl ?_
      refine z_goto (pc := 142) (tgt := 100) dM_open_142 rfl ?_
      rw [z_set_ne (by decide), z_set_ne (by decide)] at h5
      refine z_wd ?_ rfl ki
      first | rw [z_set_set, z_set_at, zne, if_pos h5] | rw [z_set_set, zne, if_neg h5]
  · refine z_wd (A' := A4) (by rw [zne_0 _ _ 16 hc]; exact z_set_self h39) rfl ?_
    refine z_iload_n (pc := 100) dM_open_100 rfl rfl ?_
    refine z_bipush (pc := 101) dM_open_101 zb_16 ?_
    refine z_icmp_ge (pc := 103) (by omega) (by omega) (tgt := 145) dM_open_103 rfl (fun h => ?_) (fun h => by exfalso; omega)
    refine z_aload_n (pc := 145) dM_open_145 rfl rfl ?_
    refine z_getI (pc := 146) zo_39 rfl zf_M_59_6 dM_open_146 ?_
    refine z_top (congrArg (fun x => Value.int (nI x)) h39) ?_
    refine z_if_le (pc := 149) (by omega) (tgt := 154) dM_open_149 rfl (fun h => ?_) (fun h => by exfalso; omega)
    refine z_iconst (pc := 154) dM_open_154 zi_0 ?_
    refine z_istore_n (L' := [(3, _), (2, _), (0, _), (1, _)]) (pc := 155) dM_open_155 rfl (by decide) rfl ?_
    refine z_wd (z_map_0 A4 42 (fun j => A4 40 (256 + j))).symm rfl ?_
    refine z_for (n 3 - 16) (fun i => [(3, .int (nI i)), (2, .int (nI (n 3 - 16))), (0, .ref (ad 39)), (1, .int (nI 1))]) (fun i => z_map A4 42 i (fun j => A4 40 (256 + j))) (fun i => B) (fun i hi ki => ?_) ?_
    · refine z_iload_n (pc := 156) dM_open_156 rfl rfl ?_
      refine z_iload_n (pc := 157) dM_open_157 rfl rfl ?_
      refine z_icmp_ge (pc := 158) (by omega) (by omega) (tgt := 183) dM_open_158 rfl (fun h => by exfalso; omega) (fun h => ?_)
      refine z_aload_n (pc := 161) dM_open_161 rfl rfl ?_
      refine z_getR (pc := 162) zo_39 rfl zf_M_16_6 dM_open_162 ?_
      refine z_iload_n (pc := 165) dM_open_165 rfl rfl ?_
      refine z_aload_n (pc := 166) dM_open_166 rfl rfl ?_
      refine z_getR (pc := 167) zo_39 rfl zf_M_7_6 dM_open_167 ?_
      refine z_sipush (pc := 170) dM_open_170 zs_256 ?_
      refine z_iload_n (pc := 173) dM_open_173 rfl rfl ?_
      refine z_iadd (pc := 174) dM_open_174 ?_
      refine z_iaload (pc := 175) za_40 (by omega) dM_open_175 ?_
      refine z_iastore (pc := 176) za_42 (by omega) dM_open_176 ?_
      refine z_iinc (L' := [(3, _), (2, _), (0, _), (1, _)]) (pc := 177) dM_open_177 rfl zi_1 (by decide) rfl ?_
      refine z_goto (pc := 180) (tgt := 156) dM_open_180 rfl ?_
      refine z_wd (z_map_set ?_) rfl ki
      rw [z_map_ne (by decide)]
    · refine z_iload_n (pc := 156) dM_open_156 rfl rfl ?_
      refine z_iload_n (pc := 157) dM_open_157 rfl rfl ?_
      refine z_icmp_ge (pc := 158) (by omega) (by omega) (tgt := 183) dM_open_158 rfl (fun h => ?_) (fun h => by exfalso; omega)
      refine z_aload_n (pc := 183) dM_open_183 rfl rfl ?_
      refine z_iload_n (pc := 184) dM_open_184 rfl rfl ?_
      refine z_putI (pc := 185) zo_39 rfl zp_M_105_6 dM_open_185 ?_
      refine z_aload_n (pc := 188) dM_open_188 rfl rfl ?_
      refine z_getI (pc := 189) zo_39 rfl zf_M_105_6 dM_open_189 ?_
      refine z_top (congrArg (fun x => Value.int (nI x)) z_set_at) ?_
      exact z_reti (pc := 192) dM_open_192 (hEx _ _ _ (⟨rfl, rfl, fun q hq => by rw [z_set_ne (by omega), z_map_ne (by omega), F q (by simp; omega), z_set_ne (by omega)], by rw [z_set_nj (by decide), z_map_ne (by decide), h39], fun j hj => by rw [z_set_ne (by decide), z_map_ne (by decide), F 46 (by decide), s46]; exact hb j hj, hs.res (fun i hi => by rw [z_set_ne (by decide), z_map_ne (by decide)]; exact LO i hi) (by rw [z_set_ne (by decide), z_map_ne (by decide), F 41 (by decide), s41]) z_set_at (fun j hj => by rw [z_set_ne (by decide), z_map_lt hj, CC j hj, zopen, if_neg (by decide)]) hv⟩))
theorem m_open3_1  (hrd : zrdy 1 n) (hn : 16 ≤ n 3) (hok : ¬ (∀ j, j < 16 → R 3 (n 3 - 16 + j) = zdue 1 (R 0) (R 1) (n 1) (R 2) (n 2) (R 3) (n 3 - 16) j)) (hb : z_box A 46) (hs : zMR A n R m X) (hv : zVS n R m X) : z_Met l g ad mM_open (z_rm 7) [.ref (ad 39), .int (nI 1)] A B (z_an 0 (zMP A B 3 n R m X)) := by
  refine z_Met.of (L := [(0, _), (1, _)]) (by decide) (Nat.le_of_ble_eq_true rfl) z_fit_an rfl ?_
  intro Ex hEx
  have k0 := hv.1 0 (by decide)
  have k1 := hv.1 1 (by decide)
  have k2 := hv.1 2 (by decide)
  have k3 := hv.1 3 (by decide)
  have l0 := zmost_le 0
  have l3 := zmost_le 3
  have e0 := (hs.1 0 (by decide)).1
  have e1 := (hs.1 1 (by decide)).1
  have e2 := (hs.1 2 (by decide)).1
  have e3 := (hs.1 3 (by decide)).1
  have l1 : zmost 1 = 24 := rfl
  have l2 : zmost 2 = 32 := rfl
  have n0 : n 0 = 16 := hrd.1
  have n1 : n 1 = 12 := hrd.2
  have r0 := hs.r0
  have r1 := hs.r1
  have r2 := hs.r2
  have r3 := hs.r3
  have s40 : (z_set A 39 0 0) 40 = A 40 := z_set_ne (by decide)
  have s41 : (z_set A 39 0 0) 41 = A 41 := z_set_ne (by decide)
  have s46 : (z_set A 39 0 0) 46 = A 46 := z_set_ne (by decide)
  have b0 : ∀ j, j < 16 → R 0 j < 256 := fun j hj => k0.2 j (by omega)
  refine z_aload_n (pc := 0) dM_open_0 rfl rfl ?_
  refine z_iload_n (pc := 1) dM_open_1 rfl rfl ?_
  refine z_if_eq (pc := 2) (by omega) (tgt := 14) dM_open_2 rfl (fun h => by exfalso; omega) (fun h => ?_)
  refine z_iload_n (pc := 5) dM_open_5 rfl rfl ?_
  refine z_iconst (pc := 6) dM_open_6 zi_1 ?_
  refine z_icmp_eq (pc := 7) (by omega) (by omega) (tgt := 14) dM_open_7 rfl (fun h => ?_) (fun h => by exfalso; omega)
  refine z_aload_n (pc := 14) dM_open_14 rfl rfl ?_
  refine z_iload_n (pc := 15) dM_open_15 rfl rfl ?_
  refine z_callV (pc := 16) (m_isReady (w := 1) (by omega) (by omega) (by omega)) (by decide) zo_39 rfl zc_M_141 rfl rfl (Nat.le_of_ble_eq_true rfl) dM_open_16 (fun r A' B' hE => ?_)
  obtain ⟨rfl, rfl, rfl⟩ := hE
  refine z_r1 ?_
  refine z_top (congrArg (fun x => Value.int (nI x)) (if_pos ((z_rd e0 e1).mpr hrd))) ?_
  refine z_if_eq (pc := 19) (by omega) (tgt := 33) dM_open_19 rfl (fun h => by exfalso; omega) (fun h => ?_)
  refine z_aload_n (pc := 22) dM_open_22 rfl rfl ?_
  refine z_getR (pc := 23) zo_39 rfl zf_M_13_6 dM_open_23 ?_
  refine z_iconst (pc := 26) dM_open_26 zi_3 ?_
  refine z_iaload (pc := 27) za_41 (by omega) dM_open_27 ?_
  refine z_bipush (pc := 28) dM_open_28 zb_16 ?_
  refine z_icmp_ge (pc := 30) (by omega) (by omega) (tgt := 37) dM_open_30 rfl (fun h => ?_) (fun h => by exfalso; omega)
  refine z_iconst (pc := 37) dM_open_37 zi_0 ?_
  refine z_putI (pc := 38) zo_39 rfl zp_M_59_6 dM_open_38 ?_
  refine z_aload_n (pc := 41) dM_open_41 rfl rfl ?_
  refine z_getI (pc := 42) zo_39 rfl zf_M_59_6 dM_open_42 ?_
  refine z_top (congrArg (fun x => Value.int (nI x)) z_set_at) ?_
  refine z_if_le (pc := 45) (by omega) (tgt := 50) dM_open_45 rfl (fun h => ?_) (fun h => by exfalso; omega)
  refine z_aload_n (pc := 50) dM_open_50 rfl rfl ?_
  refine z_getR (pc := 51) zo_39 rfl zf_M_13_6 dM_open_51 ?_
  refine z_iconst (pc := 54) dM_open_54 zi_3 ?_
  refine z_iaload (pc := 55) za_41 (by omega) dM_open_55 ?_
  refine z_top (congrArg (fun x => Value.int (nI x)) (show _ = n 3 by rw [s41]; exact e3)) ?_
  refine z_bipush (pc := 56) dM_open_56 zb_16 ?_
  refine z_isub (pc := 58) dM_open_58 (by omega) ?_
  refine z_istore_n (L' := [(2, _), (0, _), (1, _)]) (pc := 59) dM_open_59 rfl (by decide) rfl ?_
  refine z_iload_n (pc := 60) dM_open_60 rfl rfl ?_
  refine z_if_ne (pc := 61) (by omega) (tgt := 89) dM_open_61 rfl (fun h => ?_) (fun h => by exfalso; omega)
  refine z_aload_n (pc := 89) dM_open_89 rfl rfl ?_
  refine z_callV (pc := 90) (m_deriveKeys (fun j hj => by rw [s46]; exact hb j hj) (fun j hj => by rw [s40, r0 j (by omega)]; exact b0 j hj) (fun j hj => by rw [s40, r1 j (by omega)]; exact k1.2 j (by omega))) (by decide) zo_39 rfl zc_M_153 rfl rfl (Nat.le_of_ble_eq_true rfl) dM_open_90 (fun r A2 B' hE => ?_)
  obtain ⟨rfl, rfl, f1, lo1, h1, h2⟩ := hE
  have hN12 : ∀ j, j < 12 → R 1 j < 256 := fun j hj => k1.2 j (by omega)
  have g1 : z_fr [40, 43, 44, 45, 47, 48, 49, 50, 51, 52, 53] (z_set A 39 0 0) A2 := fun q hk => f1 q (fun q => hk (by revert q; simp; omega))
  have g52 : ∀ j, j < 16 → A2 52 j = (zdk (R 0) (R 1) 0) j := fun j hj => by rw [h1 j hj, s40]; exact zdk_cg (fun j' h' => r0 j' (by omega)) (fun j' h' => r1 j' (by omega)) j hj
  have g47 : ∀ j, j < 16 → A2 47 j = (zdk (R 0) (R 1) 2) j := fun j hj => by rw [h2 j hj, s40]; exact zdk_cg (fun j' h' => r0 j' (by omega)) (fun j' h' => r1 j' (by omega)) j hj
  have g40 : ∀ x, x < 256 → A2 40 x = A 40 x := fun x hx => by rw [lo1 x hx, s40]
  have g41 : A2 41 = A 41 := (f1 41 (by decide)).trans s41
  have g46 : A2 46 = A 46 := (f1 46 (by decide)).trans s46
  have kb : ∀ j, j < 16 → (zdk (R 0) (R 1) 2) j < 256 := zdk_lt' b0 hN12 (by omega)
  have hbk : ∀ j, j < 16 → (zdk (R 0) (R 1) 0) j < 256 := zdk_lt' b0 hN12 (by omega)
  refine z_r0 ?_
  refine z_aload_n (pc := 93) dM_open_93 rfl rfl ?_
  refine z_iload_n (pc := 94) dM_open_94 rfl rfl ?_
  refine z_callV (pc := 95) (m_openInward (k := n 3 - 16) (by omega) (fun j hj => by rw [g46]; exact hb j hj) (fun j hj => by rw [g47 j hj]; exact kb j hj) (fun j hj => by rw [g52 j hj]; exact hbk j hj) (fun j hj => by rw [g40 _ (by omega), r1 j (by omega)]; exact hN12 j hj) (by rw [g41, e2]; omega) (fun j hj => by rw [g41, e2] at hj; rw [g40 _ (by omega), r2 j hj]; exact k2.2 j hj) (fun j hj => by rw [g40 _ (by omega), r3 j (by omega)]; exact k3.2 j (by omega))) (by decide) zo_39 rfl zc_M_162 rfl rfl (Nat.le_of_ble_eq_true rfl) dM_open_95 (fun r A4 B' hE => ?_)
  obtain ⟨rfl, rfl, f4, lo4, c4, t4⟩ := hE
  have cP : ∀ j, j < n 3 - 16 → zC1 (A2 47) (fun j => A2 40 (192 + (n 3 - 16) + j)) (fun j => A2 40 (192 + j)) j = (zC1 (zdk (R 0) (R 1) 2) (fun j => R 3 ((n 3 - 16) + j)) (R 3)) j := zC1_cg (n := n 3 - 16) g47 (fun j' h' => by rw [g40 _ (by omega), show 192 + (n 3 - 16) + j' = 192 + (n 3 - 16 + j') by omega]; exact r3 _ (by omega)) (fun j' h' => by rw [g40 _ (by omega)]; exact r3 j' (by omega))
  have CC : ∀ j, j < n 3 - 16 → A4 40 (256 + j) = (zC1 (zdk (R 0) (R 1) 2) (fun j => R 3 ((n 3 - 16) + j)) (R 3)) j := fun j hj => by rw [c4 j hj]; exact cP j hj
  replace t4 : ∀ j, j < 16 → A4 53 j = (zD1 (zdk (R 0) (R 1) 2) (zdk (R 0) (R 1) 0) (R 1) (R 2) (n 2) (zC1 (zdk (R 0) (R 1) 2) (fun j => R 3 ((n 3 - 16) + j)) (R 3)) (n 3 - 16)) j := fun j hj => by
    rw [t4 j hj, g41, e2]
    exact zD1_cg g47 g52 (fun j' h' => by rw [g40 _ (by omega)]; exact r1 j' (by omega)) (fun j' h' => by rw [g40 _ (by omega)]; exact r2 j' h') cP j hj
  have F : z_fr [40, 43, 44, 45, 47, 48, 49, 50, 51, 52, 53] (z_set A 39 0 0) A4 := fun q hk => (f4 q (fun q => hk (by revert q; simp; omega))).trans (g1 q hk)
  have LO : ∀ i, i < 256 → A4 40 i = A 40 i := fun i hi => by rw [lo4 i hi]; exact g40 i hi
  have tb : ∀ j, j < 16 → (zD1 (zdk (R 0) (R 1) 2) (zdk (R 0) (R 1) 0) (R 1) (R 2) (n 2) (zC1 (zdk (R 0) (R 1) 2) (fun j => R 3 ((n 3 - 16) + j)) (R 3)) (n 3 - 16)) j < 256 := fun j hj => zE_by kb (zdu_lt' hN12) j hj
  refine z_r0 ?_
  refine z_iconst (pc := 98) dM_open_98 zi_0 ?_
  refine z_istore_n (L' := [(3, _), (2, _), (0, _), (1, _)]) (pc := 99) dM_open_99 rfl (by decide) rfl ?_
  have rbe : ∀ j, j < 16 → A4 40 (192 + (n 3 - 16) + j) = R 3 (n 3 - 16 + j) := fun j hj => by rw [LO _ (by omega), show 192 + (n 3 - 16) + j = 192 + (n 3 - 16 + j) by omega]; exact r3 _ (by omega)
  have h39 : A4 39 0 = 0 := by rw [F 39 (by decide), z_set_at]
  have hc : ¬ (∀ j, j < 16 → A4 53 j = A4 40 (192 + (n 3 - 16) + j)) := fun q => hok (fun j hj => by rw [← rbe j hj, ← q j hj, t4 j hj, zdue, if_neg (by decide)])
  refine z_wd (A' := z_set A4 39 0 (zne (A4 53) (fun j => A4 40 (192 + (n 3 - 16) + j)) 0)) (z_set_self h39).symm rfl ?_
  refine z_for 16 (fun i => [(3, .int (nI i)), (2, .int (nI (n 3 - 16))), (0, .ref (ad 39)), (1, .int (nI 1))]) (fun i => z_set A4 39 0 (zne (A4 53) (fun j => A4 40 (192 + (n 3 - 16) + j)) i)) (fun i => B) (fun i hi ki => ?_) ?_
  · refine z_iload_n (pc := 100) dM_open_100 rfl rfl ?_
    refine z_bipush (pc := 101) dM_open_101 zb_16 ?_
    refine z_icmp_ge (pc := 103) (by omega) (by omega) (tgt := 145) dM_open_103 rfl (fun h => by exfalso; omega) (fun h => ?_)
    refine z_aload_n (pc := 106) dM_open_106 rfl rfl ?_
    refine z_aload_n (pc := 107) dM_open_107 rfl rfl ?_
    refine z_getR (pc := 108) zo_39 rfl zf_M_49_6 dM_open_108 ?_
    refine z_iload_n (pc := 111) dM_open_111 rfl rfl ?_
    refine z_iaload (pc := 112) za_53 (by omega) dM_open_112 ?_
    refine z_aload_n (pc := 113) dM_open_113 rfl rfl ?_
    refine z_getR (pc := 114) zo_39 rfl zf_M_7_6 dM_open_114 ?_
    refine z_sipush (pc := 117) dM_open_117 zs_192 ?_
    refine z_iload_n (pc := 120) dM_open_120 rfl rfl ?_
    refine z_iadd (pc := 121) dM_open_121 ?_
    refine z_iload_n (pc := 122) dM_open_122 rfl rfl ?_
    refine z_iadd (pc := 123) dM_open_123 ?_
    refine z_iaload (pc := 124) za_40 (by omega) dM_open_124 ?_
    refine z_icmp_eq (pc := 125) (by rw [z_set_ne (by decide), t4 _ hi]; have := tb i hi; omega) (by rw [z_set_ne (by decide), rbe i hi]; have := k3.2 (n 3 - 16 + i) (by omega); omega) (tgt := 132) dM_open_125 rfl (fun h5 => ?_) (fun h5 => ?_)
    · refine z_aload_n (pc := 132) dM_open_132 rfl rfl ?_
      refine z_getI (pc := 133) zo_39 rfl zf_M_59_6 dM_open_133 ?_
      refine z_putI (pc := 136) zo_39 rfl zp_M_59_6 dM_open_136 ?_
      refine z_iinc (L' := [(3, _), (2, _), (0, _), (1, _)]) (pc := 139) dM_open_139 rfl zi_1 (by decide) rfl ?_
      refine z_goto (pc := 142) (tgt := 100) dM_open_142 rfl ?_
      rw [z_set_ne (by decide), z_set_ne (by decide)] at h5
      refine z_wd ?_ rfl ki
      first | rw [z_set_set, z_set_at, zne, if_pos h5] | rw [z_set_set, zne, if_neg h5]
    · refine z_iconst (pc := 128) dM_open_128 zi_3 ?_
      refine z_goto (pc := 129) (tgt := 136) dM_open_129 rfl ?_
      refine z_putI (pc := 136) zo_39 rfl zp_M_59_6 dM_open_136 ?_
      refine z_iinc (L' := [(3, _), (2, _), (0, _), (1, _)]) (pc := 139) dM_open_139 rfl zi_1 (by decide) rfl ?_
      refine z_goto (pc := 142) (tgt := 100) dM_open_142 rfl ?_
      rw [z_set_ne (by decide), z_set_ne (by decide)] at h5
      refine z_wd ?_ rfl ki
      first | rw [z_set_set, z_set_at, zne, if_pos h5] | rw [z_set_set, zne, if_neg h5]
  · refine z_wd (A' := z_set A4 39 0 3) (by rw [zne_3 _ _ 16 hc]) rfl ?_
    refine z_iload_n (pc := 100) dM_open_100 rfl rfl ?_
    refine z_bipush (pc := 101) dM_open_101 zb_16 ?_
    refine z_icmp_ge (pc := 103) (by omega) (by omega) (tgt := 145) dM_open_103 rfl (fun h => ?_) (fun h => by exfalso; omega)
    refine z_aload_n (pc := 145) dM_open_145 rfl rfl ?_
    refine z_getI (pc := 146) zo_39 rfl zf_M_59_6 dM_open_146 ?_
    refine z_top (congrArg (fun x => Value.int (nI x)) z_set_at) ?_
    refine z_if_le (pc := 149) (by omega) (tgt := 154) dM_open_149 rfl (fun h => by exfalso; omega) (fun h => ?_)
    refine z_iconst (pc := 152) dM_open_152 zi_0 ?_
    exact z_reti (pc := 153) dM_open_153 (hEx _ _ _ (⟨rfl, rfl, fun q hq => by rw [z_set_ne (by omega), F q (by simp; omega), z_set_ne (by omega)], z_set_at, fun j hj => by rw [z_set_ne (by decide), F 46 (by decide), s46]; exact hb j hj, hs.mv (fun i hi => by rw [z_set_ne (by decide)]; exact LO i hi) (by rw [z_set_ne (by decide), F 41 (by decide), s41]) (by rw [z_set_nj (by decide), F 39 (by decide), z_set_nj (by decide)]) (by rw [z_set_ne (by decide), F 42 (by decide), z_set_ne (by decide)]) hv⟩))
end
