section
variable {l : Launch} {g : z_G} {ad : Nat → Nat} {A B : z_A}
theorem zdv_lt {i : Nat} {N : Nat → Nat} (hi : i < 256) (hN : ∀ j, j < 12 → N j < 256) (j : Nat) (hj : j < 16) : zdv i N j < 256 := by
  unfold zdv
  split
  · exact hi
  · split
    · decide
    · exact hN _ (by omega)
theorem c_derive {i c nc fr : Nat} {W : Nat → Nat} (hi : i < 256) (hc : z_ia c nc) (hfr : fr + 8 ≤ nc) (hc17 : c ≠ 17) (hc18 : c ≠ 18) (hc35 : c ≠ 35) (hc36 : c ≠ 36) (hN : ∀ j, j < 12 → A 5 j < 256) (hb : z_box A 15) (hW : ∀ j, j < 176 → A 16 j = W j) (hWb : ∀ j, j < 176 → W j < 256) : z_Met l g ad mO_derive (z_rm 4) [.ref (ad 32), .int (nI i), .ref (ad 4), .ref (ad c), .int (nI fr)] A B (z_vd (fun A' B' => B = B' ∧ z_fr [17, 18, 35, 36, c] A A' ∧ (∀ j, j < 8 → A' c (fr + j) = zEs W (zdv i (A 5)) 10 j) ∧ ∀ j, j < fr ∨ fr + 8 ≤ j → A' c j = A c j)) := by
  refine z_Met.of (L := [(0, _), (1, _), (2, _), (3, _), (4, _)]) (by decide) (Nat.le_of_ble_eq_true rfl) z_fit_vd rfl ?_
  intro Ex hEx
  refine z_iconst (pc := 0) dO_derive_0 zi_4 ?_
  refine z_istore (L' := [(5, _), (0, _), (1, _), (2, _), (3, _), (4, _)]) (pc := 1) dO_derive_1 (by decide) rfl ?_
  refine z_iconst (pc := 3) dO_derive_3 zi_0 ?_
  refine z_istore (L' := [(6, _), (5, _), (0, _), (1, _), (2, _), (3, _), (4, _)]) (pc := 4) dO_derive_4 (by decide) rfl ?_
  refine z_wd (z_map_0 A 35 (fun _ => 0)).symm rfl ?_
  refine z_for 4 (fun k => [(6, .int (nI k)), (5, .int (nI 4)), (0, .ref (ad 32)), (1, .int (nI i)), (2, .ref (ad 4)), (3, .ref (ad c)), (4, .int (nI fr))]) (fun k => z_map A 35 k (fun _ => 0)) (fun k => B) (fun k hk kk => ?_) ?_
  · refine z_iload (pc := 6) dO_derive_6 rfl ?_
    refine z_iload (pc := 8) dO_derive_8 rfl ?_
    refine z_icmp_ge (pc := 10) (by omega) (by omega) (tgt := 27) dO_derive_10 rfl (fun h => by exfalso; omega) (fun h => ?_)
    refine z_aload_n (pc := 13) dO_derive_13 rfl rfl ?_
    refine z_getR (pc := 14) zo_32 rfl zf_O_37_3 dO_derive_14 ?_
    refine z_iload (pc := 17) dO_derive_17 rfl ?_
    refine z_iconst (pc := 19) dO_derive_19 zi_0 ?_
    refine z_iastore (pc := 20) za_35 (by omega) dO_derive_20 ?_
    refine z_iinc (L' := [(6, _), (5, _), (0, _), (1, _), (2, _), (3, _), (4, _)]) (pc := 21) dO_derive_21 rfl zi_1 (by decide) rfl ?_
    refine z_goto (pc := 24) (tgt := 6) dO_derive_24 rfl ?_
    exact z_wd (z_map_set rfl) rfl kk
  · refine z_iload (pc := 6) dO_derive_6 rfl ?_
    refine z_iload (pc := 8) dO_derive_8 rfl ?_
    refine z_icmp_ge (pc := 10) (by omega) (by omega) (tgt := 27) dO_derive_10 rfl (fun h => ?_) (fun h => by exfalso; omega)
    refine z_aload_n (pc := 27) dO_derive_27 rfl rfl ?_
    refine z_getR (pc := 28) zo_32 rfl zf_O_37_3 dO_derive_28 ?_
    refine z_iconst (pc := 31) dO_derive_31 zi_0 ?_
    refine z_iload_n (pc := 32) dO_derive_32 rfl rfl ?_
    refine z_iastore (pc := 33) za_35 (by omega) dO_derive_33 ?_
    refine z_aload_n (pc := 34) dO_derive_34 rfl rfl ?_
    refine z_getR (pc := 35) zo_4 rfl zf_O_19_2 dO_derive_35 ?_
    refine z_iconst (pc := 38) dO_derive_38 zi_0 ?_
    refine z_aload_n (pc := 39) dO_derive_39 rfl rfl ?_
    refine z_getR (pc := 40) zo_32 rfl zf_O_37_3 dO_derive_40 ?_
    refine z_iload (pc := 43) dO_derive_43 rfl ?_
    refine z_bipush (pc := 45) dO_derive_45 zb_12 ?_
    refine z_copy (pc := 47) za_5 za_35 (by omega) (by omega) zy_O_40 (by decide) (Nat.le_of_ble_eq_true rfl) (by decide) dO_derive_47 ?_
    refine z_aload_n (pc := 50) dO_derive_50 rfl rfl ?_
    refine z_getR (pc := 51) zo_32 rfl zf_O_15_3 dO_derive_51 ?_
    refine z_aload_n (pc := 54) dO_derive_54 rfl rfl ?_
    refine z_getR (pc := 55) zo_32 rfl zf_O_37_3 dO_derive_55 ?_
    refine z_aload_n (pc := 58) dO_derive_58 rfl rfl ?_
    refine z_getR (pc := 59) zo_32 rfl zf_O_46_3 dO_derive_59 ?_
    have hV : ∀ j, j < 16 → (z_seg (z_set (z_map A 35 4 (fun _ => 0)) 35 0 i) 35 4 12 (fun j => (z_set (z_map A 35 4 (fun _ => 0)) 35 0 i) 5 (0 + (j - 4)))) 35 j = zdv i (A 5) j := by
      intro j hj
      unfold zdv
      by_cases h : 4 ≤ j
      · rw [z_seg_in h (by omega), if_neg (by omega), if_neg (by omega), z_set_ne (by decide), z_map_ne (by decide), Nat.zero_add]
      · rw [z_seg_out (Or.inl (by omega))]
        by_cases h0 : j = 0
        · rw [if_pos h0, h0, z_set_at]
        · rw [if_neg h0, if_pos (by omega), z_set_nj h0, z_map_lt (by omega)]
    have hf : z_fr [35] A (z_seg (z_set (z_map A 35 4 (fun _ => 0)) 35 0 i) 35 4 12 (fun j => (z_set (z_map A 35 4 (fun _ => 0)) 35 0 i) 5 (0 + (j - 4)))) := fun q hq9 => by rw [z_seg_ne (z_nm hq9 (by decide)), z_set_ne (z_nm hq9 (by decide)), z_map_ne (z_nm hq9 (by decide))]
    refine z_callV (pc := 62) (c_encipher (f := 35) (t := 36) (W := W) za_35 (by omega) za_36 (by omega) (by decide) (by decide) (fun j hj => by rw [hf 15 (by decide)]; exact hb j hj) (fun j hj => by rw [hf 16 (by decide)]; exact hW j hj) hWb (fun j hj => by rw [hV j hj]; exact zdv_lt hi hN j hj)) (by decide) zo_14 rfl zc_O_49 rfl rfl (Nat.le_of_ble_eq_true rfl) dO_derive_62 (fun r A' B' hE => ?_)
    obtain ⟨rfl, rfl, hA2, hX2, -⟩ := hE
    refine z_r0 ?_
    refine z_aload_n (pc := 65) dO_derive_65 rfl rfl ?_
    refine z_getR (pc := 66) zo_32 rfl zf_O_46_3 dO_derive_66 ?_
    refine z_iconst (pc := 69) dO_derive_69 zi_0 ?_
    refine z_aload_n (pc := 70) dO_derive_70 rfl rfl ?_
    refine z_iload (pc := 71) dO_derive_71 rfl ?_
    refine z_bipush (pc := 73) dO_derive_73 zb_8 ?_
    refine z_copy (pc := 75) za_36 hc (by omega) (by omega) zy_O_40 (by decide) (Nat.le_of_ble_eq_true rfl) (by decide) dO_derive_75 ?_
    exact z_ret0 (pc := 78) dO_derive_78 (hEx _ _ _ (⟨rfl, rfl, fun q hq9 => by rw [z_seg_ne (z_nm hq9 (by simp)), hA2 q (z_nm hq9 (by simp)) (z_nm hq9 (by simp)) (z_nm hq9 (by simp))]; exact hf q (by simp at hq9 ⊢; omega), fun j hj => by rw [z_seg_in (by omega) (by omega), Nat.zero_add, Nat.add_sub_cancel_left, hX2 j (by omega)]; exact zEs_cg (fun _ _ => rfl) hV 10 (by omega) j (by omega), fun j hj => by rw [z_seg_out hj, hA2 c hc17 hc18 hc36]; exact congrFun (hf c (by simp; omega)) j⟩))
theorem zdk_lt {K N : Nat → Nat} {i : Nat} (hK : ∀ j, j < 16 → K j < 256) (hN : ∀ j, j < 12 → N j < 256) (hi : i < 200) (j : Nat) (hj : j < 16) : zdk K N i j < 256 := by
  unfold zdk
  split
  · exact zE_by hK (zdv_lt (by omega) hN) j hj
  · exact zE_by hK (zdv_lt (by omega) hN) (j - 8) (by omega)
theorem c_useKey1  (hb : z_box A 15) (hK : ∀ j, j < 16 → A 3 j < 256) (hN : ∀ j, j < 12 → A 5 j < 256) : z_Met l g ad mO_useKey (z_rm 5) [.ref (ad 32), .ref (ad 2), .ref (ad 4)] A B (z_vd (fun A' B' => B = B' ∧ z_fr [16, 17, 18, 33, 35, 36, 38] A A' ∧ (∀ j, j < 176 → A' 16 j = zKX (zdk (A 3) (A 5) 2) j) ∧ ∀ j, j < 16 → A' 33 j = zdk (A 3) (A 5) 0 j)) := by
  refine z_Met.of (L := [(0, _), (1, _), (2, _)]) (by decide) (Nat.le_of_ble_eq_true rfl) z_fit_vd rfl ?_
  intro Ex hEx
  refine z_aload_n (pc := 0) dO_useKey_0 rfl rfl ?_
  refine z_getR (pc := 1) zo_32 rfl zf_O_15_3 dO_useKey_1 ?_
  refine z_aload_n (pc := 4) dO_useKey_4 rfl rfl ?_
  refine z_getR (pc := 5) zo_2 rfl zf_O_19_2 dO_useKey_5 ?_
  refine z_callV (pc := 8) (c_useKey (kk := 3) za_3 (by omega) hb hK) (by decide) zo_14 rfl zc_O_24 rfl rfl (Nat.le_of_ble_eq_true rfl) dO_useKey_8 (fun r A' B' hE => ?_)
  obtain ⟨rfl, rfl, hA1, hW⟩ := hE
  have hf : z_fr [16, 17, 18, 33, 35, 36, 38] A A' := fun q hq9 => hA1 q (z_nm hq9 (by decide))
  clear hA1
  refine z_r0 ?_
  refine z_aload_n (pc := 11) dO_useKey_11 rfl rfl ?_
  refine z_iconst (pc := 12) dO_useKey_12 zi_0 ?_
  refine z_aload_n (pc := 13) dO_useKey_13 rfl rfl ?_
  refine z_aload_n (pc := 14) dO_useKey_14 rfl rfl ?_
  refine z_getR (pc := 15) zo_32 rfl zf_O_30_3 dO_useKey_15 ?_
  refine z_iconst (pc := 18) dO_useKey_18 zi_0 ?_
  refine z_callV (pc := 19) (c_derive (i := 0) (c := 33) (fr := 0) (W := zKX (A 3)) (by omega) za_33 (by omega) (by decide) (by decide) (by decide) (by decide) (fun j hj => by rw [hf 5 (by decide)]; exact hN j hj) (fun j hj => by rw [hf 15 (by decide)]; exact hb j hj) hW (zKX_by hK)) (by decide) zo_32 rfl zc_O_33 rfl rfl (Nat.le_of_ble_eq_true rfl) dO_useKey_19 (fun r A' B' hE => ?_)
  obtain ⟨rfl, rfl, g1, g2, g3⟩ := hE
  rw [hf 5 (by decide)] at g2
  have a0 : ∀ j, j < 8 → A' 33 j = zEs (zKX (A 3)) (zdv 0 (A 5)) 10 j := fun j hj => by have := g2 j hj; rw [Nat.zero_add] at this; exact this
  replace hW : ∀ j, j < 176 → A' 16 j = zKX (A 3) j := fun j hj => by rw [g1 16 (by decide)]; exact hW j hj
  replace hf : z_fr [16, 17, 18, 33, 35, 36, 38] A A' := fun q hq9 => (g1 q (fun q => hq9 (by revert q; simp; omega))).trans (hf q hq9)
  clear g1 g2 g3
  refine z_r0 ?_
  refine z_aload_n (pc := 22) dO_useKey_22 rfl rfl ?_
  refine z_iconst (pc := 23) dO_useKey_23 zi_1 ?_
  refine z_aload_n (pc := 24) dO_useKey_24 rfl rfl ?_
  refine z_aload_n (pc := 25) dO_useKey_25 rfl rfl ?_
  refine z_getR (pc := 26) zo_32 rfl zf_O_30_3 dO_useKey_26 ?_
  refine z_bipush (pc := 29) dO_useKey_29 zb_8 ?_
  refine z_callV (pc := 31) (c_derive (i := 1) (c := 33) (fr := 8) (W := zKX (A 3)) (by omega) za_33 (by omega) (by decide) (by decide) (by decide) (by decide) (fun j hj => by rw [hf 5 (by decide)]; exact hN j hj) (fun j hj => by rw [hf 15 (by decide)]; exact hb j hj) hW (zKX_by hK)) (by decide) zo_32 rfl zc_O_33 rfl rfl (Nat.le_of_ble_eq_true rfl) dO_useKey_31 (fun r A' B' hE => ?_)
  obtain ⟨rfl, rfl, g1, g2, g3⟩ := hE
  rw [hf 5 (by decide)] at g2
  have a0 : ∀ j, j < 8 → A' 33 j = zEs (zKX (A 3)) (zdv 0 (A 5)) 10 j := fun j hj => by rw [g3 j (Or.inl hj)]; exact a0 j hj
  have a1 := g2
  replace hW : ∀ j, j < 176 → A' 16 j = zKX (A 3) j := fun j hj => by rw [g1 16 (by decide)]; exact hW j hj
  replace hf : z_fr [16, 17, 18, 33, 35, 36, 38] A A' := fun q hq9 => (g1 q (fun q => hq9 (by revert q; simp; omega))).trans (hf q hq9)
  clear g1 g2 g3
  refine z_r0 ?_
  refine z_aload_n (pc := 34) dO_useKey_34 rfl rfl ?_
  refine z_iconst (pc := 35) dO_useKey_35 zi_2 ?_
  refine z_aload_n (pc := 36) dO_useKey_36 rfl rfl ?_
  refine z_aload_n (pc := 37) dO_useKey_37 rfl rfl ?_
  refine z_getR (pc := 38) zo_32 rfl zf_O_9_3 dO_useKey_38 ?_
  refine z_iconst (pc := 41) dO_useKey_41 zi_0 ?_
  refine z_callV (pc := 42) (c_derive (i := 2) (c := 38) (fr := 0) (W := zKX (A 3)) (by omega) za_38 (by omega) (by decide) (by decide) (by decide) (by decide) (fun j hj => by rw [hf 5 (by decide)]; exact hN j hj) (fun j hj => by rw [hf 15 (by decide)]; exact hb j hj) hW (zKX_by hK)) (by decide) zo_32 rfl zc_O_33 rfl rfl (Nat.le_of_ble_eq_true rfl) dO_useKey_42 (fun r A' B' hE => ?_)
  obtain ⟨rfl, rfl, g1, g2, g3⟩ := hE
  rw [hf 5 (by decide)] at g2
  replace a0 : ∀ j, j < 8 → A' 33 j = zEs (zKX (A 3)) (zdv 0 (A 5)) 10 j := fun j hj => by rw [g1 33 (by decide)]; exact a0 j hj
  replace a1 : ∀ j, j < 8 → A' 33 (8 + j) = zEs (zKX (A 3)) (zdv 1 (A 5)) 10 j := fun j hj => by rw [g1 33 (by decide)]; exact a1 j hj
  have a2 : ∀ j, j < 8 → A' 38 j = zEs (zKX (A 3)) (zdv 2 (A 5)) 10 j := fun j hj => by have := g2 j hj; rw [Nat.zero_add] at this; exact this
  replace hW : ∀ j, j < 176 → A' 16 j = zKX (A 3) j := fun j hj => by rw [g1 16 (by decide)]; exact hW j hj
  replace hf : z_fr [16, 17, 18, 33, 35, 36, 38] A A' := fun q hq9 => (g1 q (fun q => hq9 (by revert q; simp; omega))).trans (hf q hq9)
  clear g1 g2 g3
  refine z_r0 ?_
  refine z_aload_n (pc := 45) dO_useKey_45 rfl rfl ?_
  refine z_iconst (pc := 46) dO_useKey_46 zi_3 ?_
  refine z_aload_n (pc := 47) dO_useKey_47 rfl rfl ?_
  refine z_aload_n (pc := 48) dO_useKey_48 rfl rfl ?_
  refine z_getR (pc := 49) zo_32 rfl zf_O_9_3 dO_useKey_49 ?_
  refine z_bipush (pc := 52) dO_useKey_52 zb_8 ?_
  refine z_callV (pc := 54) (c_derive (i := 3) (c := 38) (fr := 8) (W := zKX (A 3)) (by omega) za_38 (by omega) (by decide) (by decide) (by decide) (by decide) (fun j hj => by rw [hf 5 (by decide)]; exact hN j hj) (fun j hj => by rw [hf 15 (by decide)]; exact hb j hj) hW (zKX_by hK)) (by decide) zo_32 rfl zc_O_33 rfl rfl (Nat.le_of_ble_eq_true rfl) dO_useKey_54 (fun r A' B' hE => ?_)
  obtain ⟨rfl, rfl, g1, g2, g3⟩ := hE
  rw [hf 5 (by decide)] at g2
  replace a0 : ∀ j, j < 8 → A' 33 j = zEs (zKX (A 3)) (zdv 0 (A 5)) 10 j := fun j hj => by rw [g1 33 (by decide)]; exact a0 j hj
  replace a1 : ∀ j, j < 8 → A' 33 (8 + j) = zEs (zKX (A 3)) (zdv 1 (A 5)) 10 j := fun j hj => by rw [g1 33 (by decide)]; exact a1 j hj
  replace a2 : ∀ j, j < 8 → A' 38 j = zEs (zKX (A 3)) (zdv 2 (A 5)) 10 j := fun j hj => by rw [g3 j (Or.inl hj)]; exact a2 j hj
  have a3 := g2
  replace hW : ∀ j, j < 176 → A' 16 j = zKX (A 3) j := fun j hj => by rw [g1 16 (by decide)]; exact hW j hj
  replace hf : z_fr [16, 17, 18, 33, 35, 36, 38] A A' := fun q hq9 => (g1 q (fun q => hq9 (by revert q; simp; omega))).trans (hf q hq9)
  clear g1 g2 g3
  refine z_r0 ?_
  refine z_aload_n (pc := 57) dO_useKey_57 rfl rfl ?_
  refine z_getR (pc := 58) zo_32 rfl zf_O_15_3 dO_useKey_58 ?_
  refine z_aload_n (pc := 61) dO_useKey_61 rfl rfl ?_
  refine z_getR (pc := 62) zo_32 rfl zf_O_9_3 dO_useKey_62 ?_
  have hk : ∀ j, j < 16 → A' 38 j = zdk (A 3) (A 5) 2 j := by
    intro j hj
    unfold zdk
    by_cases h : j < 8
    · rw [if_pos h]; exact a2 j h
    · rw [if_neg h, show j = 8 + (j - 8) by omega]
      have := a3 (j - 8) (by omega)
      rw [Nat.add_sub_cancel_left]
      exact this
  have hh : ∀ j, j < 16 → A' 33 j = zdk (A 3) (A 5) 0 j := by
    intro j hj
    unfold zdk
    by_cases h : j < 8
    · rw [if_pos h]; exact a0 j h
    · rw [if_neg h, show j = 8 + (j - 8) by omega]
      have := a1 (j - 8) (by omega)
      rw [Nat.add_sub_cancel_left]
      exact this
  refine z_callV (pc := 65) (c_useKey (kk := 38) za_38 (by omega) (fun j hj => by rw [hf 15 (by decide)]; exact hb j hj) (fun j hj => by rw [hk j hj]; exact zdk_lt hK hN (by omega) j hj)) (by decide) zo_14 rfl zc_O_24 rfl rfl (Nat.le_of_ble_eq_true rfl) dO_useKey_65 (fun r A' B' hE => ?_)
  obtain ⟨rfl, rfl, hA6, hW6⟩ := hE
  refine z_r0 ?_
  exact z_ret0 (pc := 68) dO_useKey_68 (hEx _ _ _ (⟨rfl, rfl, fun q hq9 => (hA6 q (z_nm hq9 (by decide))).trans (hf q hq9), fun j hj => by rw [hW6 j hj]; exact zKX_cg hk j hj, fun j hj => by rw [hA6 33 (by decide)]; exact hh j hj⟩))
theorem zdu_lt {S : Nat} {N : Nat → Nat} (hN : ∀ j, j < 12 → N j < 256) (j : Nat) (hj : j < 16) : zdu S N j < 256 := by
  unfold zdu
  split
  · exact z_xor8 (zby_lt _ _ _) (hN j (by omega))
  · split
    · exact z_and8 (by decide)
    · exact zby_lt _ _ _
theorem c_makeDue1 {c nc n : Nat} {W : Nat → Nat} (hc : z_ia c nc) (hn : n ≤ nc) (hnc : nc ≤ 900) (hX : ∀ j, j < n → A c j < 256) (hal : A 6 1 ≤ 32) (hY : ∀ j, j < A 6 1 → A 7 j < 256) (hN : ∀ j, j < 12 → A 5 j < 256) (hhk : ∀ j, j < 16 → A 33 j < 256) (hb : z_box A 15) (hW : ∀ j, j < 176 → A 16 j = W j) (hWb : ∀ j, j < 176 → W j < 256) (hw : z_hw A B 22 (zow 1) (zmw 1) (zvw 1)) (hq : ∃ H S, z_hk B 22 H S) : z_Met l g ad mO_makeDue (z_rm 4) [.ref (ad 32), .ref (ad 1), .ref (ad c), .int (nI n)] A B (z_vd (fun A' B' => z_hB B B' 22 ∧ (∃ H S, z_hk B' 22 H S) ∧ z_fr [17, 18, 23, 37] A A' ∧ ∀ j, j < 16 → A' 37 j = zEs W (zdu (zhsh 1 (zHw 1 (A 33)) (A 7) (A 6 1) (A c) n) (A 5)) 10 j)) := by
  refine z_Met.of (L := [(0, _), (1, _), (2, _), (3, _)]) (by decide) (Nat.le_of_ble_eq_true rfl) z_fit_vd rfl ?_
  intro Ex hEx
  refine z_aload_n (pc := 0) dO_makeDue_0 rfl rfl ?_
  refine z_aload_n (pc := 1) dO_makeDue_1 rfl rfl ?_
  refine z_iconst (pc := 2) dO_makeDue_2 zi_2 ?_
  refine z_aaload (pc := 3) zr_1 rfl (rfl) dO_makeDue_3 ?_
  refine z_aload_n (pc := 4) dO_makeDue_4 rfl rfl ?_
  refine z_iload_n (pc := 5) dO_makeDue_5 rfl rfl ?_
  refine z_callU (pc := 6) (c_hashWithAside1 hc hn hnc hX hal hY hhk hw hq) (by decide) zo_32 rfl zc_O_79 rfl rfl (Nat.le_of_ble_eq_true rfl) dO_makeDue_6 (fun r A' B' hE => ?_)
  obtain ⟨rfl, hB1, hq1, hA1, hX1⟩ := hE
  generalize B' = B1 at *
  refine z_r0 ?_
  refine z_iconst (pc := 9) dO_makeDue_9 zi_0 ?_
  refine z_istore (L' := [(4, _), (0, _), (1, _), (2, _), (3, _)]) (pc := 10) dO_makeDue_10 (by decide) rfl ?_
  refine z_wd (z_map_0 A' 37 (fun j => A' 37 j ^^^ A' 5 j)).symm rfl ?_
  refine z_for 12 (fun i => [(4, .int (nI i)), (0, .ref (ad 32)), (1, .ref (ad 1)), (2, .ref (ad c)), (3, .int (nI n))]) (fun i => z_map A' 37 i (fun j => A' 37 j ^^^ A' 5 j)) (fun i => B1) (fun i hi ki => ?_) ?_
  · refine z_iload (pc := 12) dO_makeDue_12 rfl ?_
    refine z_bipush (pc := 14) dO_makeDue_14 zb_12 ?_
    refine z_icmp_ge (pc := 16) (by omega) (by omega) (tgt := 44) dO_makeDue_16 rfl (fun h => by exfalso; omega) (fun h => ?_)
    refine z_aload_n (pc := 19) dO_makeDue_19 rfl rfl ?_
    refine z_getR (pc := 20) zo_32 rfl zf_O_61_3 dO_makeDue_20 ?_
    refine z_iload (pc := 23) dO_makeDue_23 rfl ?_
    refine z_dup2 (pc := 25) dO_makeDue_25 rfl rfl ?_
    refine z_iaload (pc := 26) za_37 (by omega) dO_makeDue_26 ?_
    refine z_aload_n (pc := 27) dO_makeDue_27 rfl rfl ?_
    refine z_iconst (pc := 28) dO_makeDue_28 zi_1 ?_
    refine z_aaload (pc := 29) zr_1 rfl (rfl) dO_makeDue_29 ?_
    refine z_getR (pc := 30) zo_4 rfl zf_O_19_2 dO_makeDue_30 ?_
    refine z_iload (pc := 33) dO_makeDue_33 rfl ?_
    refine z_iaload (pc := 35) za_5 (by omega) dO_makeDue_35 ?_
    refine z_ixor (pc := 36) dO_makeDue_36 ?_
    refine z_iastore (pc := 37) za_37 (by omega) dO_makeDue_37 ?_
    refine z_iinc (L' := [(4, _), (0, _), (1, _), (2, _), (3, _)]) (pc := 38) dO_makeDue_38 rfl zi_1 (by decide) rfl ?_
    refine z_goto (pc := 41) (tgt := 12) dO_makeDue_41 rfl ?_
    refine z_wd (z_map_set ?_) rfl ki
    rw [z_map_ge (Nat.le_refl _), z_map_ne (by decide)]
  · refine z_iload (pc := 12) dO_makeDue_12 rfl ?_
    refine z_bipush (pc := 14) dO_makeDue_14 zb_12 ?_
    refine z_icmp_ge (pc := 16) (by omega) (by omega) (tgt := 44) dO_makeDue_16 rfl (fun h => ?_) (fun h => by exfalso; omega)
    refine z_aload_n (pc := 44) dO_makeDue_44 rfl rfl ?_
    refine z_getR (pc := 45) zo_32 rfl zf_O_61_3 dO_makeDue_45 ?_
    refine z_bipush (pc := 48) dO_makeDue_48 zb_15 ?_
    refine z_dup2 (pc := 50) dO_makeDue_50 rfl rfl ?_
    refine z_iaload (pc := 51) za_37 (by omega) dO_makeDue_51 ?_
    refine z_bipush (pc := 52) dO_makeDue_52 zb_127 ?_
    refine z_iand (pc := 54) dO_makeDue_54 ?_
    refine z_iastore (pc := 55) za_37 (by omega) dO_makeDue_55 ?_
    refine z_aload_n (pc := 56) dO_makeDue_56 rfl rfl ?_
    refine z_getR (pc := 57) zo_32 rfl zf_O_15_3 dO_makeDue_57 ?_
    refine z_aload_n (pc := 60) dO_makeDue_60 rfl rfl ?_
    refine z_getR (pc := 61) zo_32 rfl zf_O_61_3 dO_makeDue_61 ?_
    refine z_aload_n (pc := 64) dO_makeDue_64 rfl rfl ?_
    refine z_getR (pc := 65) zo_32 rfl zf_O_61_3 dO_makeDue_65 ?_
    have hV : ∀ j, j < 16 → (z_set (z_map A' 37 12 (fun j => A' 37 j ^^^ A' 5 j)) 37 15 ((z_map A' 37 12 (fun j => A' 37 j ^^^ A' 5 j)) 37 15 &&& 127)) 37 j = zdu (zhsh 1 (zHw 1 (A 33)) (A 7) (A 6 1) (A c) n) (A 5) j := by
      intro j hj
      unfold zdu
      by_cases h : j < 12
      · rw [if_pos h, z_set_nj (by omega), z_map_lt h, hX1 j hj, hA1 5 (by decide)]
      · rw [if_neg h]
        by_cases h2 : j = 15
        · rw [h2, if_pos rfl, z_set_at, z_map_ge (by decide), hX1 15 (by decide)]
        · rw [if_neg h2, z_set_nj h2, z_map_ge (by omega), hX1 j hj]
    have hf : z_fr [23, 37] A (z_set (z_map A' 37 12 (fun j => A' 37 j ^^^ A' 5 j)) 37 15 ((z_map A' 37 12 (fun j => A' 37 j ^^^ A' 5 j)) 37 15 &&& 127)) := fun q hq9 => by rw [z_set_ne (z_nm hq9 (by decide)), z_map_ne (z_nm hq9 (by decide)), hA1 q hq9]
    refine z_callV (pc := 68) (c_encipher (f := 37) (t := 37) (W := W) za_37 (by omega) za_37 (by omega) (by decide) (by decide) (fun j hj => by rw [hf 15 (by decide)]; exact hb j hj) (fun j hj => by rw [hf 16 (by decide)]; exact hW j hj) hWb (fun j hj => by rw [hV j hj]; exact zdu_lt hN j hj)) (by decide) zo_14 rfl zc_O_49 rfl rfl (Nat.le_of_ble_eq_true rfl) dO_makeDue_68 (fun r A' B' hE => ?_)
    obtain ⟨rfl, rfl, hA2, hX2, -⟩ := hE
    refine z_r0 ?_
    exact z_ret0 (pc := 71) dO_makeDue_71 (hEx _ _ _ (⟨rfl, hB1, hq1, fun q hq9 => (hA2 q (z_nm hq9 (by decide)) (z_nm hq9 (by decide)) (z_nm hq9 (by decide))).trans (hf q (fun q => hq9 (by revert q; simp; omega))), fun j hj => by rw [hX2 j hj]; exact zEs_cg (fun _ _ => rfl) hV 10 (by omega) j hj⟩))
theorem c_sealText1 {W : Nat → Nat} (hn : A 8 1 ≤ 48) (hT : ∀ j, j < A 8 1 → A 9 j < 256) (hal : A 6 1 ≤ 32) (hY : ∀ j, j < A 6 1 → A 7 j < 256) (hN : ∀ j, j < 12 → A 5 j < 256) (hhk : ∀ j, j < 16 → A 33 j < 256) (hb : z_box A 15) (hW : ∀ j, j < 176 → A 16 j = W j) (hWb : ∀ j, j < 176 → W j < 256) (hw : z_hw A B 22 (zow 1) (zmw 1) (zvw 1)) (hq : ∃ H S, z_hk B 22 H S) : z_Met l g ad mO_sealText (z_rm 5) [.ref (ad 32), .ref (ad 1), .ref (ad 10)] A B (z_vd (fun A' B' => z_hB B B' 22 ∧ (∃ H S, z_hk B' 22 H S) ∧ z_fr [10, 11, 17, 18, 23, 34, 35, 36, 37] A A' ∧ A' 10 1 = A 8 1 + 16 ∧ (∀ j, j < A 8 1 → A' 11 j = (fun j => A 9 j ^^^ zEs W (zcnt 1 (z128 (zEs W (zdu (zhsh 1 (zHw 1 (A 33)) (A 7) (A 6 1) (A 9) (A 8 1)) (A 5)) 10)) (j / 16)) 10 (j % 16)) j) ∧ ∀ j, j < 16 → A' 11 (A 8 1 + j) = (zEs W (zdu (zhsh 1 (zHw 1 (A 33)) (A 7) (A 6 1) (A 9) (A 8 1)) (A 5)) 10) j)) := by
  refine z_Met.of (L := [(0, _), (1, _), (2, _)]) (by decide) (Nat.le_of_ble_eq_true rfl) z_fit_vd rfl ?_
  intro Ex hEx
  refine z_aload_n (pc := 0) dO_sealText_0 rfl rfl ?_
  refine z_iconst (pc := 1) dO_sealText_1 zi_3 ?_
  refine z_aaload (pc := 2) zr_1 rfl (rfl) dO_sealText_2 ?_
  refine z_getI (pc := 3) zo_8 rfl zf_O_53_2 dO_sealText_3 ?_
  refine z_istore_n (L' := [(3, _), (0, _), (1, _), (2, _)]) (pc := 6) dO_sealText_6 rfl (by decide) rfl ?_
  refine z_aload_n (pc := 7) dO_sealText_7 rfl rfl ?_
  refine z_aload_n (pc := 8) dO_sealText_8 rfl rfl ?_
  refine z_aload_n (pc := 9) dO_sealText_9 rfl rfl ?_
  refine z_iconst (pc := 10) dO_sealText_10 zi_3 ?_
  refine z_aaload (pc := 11) zr_1 rfl (rfl) dO_sealText_11 ?_
  refine z_getR (pc := 12) zo_8 rfl zf_O_19_2 dO_sealText_12 ?_
  refine z_iload_n (pc := 15) dO_sealText_15 rfl rfl ?_
  refine z_callV (pc := 16) (c_makeDue1 (c := 9) (W := W) za_9 (by omega) (by omega) hT hal hY hN hhk hb hW hWb hw hq) (by decide) zo_32 rfl zc_O_57 rfl rfl (Nat.le_of_ble_eq_true rfl) dO_sealText_16 (fun r A' B' hE => ?_)
  obtain ⟨rfl, hB1, hq1, hA1, hX1⟩ := hE
  have tb : ∀ j, j < 16 → (zEs W (zdu (zhsh 1 (zHw 1 (A 33)) (A 7) (A 6 1) (A 9) (A 8 1)) (A 5)) 10) j < 256 := zEs_by hWb (zdu_lt hN) 10 (by omega)
  refine z_r0 ?_
  refine z_aload_n (pc := 19) dO_sealText_19 rfl rfl ?_
  refine z_getR (pc := 20) zo_32 rfl zf_O_61_3 dO_sealText_20 ?_
  refine z_iconst (pc := 23) dO_sealText_23 zi_0 ?_
  refine z_aload_n (pc := 24) dO_sealText_24 rfl rfl ?_
  refine z_getR (pc := 25) zo_32 rfl zf_O_64_3 dO_sealText_25 ?_
  refine z_iconst (pc := 28) dO_sealText_28 zi_0 ?_
  refine z_bipush (pc := 29) dO_sealText_29 zb_16 ?_
  refine z_copy (pc := 31) za_37 za_34 (by omega) (by omega) zy_O_40 (by decide) (Nat.le_of_ble_eq_true rfl) (by decide) dO_sealText_31 ?_
  refine z_aload_n (pc := 34) dO_sealText_34 rfl rfl ?_
  refine z_aload_n (pc := 35) dO_sealText_35 rfl rfl ?_
  refine z_iconst (pc := 36) dO_sealText_36 zi_3 ?_
  refine z_aaload (pc := 37) zr_1 rfl (rfl) dO_sealText_37 ?_
  refine z_getR (pc := 38) zo_8 rfl zf_O_19_2 dO_sealText_38 ?_
  refine z_iload_n (pc := 41) dO_sealText_41 rfl rfl ?_
  refine z_aload_n (pc := 42) dO_sealText_42 rfl rfl ?_
  refine z_getR (pc := 43) zo_10 rfl zf_O_19_2 dO_sealText_43 ?_
  have hs : ∀ j, j < 16 → (z_seg A' 34 0 16 (fun j => A' 37 (0 + (j - 0)))) 34 j = (zEs W (zdu (zhsh 1 (zHw 1 (A 33)) (A 7) (A 6 1) (A 9) (A 8 1)) (A 5)) 10) j := fun j hj => by rw [z_seg_in (Nat.zero_le _) (by omega), Nat.zero_add, Nat.sub_zero]; exact hX1 j hj
  have hf : z_fr [17, 18, 23, 34, 37] A (z_seg A' 34 0 16 (fun j => A' 37 (0 + (j - 0)))) := fun q hq9 => by rw [z_seg_ne (z_nm hq9 (by decide))]; exact hA1 q (fun q => hq9 (by revert q; simp; omega))
  have h37 : (z_seg A' 34 0 16 (fun j => A' 37 (0 + (j - 0)))) 37 = A' 37 := z_seg_ne (by decide)
  refine z_callU (pc := 46) (c_cipherText1 (f := 9) (t := 11) (W := W) za_9 (by omega) za_11 (by omega) (by omega) (by decide) (by decide) (by decide) (by decide) (by decide) (by decide) (by decide) (by decide) (by decide) (by decide) (by decide) (by decide) (fun j hj => by rw [hf 15 (by decide)]; exact hb j hj) (fun j hj => by rw [hf 16 (by decide)]; exact hW j hj) hWb (fun j hj => by rw [hs j hj]; exact tb j hj)) (by decide) zo_32 rfl zc_O_67 rfl rfl (Nat.le_of_ble_eq_true rfl) dO_sealText_46 (fun r A' B' hE => ?_)
  obtain ⟨rfl, rfl, hA2, hi2, hC2⟩ := hE
  have hC3 : ∀ j, j < A 8 1 → A' 11 j = (fun j => A 9 j ^^^ zEs W (zcnt 1 (z128 (zEs W (zdu (zhsh 1 (zHw 1 (A 33)) (A 7) (A 6 1) (A 9) (A 8 1)) (A 5)) 10)) (j / 16)) 10 (j % 16)) j := fun j hj => by
    rw [hC2 j hj, hf 9 (by decide)]
    exact congrArg _ (zEs_cg (fun _ _ => rfl) (zcnt_cg (fun j' h' => by unfold z128; rw [hs j' h'])) 10 (by omega) _ (Nat.mod_lt _ (by decide)))
  refine z_r0 ?_
  refine z_aload_n (pc := 49) dO_sealText_49 rfl rfl ?_
  refine z_aload_n (pc := 50) dO_sealText_50 rfl rfl ?_
  refine z_iload_n (pc := 51) dO_sealText_51 rfl rfl ?_
  refine z_callU (pc := 52) (c_appendDue1 hn) (by decide) zo_32 rfl zc_O_71 rfl rfl (Nat.le_of_ble_eq_true rfl) dO_sealText_52 (fun r A' B' hE => ?_)
  obtain ⟨rfl, rfl, rfl⟩ := hE
  refine z_r0 ?_
  exact z_ret0 (pc := 55) dO_sealText_55 (hEx _ _ _ (⟨rfl, hB1, hq1, fun q hq9 => by rw [z_set_ne (z_nm hq9 (by decide)), z_seg_ne (z_nm hq9 (by decide)), hA2 q (fun q => hq9 (by revert q; simp; omega))]; exact hf q (fun q => hq9 (by revert q; simp; omega)), z_set_at, fun j hj => by rw [z_set_ne (by decide), z_seg_out (Or.inl hj)]; exact hC3 j hj, fun j hj => by rw [z_set_ne (by decide), z_seg_in (by omega) (by omega), Nat.zero_add, Nat.add_sub_cancel_left, hA2 37 (by decide), h37]; exact hX1 j hj⟩))
theorem c_openText1 {W : Nat → Nat} (hn : 16 ≤ A 8 1) (hn2 : A 8 1 ≤ 64) (hT : ∀ j, j < A 8 1 → A 9 j < 256) (hal : A 6 1 ≤ 32) (hY : ∀ j, j < A 6 1 → A 7 j < 256) (hN : ∀ j, j < 12 → A 5 j < 256) (hhk : ∀ j, j < 16 → A 33 j < 256) (hb : z_box A 15) (hW : ∀ j, j < 176 → A 16 j = W j) (hWb : ∀ j, j < 176 → W j < 256) (hw : z_hw A B 22 (zow 1) (zmw 1) (zvw 1)) (hq : ∃ H S, z_hk B 22 H S) : z_Met l g ad mO_openText (z_rm 5) [.ref (ad 32), .ref (ad 1), .ref (ad 12)] A B (z_an (if zdf (fun j => A 9 (A 8 1 - 16 + j)) (zEs W (zdu (zhsh 1 (zHw 1 (A 33)) (A 7) (A 6 1) (fun j => A 9 j ^^^ zEs W (zcnt 1 (z128 (fun j => A 9 (A 8 1 - 16 + j))) (j / 16)) 10 (j % 16)) (A 8 1 - 16)) (A 5)) 10) 16 = 0 then 1 else 0) (fun A' B' => z_hB B B' 22 ∧ (∃ H S, z_hk B' 22 H S) ∧ z_fr [12, 13, 17, 18, 23, 34, 35, 36, 37] A A' ∧ A' 12 1 = A 8 1 - 16 ∧ ∀ j, j < A 8 1 - 16 → A' 13 j = (fun j => A 9 j ^^^ zEs W (zcnt 1 (z128 (fun j => A 9 (A 8 1 - 16 + j))) (j / 16)) 10 (j % 16)) j)) := by
  refine z_Met.of (L := [(0, _), (1, _), (2, _)]) (by decide) (Nat.le_of_ble_eq_true rfl) z_fit_anb rfl ?_
  intro Ex hEx
  refine z_aload_n (pc := 0) dO_openText_0 rfl rfl ?_
  refine z_iconst (pc := 1) dO_openText_1 zi_3 ?_
  refine z_aaload (pc := 2) zr_1 rfl (rfl) dO_openText_2 ?_
  refine z_getI (pc := 3) zo_8 rfl zf_O_53_2 dO_openText_3 ?_
  refine z_bipush (pc := 6) dO_openText_6 zb_16 ?_
  refine z_isub (pc := 8) dO_openText_8 (by omega) ?_
  refine z_istore_n (L' := [(3, _), (0, _), (1, _), (2, _)]) (pc := 9) dO_openText_9 rfl (by decide) rfl ?_
  refine z_aload_n (pc := 10) dO_openText_10 rfl rfl ?_
  refine z_iconst (pc := 11) dO_openText_11 zi_3 ?_
  refine z_aaload (pc := 12) zr_1 rfl (rfl) dO_openText_12 ?_
  refine z_getR (pc := 13) zo_8 rfl zf_O_19_2 dO_openText_13 ?_
  refine z_iload_n (pc := 16) dO_openText_16 rfl rfl ?_
  refine z_aload_n (pc := 17) dO_openText_17 rfl rfl ?_
  refine z_getR (pc := 18) zo_32 rfl zf_O_64_3 dO_openText_18 ?_
  refine z_iconst (pc := 21) dO_openText_21 zi_0 ?_
  refine z_bipush (pc := 22) dO_openText_22 zb_16 ?_
  refine z_copy (pc := 24) za_9 za_34 (by omega) (by omega) zy_O_40 (by decide) (Nat.le_of_ble_eq_true rfl) (by decide) dO_openText_24 ?_
  refine z_aload_n (pc := 27) dO_openText_27 rfl rfl ?_
  refine z_aload_n (pc := 28) dO_openText_28 rfl rfl ?_
  refine z_iconst (pc := 29) dO_openText_29 zi_3 ?_
  refine z_aaload (pc := 30) zr_1 rfl (rfl) dO_openText_30 ?_
  refine z_getR (pc := 31) zo_8 rfl zf_O_19_2 dO_openText_31 ?_
  refine z_iload_n (pc := 34) dO_openText_34 rfl rfl ?_
  refine z_aload_n (pc := 35) dO_openText_35 rfl rfl ?_
  refine z_getR (pc := 36) zo_12 rfl zf_O_19_2 dO_openText_36 ?_
  have hs : ∀ j, j < 16 → (z_seg A 34 0 16 (fun j => A 9 (A 8 1 - 16 + (j - 0)))) 34 j = (fun j => A 9 (A 8 1 - 16 + j)) j := fun j hj => by rw [z_seg_in (Nat.zero_le _) (by omega), Nat.sub_zero]
  have hf : z_fr [34] A (z_seg A 34 0 16 (fun j => A 9 (A 8 1 - 16 + (j - 0)))) := fun q hq9 => z_seg_ne (z_nm hq9 (by decide))
  refine z_callU (pc := 39) (c_cipherText1 (f := 9) (t := 13) (W := W) za_9 (by omega) za_13 (by omega) (by omega) (by decide) (by decide) (by decide) (by decide) (by decide) (by decide) (by decide) (by decide) (by decide) (by decide) (by decide) (by decide) (fun j hj => by rw [hf 15 (by decide)]; exact hb j hj) (fun j hj => by rw [hf 16 (by decide)]; exact hW j hj) hWb (fun j hj => by rw [hs j hj]; exact hT _ (by omega))) (by decide) zo_32 rfl zc_O_67 rfl rfl (Nat.le_of_ble_eq_true rfl) dO_openText_39 (fun r A' B' hE => ?_)
  obtain ⟨rfl, rfl, hA2, hi2, hC2⟩ := hE
  have hC3 : ∀ j, j < A 8 1 - 16 → A' 13 j = (fun j => A 9 j ^^^ zEs W (zcnt 1 (z128 (fun j => A 9 (A 8 1 - 16 + j))) (j / 16)) 10 (j % 16)) j := fun j hj => by
    rw [hC2 j hj, hf 9 (by decide)]
    exact congrArg _ (zEs_cg (fun _ _ => rfl) (zcnt_cg (fun j' h' => by unfold z128; rw [hs j' h'])) 10 (by omega) _ (Nat.mod_lt _ (by decide)))
  have hCb : ∀ j, j < A 8 1 - 16 → A' 13 j < 256 := fun j hj => by
    rw [hC3 j hj]
    exact z_xor8 (hT j (by omega)) (zEs_by hWb (zcnt_lt (z128_lt (fun j' h' => hT _ (by omega)))) 10 (by omega) _ (Nat.mod_lt _ (by decide)))
  have hf2 : z_fr [13, 17, 18, 34, 35, 36] A A' := fun q hq9 => (hA2 q (fun q => hq9 (by revert q; simp; omega))).trans (hf q (fun q => hq9 (by revert q; simp; omega)))
  clear hA2 hf
  refine z_r0 ?_
  refine z_aload_n (pc := 42) dO_openText_42 rfl rfl ?_
  refine z_iload_n (pc := 43) dO_openText_43 rfl rfl ?_
  refine z_putI (pc := 44) zo_12 rfl zp_O_53_2 dO_openText_44 ?_
  refine z_aload_n (pc := 47) dO_openText_47 rfl rfl ?_
  refine z_aload_n (pc := 48) dO_openText_48 rfl rfl ?_
  refine z_aload_n (pc := 49) dO_openText_49 rfl rfl ?_
  refine z_getR (pc := 50) zo_12 rfl zf_O_19_2 dO_openText_50 ?_
  refine z_iload_n (pc := 53) dO_openText_53 rfl rfl ?_
  have e : z_fr [12, 13, 17, 18, 34, 35, 36] A (z_set A' 12 1 (A 8 1 - 16)) := fun q hq9 => by rw [z_set_ne (z_nm hq9 (by decide))]; exact hf2 q (fun q => hq9 (by revert q; simp; omega))
  have e13 : (z_set A' 12 1 (A 8 1 - 16)) 13 = A' 13 := z_set_ne (by decide)
  refine z_callV (pc := 54) (c_makeDue1 (c := 13) (W := W) za_13 (by omega) (by omega) (fun j hj => by rw [e13]; exact hCb j hj) (by rw [e 6 (by decide)]; exact hal) (fun j hj => by rw [e 6 (by decide)] at hj; rw [e 7 (by decide)]; exact hY j hj) (fun j hj => by rw [e 5 (by decide)]; exact hN j hj) (fun j hj => by rw [e 33 (by decide)]; exact hhk j hj) (fun j hj => by rw [e 15 (by decide)]; exact hb j hj) (fun j hj => by rw [e 16 (by decide)]; exact hW j hj) hWb (hw.mv (e 22 (by decide)) z_hB.rf) hq) (by decide) zo_32 rfl zc_O_57 rfl rfl (Nat.le_of_ble_eq_true rfl) dO_openText_54 (fun r A' B' hE => ?_)
  obtain ⟨rfl, hB3, hq3, hA3, hX3⟩ := hE
  rw [e 33 (by decide), e 7 (by decide), e 6 (by decide), e 5 (by decide), e13, zhsh_cg (X' := (fun j => A 9 j ^^^ zEs W (zcnt 1 (z128 (fun j => A 9 (A 8 1 - 16 + j))) (j / 16)) 10 (j % 16))) (fun _ _ => rfl) hC3] at hX3
  have s8 : A' 8 = A 8 := by rw [hA3 8 (by decide), e 8 (by decide)]
  have s9 : A' 9 = A 9 := by rw [hA3 9 (by decide), e 9 (by decide)]
  refine z_r0 ?_
  refine z_aload_n (pc := 57) dO_openText_57 rfl rfl ?_
  refine z_aload_n (pc := 58) dO_openText_58 rfl rfl ?_
  refine z_iconst (pc := 59) dO_openText_59 zi_3 ?_
  refine z_aaload (pc := 60) zr_1 rfl (rfl) dO_openText_60 ?_
  refine z_callU (pc := 61) (c_endsInDue1 (by rw [s8]; omega) (by rw [s8]; omega) (fun j hj => by rw [s8] at hj; rw [s9]; exact hT j hj) (fun j hj => by rw [hX3 j hj]; exact zEs_by hWb (zdu_lt hN) 10 (by omega) j hj)) (by decide) zo_32 rfl zc_O_75 rfl rfl (Nat.le_of_ble_eq_true rfl) dO_openText_61 (fun r A' B' hE => ?_)
  obtain ⟨rfl, rfl, rfl⟩ := hE
  have sc : (zdf (fun j => A' 9 (A' 8 1 - 16 + j)) (A' 37) 16 = 0) ↔ zdf (fun j => A 9 (A 8 1 - 16 + j)) (zEs W (zdu (zhsh 1 (zHw 1 (A 33)) (A 7) (A 6 1) (fun j => A 9 j ^^^ zEs W (zcnt 1 (z128 (fun j => A 9 (A 8 1 - 16 + j))) (j / 16)) 10 (j % 16)) (A 8 1 - 16)) (A 5)) 10) 16 = 0 := by
    rw [zdf_iff, zdf_iff, s8, s9]
    exact ⟨fun h j hj => by rw [← hX3 j hj]; exact h j hj, fun h j hj => by rw [hX3 j hj]; exact h j hj⟩
  refine z_r1 ?_
  exact z_reti (pc := 64) dO_openText_64 (hEx _ _ _ (⟨by simp only [sc], hB3, hq3, fun q hq9 => (hA3 q (fun q => hq9 (by revert q; simp; omega))).trans (e q (fun q => hq9 (by revert q; simp; omega))), by rw [hA3 12 (by decide), z_set_at], fun j hj => by rw [hA3 13 (by decide), e13]; exact hC3 j hj⟩))
end
