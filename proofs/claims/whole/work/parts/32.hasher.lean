theorem z_seg_upd {A : z_A} {k a n i x : Nat} {f f' : Nat → Nat} (h1 : a ≤ i) (h2 : i < a + n) (hx : x = f' i) (h : ∀ j, a ≤ j → j < a + n → j ≠ i → f j = f' j) : z_set (z_seg A k a n f) k i x = z_seg A k a n f' := by
  funext k' j
  by_cases hk : k' = k
  · subst hk
    by_cases hj : j = i
    · subst hj; rw [z_set_at, z_seg_in h1 h2, hx]
    · rw [z_set_nj hj]
      by_cases h3 : a ≤ j ∧ j < a + n
      · rw [z_seg_in h3.1 h3.2, z_seg_in h3.1 h3.2, h j h3.1 h3.2 hj]
      · rw [z_seg_out (by omega), z_seg_out (by omega)]
  · rw [z_set_ne hk, z_seg_ne hk, z_seg_ne hk]
theorem z_seg_dn {A : z_A} {k a b n x : Nat} {f : Nat → Nat} (hb : b = a + 1) (hx : x = f a) : z_set (z_seg A k b n f) k a x = z_seg A k a (n + 1) f := by
  subst hb
  funext k' j
  by_cases hk : k' = k
  · subst hk
    by_cases hj : j = a
    · subst hj; rw [z_set_at, z_seg_in (Nat.le_refl _) (by omega), hx]
    · rw [z_set_nj hj]
      by_cases h3 : a ≤ j ∧ j < a + (n + 1)
      · rw [z_seg_in (by omega) (by omega), z_seg_in h3.1 h3.2]
      · rw [z_seg_out (by omega), z_seg_out (by omega)]
  · rw [z_set_ne hk, z_seg_ne hk, z_seg_ne hk]
theorem z_seg_cg {A : z_A} {k a n : Nat} {f f' : Nat → Nat} (h : ∀ j, a ≤ j → j < a + n → f j = f' j) : z_seg A k a n f = z_seg A k a n f' := by
  unfold z_seg
  congr 1
  funext j
  by_cases hj : a ≤ j ∧ j < a + n
  · rw [if_pos hj, if_pos hj, h j hj.1 hj.2]
  · rw [if_neg hj, if_neg hj]
section
variable {l : Launch} {g : z_G} {ad : Nat → Nat} {A B : z_A}
theorem c_writeHalf {k kl c n fr mr X : Nat} (ho : z_ob k 1 (zHf kl)) (hc : z_ia c n) (hfr : fr + 8 ≤ n) (hX : X < 2 ^ 64) (hkc : k ≠ c) (h1 : A k 1 = mr) (hm : zmr mr) : z_Met l g ad mH_writeHalf (z_rm 0) [.ref (ad k), .long (lN X), .ref (ad c), .int (nI fr)] A B (z_eq none (z_seg A c fr 8 (fun j => zby mr X (j - fr))) B) := by
  refine z_Met.of (L := [(0, _), (1, _), (3, _), (4, _)]) (by decide) (Nat.le_of_ble_eq_true rfl) (z_fit_eq rfl) rfl ?_
  intro Ex hEx
  have hn := hc.2.2
  refine z_iconst (pc := 0) dH_writeHalf_0 zi_0 ?_
  refine z_istore (L' := [(5, _), (0, _), (1, _), (3, _), (4, _)]) (pc := 1) dH_writeHalf_1 (by decide) rfl ?_
  refine z_wd (z_seg_0 A c fr (fun _ => 0)).symm rfl ?_
  refine z_for 8 (fun i => [(5, .int (nI i)), (0, .ref (ad k)), (1, .long (lN X)), (3, .ref (ad c)), (4, .int (nI fr))]) (fun i => z_seg A c fr i (fun _ => 0)) (fun i => B) (fun i hi ki => ?_) ?_
  · refine z_iload (pc := 3) dH_writeHalf_3 rfl ?_
    refine z_bipush (pc := 5) dH_writeHalf_5 zb_8 ?_
    refine z_icmp_ge (pc := 7) (by omega) (by omega) (tgt := 24) dH_writeHalf_7 rfl (fun h => by exfalso; omega) (fun h => ?_)
    refine z_aload_n (pc := 10) dH_writeHalf_10 rfl rfl ?_
    refine z_iload (pc := 11) dH_writeHalf_11 rfl ?_
    refine z_iload (pc := 13) dH_writeHalf_13 rfl ?_
    refine z_iadd (pc := 15) dH_writeHalf_15 ?_
    refine z_iconst (pc := 16) dH_writeHalf_16 zi_0 ?_
    refine z_iastore (pc := 17) hc (by omega) dH_writeHalf_17 ?_
    refine z_iinc (L' := [(5, _), (0, _), (1, _), (3, _), (4, _)]) (pc := 18) dH_writeHalf_18 rfl zi_1 (by decide) rfl ?_
    refine z_goto (pc := 21) (tgt := 3) dH_writeHalf_21 rfl ?_
    exact z_wd (z_seg_set rfl) rfl ki
  · refine z_iload (pc := 3) dH_writeHalf_3 rfl ?_
    refine z_bipush (pc := 5) dH_writeHalf_5 zb_8 ?_
    refine z_icmp_ge (pc := 7) (by omega) (by omega) (tgt := 24) dH_writeHalf_7 rfl (fun h => ?_) (fun h => by exfalso; omega)
    refine z_iconst (pc := 24) dH_writeHalf_24 zi_0 ?_
    refine z_istore (L' := [(5, _), (0, _), (1, _), (3, _), (4, _)]) (pc := 25) dH_writeHalf_25 (by decide) rfl ?_
    refine z_wd (A' := z_seg A c fr 8 (fun j => zbyk mr X (j - fr) 0)) (z_seg_cg (fun j _ _ => (zbyk_0 _ _ _).symm)) rfl ?_
    refine z_for 64 (fun i => [(5, .int (nI i)), (0, .ref (ad k)), (1, .long (lN X)), (3, .ref (ad c)), (4, .int (nI fr))]) (fun i => z_seg A c fr 8 (fun j => zbyk mr X (j - fr) i)) (fun i => B) (fun i hi ki => ?_) ?_
    · refine z_iload (pc := 27) dH_writeHalf_27 rfl ?_
      refine z_bipush (pc := 29) dH_writeHalf_29 zb_64 ?_
      refine z_icmp_ge (pc := 31) (by omega) (by omega) (tgt := 75) dH_writeHalf_31 rfl (fun h => by exfalso; omega) (fun h => ?_)
      refine z_lload_n (pc := 34) dH_writeHalf_34 rfl rfl ?_
      refine z_iload (pc := 35) dH_writeHalf_35 rfl ?_
      refine z_lushr (pc := 37) dH_writeHalf_37 (by omega) (by omega) ?_
      refine z_l2i (pc := 38) dH_writeHalf_38 ?_
      refine z_iconst (pc := 39) dH_writeHalf_39 zi_1 ?_
      refine z_iand (pc := 40) dH_writeHalf_40 ?_
      refine z_top (congrArg (fun x => Value.int (nI x)) (z_tb1 X i)) ?_
      refine z_istore (L' := [(6, _), (5, _), (0, _), (1, _), (3, _), (4, _)]) (pc := 41) dH_writeHalf_41 (by decide) rfl ?_
      refine z_aload_n (pc := 43) dH_writeHalf_43 rfl rfl ?_
      refine z_iload (pc := 44) dH_writeHalf_44 rfl ?_
      refine z_iload (pc := 46) dH_writeHalf_46 rfl ?_
      refine z_bipush (pc := 48) dH_writeHalf_48 zb_8 ?_
      refine z_idiv (pc := 50) dH_writeHalf_50 (by omega) (by omega) (by omega) ?_
      refine z_iadd (pc := 51) dH_writeHalf_51 ?_
      refine z_dup2 (pc := 52) dH_writeHalf_52 rfl rfl ?_
      refine z_iaload (pc := 53) hc (by omega) dH_writeHalf_53 ?_
      refine z_iload (pc := 54) dH_writeHalf_54 rfl ?_
      refine z_iload (pc := 56) dH_writeHalf_56 rfl ?_
      refine z_bipush (pc := 58) dH_writeHalf_58 zb_8 ?_
      refine z_irem (pc := 60) dH_writeHalf_60 (by omega) (by omega) (by omega) ?_
      refine z_aload_n (pc := 61) dH_writeHalf_61 rfl rfl ?_
      refine z_getI (pc := 62) ho rfl zf_H_15_1 dH_writeHalf_62 ?_
      refine z_ixor (pc := 65) dH_writeHalf_65 ?_
      refine z_ishl (pc := 66) dH_writeHalf_66 (by rw [z_seg_ne hkc, h1]; have := zmr_lt hm (Nat.mod_lt i (by decide : 0 < 8)); omega) ?_
      refine z_ior (pc := 67) dH_writeHalf_67 ?_
      refine z_iastore (pc := 68) hc (by omega) dH_writeHalf_68 ?_
      refine z_iinc (L' := [(5, _), (6, _), (0, _), (1, _), (3, _), (4, _)]) (pc := 69) dH_writeHalf_69 rfl zi_1 (by decide) rfl ?_
      refine z_goto (pc := 72) (tgt := 27) dH_writeHalf_72 rfl ?_
      refine z_ls (L' := [(5, _), (0, _), (1, _), (3, _), (4, _)]) [0, 2, 3, 4, 5] rfl ?_
      refine z_wd (z_seg_upd (by omega) (by omega) ?_ (fun j h2 h3 h4 => (zbyk_ne hm (by omega)).symm)) rfl ki
      rw [z_seg_in (by omega) (by omega), z_seg_ne hkc, h1, Nat.add_sub_cancel_left]
      exact zbyk_at hm
    · refine z_iload (pc := 27) dH_writeHalf_27 rfl ?_
      refine z_bipush (pc := 29) dH_writeHalf_29 zb_64 ?_
      refine z_icmp_ge (pc := 31) (by omega) (by omega) (tgt := 75) dH_writeHalf_31 rfl (fun h => ?_) (fun h => by exfalso; omega)
      exact z_ret0 (pc := 75) dH_writeHalf_75 (hEx _ _ _ (⟨rfl, z_seg_cg (fun j h2 h3 => (zbyk_end hm (by omega)).symm), rfl⟩))
theorem c_write {k kl c n mr H S : Nat} (ho : z_ob k 1 (zHf kl)) (hc : z_ia c n) (hn : 16 ≤ n) (hkc : k ≠ c) (h1 : A k 1 = mr) (hm : zmr mr) (hq : z_hk B k H S) : z_Met l g ad mH_write (z_rm 1) [.ref (ad k), .ref (ad c)] A B (z_vd (fun A' B' => B = B' ∧ (∀ c', c' ≠ c → A' c' = A c') ∧ (∀ j, j < 16 → A' c j = zby mr S j) ∧ ∀ j, 16 ≤ j → A' c j = A c j)) := by
  refine z_Met.of (L := [(0, _), (1, _)]) (by decide) (Nat.le_of_ble_eq_true rfl) z_fit_vd rfl ?_
  intro Ex hEx
  obtain ⟨h5, h6, h7, h8, rfl, rfl⟩ := hq
  refine z_aload_n (pc := 0) dH_write_0 rfl rfl ?_
  refine z_aload_n (pc := 1) dH_write_1 rfl rfl ?_
  refine z_getJ (pc := 2) ho rfl zf_H_50_1 dH_write_2 ?_
  refine z_aload_n (pc := 5) dH_write_5 rfl rfl ?_
  refine z_iconst (pc := 6) dH_write_6 zi_0 ?_
  refine z_callV (pc := 7) (c_writeHalf (fr := 0) ho hc (by omega) h8 hkc h1 hm) (by decide) ho rfl zc_H_68 rfl rfl (Nat.le_of_ble_eq_true rfl) dH_write_7 (fun r A' B' hE => ?_)
  obtain ⟨rfl, rfl, rfl⟩ := hE
  refine z_r0 ?_
  refine z_aload_n (pc := 10) dH_write_10 rfl rfl ?_
  refine z_aload_n (pc := 11) dH_write_11 rfl rfl ?_
  refine z_getJ (pc := 12) ho rfl zf_H_47_1 dH_write_12 ?_
  refine z_aload_n (pc := 15) dH_write_15 rfl rfl ?_
  refine z_bipush (pc := 16) dH_write_16 zb_8 ?_
  refine z_callV (pc := 18) (c_writeHalf (fr := 8) ho hc (by omega) h7 hkc (by rw [z_seg_ne hkc]; exact h1) hm) (by decide) ho rfl zc_H_68 rfl rfl (Nat.le_of_ble_eq_true rfl) dH_write_18 (fun r A' B' hE => ?_)
  obtain ⟨rfl, rfl, rfl⟩ := hE
  refine z_r0 ?_
  refine z_ret0 (pc := 21) dH_write_21 (hEx _ _ _ (⟨rfl, rfl, fun c' hc' => by rw [z_seg_ne hc', z_seg_ne hc'], fun j hj => ?_, fun j hj => by rw [z_seg_out (by omega), z_seg_out (by omega)]⟩))
  rw [zby_jn hm h8]
  by_cases h : j < 8
  · rw [if_pos h, z_seg_out (Or.inl h), z_seg_in (Nat.zero_le _) (by omega), Nat.sub_zero]
  · rw [if_neg h, z_seg_in (by omega) (by omega)]
theorem c_putLength1 {k kl fr v : Nat} (ho : z_ob k 1 (zHf kl)) (hl : z_ia kl 16) (hkl : k ≠ kl) (h0 : A k 0 = 1) (hfr : fr ≤ 8) (hv : v < 2 ^ 64) : z_Met l g ad mH_putLength (z_rm 0) [.ref (ad k), .int (nI fr), .long (lN v)] A B (z_eq none (z_seg A kl fr 8 (fun i => v / 2 ^ (8 * (fr + 7 - i)) % 256)) B) := by
  refine z_Met.of (L := [(0, _), (1, _), (2, _)]) (by decide) (Nat.le_of_ble_eq_true rfl) (z_fit_eq rfl) rfl ?_
  intro Ex hEx
  refine z_iconst (pc := 0) dH_putLength_0 zi_0 ?_
  refine z_istore (L' := [(4, _), (0, _), (1, _), (2, _)]) (pc := 1) dH_putLength_1 (by decide) rfl ?_
  refine z_wd (z_seg_0 A kl (fr + 8) (fun i => v / 2 ^ (8 * (fr + 7 - i)) % 256)).symm rfl ?_
  refine z_for 8 (fun i => [(4, .int (nI i)), (0, .ref (ad k)), (1, .int (nI fr)), (2, .long (lN v))]) (fun i => z_seg A kl (fr + 8 - i) i (fun i => v / 2 ^ (8 * (fr + 7 - i)) % 256)) (fun i => B) (fun i hi ki => ?_) ?_
  · refine z_iload (pc := 3) dH_putLength_3 rfl ?_
    refine z_bipush (pc := 5) dH_putLength_5 zb_8 ?_
    refine z_icmp_ge (pc := 7) (by omega) (by omega) (tgt := 56) dH_putLength_7 rfl (fun h => by exfalso; omega) (fun h => ?_)
    refine z_aload_n (pc := 10) dH_putLength_10 rfl rfl ?_
    refine z_getI (pc := 11) ho rfl zf_H_9_1 dH_putLength_11 ?_
    refine z_if_eq (pc := 14) (by rw [z_seg_ne hkl, h0]; decide) (tgt := 25) dH_putLength_14 rfl (fun h => by rw [z_seg_ne hkl, h0] at h; omega) (fun h => ?_)
    refine z_bipush (pc := 17) dH_putLength_17 zb_7 ?_
    refine z_iload (pc := 19) dH_putLength_19 rfl ?_
    refine z_isub (pc := 21) dH_putLength_21 (by omega) ?_
    refine z_goto (pc := 22) (tgt := 27) dH_putLength_22 rfl ?_
    refine z_istore (L' := [(5, _), (4, _), (0, _), (1, _), (2, _)]) (pc := 27) dH_putLength_27 (by decide) rfl ?_
    refine z_aload_n (pc := 29) dH_putLength_29 rfl rfl ?_
    refine z_getR (pc := 30) ho rfl zf_H_30_1 dH_putLength_30 ?_
    refine z_iload_n (pc := 33) dH_putLength_33 rfl rfl ?_
    refine z_iload (pc := 34) dH_putLength_34 rfl ?_
    refine z_iadd (pc := 36) dH_putLength_36 ?_
    refine z_lload_n (pc := 37) dH_putLength_37 rfl rfl ?_
    refine z_bipush (pc := 38) dH_putLength_38 zb_8 ?_
    refine z_iload (pc := 40) dH_putLength_40 rfl ?_
    refine z_imul (pc := 42) dH_putLength_42 ?_
    refine z_lushr (pc := 43) dH_putLength_43 (by omega) (by omega) ?_
    refine z_l2i (pc := 44) dH_putLength_44 ?_
    refine z_sipush (pc := 45) dH_putLength_45 zs_255 ?_
    refine z_iand (pc := 48) dH_putLength_48 ?_
    refine z_iastore (pc := 49) hl (by omega) dH_putLength_49 ?_
    refine z_iinc (L' := [(4, _), (5, _), (0, _), (1, _), (2, _)]) (pc := 50) dH_putLength_50 rfl zi_1 (by decide) rfl ?_
    refine z_goto (pc := 53) (tgt := 3) dH_putLength_53 rfl ?_
    refine z_ls (L' := [(4, _), (0, _), (1, _), (2, _)]) [0, 2, 3, 4] rfl ?_
    refine z_wd (z_seg_dn (by omega) ?_) rfl (by rw [show fr + 8 - (i + 1) = fr + (7 - i) by omega] at ki; exact ki)
    rw [z_and255, show fr + 7 - (fr + (7 - i)) = i by omega]
  · refine z_iload (pc := 3) dH_putLength_3 rfl ?_
    refine z_bipush (pc := 5) dH_putLength_5 zb_8 ?_
    refine z_icmp_ge (pc := 7) (by omega) (by omega) (tgt := 56) dH_putLength_7 rfl (fun h => ?_) (fun h => by exfalso; omega)
    exact z_ret0 (pc := 56) dH_putLength_56 (hEx _ _ _ (⟨rfl, rfl, rfl⟩))
theorem c_putLength0 {k kl fr v : Nat} (ho : z_ob k 1 (zHf kl)) (hl : z_ia kl 16) (hkl : k ≠ kl) (h0 : A k 0 = 0) (hfr : fr ≤ 8) (hv : v < 2 ^ 64) : z_Met l g ad mH_putLength (z_rm 0) [.ref (ad k), .int (nI fr), .long (lN v)] A B (z_eq none (z_seg A kl fr 8 (fun i => v / 2 ^ (8 * (i - fr)) % 256)) B) := by
  refine z_Met.of (L := [(0, _), (1, _), (2, _)]) (by decide) (Nat.le_of_ble_eq_true rfl) (z_fit_eq rfl) rfl ?_
  intro Ex hEx
  refine z_iconst (pc := 0) dH_putLength_0 zi_0 ?_
  refine z_istore (L' := [(4, _), (0, _), (1, _), (2, _)]) (pc := 1) dH_putLength_1 (by decide) rfl ?_
  refine z_wd (z_seg_0 A kl fr (fun i => v / 2 ^ (8 * (i - fr)) % 256)).symm rfl ?_
  refine z_for 8 (fun i => [(4, .int (nI i)), (0, .ref (ad k)), (1, .int (nI fr)), (2, .long (lN v))]) (fun i => z_seg A kl fr i (fun i => v / 2 ^ (8 * (i - fr)) % 256)) (fun i => B) (fun i hi ki => ?_) ?_
  · refine z_iload (pc := 3) dH_putLength_3 rfl ?_
    refine z_bipush (pc := 5) dH_putLength_5 zb_8 ?_
    refine z_icmp_ge (pc := 7) (by omega) (by omega) (tgt := 56) dH_putLength_7 rfl (fun h => by exfalso; omega) (fun h => ?_)
    refine z_aload_n (pc := 10) dH_putLength_10 rfl rfl ?_
    refine z_getI (pc := 11) ho rfl zf_H_9_1 dH_putLength_11 ?_
    refine z_if_eq (pc := 14) (by rw [z_seg_ne hkl, h0]; decide) (tgt := 25) dH_putLength_14 rfl (fun h => ?_) (fun h => by rw [z_seg_ne hkl, h0] at h; omega)
    refine z_iload (pc := 25) dH_putLength_25 rfl ?_
    refine z_istore (L' := [(5, _), (4, _), (0, _), (1, _), (2, _)]) (pc := 27) dH_putLength_27 (by decide) rfl ?_
    refine z_aload_n (pc := 29) dH_putLength_29 rfl rfl ?_
    refine z_getR (pc := 30) ho rfl zf_H_30_1 dH_putLength_30 ?_
    refine z_iload_n (pc := 33) dH_putLength_33 rfl rfl ?_
    refine z_iload (pc := 34) dH_putLength_34 rfl ?_
    refine z_iadd (pc := 36) dH_putLength_36 ?_
    refine z_lload_n (pc := 37) dH_putLength_37 rfl rfl ?_
    refine z_bipush (pc := 38) dH_putLength_38 zb_8 ?_
    refine z_iload (pc := 40) dH_putLength_40 rfl ?_
    refine z_imul (pc := 42) dH_putLength_42 ?_
    refine z_lushr (pc := 43) dH_putLength_43 (by omega) (by omega) ?_
    refine z_l2i (pc := 44) dH_putLength_44 ?_
    refine z_sipush (pc := 45) dH_putLength_45 zs_255 ?_
    refine z_iand (pc := 48) dH_putLength_48 ?_
    refine z_iastore (pc := 49) hl (by omega) dH_putLength_49 ?_
    refine z_iinc (L' := [(4, _), (5, _), (0, _), (1, _), (2, _)]) (pc := 50) dH_putLength_50 rfl zi_1 (by decide) rfl ?_
    refine z_goto (pc := 53) (tgt := 3) dH_putLength_53 rfl ?_
    refine z_ls (L' := [(4, _), (0, _), (1, _), (2, _)]) [0, 2, 3, 4] rfl ?_
    refine z_wd (z_seg_set ?_) rfl ki
    rw [z_and255, Nat.add_sub_cancel_left]
  · refine z_iload (pc := 3) dH_putLength_3 rfl ?_
    refine z_bipush (pc := 5) dH_putLength_5 zb_8 ?_
    refine z_icmp_ge (pc := 7) (by omega) (by omega) (tgt := 56) dH_putLength_7 rfl (fun h => ?_) (fun h => by exfalso; omega)
    exact z_ret0 (pc := 56) dH_putLength_56 (hEx _ _ _ (⟨rfl, rfl, rfl⟩))
theorem c_add {k kl c n len o mr ov H S : Nat} (ho : z_ob k 1 (zHf kl)) (hc : z_ia c n) (hlen : len ≤ n) (hn : n ≤ 1000) (hby : ∀ j, j < len → A c j < 256) (hw : z_hw A B k o mr ov) (hq : z_hk B k H S) : z_Met l g ad mH_add (z_rm 1) [.ref (ad k), .ref (ad c), .int (nI len)] A B (z_vd (fun A' B' => A = A' ∧ z_hB B B' k ∧ z_hk B' k H (zfr mr ov H (A c) len S ((len + 15) / 16)))) := by
  refine z_Met.of (L := [(0, _), (1, _), (2, _)]) (by decide) (Nat.le_of_ble_eq_true rfl) z_fit_vd rfl ?_
  intro Ex hEx
  refine z_iconst (pc := 0) dH_add_0 zi_0 ?_
  refine z_istore_n (L' := [(3, _), (0, _), (1, _), (2, _)]) (pc := 1) dH_add_1 rfl (by decide) rfl ?_
  refine z_loop ((len + 15) / 16) (fun q L A' B' => A = A' ∧ z_hB B B' k ∧ z_hk B' k H (zfr mr ov H (A c) len S q) ∧ L = [(3, .int (nI (16 * q))), (0, .ref (ad k)), (1, .ref (ad c)), (2, .int (nI len))]) ?_ ?_ _ _ _ ⟨rfl, z_hB.rf, hq, rfl⟩
  · rintro q L A' B' hi ⟨rfl, hB, hq', rfl⟩ kq
    obtain ⟨h5, h6, h7, h8, e5, e7⟩ := hq'
    refine z_iload_n (pc := 2) dH_add_2 rfl rfl ?_
    refine z_iload_n (pc := 3) dH_add_3 rfl rfl ?_
    refine z_icmp_ge (pc := 4) (by omega) (by omega) (tgt := 52) dH_add_4 rfl (fun h => by exfalso; omega) (fun h => ?_)
    refine z_aload_n (pc := 7) dH_add_7 rfl rfl ?_
    refine z_dup (pc := 8) dH_add_8 rfl ?_
    refine z_getJ (pc := 9) ho rfl zf_H_50_1 dH_add_9 ?_
    refine z_aload_n (pc := 12) dH_add_12 rfl rfl ?_
    refine z_aload_n (pc := 13) dH_add_13 rfl rfl ?_
    refine z_iload_n (pc := 14) dH_add_14 rfl rfl ?_
    refine z_iload_n (pc := 15) dH_add_15 rfl rfl ?_
    refine z_callV (pc := 16) (c_readHalf ho hc hlen (by omega) hby hw.2.1 hw.2.2.1) (by decide) ho rfl zc_H_34 rfl rfl (Nat.le_of_ble_eq_true rfl) dH_add_16 (fun r A' B' hE => ?_)
    obtain ⟨rfl, rfl, rfl⟩ := hE
    refine z_r1 ?_
    refine z_lxor (pc := 19) dH_add_19 ?_
    refine z_putJ (pc := 20) ho rfl zp_H_50_1 dH_add_20 ?_
    refine z_aload_n (pc := 23) dH_add_23 rfl rfl ?_
    refine z_dup (pc := 24) dH_add_24 rfl ?_
    refine z_getJ (pc := 25) ho rfl zf_H_47_1 dH_add_25 ?_
    refine z_aload_n (pc := 28) dH_add_28 rfl rfl ?_
    refine z_aload_n (pc := 29) dH_add_29 rfl rfl ?_
    refine z_iload_n (pc := 30) dH_add_30 rfl rfl ?_
    refine z_bipush (pc := 31) dH_add_31 zb_8 ?_
    refine z_iadd (pc := 33) dH_add_33 ?_
    refine z_iload_n (pc := 34) dH_add_34 rfl rfl ?_
    refine z_callV (pc := 35) (c_readHalf ho hc hlen (by omega) hby hw.2.1 hw.2.2.1) (by decide) ho rfl zc_H_34 rfl rfl (Nat.le_of_ble_eq_true rfl) dH_add_35 (fun r A' B' hE => ?_)
    obtain ⟨rfl, rfl, rfl⟩ := hE
    refine z_r1 ?_
    refine z_lxor (pc := 38) dH_add_38 ?_
    refine z_putJ (pc := 39) ho rfl zp_H_47_1 dH_add_39 ?_
    refine z_aload_n (pc := 42) dH_add_42 rfl rfl ?_
    have hq2 := z_hk.s87 (B := B') (k := k) ⟨h5, h6, h7, h8, e5, e7⟩ (Nat.xor_lt_two_pow h7 (zbits_lt (zp mr (A c) (16 * q + 8) len) 64)) (Nat.xor_lt_two_pow h8 (zbits_lt (zp mr (A c) (16 * q) len) 64))
    rw [← z_jn_xor h8 (zbits_lt _ _), zblk_jn, e7] at hq2
    refine z_wd (A' := A) (B' := z_set (z_set B' k 8 (B' k 8 ^^^ zbits (zp mr (A c) (16 * q) len) 64)) k 7 (B' k 7 ^^^ zbits (zp mr (A c) (16 * q + 8) len) 64)) rfl (by rw [z_set_nj (by decide)]) ?_
    refine z_callV (pc := 43) (c_mul ho (hw.mv rfl ((hB.set (by decide)).set (by decide))) hq2) (by decide) ho rfl zc_H_55 rfl rfl (Nat.le_of_ble_eq_true rfl) dH_add_43 (fun r A' B' hE => ?_)
    obtain ⟨rfl, rfl, hB2, hq3⟩ := hE
    refine z_r0 ?_
    refine z_iinc (L' := [(3, _), (0, _), (1, _), (2, _)]) (pc := 46) dH_add_46 rfl zi_16 (by decide) rfl ?_
    refine z_goto (pc := 49) (tgt := 2) dH_add_49 rfl ?_
    exact kq _ _ _ ⟨rfl, ((hB.set (by decide)).set (by decide)).tr hB2, hq3, rfl⟩
  · rintro L A' B' ⟨rfl, hB, hq', rfl⟩
    refine z_iload_n (pc := 2) dH_add_2 rfl rfl ?_
    refine z_iload_n (pc := 3) dH_add_3 rfl rfl ?_
    refine z_icmp_ge (pc := 4) (by omega) (by omega) (tgt := 52) dH_add_4 rfl (fun h => ?_) (fun h => by exfalso; omega)
    exact z_ret0 (pc := 52) dH_add_52 (hEx _ _ _ (⟨rfl, rfl, hB, hq'⟩))
theorem c_besides {k kl o mr ov H S : Nat} (ho : z_ob k 1 (zHf kl)) (hw : z_hw A B k o mr ov) (hq : z_hk B k H S) : z_Met l g ad mH_putBesidesIntoKey (z_rm 1) [.ref (ad k)] A B (z_vd (fun A' B' => A = A' ∧ z_hB B B' k ∧ ∃ S', z_hk B' k (zmul ov zbes H) S')) := by
  refine z_Met.of (L := [(0, _)]) (by decide) (Nat.le_of_ble_eq_true rfl) z_fit_vd rfl ?_
  intro Ex hEx
  obtain ⟨h5, h6, h7, h8, e5, e7⟩ := hq
  refine z_aload_n (pc := 0) dH_putBesidesIntoKey_0 rfl rfl ?_
  refine z_ldc2 (pc := 1) dH_putBesidesIntoKey_1 wk_H_53 zk_H_53 ?_
  refine z_putJ (pc := 4) ho rfl zp_H_47_1 dH_putBesidesIntoKey_4 ?_
  refine z_aload_n (pc := 7) dH_putBesidesIntoKey_7 rfl rfl ?_
  refine z_lconst (pc := 8) dH_putBesidesIntoKey_8 zl_1 ?_
  refine z_putJ (pc := 9) ho rfl zp_H_50_1 dH_putBesidesIntoKey_9 ?_
  refine z_aload_n (pc := 12) dH_putBesidesIntoKey_12 rfl rfl ?_
  have hq2 : z_hk (z_set (z_set B k 7 10521534629444321280) k 8 1) k H zbes := z_hk.s78 (B := B) (k := k) ⟨h5, h6, h7, h8, e5, e7⟩ (by decide) (by decide)
  refine z_callV (pc := 13) (c_mul ho (hw.mv rfl ((z_hB.rf.set (by decide)).set (by decide))) hq2) (by decide) ho rfl zc_H_55 rfl rfl (Nat.le_of_ble_eq_true rfl) dH_putBesidesIntoKey_13 (fun r A' B' hE => ?_)
  obtain ⟨rfl, rfl, hB2, g5, g6, g7, g8, e1, e2⟩ := hE
  refine z_r0 ?_
  refine z_aload_n (pc := 16) dH_putBesidesIntoKey_16 rfl rfl ?_
  refine z_aload_n (pc := 17) dH_putBesidesIntoKey_17 rfl rfl ?_
  refine z_getJ (pc := 18) ho rfl zf_H_47_1 dH_putBesidesIntoKey_18 ?_
  refine z_putJ (pc := 21) ho rfl zp_H_38_1 dH_putBesidesIntoKey_21 ?_
  refine z_aload_n (pc := 24) dH_putBesidesIntoKey_24 rfl rfl ?_
  refine z_aload_n (pc := 25) dH_putBesidesIntoKey_25 rfl rfl ?_
  refine z_getJ (pc := 26) ho rfl zf_H_50_1 dH_putBesidesIntoKey_26 ?_
  refine z_putJ (pc := 29) ho rfl zp_H_41_1 dH_putBesidesIntoKey_29 ?_
  exact z_ret0 (pc := 32) dH_putBesidesIntoKey_32 (hEx _ _ _ (⟨rfl, rfl, ((((z_hB.rf.set (by decide)).set (by decide)).tr hB2).set (by decide)).set (by decide), zmul ov zbes H, by have q := z_hk.s56 (B := B') (k := k) ⟨g5, g6, g7, g8, e1, e2⟩ g7 g8; rw [e2] at q; rw [z_set_nj (i := 8) (by decide)]; exact q⟩))
/-- the key that a hash works with -/
def zHk (o ov X : Nat) : Nat := if o = 1 then X else zmul ov zbes X
theorem c_begin {k kl c n o mr ov H S : Nat} (ho : z_ob k 1 (zHf kl)) (hc : z_ia c n) (hn : 16 ≤ n) (hby : ∀ j, j < 16 → A c j < 256) (ho1 : o = 1 ∨ o = 0) (hw : z_hw A B k o mr ov) (hq : z_hk B k H S) : z_Met l g ad mH_begin (z_rm 2) [.ref (ad k), .ref (ad c)] A B (z_vd (fun A' B' => A = A' ∧ z_hB B B' k ∧ z_hk B' k (zHk o ov (zblk mr (A c) 0 16)) 0)) := by
  refine z_Met.of (L := [(0, _), (1, _)]) (by decide) (Nat.le_of_ble_eq_true rfl) z_fit_vd rfl ?_
  intro Ex hEx
  obtain ⟨h5, h6, h7, h8, e5, e7⟩ := hq
  refine z_aload_n (pc := 0) dH_begin_0 rfl rfl ?_
  refine z_aload_n (pc := 1) dH_begin_1 rfl rfl ?_
  refine z_aload_n (pc := 2) dH_begin_2 rfl rfl ?_
  refine z_bipush (pc := 3) dH_begin_3 zb_8 ?_
  refine z_bipush (pc := 5) dH_begin_5 zb_16 ?_
  refine z_callV (pc := 7) (c_readHalf (fr := 8) (len := 16) ho hc hn (by omega) hby hw.2.1 hw.2.2.1) (by decide) ho rfl zc_H_34 rfl rfl (Nat.le_of_ble_eq_true rfl) dH_begin_7 (fun r A' B' hE => ?_)
  obtain ⟨rfl, rfl, rfl⟩ := hE
  refine z_r1 ?_
  refine z_putJ (pc := 10) ho rfl zp_H_38_1 dH_begin_10 ?_
  refine z_aload_n (pc := 13) dH_begin_13 rfl rfl ?_
  refine z_aload_n (pc := 14) dH_begin_14 rfl rfl ?_
  refine z_aload_n (pc := 15) dH_begin_15 rfl rfl ?_
  refine z_iconst (pc := 16) dH_begin_16 zi_0 ?_
  refine z_bipush (pc := 17) dH_begin_17 zb_16 ?_
  refine z_callV (pc := 19) (c_readHalf (fr := 0) (len := 16) ho hc hn (by omega) hby hw.2.1 hw.2.2.1) (by decide) ho rfl zc_H_34 rfl rfl (Nat.le_of_ble_eq_true rfl) dH_begin_19 (fun r A' B' hE => ?_)
  obtain ⟨rfl, rfl, rfl⟩ := hE
  refine z_r1 ?_
  refine z_putJ (pc := 22) ho rfl zp_H_41_1 dH_begin_22 ?_
  have hB2 : z_hB B (z_set (z_set B k 5 (zbits (zp mr (A c) 8 16) 64)) k 6 (zbits (zp mr (A c) 0 16) 64)) k := (z_hB.rf.set (by decide)).set (by decide)
  have hq2 : z_hk (z_set (z_set B k 5 (zbits (zp mr (A c) 8 16) 64)) k 6 (zbits (zp mr (A c) 0 16) 64)) k (zblk mr (A c) 0 16) S := by have q := z_hk.s56 (B := B) (k := k) ⟨h5, h6, h7, h8, e5, e7⟩ (zbits_lt (zp mr (A c) 8 16) 64) (zbits_lt (zp mr (A c) 0 16) 64); rw [show (8 : Nat) = 0 + 8 from rfl, zblk_jn] at q; exact q
  refine z_aload_n (pc := 25) dH_begin_25 rfl rfl ?_
  refine z_getI (pc := 26) ho rfl zf_H_9_1 dH_begin_26 ?_
  refine z_if_ne (pc := 29) (by rcases ho1 with q | q <;> rw [hw.1, q] <;> decide) (tgt := 36) dH_begin_29 rfl (fun h1 => ?_) (fun h1 => ?_)
  · refine z_aload_n (pc := 36) dH_begin_36 rfl rfl ?_
    refine z_lconst (pc := 37) dH_begin_37 zl_0 ?_
    refine z_putJ (pc := 38) ho rfl zp_H_47_1 dH_begin_38 ?_
    refine z_aload_n (pc := 41) dH_begin_41 rfl rfl ?_
    refine z_lconst (pc := 42) dH_begin_42 zl_0 ?_
    refine z_putJ (pc := 43) ho rfl zp_H_50_1 dH_begin_43 ?_
    exact z_ret0 (pc := 46) dH_begin_46 (hEx _ _ _ (⟨rfl, rfl, (hB2.set (by decide)).set (by decide), by rw [zHk, if_pos (by rcases ho1 with q | q <;> rw [hw.1] at h1 <;> omega)]; exact hq2.s78 (by decide) (by decide)⟩))
  · refine z_aload_n (pc := 32) dH_begin_32 rfl rfl ?_
    refine z_callV (pc := 33) (c_besides ho (hw.mv rfl hB2) hq2) (by decide) ho rfl zc_H_44 rfl rfl (Nat.le_of_ble_eq_true rfl) dH_begin_33 (fun r A' B' hE => ?_)
    obtain ⟨rfl, rfl, hB3, S', hq3⟩ := hE
    refine z_r0 ?_
    refine z_aload_n (pc := 36) dH_begin_36 rfl rfl ?_
    refine z_lconst (pc := 37) dH_begin_37 zl_0 ?_
    refine z_putJ (pc := 38) ho rfl zp_H_47_1 dH_begin_38 ?_
    refine z_aload_n (pc := 41) dH_begin_41 rfl rfl ?_
    refine z_lconst (pc := 42) dH_begin_42 zl_0 ?_
    refine z_putJ (pc := 43) ho rfl zp_H_50_1 dH_begin_43 ?_
    exact z_ret0 (pc := 46) dH_begin_46 (hEx _ _ _ (⟨rfl, rfl, ((hB2.tr hB3).set (by decide)).set (by decide), by rw [zHk, if_neg (by rw [hw.1] at h1; omega)]; exact hq3.s78 (by decide) (by decide)⟩))
/-- the block of two lengths -/
def zlb (o a b i : Nat) : Nat := if i < 8 then 8 * a / 2 ^ (8 * (if o = 1 then 7 - i else i)) % 256 else 8 * b / 2 ^ (8 * (if o = 1 then 15 - i else i - 8)) % 256
theorem c_addLengths1 {k kl a b mr ov H S : Nat} (ho : z_ob k 1 (zHf kl)) (hl : z_ia kl 16) (hkl : k ≠ kl) (ha : a < 1000) (hb : b < 1000) (hw : z_hw A B k 1 mr ov) (hq : z_hk B k H S) : z_Met l g ad mH_addLengths (z_rm 2) [.ref (ad k), .int (nI a), .int (nI b)] A B (z_vd (fun A' B' => (∀ c', c' ≠ kl → A' c' = A c') ∧ z_hB B B' k ∧ z_hk B' k H (zmul ov (S ^^^ zblk mr (zlb 1 a b) 0 16) H))) := by
  refine z_Met.of (L := [(0, _), (1, _), (2, _)]) (by decide) (Nat.le_of_ble_eq_true rfl) z_fit_vd rfl ?_
  intro Ex hEx
  refine z_aload_n (pc := 0) dH_addLengths_0 rfl rfl ?_
  refine z_iconst (pc := 1) dH_addLengths_1 zi_0 ?_
  refine z_ldc2 (pc := 2) dH_addLengths_2 wk_H_58 zk_H_58 ?_
  refine z_iload_n (pc := 5) dH_addLengths_5 rfl rfl ?_
  refine z_i2l (pc := 6) dH_addLengths_6 (by omega) ?_
  refine z_lmul (pc := 7) dH_addLengths_7 ?_
  refine z_callV (pc := 8) (c_putLength1 (fr := 0) ho hl hkl hw.1 (by omega) (by omega)) (by decide) ho rfl zc_H_60 rfl rfl (Nat.le_of_ble_eq_true rfl) dH_addLengths_8 (fun r A' B' hE => ?_)
  obtain ⟨rfl, rfl, rfl⟩ := hE
  refine z_r0 ?_
  refine z_aload_n (pc := 11) dH_addLengths_11 rfl rfl ?_
  refine z_bipush (pc := 12) dH_addLengths_12 zb_8 ?_
  refine z_ldc2 (pc := 14) dH_addLengths_14 wk_H_58 zk_H_58 ?_
  refine z_iload_n (pc := 17) dH_addLengths_17 rfl rfl ?_
  refine z_i2l (pc := 18) dH_addLengths_18 (by omega) ?_
  refine z_lmul (pc := 19) dH_addLengths_19 ?_
  refine z_callV (pc := 20) (c_putLength1 (fr := 8) ho hl hkl (by rw [z_seg_ne hkl]; exact hw.1) (by omega) (by omega)) (by decide) ho rfl zc_H_60 rfl rfl (Nat.le_of_ble_eq_true rfl) dH_addLengths_20 (fun r A' B' hE => ?_)
  obtain ⟨rfl, rfl, rfl⟩ := hE
  refine z_r0 ?_
  refine z_aload_n (pc := 23) dH_addLengths_23 rfl rfl ?_
  refine z_aload_n (pc := 24) dH_addLengths_24 rfl rfl ?_
  refine z_getR (pc := 25) ho rfl zf_H_30_1 dH_addLengths_25 ?_
  refine z_bipush (pc := 28) dH_addLengths_28 zb_16 ?_
  have hlb : ∀ j, j < 16 → (z_seg (z_seg A kl 0 8 (fun i => (8 * a) / 2 ^ (8 * (0 + 7 - i)) % 256)) kl 8 8 (fun i => (8 * b) / 2 ^ (8 * (8 + 7 - i)) % 256)) kl j = zlb 1 a b j := by
    intro j hj
    unfold zlb
    by_cases h : j < 8
    · rw [if_pos h, z_seg_out (Or.inl h), z_seg_in (Nat.zero_le _) (by omega)]
      simp
    · rw [if_neg h, z_seg_in (by omega) (by omega)]
      simp
  have hw2 : z_hw (z_seg (z_seg A kl 0 8 (fun i => (8 * a) / 2 ^ (8 * (0 + 7 - i)) % 256)) kl 8 8 (fun i => (8 * b) / 2 ^ (8 * (8 + 7 - i)) % 256)) B k 1 mr ov := hw.mv (by rw [z_seg_ne hkl, z_seg_ne hkl]) z_hB.rf
  refine z_callV (pc := 30) (c_add (n := 16) (len := 16) ho hl (by omega) (by omega) (fun j hj => by rw [hlb j hj]; unfold zlb; split <;> exact Nat.mod_lt _ (by decide)) hw2 hq) (by decide) ho rfl zc_H_64 rfl rfl (Nat.le_of_ble_eq_true rfl) dH_addLengths_30 (fun r A' B' hE => ?_)
  obtain ⟨rfl, rfl, hB, hq'⟩ := hE
  refine z_r0 ?_
  have hf : zfr mr ov H ((z_seg (z_seg A kl 0 8 (fun i => (8 * a) / 2 ^ (8 * (0 + 7 - i)) % 256)) kl 8 8 (fun i => (8 * b) / 2 ^ (8 * (8 + 7 - i)) % 256)) kl) 16 S ((16 + 15) / 16) = zmul ov (S ^^^ zblk mr (zlb 1 a b) 0 16) H := by
    rw [← zblk_cg (b := (z_seg (z_seg A kl 0 8 (fun i => (8 * a) / 2 ^ (8 * (0 + 7 - i)) % 256)) kl 8 8 (fun i => (8 * b) / 2 ^ (8 * (8 + 7 - i)) % 256)) kl) (b' := zlb 1 a b) (mr := mr) (fr := 0) (len := 16) (fun j hj _ => hlb (0 + j) (by omega))]
    rfl
  rw [hf] at hq'
  exact z_ret0 (pc := 33) dH_addLengths_33 (hEx _ _ _ (⟨rfl, fun c' hc' => by rw [z_seg_ne hc', z_seg_ne hc'], hB, hq'⟩))
theorem c_addLengths0 {k kl a b mr ov H S : Nat} (ho : z_ob k 1 (zHf kl)) (hl : z_ia kl 16) (hkl : k ≠ kl) (ha : a < 1000) (hb : b < 1000) (hw : z_hw A B k 0 mr ov) (hq : z_hk B k H S) : z_Met l g ad mH_addLengths (z_rm 2) [.ref (ad k), .int (nI a), .int (nI b)] A B (z_vd (fun A' B' => (∀ c', c' ≠ kl → A' c' = A c') ∧ z_hB B B' k ∧ z_hk B' k H (zmul ov (S ^^^ zblk mr (zlb 0 a b) 0 16) H))) := by
  refine z_Met.of (L := [(0, _), (1, _), (2, _)]) (by decide) (Nat.le_of_ble_eq_true rfl) z_fit_vd rfl ?_
  intro Ex hEx
  refine z_aload_n (pc := 0) dH_addLengths_0 rfl rfl ?_
  refine z_iconst (pc := 1) dH_addLengths_1 zi_0 ?_
  refine z_ldc2 (pc := 2) dH_addLengths_2 wk_H_58 zk_H_58 ?_
  refine z_iload_n (pc := 5) dH_addLengths_5 rfl rfl ?_
  refine z_i2l (pc := 6) dH_addLengths_6 (by omega) ?_
  refine z_lmul (pc := 7) dH_addLengths_7 ?_
  refine z_callV (pc := 8) (c_putLength0 (fr := 0) ho hl hkl hw.1 (by omega) (by omega)) (by decide) ho rfl zc_H_60 rfl rfl (Nat.le_of_ble_eq_true rfl) dH_addLengths_8 (fun r A' B' hE => ?_)
  obtain ⟨rfl, rfl, rfl⟩ := hE
  refine z_r0 ?_
  refine z_aload_n (pc := 11) dH_addLengths_11 rfl rfl ?_
  refine z_bipush (pc := 12) dH_addLengths_12 zb_8 ?_
  refine z_ldc2 (pc := 14) dH_addLengths_14 wk_H_58 zk_H_58 ?_
  refine z_iload_n (pc := 17) dH_addLengths_17 rfl rfl ?_
  refine z_i2l (pc := 18) dH_addLengths_18 (by omega) ?_
  refine z_lmul (pc := 19) dH_addLengths_19 ?_
  refine z_callV (pc := 20) (c_putLength0 (fr := 8) ho hl hkl (by rw [z_seg_ne hkl]; exact hw.1) (by omega) (by omega)) (by decide) ho rfl zc_H_60 rfl rfl (Nat.le_of_ble_eq_true rfl) dH_addLengths_20 (fun r A' B' hE => ?_)
  obtain ⟨rfl, rfl, rfl⟩ := hE
  refine z_r0 ?_
  refine z_aload_n (pc := 23) dH_addLengths_23 rfl rfl ?_
  refine z_aload_n (pc := 24) dH_addLengths_24 rfl rfl ?_
  refine z_getR (pc := 25) ho rfl zf_H_30_1 dH_addLengths_25 ?_
  refine z_bipush (pc := 28) dH_addLengths_28 zb_16 ?_
  have hlb : ∀ j, j < 16 → (z_seg (z_seg A kl 0 8 (fun i => (8 * a) / 2 ^ (8 * (i - 0)) % 256)) kl 8 8 (fun i => (8 * b) / 2 ^ (8 * (i - 8)) % 256)) kl j = zlb 0 a b j := by
    intro j hj
    unfold zlb
    by_cases h : j < 8
    · rw [if_pos h, z_seg_out (Or.inl h), z_seg_in (Nat.zero_le _) (by omega)]
      simp
    · rw [if_neg h, z_seg_in (by omega) (by omega)]
      simp
  have hw2 : z_hw (z_seg (z_seg A kl 0 8 (fun i => (8 * a) / 2 ^ (8 * (i - 0)) % 256)) kl 8 8 (fun i => (8 * b) / 2 ^ (8 * (i - 8)) % 256)) B k 0 mr ov := hw.mv (by rw [z_seg_ne hkl, z_seg_ne hkl]) z_hB.rf
  refine z_callV (pc := 30) (c_add (n := 16) (len := 16) ho hl (by omega) (by omega) (fun j hj => by rw [hlb j hj]; unfold zlb; split <;> exact Nat.mod_lt _ (by decide)) hw2 hq) (by decide) ho rfl zc_H_64 rfl rfl (Nat.le_of_ble_eq_true rfl) dH_addLengths_30 (fun r A' B' hE => ?_)
  obtain ⟨rfl, rfl, hB, hq'⟩ := hE
  refine z_r0 ?_
  have hf : zfr mr ov H ((z_seg (z_seg A kl 0 8 (fun i => (8 * a) / 2 ^ (8 * (i - 0)) % 256)) kl 8 8 (fun i => (8 * b) / 2 ^ (8 * (i - 8)) % 256)) kl) 16 S ((16 + 15) / 16) = zmul ov (S ^^^ zblk mr (zlb 0 a b) 0 16) H := by
    rw [← zblk_cg (b := (z_seg (z_seg A kl 0 8 (fun i => (8 * a) / 2 ^ (8 * (i - 0)) % 256)) kl 8 8 (fun i => (8 * b) / 2 ^ (8 * (i - 8)) % 256)) kl) (b' := zlb 0 a b) (mr := mr) (fr := 0) (len := 16) (fun j hj _ => hlb (0 + j) (by omega))]
    rfl
  rw [hf] at hq'
  exact z_ret0 (pc := 33) dH_addLengths_33 (hEx _ _ _ (⟨rfl, fun c' hc' => by rw [z_seg_ne hc', z_seg_ne hc'], hB, hq'⟩))
end
