/-- a row of bits is a number's -/
def zbr (a : Nat → Nat) (n X : Nat) : Prop := ∀ i, i < n → a i = (X.testBit i).toNat
def zmw (w : Nat) : Nat := if w = 0 then 7 else 0
def zvw (w : Nat) : Nat := if w = 0 then zovO else zovI
def zow (w : Nat) : Nat := if w = 0 then 1 else 0
theorem zmw_ok (w : Nat) : zmr (zmw w) := by
  unfold zmw zmr
  split
  · exact Or.inl rfl
  · exact Or.inr rfl
theorem zvw_lt (w : Nat) : zvw w < 2 ^ 128 := by
  unfold zvw
  split
  · exact zovO_lt
  · exact zovI_lt
theorem z_x7 : ∀ k, k < 8 → k ^^^ 7 = 7 - k := by decide +kernel
theorem z_bt1 (b : Bool) : b.toNat = 1 ↔ b = true := by cases b <;> simp
theorem z_tx (a b : Bool) : a.toNat ^^^ b.toNat = (a ^^ b).toNat := by cases a <;> cases b <;> rfl
theorem z_dec {x : Nat} (h : 1 ≤ x) : nI (x + 4294967295) = nI (x - 1) := by
  have e : (x + 4294967295) % 2 ^ 32 = (x - 1) % 2 ^ 32 := by omega
  rw [z_nmod, e, ← z_nmod]
theorem z_map_seg (A : z_A) (k n : Nat) (f : Nat → Nat) : z_map A k n f = z_seg A k 0 n f := by
  unfold z_map z_seg
  congr 1
  funext j
  by_cases h : j < n
  · rw [if_pos h, if_pos ⟨Nat.zero_le _, by omega⟩]
  · rw [if_neg h, if_neg (by omega)]
theorem z_flip (W : z_A) (k a j : Nat) : z_set W k a (W k a ^^^ 1) k j = W k j ^^^ (if j = a then 1 else 0) := by
  by_cases h : j = a
  · subst h; rw [z_set_at, if_pos rfl]
  · rw [z_set_nj h, if_neg h, Nat.xor_zero]
theorem zbO : ∀ t, t < 256 → (2 ^ 128 + zovO).testBit t = decide (t = 0 ∨ t = 1 ∨ t = 2 ∨ t = 7 ∨ t = 128) := by decide +kernel
theorem zbI : ∀ t, t < 256 → (2 ^ 128 + zovI).testBit t = decide (t = 0 ∨ t = 121 ∨ t = 126 ∨ t = 127 ∨ t = 128) := by decide +kernel
/-- the reduction from the top -/
def zrs (ov P : Nat) : Nat → Nat
  | 0 => P
  | m + 1 => zst ov (255 - m) (zrs ov P m)
theorem zrs_red (ov P : Nat) : ∀ m, m ≤ 128 → zred ov 128 P = zred ov (128 - m) (zrs ov P m)
  | 0, _ => rfl
  | m + 1, h => by
    rw [zrs_red ov P m (by omega), show 128 - m = (128 - (m + 1)) + 1 by omega, zred, zrs, show 128 + (128 - (m + 1)) = 255 - m by omega]
theorem zrs_128 (ov P : Nat) : zred ov 128 P = zrs ov P 128 := zrs_red ov P 128 (Nat.le_refl _)
/-- a step of the reduction, bit by bit: five places flip -/
theorem zst_five {ov P i a b c : Nat} (hi : i < 256) (h128 : 128 ≤ i) (hq : ∀ t, t < 256 → (2 ^ 128 + ov).testBit t = decide (t = 0 ∨ t = a ∨ t = b ∨ t = c ∨ t = 128)) (hP : P.testBit i = true)
    (ha : 0 < a) (hab : a < b) (hbc : b < c) (hc : c < 128) (W : Nat → Nat) (hW : zbr W 256 P) (f : Nat → Nat)
    (hf : ∀ j, f j = ((((if j = i then 0 else W j) ^^^ (if j = i - 128 then 1 else 0)) ^^^ (if j = i - 128 + c then 1 else 0)) ^^^ (if j = i - 128 + b then 1 else 0)) ^^^ (if j = i - 128 + a then 1 else 0)) : zbr f 256 (zst ov i P) := by
  intro j hj
  rw [hf j, zst, hP, Bool.toNat_true, Nat.one_mul, Nat.testBit_xor, Nat.testBit_mul_two_pow]
  by_cases hl : i - 128 ≤ j
  · rw [hq (j - (i - 128)) (by omega), decide_eq_true hl, Bool.true_and]
    by_cases e0 : j = i
    · rw [if_pos e0, if_neg (by omega), if_neg (by omega), if_neg (by omega), if_neg (by omega), decide_eq_true (by omega), e0, hP]
      rfl
    · rw [if_neg e0, hW j hj]
      by_cases e1 : j = i - 128
      · rw [if_pos e1, if_neg (by omega), if_neg (by omega), if_neg (by omega), decide_eq_true (by omega)]
        cases P.testBit j <;> rfl
      · rw [if_neg e1]
        by_cases e2 : j = i - 128 + a
        · rw [if_pos e2, if_neg (by omega), if_neg (by omega), decide_eq_true (by omega)]
          cases P.testBit j <;> rfl
        · rw [if_neg e2]
          by_cases e3 : j = i - 128 + b
          · rw [if_pos e3, if_neg (by omega), decide_eq_true (by omega)]
            cases P.testBit j <;> rfl
          · rw [if_neg e3]
            by_cases e4 : j = i - 128 + c
            · rw [if_pos e4, decide_eq_true (by omega)]
              cases P.testBit j <;> rfl
            · rw [if_neg e4, decide_eq_false (by omega), Bool.xor_false]
              simp
  · rw [if_neg (by omega), if_neg (by omega), if_neg (by omega), if_neg (by omega), if_neg (by omega), decide_eq_false hl, Bool.false_and, Bool.xor_false, hW j hj]
    simp
section
variable {l : Launch} {g : z_G} {ad : Nat → Nat} {A B : z_A}
theorem m_bit {w b k : Nat} (hw : w = 0 ∨ w = 1) (hb : b < 256) (hk : k < 8) : z_Met l g ad mM_bit (z_rm 0) [.int (nI w), .int (nI b), .int (nI k)] A B (z_eq (some (.int (nI ((b.testBit (k ^^^ zmw w)).toNat)))) A B) := by
  refine z_Met.of (L := [(0, _), (1, _), (2, _)]) (by decide) (Nat.le_of_ble_eq_true rfl) (z_fit_eq (Or.inl rfl)) rfl ?_
  intro Ex hEx
  refine z_iload_n (pc := 0) dM_bit_0 rfl rfl ?_
  refine z_if_ne (pc := 1) (by omega) (tgt := 15) dM_bit_1 rfl (fun h1 => ?_) (fun h1 => ?_)
  · refine z_iload_n (pc := 15) dM_bit_15 rfl rfl ?_
    refine z_iload_n (pc := 16) dM_bit_16 rfl rfl ?_
    refine z_ishr (pc := 17) dM_bit_17 (by omega) (by omega) ?_
    refine z_iconst (pc := 18) dM_bit_18 zi_1 ?_
    refine z_iand (pc := 19) dM_bit_19 ?_
    exact z_reti (pc := 20) dM_bit_20 (hEx _ _ _ (⟨by first | rw [zmw, if_neg h1, Nat.xor_zero, z_tb1] | rw [zmw, if_pos h1, z_x7 _ hk, z_tb1], rfl, rfl⟩))
  · refine z_iload_n (pc := 4) dM_bit_4 rfl rfl ?_
    refine z_bipush (pc := 5) dM_bit_5 zb_7 ?_
    refine z_iload_n (pc := 7) dM_bit_7 rfl rfl ?_
    refine z_isub (pc := 8) dM_bit_8 (by omega) ?_
    refine z_ishr (pc := 9) dM_bit_9 (by omega) (by omega) ?_
    refine z_iconst (pc := 10) dM_bit_10 zi_1 ?_
    refine z_iand (pc := 11) dM_bit_11 ?_
    refine z_goto (pc := 12) (tgt := 20) dM_bit_12 rfl ?_
    exact z_reti (pc := 20) dM_bit_20 (hEx _ _ _ (⟨by first | rw [zmw, if_neg h1, Nat.xor_zero, z_tb1] | rw [zmw, if_pos h1, z_x7 _ hk, z_tb1], rfl, rfl⟩))
theorem m_clearProduct   : z_Met l g ad mM_clearProduct (z_rm 0) [.ref (ad 39)] A B (z_eq none (z_map A 51 256 (fun _ => 0)) B) := by
  refine z_Met.of (L := [(0, _)]) (by decide) (Nat.le_of_ble_eq_true rfl) (z_fit_eq rfl) rfl ?_
  intro Ex hEx
  refine z_iconst (pc := 0) dM_clearProduct_0 zi_0 ?_
  refine z_istore_n (L' := [(1, _), (0, _)]) (pc := 1) dM_clearProduct_1 rfl (by decide) rfl ?_
  refine z_wd (z_map_0 A 51 (fun _ => 0)).symm rfl ?_
  refine z_for 256 (fun i => [(1, .int (nI i)), (0, .ref (ad 39))]) (fun i => z_map A 51 i (fun _ => 0)) (fun i => B) (fun i hi ki => ?_) ?_
  · refine z_iload_n (pc := 2) dM_clearProduct_2 rfl rfl ?_
    refine z_sipush (pc := 3) dM_clearProduct_3 zs_256 ?_
    refine z_icmp_ge (pc := 6) (by omega) (by omega) (tgt := 22) dM_clearProduct_6 rfl (fun h => by exfalso; omega) (fun h => ?_)
    refine z_aload_n (pc := 9) dM_clearProduct_9 rfl rfl ?_
    refine z_getR (pc := 10) zo_39 rfl zf_M_43_6 dM_clearProduct_10 ?_
    refine z_iload_n (pc := 13) dM_clearProduct_13 rfl rfl ?_
    refine z_iconst (pc := 14) dM_clearProduct_14 zi_0 ?_
    refine z_iastore (pc := 15) za_51 (by omega) dM_clearProduct_15 ?_
    refine z_iinc (L' := [(1, _), (0, _)]) (pc := 16) dM_clearProduct_16 rfl zi_1 (by decide) rfl ?_
    refine z_goto (pc := 19) (tgt := 2) dM_clearProduct_19 rfl ?_
    exact z_wd (z_map_set rfl) rfl ki
  · refine z_iload_n (pc := 2) dM_clearProduct_2 rfl rfl ?_
    refine z_sipush (pc := 3) dM_clearProduct_3 zs_256 ?_
    refine z_icmp_ge (pc := 6) (by omega) (by omega) (tgt := 22) dM_clearProduct_6 rfl (fun h => ?_) (fun h => by exfalso; omega)
    exact z_ret0 (pc := 22) dM_clearProduct_22 (hEx _ _ _ (⟨rfl, rfl, rfl⟩))
theorem z_addsh {A : z_A} {b P H : Nat} (hb : b < 128) (hP : zbr (A 51) 256 P) (hH : zbr (A 50) 128 H ∧ H < 2 ^ 128) : zbr (z_seg A 51 b 128 (fun q => A 51 q ^^^ A 50 (q - b)) 51) 256 (P ^^^ H * 2 ^ b) := by
  intro j hj
  rw [Nat.testBit_xor, Nat.testBit_mul_two_pow]
  by_cases h : b ≤ j ∧ j < b + 128
  · rw [z_seg_in h.1 h.2, hP j hj, hH.1 _ (by omega), z_tx, decide_eq_true h.1, Bool.true_and]
  · rw [z_seg_out (by omega), hP j hj]
    by_cases h2 : b ≤ j
    · rw [z_tb_lt hH.2 (by omega), Bool.and_false, Bool.xor_false]
    · rw [decide_eq_false h2, Bool.false_and, Bool.xor_false]
theorem m_addShifted {b P H : Nat} (hb : b < 128) (hP : zbr (A 51) 256 P) (hH : zbr (A 50) 128 H ∧ H < 2 ^ 128) : z_Met l g ad mM_addShifted (z_rm 0) [.ref (ad 39), .int (nI b)] A B (z_vd (fun A' B' => B = B' ∧ (∀ k, k ≠ 51 → A' k = A k) ∧ zbr (A' 51) 256 (P ^^^ H * 2 ^ b))) := by
  refine z_Met.of (L := [(0, _), (1, _)]) (by decide) (Nat.le_of_ble_eq_true rfl) z_fit_vd rfl ?_
  intro Ex hEx
  refine z_iconst (pc := 0) dM_addShifted_0 zi_0 ?_
  refine z_istore_n (L' := [(2, _), (0, _), (1, _)]) (pc := 1) dM_addShifted_1 rfl (by decide) rfl ?_
  refine z_wd (z_seg_0 A 51 b (fun q => A 51 q ^^^ A 50 (q - b))).symm rfl ?_
  refine z_for 128 (fun j => [(2, .int (nI j)), (0, .ref (ad 39)), (1, .int (nI b))]) (fun j => z_seg A 51 b j (fun q => A 51 q ^^^ A 50 (q - b))) (fun j => B) (fun j hj kj => ?_) ?_
  · refine z_iload_n (pc := 2) dM_addShifted_2 rfl rfl ?_
    refine z_sipush (pc := 3) dM_addShifted_3 zs_128 ?_
    refine z_icmp_ge (pc := 6) (by omega) (by omega) (tgt := 38) dM_addShifted_6 rfl (fun h => by exfalso; omega) (fun h => ?_)
    refine z_aload_n (pc := 9) dM_addShifted_9 rfl rfl ?_
    refine z_getR (pc := 10) zo_39 rfl zf_M_43_6 dM_addShifted_10 ?_
    refine z_iload_n (pc := 13) dM_addShifted_13 rfl rfl ?_
    refine z_iload_n (pc := 14) dM_addShifted_14 rfl rfl ?_
    refine z_iadd (pc := 15) dM_addShifted_15 ?_
    refine z_aload_n (pc := 16) dM_addShifted_16 rfl rfl ?_
    refine z_getR (pc := 17) zo_39 rfl zf_M_43_6 dM_addShifted_17 ?_
    refine z_iload_n (pc := 20) dM_addShifted_20 rfl rfl ?_
    refine z_iload_n (pc := 21) dM_addShifted_21 rfl rfl ?_
    refine z_iadd (pc := 22) dM_addShifted_22 ?_
    refine z_iaload (pc := 23) za_51 (by omega) dM_addShifted_23 ?_
    refine z_aload_n (pc := 24) dM_addShifted_24 rfl rfl ?_
    refine z_getR (pc := 25) zo_39 rfl zf_M_40_6 dM_addShifted_25 ?_
    refine z_iload_n (pc := 28) dM_addShifted_28 rfl rfl ?_
    refine z_iaload (pc := 29) za_50 (by omega) dM_addShifted_29 ?_
    refine z_ixor (pc := 30) dM_addShifted_30 ?_
    refine z_iastore (pc := 31) za_51 (by omega) dM_addShifted_31 ?_
    refine z_iinc (L' := [(2, _), (0, _), (1, _)]) (pc := 32) dM_addShifted_32 rfl zi_1 (by decide) rfl ?_
    refine z_goto (pc := 35) (tgt := 2) dM_addShifted_35 rfl ?_
    refine z_wd (A' := z_seg A 51 b (j + 1) (fun q => A 51 q ^^^ A 50 (q - b))) ?_ rfl kj
    rw [Nat.add_comm j b]
    refine z_seg_set ?_
    rw [z_seg_out (Or.inr (Nat.le_refl _)), z_seg_ne (by decide), Nat.add_sub_cancel_left]
  · refine z_iload_n (pc := 2) dM_addShifted_2 rfl rfl ?_
    refine z_sipush (pc := 3) dM_addShifted_3 zs_128 ?_
    refine z_icmp_ge (pc := 6) (by omega) (by omega) (tgt := 38) dM_addShifted_6 rfl (fun h => ?_) (fun h => by exfalso; omega)
    exact z_ret0 (pc := 38) dM_addShifted_38 (hEx _ _ _ (⟨rfl, rfl, fun k hk => z_seg_ne hk, z_addsh hb hP hH⟩))
theorem m_reduce {w P : Nat} (hw : w = 0 ∨ w = 1) (hP : zbr (A 51) 256 P) : z_Met l g ad mM_reduce (z_rm 0) [.ref (ad 39), .int (nI w)] A B (z_vd (fun A' B' => B = B' ∧ (∀ k, k ≠ 51 → A' k = A k) ∧ zbr (A' 51) 256 (zred (zvw w) 128 P))) := by
  refine z_Met.of (L := [(0, _), (1, _)]) (by decide) (Nat.le_of_ble_eq_true rfl) z_fit_vd rfl ?_
  intro Ex hEx
  refine z_sipush (pc := 0) dM_reduce_0 zs_255 ?_
  refine z_istore_n (L' := [(2, _), (0, _), (1, _)]) (pc := 3) dM_reduce_3 rfl (by decide) rfl ?_
  refine z_loop 128 (fun m L A' B' => L = [(2, .int (nI (255 - m))), (0, .ref (ad 39)), (1, .int (nI w))] ∧ B = B' ∧ (∀ k, k ≠ 51 → A' k = A k) ∧ zbr (A' 51) 256 (zrs (zvw w) P m)) ?_ ?_ _ _ _ ⟨rfl, rfl, fun _ _ => rfl, hP⟩
  · rintro m L A' B' hm ⟨rfl, rfl, hA, hb⟩ km
    refine z_iload_n (pc := 4) dM_reduce_4 rfl rfl ?_
    refine z_sipush (pc := 5) dM_reduce_5 zs_128 ?_
    refine z_icmp_lt (pc := 8) (by omega) (by omega) (tgt := 177) dM_reduce_8 rfl (fun h => by exfalso; omega) (fun h => ?_)
    refine z_aload_n (pc := 11) dM_reduce_11 rfl rfl ?_
    refine z_getR (pc := 12) zo_39 rfl zf_M_43_6 dM_reduce_12 ?_
    refine z_iload_n (pc := 15) dM_reduce_15 rfl rfl ?_
    refine z_iaload (pc := 16) za_51 (by omega) dM_reduce_16 ?_
    refine z_iconst (pc := 17) dM_reduce_17 zi_1 ?_
    refine z_icmp_ne (pc := 18) (by rw [hb _ (by omega)]; have := Bool.toNat_lt ((zrs (zvw w) P m).testBit (255 - m)); omega) (by omega) (tgt := 171) dM_reduce_18 rfl (fun h1 => ?_) (fun h1 => ?_)
    · have hbt : (zrs (zvw w) P m).testBit (255 - m) = false := by
        rw [hb _ (by omega), z_bt1] at h1
        exact Bool.eq_false_iff.mpr h1
      refine z_iinc (L' := [(2, _), (0, _), (1, _)]) (pc := 171) dM_reduce_171 rfl zi_m1 (by decide) rfl ?_
      refine z_goto (pc := 174) (tgt := 4) dM_reduce_174 rfl ?_
      rw [z_dec (by omega), show 255 - m - 1 = 255 - (m + 1) by omega]
      exact km _ _ _ ⟨rfl, rfl, hA, by rw [zrs, zst_skip hbt]; exact hb⟩
    · have hbt : (zrs (zvw w) P m).testBit (255 - m) = true := by
        rw [hb _ (by omega), z_bt1] at h1
        exact h1
      refine z_iload_n (pc := 21) dM_reduce_21 rfl rfl ?_
      refine z_sipush (pc := 22) dM_reduce_22 zs_128 ?_
      refine z_isub (pc := 25) dM_reduce_25 (by omega) ?_
      refine z_istore_n (L' := [(3, _), (2, _), (0, _), (1, _)]) (pc := 26) dM_reduce_26 rfl (by decide) rfl ?_
      refine z_aload_n (pc := 27) dM_reduce_27 rfl rfl ?_
      refine z_getR (pc := 28) zo_39 rfl zf_M_43_6 dM_reduce_28 ?_
      refine z_iload_n (pc := 31) dM_reduce_31 rfl rfl ?_
      refine z_iconst (pc := 32) dM_reduce_32 zi_0 ?_
      refine z_iastore (pc := 33) za_51 (by omega) dM_reduce_33 ?_
      refine z_aload_n (pc := 34) dM_reduce_34 rfl rfl ?_
      refine z_getR (pc := 35) zo_39 rfl zf_M_43_6 dM_reduce_35 ?_
      refine z_iload_n (pc := 38) dM_reduce_38 rfl rfl ?_
      refine z_aload_n (pc := 39) dM_reduce_39 rfl rfl ?_
      refine z_getR (pc := 40) zo_39 rfl zf_M_43_6 dM_reduce_40 ?_
      refine z_iload_n (pc := 43) dM_reduce_43 rfl rfl ?_
      refine z_iaload (pc := 44) za_51 (by omega) dM_reduce_44 ?_
      refine z_iconst (pc := 45) dM_reduce_45 zi_1 ?_
      refine z_ixor (pc := 46) dM_reduce_46 ?_
      refine z_iastore (pc := 47) za_51 (by omega) dM_reduce_47 ?_
      refine z_iload_n (pc := 48) dM_reduce_48 rfl rfl ?_
      refine z_if_ne (pc := 49) (by omega) (tgt := 111) dM_reduce_49 rfl (fun h2 => ?_) (fun h2 => ?_)
      · refine z_aload_n (pc := 111) dM_reduce_111 rfl rfl ?_
        refine z_getR (pc := 112) zo_39 rfl zf_M_43_6 dM_reduce_112 ?_
        refine z_iload_n (pc := 115) dM_reduce_115 rfl rfl ?_
        refine z_bipush (pc := 116) dM_reduce_116 zb_127 ?_
        refine z_iadd (pc := 118) dM_reduce_118 ?_
        refine z_aload_n (pc := 119) dM_reduce_119 rfl rfl ?_
        refine z_getR (pc := 120) zo_39 rfl zf_M_43_6 dM_reduce_120 ?_
        refine z_iload_n (pc := 123) dM_reduce_123 rfl rfl ?_
        refine z_bipush (pc := 124) dM_reduce_124 zb_127 ?_
        refine z_iadd (pc := 126) dM_reduce_126 ?_
        refine z_iaload (pc := 127) za_51 (by omega) dM_reduce_127 ?_
        refine z_iconst (pc := 128) dM_reduce_128 zi_1 ?_
        refine z_ixor (pc := 129) dM_reduce_129 ?_
        refine z_iastore (pc := 130) za_51 (by omega) dM_reduce_130 ?_
        refine z_aload_n (pc := 131) dM_reduce_131 rfl rfl ?_
        refine z_getR (pc := 132) zo_39 rfl zf_M_43_6 dM_reduce_132 ?_
        refine z_iload_n (pc := 135) dM_reduce_135 rfl rfl ?_
        refine z_bipush (pc := 136) dM_reduce_136 zb_126 ?_
        refine z_iadd (pc := 138) dM_reduce_138 ?_
        refine z_aload_n (pc := 139) dM_reduce_139 rfl rfl ?_
        refine z_getR (pc := 140) zo_39 rfl zf_M_43_6 dM_reduce_140 ?_
        refine z_iload_n (pc := 143) dM_reduce_143 rfl rfl ?_
        refine z_bipush (pc := 144) dM_reduce_144 zb_126 ?_
        refine z_iadd (pc := 146) dM_reduce_146 ?_
        refine z_iaload (pc := 147) za_51 (by omega) dM_reduce_147 ?_
        refine z_iconst (pc := 148) dM_reduce_148 zi_1 ?_
        refine z_ixor (pc := 149) dM_reduce_149 ?_
        refine z_iastore (pc := 150) za_51 (by omega) dM_reduce_150 ?_
        refine z_aload_n (pc := 151) dM_reduce_151 rfl rfl ?_
        refine z_getR (pc := 152) zo_39 rfl zf_M_43_6 dM_reduce_152 ?_
        refine z_iload_n (pc := 155) dM_reduce_155 rfl rfl ?_
        refine z_bipush (pc := 156) dM_reduce_156 zb_121 ?_
        refine z_iadd (pc := 158) dM_reduce_158 ?_
        refine z_aload_n (pc := 159) dM_reduce_159 rfl rfl ?_
        refine z_getR (pc := 160) zo_39 rfl zf_M_43_6 dM_reduce_160 ?_
        refine z_iload_n (pc := 163) dM_reduce_163 rfl rfl ?_
        refine z_bipush (pc := 164) dM_reduce_164 zb_121 ?_
        refine z_iadd (pc := 166) dM_reduce_166 ?_
        refine z_iaload (pc := 167) za_51 (by omega) dM_reduce_167 ?_
        refine z_iconst (pc := 168) dM_reduce_168 zi_1 ?_
        refine z_ixor (pc := 169) dM_reduce_169 ?_
        refine z_iastore (pc := 170) za_51 (by omega) dM_reduce_170 ?_
        refine z_iinc (L' := [(2, _), (3, _), (0, _), (1, _)]) (pc := 171) dM_reduce_171 rfl zi_m1 (by decide) rfl ?_
        refine z_goto (pc := 174) (tgt := 4) dM_reduce_174 rfl ?_
        refine z_ls (L' := [(2, _), (0, _), (1, _)]) [0, 2, 3] rfl ?_
        rw [z_dec (by omega), show 255 - m - 1 = 255 - (m + 1) by omega]
        refine km _ _ _ ⟨rfl, rfl, fun k hk => by rw [z_set_ne hk, z_set_ne hk, z_set_ne hk, z_set_ne hk, z_set_ne hk, hA k hk], ?_⟩
        show zbr _ 256 (zst (zvw w) (255 - m) _)
        rw [show zvw w = zovI from if_neg h2]
        rw [show zvw w = zovI from if_neg h2] at hb hbt
        refine zst_five (a := 121) (b := 126) (c := 127) (by omega) (by omega) zbI hbt (by decide) (by decide) (by decide) (by decide) (A' 51) hb _ (fun j => ?_)
        rw [z_flip, z_flip, z_flip, z_flip]
        congr 4
      · refine z_aload_n (pc := 52) dM_reduce_52 rfl rfl ?_
        refine z_getR (pc := 53) zo_39 rfl zf_M_43_6 dM_reduce_53 ?_
        refine z_iload_n (pc := 56) dM_reduce_56 rfl rfl ?_
        refine z_bipush (pc := 57) dM_reduce_57 zb_7 ?_
        refine z_iadd (pc := 59) dM_reduce_59 ?_
        refine z_aload_n (pc := 60) dM_reduce_60 rfl rfl ?_
        refine z_getR (pc := 61) zo_39 rfl zf_M_43_6 dM_reduce_61 ?_
        refine z_iload_n (pc := 64) dM_reduce_64 rfl rfl ?_
        refine z_bipush (pc := 65) dM_reduce_65 zb_7 ?_
        refine z_iadd (pc := 67) dM_reduce_67 ?_
        refine z_iaload (pc := 68) za_51 (by omega) dM_reduce_68 ?_
        refine z_iconst (pc := 69) dM_reduce_69 zi_1 ?_
        refine z_ixor (pc := 70) dM_reduce_70 ?_
        refine z_iastore (pc := 71) za_51 (by omega) dM_reduce_71 ?_
        refine z_aload_n (pc := 72) dM_reduce_72 rfl rfl ?_
        refine z_getR (pc := 73) zo_39 rfl zf_M_43_6 dM_reduce_73 ?_
        refine z_iload_n (pc := 76) dM_reduce_76 rfl rfl ?_
        refine z_iconst (pc := 77) dM_reduce_77 zi_2 ?_
        refine z_iadd (pc := 78) dM_reduce_78 ?_
        refine z_aload_n (pc := 79) dM_reduce_79 rfl rfl ?_
        refine z_getR (pc := 80) zo_39 rfl zf_M_43_6 dM_reduce_80 ?_
        refine z_iload_n (pc := 83) dM_reduce_83 rfl rfl ?_
        refine z_iconst (pc := 84) dM_reduce_84 zi_2 ?_
        refine z_iadd (pc := 85) dM_reduce_85 ?_
        refine z_iaload (pc := 86) za_51 (by omega) dM_reduce_86 ?_
        refine z_iconst (pc := 87) dM_reduce_87 zi_1 ?_
        refine z_ixor (pc := 88) dM_reduce_88 ?_
        refine z_iastore (pc := 89) za_51 (by omega) dM_reduce_89 ?_
        refine z_aload_n (pc := 90) dM_reduce_90 rfl rfl ?_
        refine z_getR (pc := 91) zo_39 rfl zf_M_43_6 dM_reduce_91 ?_
        refine z_iload_n (pc := 94) dM_reduce_94 rfl rfl ?_
        refine z_iconst (pc := 95) dM_reduce_95 zi_1 ?_
        refine z_iadd (pc := 96) dM_reduce_96 ?_
        refine z_aload_n (pc := 97) dM_reduce_97 rfl rfl ?_
        refine z_getR (pc := 98) zo_39 rfl zf_M_43_6 dM_reduce_98 ?_
        refine z_iload_n (pc := 101) dM_reduce_101 rfl rfl ?_
        refine z_iconst (pc := 102) dM_reduce_102 zi_1 ?_
        refine z_iadd (pc := 103) dM_reduce_103 ?_
        refine z_iaload (pc := 104) za_51 (by omega) dM_reduce_104 ?_
        refine z_iconst (pc := 105) dM_reduce_105 zi_1 ?_
        refine z_ixor (pc := 106) dM_reduce_106 ?_
        refine z_iastore (pc := 107) za_51 (by omega) dM_reduce_107 ?_
        refine z_goto (pc := 108) (tgt := 171) dM_reduce_108 rfl ?_
        refine z_iinc (L' := [(2, _), (3, _), (0, _), (1, _)]) (pc := 171) dM_reduce_171 rfl zi_m1 (by decide) rfl ?_
        refine z_goto (pc := 174) (tgt := 4) dM_reduce_174 rfl ?_
        refine z_ls (L' := [(2, _), (0, _), (1, _)]) [0, 2, 3] rfl ?_
        rw [z_dec (by omega), show 255 - m - 1 = 255 - (m + 1) by omega]
        refine km _ _ _ ⟨rfl, rfl, fun k hk => by rw [z_set_ne hk, z_set_ne hk, z_set_ne hk, z_set_ne hk, z_set_ne hk, hA k hk], ?_⟩
        show zbr _ 256 (zst (zvw w) (255 - m) _)
        rw [show zvw w = zovO from if_pos h2]
        rw [show zvw w = zovO from if_pos h2] at hb hbt
        refine zst_five (a := 1) (b := 2) (c := 7) (by omega) (by omega) zbO hbt (by decide) (by decide) (by decide) (by decide) (A' 51) hb _ (fun j => ?_)
        rw [z_flip, z_flip, z_flip, z_flip]
        congr 4
  · rintro L A' B' ⟨rfl, rfl, hA, hb⟩
    refine z_iload_n (pc := 4) dM_reduce_4 rfl rfl ?_
    refine z_sipush (pc := 5) dM_reduce_5 zs_128 ?_
    refine z_icmp_lt (pc := 8) (by omega) (by omega) (tgt := 177) dM_reduce_8 rfl (fun h => ?_) (fun h => by exfalso; omega)
    exact z_ret0 (pc := 177) dM_reduce_177 (hEx _ _ _ (⟨rfl, rfl, hA, by rw [zrs_128]; exact hb⟩))
theorem m_multiply {w S H : Nat} (hw : w = 0 ∨ w = 1) (hS : zbr (A 49) 128 S) (hH : zbr (A 50) 128 H ∧ H < 2 ^ 128) : z_Met l g ad mM_multiply (z_rm 1) [.ref (ad 39), .int (nI w)] A B (z_vd (fun A' B' => B = B' ∧ (∀ k, k ≠ 49 → k ≠ 51 → A' k = A k) ∧ zbr (A' 49) 128 (zmul (zvw w) S H))) := by
  refine z_Met.of (L := [(0, _), (1, _)]) (by decide) (Nat.le_of_ble_eq_true rfl) z_fit_vd rfl ?_
  intro Ex hEx
  refine z_aload_n (pc := 0) dM_multiply_0 rfl rfl ?_
  refine z_callV (pc := 1) (m_clearProduct) (by decide) zo_39 rfl zc_M_77 rfl rfl (Nat.le_of_ble_eq_true rfl) dM_multiply_1 (fun r A' B' hE => ?_)
  obtain ⟨rfl, rfl, rfl⟩ := hE
  refine z_r0 ?_
  refine z_iconst (pc := 4) dM_multiply_4 zi_0 ?_
  refine z_istore_n (L' := [(2, _), (0, _), (1, _)]) (pc := 5) dM_multiply_5 rfl (by decide) rfl ?_
  refine z_loop 128 (fun i L A' B' => L = [(2, .int (nI i)), (0, .ref (ad 39)), (1, .int (nI w))] ∧ B = B' ∧ (∀ k, k ≠ 51 → A' k = A k) ∧ zbr (A' 51) 256 (zmP S H i)) ?_ ?_ _ _ _ ⟨rfl, rfl, fun k hk => z_map_ne hk, fun i hi => by rw [z_map_lt hi, zmP, Nat.zero_testBit]; rfl⟩
  · rintro i L A1 B1 hi ⟨rfl, rfl, hA, hb⟩ ki
    refine z_iload_n (pc := 6) dM_multiply_6 rfl rfl ?_
    refine z_sipush (pc := 7) dM_multiply_7 zs_128 ?_
    refine z_icmp_ge (pc := 10) (by omega) (by omega) (tgt := 67) dM_multiply_10 rfl (fun h => by exfalso; omega) (fun h => ?_)
    refine z_iconst (pc := 13) dM_multiply_13 zi_0 ?_
    refine z_istore_n (L' := [(3, _), (2, _), (0, _), (1, _)]) (pc := 14) dM_multiply_14 rfl (by decide) rfl ?_
    cases hsi : S.testBit i with
    | true =>
      have hs1 : A1 49 i = 1 := by rw [hA 49 (by decide), hS i hi, hsi]; rfl
      refine z_wd (z_seg_0 A1 51 i (fun q => A1 51 q ^^^ A1 50 (q - i))).symm rfl ?_
      refine z_for 128 (fun j => [(3, .int (nI j)), (2, .int (nI i)), (0, .ref (ad 39)), (1, .int (nI w))]) (fun j => z_seg A1 51 i j (fun q => A1 51 q ^^^ A1 50 (q - i))) (fun j => B) (fun j hj kj => ?_) ?_
      · refine z_iload_n (pc := 15) dM_multiply_15 rfl rfl ?_
        refine z_sipush (pc := 16) dM_multiply_16 zs_128 ?_
        refine z_icmp_ge (pc := 19) (by omega) (by omega) (tgt := 61) dM_multiply_19 rfl (fun h => by exfalso; omega) (fun h => ?_)
        refine z_aload_n (pc := 22) dM_multiply_22 rfl rfl ?_
        refine z_getR (pc := 23) zo_39 rfl zf_M_37_6 dM_multiply_23 ?_
        refine z_iload_n (pc := 26) dM_multiply_26 rfl rfl ?_
        refine z_iaload (pc := 27) za_49 (by omega) dM_multiply_27 ?_
        refine z_iconst (pc := 28) dM_multiply_28 zi_1 ?_
        refine z_icmp_ne (pc := 29) (by rw [z_seg_ne (by decide), hs1]; decide) (by omega) (tgt := 61) dM_multiply_29 rfl (fun h => by rw [z_seg_ne (by decide), hs1] at h; exact absurd rfl h) (fun h => ?_)
        refine z_aload_n (pc := 32) dM_multiply_32 rfl rfl ?_
        refine z_getR (pc := 33) zo_39 rfl zf_M_43_6 dM_multiply_33 ?_
        refine z_iload_n (pc := 36) dM_multiply_36 rfl rfl ?_
        refine z_iload_n (pc := 37) dM_multiply_37 rfl rfl ?_
        refine z_iadd (pc := 38) dM_multiply_38 ?_
        refine z_aload_n (pc := 39) dM_multiply_39 rfl rfl ?_
        refine z_getR (pc := 40) zo_39 rfl zf_M_43_6 dM_multiply_40 ?_
        refine z_iload_n (pc := 43) dM_multiply_43 rfl rfl ?_
        refine z_iload_n (pc := 44) dM_multiply_44 rfl rfl ?_
        refine z_iadd (pc := 45) dM_multiply_45 ?_
        refine z_iaload (pc := 46) za_51 (by omega) dM_multiply_46 ?_
        refine z_aload_n (pc := 47) dM_multiply_47 rfl rfl ?_
        refine z_getR (pc := 48) zo_39 rfl zf_M_40_6 dM_multiply_48 ?_
        refine z_iload_n (pc := 51) dM_multiply_51 rfl rfl ?_
        refine z_iaload (pc := 52) za_50 (by omega) dM_multiply_52 ?_
        refine z_ixor (pc := 53) dM_multiply_53 ?_
        refine z_iastore (pc := 54) za_51 (by omega) dM_multiply_54 ?_
        refine z_iinc (L' := [(3, _), (2, _), (0, _), (1, _)]) (pc := 55) dM_multiply_55 rfl zi_1 (by decide) rfl ?_
        refine z_goto (pc := 58) (tgt := 15) dM_multiply_58 rfl ?_
        refine z_wd (z_seg_set ?_) rfl kj
        rw [z_seg_out (Or.inr (Nat.le_refl _)), z_seg_ne (by decide), Nat.add_sub_cancel_left]
      · refine z_iload_n (pc := 15) dM_multiply_15 rfl rfl ?_
        refine z_sipush (pc := 16) dM_multiply_16 zs_128 ?_
        refine z_icmp_ge (pc := 19) (by omega) (by omega) (tgt := 61) dM_multiply_19 rfl (fun h => ?_) (fun h => by exfalso; omega)
        refine z_iinc (L' := [(2, _), (3, _), (0, _), (1, _)]) (pc := 61) dM_multiply_61 rfl zi_1 (by decide) rfl ?_
        refine z_goto (pc := 64) (tgt := 6) dM_multiply_64 rfl ?_
        refine z_ls (L' := [(2, _), (0, _), (1, _)]) [0, 2, 3] rfl ?_
        exact ki _ _ _ ⟨rfl, rfl, fun k hk => by rw [z_seg_ne hk, hA k hk], by rw [zmP, hsi, Bool.toNat_true, Nat.one_mul]; exact z_addsh hi hb ⟨fun q hq => by rw [hA 50 (by decide)]; exact hH.1 q hq, hH.2⟩⟩
    | false =>
      have hs1 : A1 49 i = 0 := by rw [hA 49 (by decide), hS i hi, hsi]; rfl
      refine z_iload_n (pc := 15) dM_multiply_15 rfl rfl ?_
      refine z_sipush (pc := 16) dM_multiply_16 zs_128 ?_
      refine z_icmp_ge (pc := 19) (by omega) (by omega) (tgt := 61) dM_multiply_19 rfl (fun h => by exfalso; omega) (fun h => ?_)
      refine z_aload_n (pc := 22) dM_multiply_22 rfl rfl ?_
      refine z_getR (pc := 23) zo_39 rfl zf_M_37_6 dM_multiply_23 ?_
      refine z_iload_n (pc := 26) dM_multiply_26 rfl rfl ?_
      refine z_iaload (pc := 27) za_49 (by omega) dM_multiply_27 ?_
      refine z_iconst (pc := 28) dM_multiply_28 zi_1 ?_
      refine z_icmp_ne (pc := 29) (by rw [hs1]; decide) (by omega) (tgt := 61) dM_multiply_29 rfl (fun h => ?_) (fun h => by rw [hs1] at h; exact absurd h (by decide))
      refine z_iinc (L' := [(2, _), (3, _), (0, _), (1, _)]) (pc := 61) dM_multiply_61 rfl zi_1 (by decide) rfl ?_
      refine z_goto (pc := 64) (tgt := 6) dM_multiply_64 rfl ?_
      refine z_ls (L' := [(2, _), (0, _), (1, _)]) [0, 2, 3] rfl ?_
      exact ki _ _ _ ⟨rfl, rfl, hA, by rw [zmP, hsi, Bool.toNat_false, Nat.zero_mul, Nat.xor_zero]; exact hb⟩
  · rintro L A1 B1 ⟨rfl, rfl, hA, hb⟩
    refine z_iload_n (pc := 6) dM_multiply_6 rfl rfl ?_
    refine z_sipush (pc := 7) dM_multiply_7 zs_128 ?_
    refine z_icmp_ge (pc := 10) (by omega) (by omega) (tgt := 67) dM_multiply_10 rfl (fun h => ?_) (fun h => by exfalso; omega)
    refine z_aload_n (pc := 67) dM_multiply_67 rfl rfl ?_
    refine z_iload_n (pc := 68) dM_multiply_68 rfl rfl ?_
    refine z_callV (pc := 69) (m_reduce hw hb) (by decide) zo_39 rfl zc_M_80 rfl rfl (Nat.le_of_ble_eq_true rfl) dM_multiply_69 (fun r A' B' hE => ?_)
    obtain ⟨rfl, rfl, hA2, hb2⟩ := hE
    refine z_r0 ?_
    refine z_iconst (pc := 72) dM_multiply_72 zi_0 ?_
    refine z_istore_n (L' := [(2, _), (0, _), (1, _)]) (pc := 73) dM_multiply_73 rfl (by decide) rfl ?_
    refine z_wd (z_map_0 A' 49 (A' 51)).symm rfl ?_
    refine z_for 128 (fun i => [(2, .int (nI i)), (0, .ref (ad 39)), (1, .int (nI w))]) (fun i => z_map A' 49 i (A' 51)) (fun i => B) (fun i hi ki => ?_) ?_
    · refine z_iload_n (pc := 74) dM_multiply_74 rfl rfl ?_
      refine z_sipush (pc := 75) dM_multiply_75 zs_128 ?_
      refine z_icmp_ge (pc := 78) (by omega) (by omega) (tgt := 99) dM_multiply_78 rfl (fun h => by exfalso; omega) (fun h => ?_)
      refine z_aload_n (pc := 81) dM_multiply_81 rfl rfl ?_
      refine z_getR (pc := 82) zo_39 rfl zf_M_37_6 dM_multiply_82 ?_
      refine z_iload_n (pc := 85) dM_multiply_85 rfl rfl ?_
      refine z_aload_n (pc := 86) dM_multiply_86 rfl rfl ?_
      refine z_getR (pc := 87) zo_39 rfl zf_M_43_6 dM_multiply_87 ?_
      refine z_iload_n (pc := 90) dM_multiply_90 rfl rfl ?_
      refine z_iaload (pc := 91) za_51 (by omega) dM_multiply_91 ?_
      refine z_iastore (pc := 92) za_49 (by omega) dM_multiply_92 ?_
      refine z_iinc (L' := [(2, _), (0, _), (1, _)]) (pc := 93) dM_multiply_93 rfl zi_1 (by decide) rfl ?_
      refine z_goto (pc := 96) (tgt := 74) dM_multiply_96 rfl ?_
      refine z_wd (z_map_set ?_) rfl ki
      rw [z_map_ne (by decide)]
    · refine z_iload_n (pc := 74) dM_multiply_74 rfl rfl ?_
      refine z_sipush (pc := 75) dM_multiply_75 zs_128 ?_
      refine z_icmp_ge (pc := 78) (by omega) (by omega) (tgt := 99) dM_multiply_78 rfl (fun h => ?_) (fun h => by exfalso; omega)
      exact z_ret0 (pc := 99) dM_multiply_99 (hEx _ _ _ (⟨rfl, rfl, fun k h49 h51 => by rw [z_map_ne h49, hA2 k h51, hA k h51], fun j hj => by rw [z_map_lt hj, hb2 j (by omega), zred_mP S (zvw_lt w) hH.2 128 (Nat.le_refl _)]; rfl⟩))
theorem m_feed {w S H : Nat} (hw : w = 0 ∨ w = 1) (hS : zbr (A 49) 128 S) (hH : zbr (A 50) 128 H ∧ H < 2 ^ 128) (hX : ∀ j, j < 16 → A 48 j < 256) : z_Met l g ad mM_feed (z_rm 2) [.ref (ad 39), .int (nI w)] A B (z_vd (fun A' B' => B = B' ∧ (∀ k, k ≠ 49 → k ≠ 51 → A' k = A k) ∧ zbr (A' 49) 128 (zmul (zvw w) (S ^^^ zblk (zmw w) (A 48) 0 16) H))) := by
  refine z_Met.of (L := [(0, _), (1, _)]) (by decide) (Nat.le_of_ble_eq_true rfl) z_fit_vd rfl ?_
  intro Ex hEx
  refine z_iconst (pc := 0) dM_feed_0 zi_0 ?_
  refine z_istore_n (L' := [(2, _), (0, _), (1, _)]) (pc := 1) dM_feed_1 rfl (by decide) rfl ?_
  refine z_wd (z_map_0 A 49 (fun i => A 49 i ^^^ ((A 48 (i / 8)).testBit (i % 8 ^^^ zmw w)).toNat)).symm rfl ?_
  refine z_for 128 (fun i => [(2, .int (nI i)), (0, .ref (ad 39)), (1, .int (nI w))]) (fun i => z_map A 49 i (fun i => A 49 i ^^^ ((A 48 (i / 8)).testBit (i % 8 ^^^ zmw w)).toNat)) (fun i => B) (fun i hi ki => ?_) ?_
  · refine z_iload_n (pc := 2) dM_feed_2 rfl rfl ?_
    refine z_sipush (pc := 3) dM_feed_3 zs_128 ?_
    refine z_icmp_ge (pc := 6) (by omega) (by omega) (tgt := 45) dM_feed_6 rfl (fun h => by exfalso; omega) (fun h => ?_)
    refine z_aload_n (pc := 9) dM_feed_9 rfl rfl ?_
    refine z_getR (pc := 10) zo_39 rfl zf_M_37_6 dM_feed_10 ?_
    refine z_iload_n (pc := 13) dM_feed_13 rfl rfl ?_
    refine z_aload_n (pc := 14) dM_feed_14 rfl rfl ?_
    refine z_getR (pc := 15) zo_39 rfl zf_M_37_6 dM_feed_15 ?_
    refine z_iload_n (pc := 18) dM_feed_18 rfl rfl ?_
    refine z_iaload (pc := 19) za_49 (by omega) dM_feed_19 ?_
    refine z_iload_n (pc := 20) dM_feed_20 rfl rfl ?_
    refine z_aload_n (pc := 21) dM_feed_21 rfl rfl ?_
    refine z_getR (pc := 22) zo_39 rfl zf_M_34_6 dM_feed_22 ?_
    refine z_iload_n (pc := 25) dM_feed_25 rfl rfl ?_
    refine z_bipush (pc := 26) dM_feed_26 zb_8 ?_
    refine z_idiv (pc := 28) dM_feed_28 (by omega) (by omega) (by omega) ?_
    refine z_iaload (pc := 29) za_48 (by omega) dM_feed_29 ?_
    refine z_iload_n (pc := 30) dM_feed_30 rfl rfl ?_
    refine z_bipush (pc := 31) dM_feed_31 zb_8 ?_
    refine z_irem (pc := 33) dM_feed_33 (by omega) (by omega) (by omega) ?_
    refine z_callS (pc := 34) (m_bit hw (by rw [z_map_ne (by decide)]; exact hX _ (by omega)) (Nat.mod_lt _ (by decide))) (by decide) zc_M_83 rfl rfl (Nat.le_of_ble_eq_true rfl) dM_feed_34 (fun r A' B' hE => ?_)
    obtain ⟨rfl, rfl, rfl⟩ := hE
    refine z_r1 ?_
    refine z_ixor (pc := 37) dM_feed_37 ?_
    refine z_iastore (pc := 38) za_49 (by omega) dM_feed_38 ?_
    refine z_iinc (L' := [(2, _), (0, _), (1, _)]) (pc := 39) dM_feed_39 rfl zi_1 (by decide) rfl ?_
    refine z_goto (pc := 42) (tgt := 2) dM_feed_42 rfl ?_
    refine z_wd (z_map_set ?_) rfl ki
    rw [z_map_ge (Nat.le_refl _), z_map_ne (by decide)]
  · refine z_iload_n (pc := 2) dM_feed_2 rfl rfl ?_
    refine z_sipush (pc := 3) dM_feed_3 zs_128 ?_
    refine z_icmp_ge (pc := 6) (by omega) (by omega) (tgt := 45) dM_feed_6 rfl (fun h => ?_) (fun h => by exfalso; omega)
    refine z_aload_n (pc := 45) dM_feed_45 rfl rfl ?_
    refine z_iload_n (pc := 46) dM_feed_46 rfl rfl ?_
    have hS2 : zbr (z_map A 49 128 (fun i => A 49 i ^^^ ((A 48 (i / 8)).testBit (i % 8 ^^^ zmw w)).toNat) 49) 128 (S ^^^ zblk (zmw w) (A 48) 0 16) := by
      intro i hi
      rw [z_map_lt hi, hS i hi, z_tx, Nat.testBit_xor, zblk, zbits_tb, zp, Nat.zero_add, decide_eq_true hi, decide_eq_true (show i / 8 < 16 by omega), Bool.true_and, Bool.true_and]
    refine z_callV (pc := 47) (m_multiply hw hS2 ⟨fun q hq => by rw [z_map_ne (by decide)]; exact hH.1 q hq, hH.2⟩) (by decide) zo_39 rfl zc_M_90 rfl rfl (Nat.le_of_ble_eq_true rfl) dM_feed_47 (fun r A' B' hE => ?_)
    obtain ⟨rfl, rfl, hA, hb⟩ := hE
    refine z_r0 ?_
    exact z_ret0 (pc := 50) dM_feed_50 (hEx _ _ _ (⟨rfl, rfl, fun k h49 h51 => by rw [hA k h49 h51, z_map_ne h49], hb⟩))
theorem m_feedRow {w S H fr n : Nat} (hw : w = 0 ∨ w = 1) (hS : zbr (A 49) 128 S) (hH : zbr (A 50) 128 H ∧ H < 2 ^ 128) (hn : fr + n ≤ 320) (hby : ∀ j, j < n → A 40 (fr + j) < 256) : z_Met l g ad mM_feedRow (z_rm 3) [.ref (ad 39), .int (nI w), .int (nI fr), .int (nI n)] A B (z_vd (fun A' B' => B = B' ∧ (∀ k, k ≠ 48 → k ≠ 49 → k ≠ 51 → A' k = A k) ∧ zbr (A' 49) 128 (zfr (zmw w) (zvw w) H (fun j => A 40 (fr + j)) n S ((n + 15) / 16)))) := by
  refine z_Met.of (L := [(0, _), (1, _), (2, _), (3, _)]) (by decide) (Nat.le_of_ble_eq_true rfl) z_fit_vd rfl ?_
  intro Ex hEx
  refine z_iconst (pc := 0) dM_feedRow_0 zi_0 ?_
  refine z_istore (L' := [(4, _), (0, _), (1, _), (2, _), (3, _)]) (pc := 1) dM_feedRow_1 (by decide) rfl ?_
  refine z_loop ((n + 15) / 16) (fun q L A' B' => L = [(4, .int (nI (16 * q))), (0, .ref (ad 39)), (1, .int (nI w)), (2, .int (nI fr)), (3, .int (nI n))] ∧ B = B' ∧ (∀ k, k ≠ 48 → k ≠ 49 → k ≠ 51 → A' k = A k) ∧ zbr (A' 49) 128 (zfr (zmw w) (zvw w) H (fun j => A 40 (fr + j)) n S q)) ?_ ?_ _ _ _ ⟨rfl, rfl, fun _ _ _ _ => rfl, hS⟩
  · rintro q L A1 B1 hq ⟨rfl, rfl, hA, hb⟩ kq
    refine z_iload (pc := 3) dM_feedRow_3 rfl ?_
    refine z_iload_n (pc := 5) dM_feedRow_5 rfl rfl ?_
    refine z_icmp_ge (pc := 6) (by omega) (by omega) (tgt := 68) dM_feedRow_6 rfl (fun h => by exfalso; omega) (fun h => ?_)
    refine z_iconst (pc := 9) dM_feedRow_9 zi_0 ?_
    refine z_istore (L' := [(5, _), (4, _), (0, _), (1, _), (2, _), (3, _)]) (pc := 10) dM_feedRow_10 (by decide) rfl ?_
    refine z_wd (z_map_0 A1 48 (fun k => if 16 * q + k < n then A 40 (fr + 16 * q + k) else 0)).symm rfl ?_
    refine z_for 16 (fun k => [(5, .int (nI k)), (4, .int (nI (16 * q))), (0, .ref (ad 39)), (1, .int (nI w)), (2, .int (nI fr)), (3, .int (nI n))]) (fun k => z_map A1 48 k (fun k => if 16 * q + k < n then A 40 (fr + 16 * q + k) else 0)) (fun k => B) (fun k hk kk => ?_) ?_
    · refine z_iload (pc := 12) dM_feedRow_12 rfl ?_
      refine z_bipush (pc := 14) dM_feedRow_14 zb_16 ?_
      refine z_icmp_ge (pc := 16) (by omega) (by omega) (tgt := 57) dM_feedRow_16 rfl (fun h => by exfalso; omega) (fun h => ?_)
      refine z_aload_n (pc := 19) dM_feedRow_19 rfl rfl ?_
      refine z_getR (pc := 20) zo_39 rfl zf_M_34_6 dM_feedRow_20 ?_
      refine z_iload (pc := 23) dM_feedRow_23 rfl ?_
      refine z_iload (pc := 25) dM_feedRow_25 rfl ?_
      refine z_iload (pc := 27) dM_feedRow_27 rfl ?_
      refine z_iadd (pc := 29) dM_feedRow_29 ?_
      refine z_iload_n (pc := 30) dM_feedRow_30 rfl rfl ?_
      refine z_icmp_ge (pc := 31) (by omega) (by omega) (tgt := 49) dM_feedRow_31 rfl (fun h1 => ?_) (fun h1 => ?_)
      · refine z_iconst (pc := 49) dM_feedRow_49 zi_0 ?_
        refine z_iastore (pc := 50) za_48 (by omega) dM_feedRow_50 ?_
        refine z_iinc (L' := [(5, _), (4, _), (0, _), (1, _), (2, _), (3, _)]) (pc := 51) dM_feedRow_51 rfl zi_1 (by decide) rfl ?_
        refine z_goto (pc := 54) (tgt := 12) dM_feedRow_54 rfl ?_
        refine z_wd (z_map_set ?_) rfl kk
        first | rw [if_pos (by omega), z_map_ne (by decide), hA 40 (by decide) (by decide) (by decide)] | rw [if_neg (by omega)]
      · refine z_aload_n (pc := 34) dM_feedRow_34 rfl rfl ?_
        refine z_getR (pc := 35) zo_39 rfl zf_M_7_6 dM_feedRow_35 ?_
        refine z_iload_n (pc := 38) dM_feedRow_38 rfl rfl ?_
        refine z_iload (pc := 39) dM_feedRow_39 rfl ?_
        refine z_iadd (pc := 41) dM_feedRow_41 ?_
        refine z_iload (pc := 42) dM_feedRow_42 rfl ?_
        refine z_iadd (pc := 44) dM_feedRow_44 ?_
        refine z_iaload (pc := 45) za_40 (by omega) dM_feedRow_45 ?_
        refine z_goto (pc := 46) (tgt := 50) dM_feedRow_46 rfl ?_
        refine z_iastore (pc := 50) za_48 (by omega) dM_feedRow_50 ?_
        refine z_iinc (L' := [(5, _), (4, _), (0, _), (1, _), (2, _), (3, _)]) (pc := 51) dM_feedRow_51 rfl zi_1 (by decide) rfl ?_
        refine z_goto (pc := 54) (tgt := 12) dM_feedRow_54 rfl ?_
        refine z_wd (z_map_set ?_) rfl kk
        first | rw [if_pos (by omega), z_map_ne (by decide), hA 40 (by decide) (by decide) (by decide)] | rw [if_neg (by omega)]
    · refine z_iload (pc := 12) dM_feedRow_12 rfl ?_
      refine z_bipush (pc := 14) dM_feedRow_14 zb_16 ?_
      refine z_icmp_ge (pc := 16) (by omega) (by omega) (tgt := 57) dM_feedRow_16 rfl (fun h => ?_) (fun h => by exfalso; omega)
      refine z_aload_n (pc := 57) dM_feedRow_57 rfl rfl ?_
      refine z_iload_n (pc := 58) dM_feedRow_58 rfl rfl ?_
      have hX : ∀ j, j < 16 → z_map A1 48 16 (fun k => if 16 * q + k < n then A 40 (fr + 16 * q + k) else 0) 48 j < 256 := by
        intro j hj
        rw [z_map_lt hj]
        by_cases h : 16 * q + j < n
        · rw [if_pos h, show fr + 16 * q + j = fr + (16 * q + j) by omega]; exact hby _ h
        · rw [if_neg h]; decide
      have eX : zblk (zmw w) (z_map A1 48 16 (fun k => if 16 * q + k < n then A 40 (fr + 16 * q + k) else 0) 48) 0 16 = zblk (zmw w) (fun j => A 40 (fr + j)) (16 * q) n := by
        apply zbits_cg
        intro i hi
        unfold zp
        rw [Nat.zero_add, z_map_lt (show i / 8 < 16 by omega), decide_eq_true (show i / 8 < 16 by omega), Bool.true_and]
        by_cases h : 16 * q + i / 8 < n
        · rw [if_pos h, decide_eq_true h, Bool.true_and, show fr + 16 * q + i / 8 = fr + (16 * q + i / 8) by omega]
        · rw [if_neg h, decide_eq_false h, Bool.false_and, Nat.zero_testBit]
      refine z_callV (pc := 59) (m_feed hw (fun i hi => by rw [z_map_ne (by decide)]; exact hb i hi) ⟨fun i hi => by rw [z_map_ne (by decide), hA 50 (by decide) (by decide) (by decide)]; exact hH.1 i hi, hH.2⟩ hX) (by decide) zo_39 rfl zc_M_93 rfl rfl (Nat.le_of_ble_eq_true rfl) dM_feedRow_59 (fun r A' B' hE => ?_)
      obtain ⟨rfl, rfl, hA2, hb2⟩ := hE
      refine z_r0 ?_
      refine z_iinc (L' := [(4, _), (5, _), (0, _), (1, _), (2, _), (3, _)]) (pc := 62) dM_feedRow_62 rfl zi_16 (by decide) rfl ?_
      refine z_goto (pc := 65) (tgt := 3) dM_feedRow_65 rfl ?_
      refine z_ls (L' := [(4, _), (0, _), (1, _), (2, _), (3, _)]) [0, 2, 3, 4, 5] rfl ?_
      refine kq _ _ _ ⟨rfl, rfl, fun k h48 h49 h51 => by rw [hA2 k h49 h51, z_map_ne h48, hA k h48 h49 h51], ?_⟩
      rw [zfr, ← eX]
      exact hb2
  · rintro L A1 B1 ⟨rfl, rfl, hA, hb⟩
    refine z_iload (pc := 3) dM_feedRow_3 rfl ?_
    refine z_iload_n (pc := 5) dM_feedRow_5 rfl rfl ?_
    refine z_icmp_ge (pc := 6) (by omega) (by omega) (tgt := 68) dM_feedRow_6 rfl (fun h => ?_) (fun h => by exfalso; omega)
    exact z_ret0 (pc := 68) dM_feedRow_68 (hEx _ _ _ (⟨rfl, rfl, hA, hb⟩))
theorem m_endHash {w S : Nat} (hw : w = 0 ∨ w = 1) (hS : zbr (A 49) 128 S) : z_Met l g ad mM_endHash (z_rm 0) [.ref (ad 39), .int (nI w)] A B (z_vd (fun A' B' => B = B' ∧ (∀ k, k ≠ 48 → A' k = A k) ∧ ∀ j, j < 16 → A' 48 j = zby (zmw w) S j)) := by
  refine z_Met.of (L := [(0, _), (1, _)]) (by decide) (Nat.le_of_ble_eq_true rfl) z_fit_vd rfl ?_
  intro Ex hEx
  refine z_iconst (pc := 0) dM_endHash_0 zi_0 ?_
  refine z_istore_n (L' := [(2, _), (0, _), (1, _)]) (pc := 1) dM_endHash_1 rfl (by decide) rfl ?_
  refine z_wd (z_map_0 A 48 (fun _ => 0)).symm rfl ?_
  refine z_for 16 (fun i => [(2, .int (nI i)), (0, .ref (ad 39)), (1, .int (nI w))]) (fun i => z_map A 48 i (fun _ => 0)) (fun i => B) (fun i hi ki => ?_) ?_
  · refine z_iload_n (pc := 2) dM_endHash_2 rfl rfl ?_
    refine z_bipush (pc := 3) dM_endHash_3 zb_16 ?_
    refine z_icmp_ge (pc := 5) (by omega) (by omega) (tgt := 21) dM_endHash_5 rfl (fun h => by exfalso; omega) (fun h => ?_)
    refine z_aload_n (pc := 8) dM_endHash_8 rfl rfl ?_
    refine z_getR (pc := 9) zo_39 rfl zf_M_34_6 dM_endHash_9 ?_
    refine z_iload_n (pc := 12) dM_endHash_12 rfl rfl ?_
    refine z_iconst (pc := 13) dM_endHash_13 zi_0 ?_
    refine z_iastore (pc := 14) za_48 (by omega) dM_endHash_14 ?_
    refine z_iinc (L' := [(2, _), (0, _), (1, _)]) (pc := 15) dM_endHash_15 rfl zi_1 (by decide) rfl ?_
    refine z_goto (pc := 18) (tgt := 2) dM_endHash_18 rfl ?_
    exact z_wd (z_map_set rfl) rfl ki
  · refine z_iload_n (pc := 2) dM_endHash_2 rfl rfl ?_
    refine z_bipush (pc := 3) dM_endHash_3 zb_16 ?_
    refine z_icmp_ge (pc := 5) (by omega) (by omega) (tgt := 21) dM_endHash_5 rfl (fun h => ?_) (fun h => by exfalso; omega)
    refine z_iconst (pc := 21) dM_endHash_21 zi_0 ?_
    refine z_istore_n (L' := [(2, _), (0, _), (1, _)]) (pc := 22) dM_endHash_22 rfl (by decide) rfl ?_
    refine z_wd (A' := z_seg A 48 0 16 (fun m => zbyk (zmw w) S m 0)) ((z_map_seg A 48 16 (fun _ => 0)).trans (z_seg_cg (fun j _ _ => (zbyk_0 _ _ _).symm))) rfl ?_
    refine z_for 128 (fun i => [(2, .int (nI i)), (0, .ref (ad 39)), (1, .int (nI w))]) (fun i => z_seg A 48 0 16 (fun m => zbyk (zmw w) S m i)) (fun i => B) (fun i hi ki => ?_) ?_
    · refine z_iload_n (pc := 23) dM_endHash_23 rfl rfl ?_
      refine z_sipush (pc := 24) dM_endHash_24 zs_128 ?_
      refine z_icmp_ge (pc := 27) (by omega) (by omega) (tgt := 80) dM_endHash_27 rfl (fun h => by exfalso; omega) (fun h => ?_)
      refine z_aload_n (pc := 30) dM_endHash_30 rfl rfl ?_
      refine z_getR (pc := 31) zo_39 rfl zf_M_34_6 dM_endHash_31 ?_
      refine z_iload_n (pc := 34) dM_endHash_34 rfl rfl ?_
      refine z_bipush (pc := 35) dM_endHash_35 zb_8 ?_
      refine z_idiv (pc := 37) dM_endHash_37 (by omega) (by omega) (by omega) ?_
      refine z_aload_n (pc := 38) dM_endHash_38 rfl rfl ?_
      refine z_getR (pc := 39) zo_39 rfl zf_M_34_6 dM_endHash_39 ?_
      refine z_iload_n (pc := 42) dM_endHash_42 rfl rfl ?_
      refine z_bipush (pc := 43) dM_endHash_43 zb_8 ?_
      refine z_idiv (pc := 45) dM_endHash_45 (by omega) (by omega) (by omega) ?_
      refine z_iaload (pc := 46) za_48 (by omega) dM_endHash_46 ?_
      refine z_aload_n (pc := 47) dM_endHash_47 rfl rfl ?_
      refine z_getR (pc := 48) zo_39 rfl zf_M_37_6 dM_endHash_48 ?_
      refine z_iload_n (pc := 51) dM_endHash_51 rfl rfl ?_
      refine z_iaload (pc := 52) za_49 (by omega) dM_endHash_52 ?_
      refine z_iload_n (pc := 53) dM_endHash_53 rfl rfl ?_
      refine z_if_ne (pc := 54) (by omega) (tgt := 67) dM_endHash_54 rfl (fun h1 => ?_) (fun h1 => ?_)
      · refine z_iload_n (pc := 67) dM_endHash_67 rfl rfl ?_
        refine z_bipush (pc := 68) dM_endHash_68 zb_8 ?_
        refine z_irem (pc := 70) dM_endHash_70 (by omega) (by omega) (by omega) ?_
        refine z_ishl (pc := 71) dM_endHash_71 (by omega) ?_
        refine z_ior (pc := 72) dM_endHash_72 ?_
        refine z_iastore (pc := 73) za_48 (by omega) dM_endHash_73 ?_
        refine z_iinc (L' := [(2, _), (0, _), (1, _)]) (pc := 74) dM_endHash_74 rfl zi_1 (by decide) rfl ?_
        refine z_goto (pc := 77) (tgt := 23) dM_endHash_77 rfl ?_
        refine z_wd (z_seg_upd (Nat.zero_le _) (by omega) ?_ (fun j h2 h3 h4 => (zbyk_ne (zmw_ok w) h4).symm)) rfl ki
        rw [z_seg_in (Nat.zero_le _) (by omega), z_seg_ne (by decide), hS i hi]
        first
          | rw [show i % 8 = i % 8 ^^^ zmw w by rw [zmw, if_neg h1, Nat.xor_zero]]
            exact zbyk_at (zmw_ok w)
          | rw [show 7 - i % 8 = i % 8 ^^^ zmw w by rw [zmw, if_pos h1, z_x7 _ (by omega)]]
            exact zbyk_at (zmw_ok w)
      · refine z_bipush (pc := 57) dM_endHash_57 zb_7 ?_
        refine z_iload_n (pc := 59) dM_endHash_59 rfl rfl ?_
        refine z_bipush (pc := 60) dM_endHash_60 zb_8 ?_
        refine z_irem (pc := 62) dM_endHash_62 (by omega) (by omega) (by omega) ?_
        refine z_isub (pc := 63) dM_endHash_63 (by omega) ?_
        refine z_goto (pc := 64) (tgt := 71) dM_endHash_64 rfl ?_
        refine z_ishl (pc := 71) dM_endHash_71 (by omega) ?_
        refine z_ior (pc := 72) dM_endHash_72 ?_
        refine z_iastore (pc := 73) za_48 (by omega) dM_endHash_73 ?_
        refine z_iinc (L' := [(2, _), (0, _), (1, _)]) (pc := 74) dM_endHash_74 rfl zi_1 (by decide) rfl ?_
        refine z_goto (pc := 77) (tgt := 23) dM_endHash_77 rfl ?_
        refine z_wd (z_seg_upd (Nat.zero_le _) (by omega) ?_ (fun j h2 h3 h4 => (zbyk_ne (zmw_ok w) h4).symm)) rfl ki
        rw [z_seg_in (Nat.zero_le _) (by omega), z_seg_ne (by decide), hS i hi]
        first
          | rw [show i % 8 = i % 8 ^^^ zmw w by rw [zmw, if_neg h1, Nat.xor_zero]]
            exact zbyk_at (zmw_ok w)
          | rw [show 7 - i % 8 = i % 8 ^^^ zmw w by rw [zmw, if_pos h1, z_x7 _ (by omega)]]
            exact zbyk_at (zmw_ok w)
    · refine z_iload_n (pc := 23) dM_endHash_23 rfl rfl ?_
      refine z_sipush (pc := 24) dM_endHash_24 zs_128 ?_
      refine z_icmp_ge (pc := 27) (by omega) (by omega) (tgt := 80) dM_endHash_27 rfl (fun h => ?_) (fun h => by exfalso; omega)
      exact z_ret0 (pc := 80) dM_endHash_80 (hEx _ _ _ (⟨rfl, rfl, fun k hk => z_seg_ne hk, fun j hj => by rw [z_seg_in (Nat.zero_le _) (by omega)]; exact zbyk_end (zmw_ok w) (by omega)⟩))
theorem m_beginHash {w : Nat} (hw : w = 0 ∨ w = 1) (hX : ∀ j, j < 16 → A 48 j < 256) : z_Met l g ad mM_beginHash (z_rm 1) [.ref (ad 39), .int (nI w)] A B (z_vd (fun A' B' => B = B' ∧ (∀ k, k ≠ 49 → k ≠ 50 → k ≠ 51 → A' k = A k) ∧ zbr (A' 49) 128 0 ∧ zbr (A' 50) 128 (zHk (zow w) (zvw w) (zblk (zmw w) (A 48) 0 16)))) := by
  refine z_Met.of (L := [(0, _), (1, _)]) (by decide) (Nat.le_of_ble_eq_true rfl) z_fit_vd rfl ?_
  intro Ex hEx
  refine z_iconst (pc := 0) dM_beginHash_0 zi_0 ?_
  refine z_istore_n (L' := [(2, _), (0, _), (1, _)]) (pc := 1) dM_beginHash_1 rfl (by decide) rfl ?_
  refine z_loop 128 (fun i L A' B' => L = [(2, .int (nI i)), (0, .ref (ad 39)), (1, .int (nI w))] ∧ B = B' ∧ (∀ k, k ≠ 49 → k ≠ 50 → A' k = A k) ∧ (∀ j, j < i → A' 49 j = 0) ∧ ∀ j, j < i → A' 50 j = ((A 48 (j / 8)).testBit (j % 8 ^^^ zmw w)).toNat) ?_ ?_ _ _ _ ⟨rfl, rfl, fun _ _ _ => rfl, fun j hj => absurd hj (Nat.not_lt_zero _), fun j hj => absurd hj (Nat.not_lt_zero _)⟩
  · rintro i L A1 B1 hi ⟨rfl, rfl, hA, h0, h1⟩ ki
    refine z_iload_n (pc := 2) dM_beginHash_2 rfl rfl ?_
    refine z_sipush (pc := 3) dM_beginHash_3 zs_128 ?_
    refine z_icmp_ge (pc := 6) (by omega) (by omega) (tgt := 45) dM_beginHash_6 rfl (fun h => by exfalso; omega) (fun h => ?_)
    refine z_aload_n (pc := 9) dM_beginHash_9 rfl rfl ?_
    refine z_getR (pc := 10) zo_39 rfl zf_M_37_6 dM_beginHash_10 ?_
    refine z_iload_n (pc := 13) dM_beginHash_13 rfl rfl ?_
    refine z_iconst (pc := 14) dM_beginHash_14 zi_0 ?_
    refine z_iastore (pc := 15) za_49 (by omega) dM_beginHash_15 ?_
    refine z_aload_n (pc := 16) dM_beginHash_16 rfl rfl ?_
    refine z_getR (pc := 17) zo_39 rfl zf_M_40_6 dM_beginHash_17 ?_
    refine z_iload_n (pc := 20) dM_beginHash_20 rfl rfl ?_
    refine z_iload_n (pc := 21) dM_beginHash_21 rfl rfl ?_
    refine z_aload_n (pc := 22) dM_beginHash_22 rfl rfl ?_
    refine z_getR (pc := 23) zo_39 rfl zf_M_34_6 dM_beginHash_23 ?_
    refine z_iload_n (pc := 26) dM_beginHash_26 rfl rfl ?_
    refine z_bipush (pc := 27) dM_beginHash_27 zb_8 ?_
    refine z_idiv (pc := 29) dM_beginHash_29 (by omega) (by omega) (by omega) ?_
    refine z_iaload (pc := 30) za_48 (by omega) dM_beginHash_30 ?_
    refine z_iload_n (pc := 31) dM_beginHash_31 rfl rfl ?_
    refine z_bipush (pc := 32) dM_beginHash_32 zb_8 ?_
    refine z_irem (pc := 34) dM_beginHash_34 (by omega) (by omega) (by omega) ?_
    refine z_callS (pc := 35) (m_bit hw (by rw [z_set_ne (by decide), hA 48 (by decide) (by decide)]; exact hX _ (by omega)) (Nat.mod_lt _ (by decide))) (by decide) zc_M_83 rfl rfl (Nat.le_of_ble_eq_true rfl) dM_beginHash_35 (fun r A' B' hE => ?_)
    obtain ⟨rfl, rfl, rfl⟩ := hE
    refine z_r1 ?_
    refine z_iastore (pc := 38) za_50 (by omega) dM_beginHash_38 ?_
    refine z_iinc (L' := [(2, _), (0, _), (1, _)]) (pc := 39) dM_beginHash_39 rfl zi_1 (by decide) rfl ?_
    refine z_goto (pc := 42) (tgt := 2) dM_beginHash_42 rfl ?_
    refine ki _ _ _ ⟨rfl, rfl, fun k h49 h50 => by rw [z_set_ne h50, z_set_ne h49, hA k h49 h50], fun j hj => ?_, fun j hj => ?_⟩
    · rw [z_set_ne (by decide)]
      by_cases e : j = i
      · rw [e, z_set_at]
      · rw [z_set_nj e]; exact h0 j (by omega)
    · by_cases e : j = i
      · rw [e, z_set_at, z_set_ne (by decide), hA 48 (by decide) (by decide)]
      · rw [z_set_nj e, z_set_ne (by decide)]; exact h1 j (by omega)
  · rintro L A1 B1 ⟨rfl, rfl, hA, h0, h1⟩
    have hs0 : zbr (A1 49) 128 0 := fun j hj => by rw [h0 j hj, Nat.zero_testBit]; rfl
    have hh0 : zbr (A1 50) 128 (zblk (zmw w) (A 48) 0 16) := by
      intro i hi
      rw [h1 i hi, zblk, zbits_tb, zp, Nat.zero_add, decide_eq_true hi, decide_eq_true (show i / 8 < 16 by omega), Bool.true_and, Bool.true_and]
    refine z_iload_n (pc := 2) dM_beginHash_2 rfl rfl ?_
    refine z_sipush (pc := 3) dM_beginHash_3 zs_128 ?_
    refine z_icmp_ge (pc := 6) (by omega) (by omega) (tgt := 45) dM_beginHash_6 rfl (fun h => ?_) (fun h => by exfalso; omega)
    refine z_iload_n (pc := 45) dM_beginHash_45 rfl rfl ?_
    refine z_if_ne (pc := 46) (by omega) (tgt := 50) dM_beginHash_46 rfl (fun hw0 => ?_) (fun hw0 => ?_)
    · refine z_aload_n (pc := 50) dM_beginHash_50 rfl rfl ?_
      refine z_callV (pc := 51) (m_clearProduct) (by decide) zo_39 rfl zc_M_77 rfl rfl (Nat.le_of_ble_eq_true rfl) dM_beginHash_51 (fun r A' B' hE => ?_)
      obtain ⟨rfl, rfl, rfl⟩ := hE
      refine z_r0 ?_
      refine z_aload_n (pc := 54) dM_beginHash_54 rfl rfl ?_
      refine z_bipush (pc := 55) dM_beginHash_55 zb_127 ?_
      refine z_callV (pc := 57) (m_addShifted (b := 127) (by omega) (fun i hi => by rw [z_map_lt hi, Nat.zero_testBit]; rfl) ⟨fun i hi => by rw [z_map_ne (by decide)]; exact hh0 i hi, zblk_lt _ _ _ _⟩) (by decide) zo_39 rfl zc_M_87 rfl rfl (Nat.le_of_ble_eq_true rfl) dM_beginHash_57 (fun r A' B' hE => ?_)
      obtain ⟨rfl, rfl, hA2, hP2⟩ := hE
      have hh1 : zbr (A' 50) 128 (zblk (zmw w) (A 48) 0 16) := fun i hi => by rw [hA2 50 (by decide)]; rw [z_map_ne (by decide)]; exact hh0 i hi
      refine z_r0 ?_
      refine z_aload_n (pc := 60) dM_beginHash_60 rfl rfl ?_
      refine z_bipush (pc := 61) dM_beginHash_61 zb_124 ?_
      refine z_callV (pc := 63) (m_addShifted (b := 124) (by omega) hP2 ⟨hh1, zblk_lt _ _ _ _⟩) (by decide) zo_39 rfl zc_M_87 rfl rfl (Nat.le_of_ble_eq_true rfl) dM_beginHash_63 (fun r A' B' hE => ?_)
      obtain ⟨rfl, rfl, hA3, hP3⟩ := hE
      have hh2 : zbr (A' 50) 128 (zblk (zmw w) (A 48) 0 16) := fun i hi => by rw [hA3 50 (by decide)]; exact hh1 i hi
      refine z_r0 ?_
      refine z_aload_n (pc := 66) dM_beginHash_66 rfl rfl ?_
      refine z_bipush (pc := 67) dM_beginHash_67 zb_121 ?_
      refine z_callV (pc := 69) (m_addShifted (b := 121) (by omega) hP3 ⟨hh2, zblk_lt _ _ _ _⟩) (by decide) zo_39 rfl zc_M_87 rfl rfl (Nat.le_of_ble_eq_true rfl) dM_beginHash_69 (fun r A' B' hE => ?_)
      obtain ⟨rfl, rfl, hA4, hP4⟩ := hE
      have hh3 : zbr (A' 50) 128 (zblk (zmw w) (A 48) 0 16) := fun i hi => by rw [hA4 50 (by decide)]; exact hh2 i hi
      refine z_r0 ?_
      refine z_aload_n (pc := 72) dM_beginHash_72 rfl rfl ?_
      refine z_bipush (pc := 73) dM_beginHash_73 zb_114 ?_
      refine z_callV (pc := 75) (m_addShifted (b := 114) (by omega) hP4 ⟨hh3, zblk_lt _ _ _ _⟩) (by decide) zo_39 rfl zc_M_87 rfl rfl (Nat.le_of_ble_eq_true rfl) dM_beginHash_75 (fun r A' B' hE => ?_)
      obtain ⟨rfl, rfl, hA5, hP5⟩ := hE
      have hh4 : zbr (A' 50) 128 (zblk (zmw w) (A 48) 0 16) := fun i hi => by rw [hA5 50 (by decide)]; exact hh3 i hi
      refine z_r0 ?_
      refine z_aload_n (pc := 78) dM_beginHash_78 rfl rfl ?_
      refine z_iconst (pc := 79) dM_beginHash_79 zi_0 ?_
      refine z_callV (pc := 80) (m_addShifted (b := 0) (by omega) hP5 ⟨hh4, zblk_lt _ _ _ _⟩) (by decide) zo_39 rfl zc_M_87 rfl rfl (Nat.le_of_ble_eq_true rfl) dM_beginHash_80 (fun r A' B' hE => ?_)
      obtain ⟨rfl, rfl, hA6, hP6⟩ := hE
      have hh5 : zbr (A' 50) 128 (zblk (zmw w) (A 48) 0 16) := fun i hi => by rw [hA6 50 (by decide)]; exact hh4 i hi
      refine z_r0 ?_
      refine z_aload_n (pc := 83) dM_beginHash_83 rfl rfl ?_
      refine z_iconst (pc := 84) dM_beginHash_84 zi_1 ?_
      refine z_callV (pc := 85) (m_reduce (w := 1) (Or.inr rfl) hP6) (by decide) zo_39 rfl zc_M_80 rfl rfl (Nat.le_of_ble_eq_true rfl) dM_beginHash_85 (fun r A' B' hE => ?_)
      obtain ⟨rfl, rfl, hA7, hP7⟩ := hE
      refine z_r0 ?_
      refine z_iconst (pc := 88) dM_beginHash_88 zi_0 ?_
      refine z_istore_n (L' := [(2, _), (0, _), (1, _)]) (pc := 89) dM_beginHash_89 rfl (by decide) rfl ?_
      refine z_wd (z_map_0 A' 50 (A' 51)).symm rfl ?_
      refine z_for 128 (fun i => [(2, .int (nI i)), (0, .ref (ad 39)), (1, .int (nI w))]) (fun i => z_map A' 50 i (A' 51)) (fun i => B) (fun i hi ki => ?_) ?_
      · refine z_iload_n (pc := 90) dM_beginHash_90 rfl rfl ?_
        refine z_sipush (pc := 91) dM_beginHash_91 zs_128 ?_
        refine z_icmp_ge (pc := 94) (by omega) (by omega) (tgt := 115) dM_beginHash_94 rfl (fun h => by exfalso; omega) (fun h => ?_)
        refine z_aload_n (pc := 97) dM_beginHash_97 rfl rfl ?_
        refine z_getR (pc := 98) zo_39 rfl zf_M_40_6 dM_beginHash_98 ?_
        refine z_iload_n (pc := 101) dM_beginHash_101 rfl rfl ?_
        refine z_aload_n (pc := 102) dM_beginHash_102 rfl rfl ?_
        refine z_getR (pc := 103) zo_39 rfl zf_M_43_6 dM_beginHash_103 ?_
        refine z_iload_n (pc := 106) dM_beginHash_106 rfl rfl ?_
        refine z_iaload (pc := 107) za_51 (by omega) dM_beginHash_107 ?_
        refine z_iastore (pc := 108) za_50 (by omega) dM_beginHash_108 ?_
        refine z_iinc (L' := [(2, _), (0, _), (1, _)]) (pc := 109) dM_beginHash_109 rfl zi_1 (by decide) rfl ?_
        refine z_goto (pc := 112) (tgt := 90) dM_beginHash_112 rfl ?_
        refine z_wd (z_map_set ?_) rfl ki
        rw [z_map_ne (by decide)]
      · refine z_iload_n (pc := 90) dM_beginHash_90 rfl rfl ?_
        refine z_sipush (pc := 91) dM_beginHash_91 zs_128 ?_
        refine z_icmp_ge (pc := 94) (by omega) (by omega) (tgt := 115) dM_beginHash_94 rfl (fun h => ?_) (fun h => by exfalso; omega)
        exact z_ret0 (pc := 115) dM_beginHash_115 (hEx _ _ _ (⟨rfl, rfl, fun k h49 h50 h51 => by rw [z_map_ne h50, hA7 k h51, hA6 k h51, hA5 k h51, hA4 k h51, hA3 k h51, hA2 k h51, z_map_ne h51, hA k h49 h50], fun j hj => by rw [z_map_ne (by decide), hA7 49 (by decide), hA6 49 (by decide), hA5 49 (by decide), hA4 49 (by decide), hA3 49 (by decide), hA2 49 (by decide), z_map_ne (by decide)]; exact hs0 j hj, fun j hj => by rw [z_map_lt hj, hP7 j (by omega), zHk, zow, if_neg hw0, if_neg (by decide), z_besides (zvw_lt w) (zblk_lt _ _ _ _), show zvw 1 = zvw w by rw [zvw, zvw, if_neg (by decide), if_neg hw0]]⟩))
    · exact z_ret0 (pc := 49) dM_beginHash_49 (hEx _ _ _ (⟨rfl, rfl, fun k h49 h50 _ => hA k h49 h50, hs0, by rw [zHk, zow, if_pos hw0, if_pos rfl]; exact hh0⟩))
end
