def zdf (a b : Nat → Nat) : Nat → Nat
  | 0 => 0
  | i + 1 => zdf a b i ||| (a i ^^^ b i)
theorem z_or0 {a b : Nat} : a ||| b = 0 ↔ a = 0 ∧ b = 0 := by
  constructor
  · intro h
    have h1 : a ≤ a ||| b := Nat.left_le_or
    have h2 : b ≤ a ||| b := Nat.right_le_or
    omega
  · rintro ⟨rfl, rfl⟩; rfl
theorem z_xor0 {a b : Nat} : a ^^^ b = 0 ↔ a = b := by
  constructor
  · intro h
    have : (a ^^^ b) ^^^ b = 0 ^^^ b := by rw [h]
    rw [Nat.xor_assoc, Nat.xor_self, Nat.xor_zero, Nat.zero_xor] at this
    exact this
  · rintro rfl; exact Nat.xor_self _
theorem zdf_iff (a b : Nat → Nat) : ∀ n, zdf a b n = 0 ↔ ∀ i, i < n → a i = b i
  | 0 => ⟨fun _ i h => absurd h (Nat.not_lt_zero _), fun _ => rfl⟩
  | n + 1 => by
    rw [zdf, z_or0, zdf_iff a b n, z_xor0]
    constructor
    · rintro ⟨h1, h2⟩ i hi
      by_cases e : i = n
      · rw [e]; exact h2
      · exact h1 i (by omega)
    · intro h
      exact ⟨fun i hi => h i (by omega), h n (by omega)⟩
theorem zdf_lt {a b : Nat → Nat} {n : Nat} (ha : ∀ i, i < n → a i < 256) (hb : ∀ i, i < n → b i < 256) : ∀ i, i ≤ n → zdf a b i < 256
  | 0, _ => by show 0 < 256; decide
  | i + 1, h => z_or8 (zdf_lt ha hb i (by omega)) (z_xor8 (ha i (by omega)) (hb i (by omega)))
theorem zrow_0 {w H : Nat} {X : Nat → Nat} {S : Nat} : zrow w H X 0 S = S := rfl
section
variable {l : Launch} {g : z_G} {ad : Nat → Nat} {A B : z_A}
theorem c_hashWithAside0 {c nc n : Nat} (hc : z_ia c nc) (hn : n ≤ nc) (hnc : nc ≤ 900) (hX : ∀ j, j < n → A c j < 256) (hal : A 6 1 ≤ 32) (hY : ∀ j, j < A 6 1 → A 7 j < 256) (hhk : ∀ j, j < 16 → A 26 j < 256) (hw : z_hw A B 20 (zow 0) (zmw 0) (zvw 0)) (hq : ∃ H S, z_hk B 20 H S) : z_Met l g ad mW_hashWithAside (z_rm 3) [.ref (ad 25), .ref (ad 6), .ref (ad c), .int (nI n)] A B (z_vd (fun A' B' => z_hB B B' 20 ∧ (∃ H S, z_hk B' 20 H S) ∧ z_fr [21, 30] A A' ∧ ∀ j, j < 16 → A' 30 j = zby (zmw 0) (zhsh 0 (zHw 0 (A 26)) (A 7) (A 6 1) (A c) n) j)) := by
  refine z_Met.of (L := [(0, _), (1, _), (2, _), (3, _)]) (by decide) (Nat.le_of_ble_eq_true rfl) z_fit_vd rfl ?_
  intro Ex hEx
  obtain ⟨H0, S0, hq⟩ := hq
  refine z_aload_n (pc := 0) dW_hashWithAside_0 rfl rfl ?_
  refine z_getR (pc := 1) zo_25 rfl zf_W_15_4 dW_hashWithAside_1 ?_
  refine z_aload_n (pc := 4) dW_hashWithAside_4 rfl rfl ?_
  refine z_getR (pc := 5) zo_25 rfl zf_W_19_4 dW_hashWithAside_5 ?_
  refine z_callV (pc := 8) (c_begin (k := 20) (c := 26) (o := zow 0) (mr := zmw 0) (ov := zvw 0) zo_20 za_26 (by omega) hhk (Or.inl rfl) hw hq) (by decide) zo_20 rfl zc_W_45 rfl rfl (Nat.le_of_ble_eq_true rfl) dW_hashWithAside_8 (fun r A' B' hE => ?_)
  obtain ⟨rfl, rfl, hB1, hq1⟩ := hE
  replace hq1 : z_hk B' 20 (zHw 0 (A 26)) 0 := hq1
  have hw1 := hw.mv rfl hB1
  refine z_r0 ?_
  refine z_aload_n (pc := 11) dW_hashWithAside_11 rfl rfl ?_
  refine z_getR (pc := 12) zo_25 rfl zf_W_15_4 dW_hashWithAside_12 ?_
  refine z_aload_n (pc := 15) dW_hashWithAside_15 rfl rfl ?_
  refine z_getR (pc := 16) zo_6 rfl zf_W_51_2 dW_hashWithAside_16 ?_
  refine z_aload_n (pc := 19) dW_hashWithAside_19 rfl rfl ?_
  refine z_getI (pc := 20) zo_6 rfl zf_W_56_2 dW_hashWithAside_20 ?_
  refine z_callV (pc := 23) (c_add (k := 20) zo_20 za_7 hal (by omega) hY hw1 hq1) (by decide) zo_20 rfl zc_W_60 rfl rfl (Nat.le_of_ble_eq_true rfl) dW_hashWithAside_23 (fun r A' B' hE => ?_)
  obtain ⟨rfl, rfl, hB2, hq2⟩ := hE
  have hw2 := hw1.mv rfl hB2
  refine z_r0 ?_
  refine z_aload_n (pc := 26) dW_hashWithAside_26 rfl rfl ?_
  refine z_getR (pc := 27) zo_25 rfl zf_W_15_4 dW_hashWithAside_27 ?_
  refine z_aload_n (pc := 30) dW_hashWithAside_30 rfl rfl ?_
  refine z_iload_n (pc := 31) dW_hashWithAside_31 rfl rfl ?_
  refine z_callV (pc := 32) (c_add (k := 20) zo_20 hc hn (by omega) hX hw2 hq2) (by decide) zo_20 rfl zc_W_60 rfl rfl (Nat.le_of_ble_eq_true rfl) dW_hashWithAside_32 (fun r A' B' hE => ?_)
  obtain ⟨rfl, rfl, hB3, hq3⟩ := hE
  have hw3 := hw2.mv rfl hB3
  refine z_r0 ?_
  refine z_aload_n (pc := 35) dW_hashWithAside_35 rfl rfl ?_
  refine z_getR (pc := 36) zo_25 rfl zf_W_15_4 dW_hashWithAside_36 ?_
  refine z_aload_n (pc := 39) dW_hashWithAside_39 rfl rfl ?_
  refine z_getI (pc := 40) zo_6 rfl zf_W_56_2 dW_hashWithAside_40 ?_
  refine z_iload_n (pc := 43) dW_hashWithAside_43 rfl rfl ?_
  refine z_callV (pc := 44) (c_addLengths1 (k := 20) zo_20 za_21 (by decide) (by omega) (by omega) hw3 hq3) (by decide) zo_20 rfl zc_W_64 rfl rfl (Nat.le_of_ble_eq_true rfl) dW_hashWithAside_44 (fun r A' B' hE => ?_)
  obtain ⟨rfl, hA4, hB4, hq4⟩ := hE
  refine z_r0 ?_
  refine z_aload_n (pc := 47) dW_hashWithAside_47 rfl rfl ?_
  refine z_getR (pc := 48) zo_25 rfl zf_W_15_4 dW_hashWithAside_48 ?_
  refine z_aload_n (pc := 51) dW_hashWithAside_51 rfl rfl ?_
  refine z_getR (pc := 52) zo_25 rfl zf_W_32_4 dW_hashWithAside_52 ?_
  refine z_callV (pc := 55) (c_write (k := 20) (c := 30) (mr := zmw 0) zo_20 za_30 (by omega) (by decide) (by rw [hA4 20 (by decide)]; exact hw.2.1) (zmw_ok 0) hq4) (by decide) zo_20 rfl zc_W_68 rfl rfl (Nat.le_of_ble_eq_true rfl) dW_hashWithAside_55 (fun r A' B' hE => ?_)
  obtain ⟨rfl, rfl, hA5, hX5, hX6⟩ := hE
  refine z_r0 ?_
  exact z_ret0 (pc := 58) dW_hashWithAside_58 (hEx _ _ _ (⟨rfl, ((hB1.tr hB2).tr hB3).tr hB4, ⟨_, _, hq4⟩, fun q hq => (hA5 q (z_nm hq (by decide))).trans (hA4 q (z_nm hq (by decide))), hX5⟩))
theorem z128_lt {s : Nat → Nat} (h : ∀ j, j < 16 → s j < 256) (j : Nat) (hj : j < 16) : z128 s j < 256 := by
  unfold z128
  split
  · exact z_or8 (h j hj) (by decide)
  · exact h j hj
theorem c_cipherText0 {f nf t nt n : Nat} {W : Nat → Nat} (hf : z_ia f nf) (hnf : n ≤ nf) (ht : z_ia t nt) (hnt : n ≤ nt) (hn : n ≤ 900) (hft : f ≠ t) (hf17 : f ≠ 17) (hf18 : f ≠ 18) (hfC : f ≠ 28) (hfE : f ≠ 29) (ht15 : t ≠ 15) (ht16 : t ≠ 16) (ht17 : t ≠ 17) (ht18 : t ≠ 18) (htS : t ≠ 27) (htC : t ≠ 28) (htE : 29 ≠ t) (hb : z_box A 15) (hW : ∀ j, j < 176 → A 16 j = W j) (hWb : ∀ j, j < 176 → W j < 256) (hJ : ∀ j, j < 16 → A 27 j < 256) : z_Met l g ad mW_cipherText (z_rm 4) [.ref (ad 25), .ref (ad f), .int (nI n), .ref (ad t)] A B (z_vd (fun A' B' => B = B' ∧ z_fr [17, 18, 28, 29, t] A A' ∧ (∀ j, n ≤ j → A' t j = A t j) ∧ ∀ j, j < n → A' t j = A f j ^^^ zEs W (zcnt 0 (A 27) ((j / 16) + 1)) 10 (j % 16))) := by
  refine z_Met.of (L := [(0, _), (1, _), (2, _), (3, _)]) (by decide) (Nat.le_of_ble_eq_true rfl) z_fit_vd rfl ?_
  intro Ex hEx
  refine z_iconst (pc := 0) dW_cipherText_0 zi_0 ?_
  refine z_istore (L' := [(4, _), (0, _), (1, _), (2, _), (3, _)]) (pc := 1) dW_cipherText_1 (by decide) rfl ?_
  refine z_loop ((n + 15) / 16) (fun q L A' B' => L = [(4, .int (nI (16 * q))), (0, .ref (ad 25)), (1, .ref (ad f)), (2, .int (nI n)), (3, .ref (ad t))] ∧ B = B' ∧ z_fr [17, 18, 28, 29, t] A A' ∧ (∀ j, n ≤ j → A' t j = A t j) ∧ ∀ j, j < 16 * q → j < n → A' t j = A f j ^^^ zEs W (zcnt 0 (A 27) ((j / 16) + 1)) 10 (j % 16)) ?_ ?_ _ _ _ ⟨rfl, rfl, fun _ _ => rfl, fun _ _ => rfl, fun j hj _ => by omega⟩
  · rintro q L A1 B1 hq ⟨rfl, rfl, hA, hhi, hC⟩ kq
    have e15 : A1 15 = A 15 := hA 15 (by simp; omega)
    have e16 : A1 16 = A 16 := hA 16 (by simp; omega)
    have est : A1 27 = A 27 := hA 27 (by simp; omega)
    have ef0 : A1 f = A f := hA f (by simp; omega)
    refine z_iload (pc := 3) dW_cipherText_3 rfl ?_
    refine z_iload_n (pc := 5) dW_cipherText_5 rfl rfl ?_
    refine z_icmp_ge (pc := 6) (by omega) (by omega) (tgt := 86) dW_cipherText_6 rfl (fun h => by exfalso; omega) (fun h => ?_)
    refine z_aload_n (pc := 9) dW_cipherText_9 rfl rfl ?_
    refine z_iload (pc := 10) dW_cipherText_10 rfl ?_
    refine z_bipush (pc := 12) dW_cipherText_12 zb_16 ?_
    refine z_idiv (pc := 14) dW_cipherText_14 (by omega) (by omega) (by omega) ?_
    refine z_callU (pc := 15) (c_count0 (part := 16 * q / 16) (by omega) (fun j hj => by rw [est]; exact hJ j hj)) (by decide) zo_25 rfl zc_W_35_Z rfl rfl (Nat.le_of_ble_eq_true rfl) dW_cipherText_15 (fun r A' B' hE => ?_)
    obtain ⟨rfl, rfl, hA3, hX3⟩ := hE
    rw [est, show 16 * q / 16 = q by omega] at hX3
    refine z_r0 ?_
    refine z_aload_n (pc := 18) dW_cipherText_18 rfl rfl ?_
    refine z_getR (pc := 19) zo_25 rfl zf_W_9_4 dW_cipherText_19 ?_
    refine z_aload_n (pc := 22) dW_cipherText_22 rfl rfl ?_
    refine z_getR (pc := 23) zo_25 rfl zf_W_26_4 dW_cipherText_23 ?_
    refine z_aload_n (pc := 26) dW_cipherText_26 rfl rfl ?_
    refine z_getR (pc := 27) zo_25 rfl zf_W_29_4 dW_cipherText_27 ?_
    refine z_callV (pc := 30) (c_encipher (f := 28) (t := 29) (W := W) za_28 (by omega) za_29 (by omega) (by decide) (by decide) (fun j hj => by rw [hA3 15 (by decide), e15]; exact hb j hj) (fun j hj => by rw [hA3 16 (by decide), e16]; exact hW j hj) hWb (fun j hj => by rw [hX3 j hj]; exact zcnt_lt (hJ) j hj)) (by decide) zo_14 rfl zc_W_39 rfl rfl (Nat.le_of_ble_eq_true rfl) dW_cipherText_30 (fun r A' B' hE => ?_)
    obtain ⟨rfl, rfl, hA4, hX4, hX4'⟩ := hE
    have hX5 : ∀ j, j < 16 → A' 29 j = zEs W (zcnt 0 (A 27) (q + 1)) 10 j := fun j hj => by rw [hX4 j hj]; exact zEs_cg (fun _ _ => rfl) hX3 10 (by omega) j hj
    have ef : A' f = A f := by rw [hA4 f hf17 hf18 hfE, hA3 f hfC, ef0]
    have et : A' t = A1 t := by rw [hA4 t ht17 ht18 htE.symm, hA3 t htC]
    refine z_r0 ?_
    refine z_iconst (pc := 33) dW_cipherText_33 zi_0 ?_
    refine z_istore (L' := [(5, _), (4, _), (0, _), (1, _), (2, _), (3, _)]) (pc := 34) dW_cipherText_34 (by decide) rfl ?_
    refine z_wd (z_seg_0 A' t (16 * q) (fun x => A' f x ^^^ A' 29 (x - 16 * q))).symm rfl ?_
    refine z_for (min 16 (n - 16 * q)) (fun i => [(5, .int (nI i)), (4, .int (nI (16 * q))), (0, .ref (ad 25)), (1, .ref (ad f)), (2, .int (nI n)), (3, .ref (ad t))]) (fun i => z_seg A' t (16 * q) i (fun x => A' f x ^^^ A' 29 (x - 16 * q))) (fun i => B) (fun i hi ki => ?_) ?_
    · refine z_iload (pc := 36) dW_cipherText_36 rfl ?_
      refine z_bipush (pc := 38) dW_cipherText_38 zb_16 ?_
      refine z_icmp_ge (pc := 40) (by omega) (by omega) (tgt := 80) dW_cipherText_40 rfl (fun h => by exfalso; omega) (fun h => ?_)
      refine z_iload (pc := 43) dW_cipherText_43 rfl ?_
      refine z_iload (pc := 45) dW_cipherText_45 rfl ?_
      refine z_iadd (pc := 47) dW_cipherText_47 ?_
      refine z_iload_n (pc := 48) dW_cipherText_48 rfl rfl ?_
      refine z_icmp_ge (pc := 49) (by omega) (by omega) (tgt := 80) dW_cipherText_49 rfl (fun h => by exfalso; omega) (fun h => ?_)
      refine z_aload_n (pc := 52) dW_cipherText_52 rfl rfl ?_
      refine z_iload (pc := 53) dW_cipherText_53 rfl ?_
      refine z_iload (pc := 55) dW_cipherText_55 rfl ?_
      refine z_iadd (pc := 57) dW_cipherText_57 ?_
      refine z_aload_n (pc := 58) dW_cipherText_58 rfl rfl ?_
      refine z_iload (pc := 59) dW_cipherText_59 rfl ?_
      refine z_iload (pc := 61) dW_cipherText_61 rfl ?_
      refine z_iadd (pc := 63) dW_cipherText_63 ?_
      refine z_iaload (pc := 64) hf (by omega) dW_cipherText_64 ?_
      refine z_aload_n (pc := 65) dW_cipherText_65 rfl rfl ?_
      refine z_getR (pc := 66) zo_25 rfl zf_W_29_4 dW_cipherText_66 ?_
      refine z_iload (pc := 69) dW_cipherText_69 rfl ?_
      refine z_iaload (pc := 71) za_29 (by omega) dW_cipherText_71 ?_
      refine z_ixor (pc := 72) dW_cipherText_72 ?_
      refine z_iastore (pc := 73) ht (by omega) dW_cipherText_73 ?_
      refine z_iinc (L' := [(5, _), (4, _), (0, _), (1, _), (2, _), (3, _)]) (pc := 74) dW_cipherText_74 rfl zi_1 (by decide) rfl ?_
      refine z_goto (pc := 77) (tgt := 36) dW_cipherText_77 rfl ?_
      refine z_wd (z_seg_set ?_) rfl ki
      rw [z_seg_ne hft, z_seg_ne htE, Nat.add_sub_cancel_left]
    · refine z_iload (pc := 36) dW_cipherText_36 rfl ?_
      refine z_bipush (pc := 38) dW_cipherText_38 zb_16 ?_
      refine z_icmp_ge (pc := 40) (by omega) (by omega) (tgt := 80) dW_cipherText_40 rfl (fun h1 => ?_) (fun h1 => ?_)
      · refine z_iinc (L' := [(4, _), (5, _), (0, _), (1, _), (2, _), (3, _)]) (pc := 80) dW_cipherText_80 rfl zi_16 (by decide) rfl ?_
        refine z_goto (pc := 83) (tgt := 3) dW_cipherText_83 rfl ?_
        refine z_ls (L' := [(4, _), (0, _), (1, _), (2, _), (3, _)]) [0, 2, 3, 4, 5] rfl ?_
        refine kq _ _ _ ⟨rfl, rfl, fun x hx => by rw [z_seg_ne (z_nm hx (by simp)), hA4 x (z_nm hx (by simp)) (z_nm hx (by simp)) (z_nm hx (by simp)), hA3 x (z_nm hx (by simp)), hA x hx], fun j hj => by rw [z_seg_out (Or.inr (by omega)), et]; exact hhi j hj, fun j hj hn => ?_⟩
        by_cases hjq : j < 16 * q
        · rw [z_seg_out (Or.inl (by omega)), et]; exact hC j hjq hn
        · rw [z_seg_in (by omega) (by omega), ef, hX5 _ (by omega), show j - 16 * q = j % 16 by omega, show j / 16 = q by omega]
      · refine z_iload (pc := 43) dW_cipherText_43 rfl ?_
        refine z_iload (pc := 45) dW_cipherText_45 rfl ?_
        refine z_iadd (pc := 47) dW_cipherText_47 ?_
        refine z_iload_n (pc := 48) dW_cipherText_48 rfl rfl ?_
        refine z_icmp_ge (pc := 49) (by omega) (by omega) (tgt := 80) dW_cipherText_49 rfl (fun h => ?_) (fun h => by exfalso; omega)
        refine z_iinc (L' := [(4, _), (5, _), (0, _), (1, _), (2, _), (3, _)]) (pc := 80) dW_cipherText_80 rfl zi_16 (by decide) rfl ?_
        refine z_goto (pc := 83) (tgt := 3) dW_cipherText_83 rfl ?_
        refine z_ls (L' := [(4, _), (0, _), (1, _), (2, _), (3, _)]) [0, 2, 3, 4, 5] rfl ?_
        refine kq _ _ _ ⟨rfl, rfl, fun x hx => by rw [z_seg_ne (z_nm hx (by simp)), hA4 x (z_nm hx (by simp)) (z_nm hx (by simp)) (z_nm hx (by simp)), hA3 x (z_nm hx (by simp)), hA x hx], fun j hj => by rw [z_seg_out (Or.inr (by omega)), et]; exact hhi j hj, fun j hj hn => ?_⟩
        by_cases hjq : j < 16 * q
        · rw [z_seg_out (Or.inl (by omega)), et]; exact hC j hjq hn
        · rw [z_seg_in (by omega) (by omega), ef, hX5 _ (by omega), show j - 16 * q = j % 16 by omega, show j / 16 = q by omega]
  · rintro L A1 B1 ⟨rfl, rfl, hA, hhi, hC⟩
    refine z_iload (pc := 3) dW_cipherText_3 rfl ?_
    refine z_iload_n (pc := 5) dW_cipherText_5 rfl rfl ?_
    refine z_icmp_ge (pc := 6) (by omega) (by omega) (tgt := 86) dW_cipherText_6 rfl (fun h => ?_) (fun h => by exfalso; omega)
    exact z_ret0 (pc := 86) dW_cipherText_86 (hEx _ _ _ (⟨rfl, rfl, hA, hhi, fun j hj => hC j (by omega) hj⟩))
theorem c_appendDue0 {n : Nat} (hn : n ≤ 48) : z_Met l g ad mW_appendDue (z_rm 1) [.ref (ad 25), .ref (ad 10), .int (nI n)] A B (z_eq none (z_set (z_seg A 11 n 16 (fun j => A 30 (0 + (j - n)))) 10 1 (n + 16)) B) := by
  refine z_Met.of (L := [(0, _), (1, _), (2, _)]) (by decide) (Nat.le_of_ble_eq_true rfl) (z_fit_eq rfl) rfl ?_
  intro Ex hEx
  refine z_aload_n (pc := 0) dW_appendDue_0 rfl rfl ?_
  refine z_getR (pc := 1) zo_25 rfl zf_W_32_4 dW_appendDue_1 ?_
  refine z_iconst (pc := 4) dW_appendDue_4 zi_0 ?_
  refine z_aload_n (pc := 5) dW_appendDue_5 rfl rfl ?_
  refine z_getR (pc := 6) zo_10 rfl zf_W_51_2 dW_appendDue_6 ?_
  refine z_iload_n (pc := 9) dW_appendDue_9 rfl rfl ?_
  refine z_bipush (pc := 10) dW_appendDue_10 zb_16 ?_
  refine z_copy (pc := 12) za_30 za_11 (by omega) (by omega) zy_W_71 (by decide) (Nat.le_of_ble_eq_true rfl) (by decide) dW_appendDue_12 ?_
  refine z_aload_n (pc := 15) dW_appendDue_15 rfl rfl ?_
  refine z_iload_n (pc := 16) dW_appendDue_16 rfl rfl ?_
  refine z_bipush (pc := 17) dW_appendDue_17 zb_16 ?_
  refine z_iadd (pc := 19) dW_appendDue_19 ?_
  refine z_putI (pc := 20) zo_10 rfl zp_W_56_2 dW_appendDue_20 ?_
  exact z_ret0 (pc := 23) dW_appendDue_23 (hEx _ _ _ (⟨rfl, rfl, rfl⟩))
theorem c_endsInDue0  (hl : 16 ≤ A 8 1) (hl2 : A 8 1 ≤ 64) (hT : ∀ j, j < A 8 1 → A 9 j < 256) (hD : ∀ j, j < 16 → A 30 j < 256) : z_Met l g ad mW_endsInDue (z_rm 0) [.ref (ad 25), .ref (ad 8)] A B (z_eq (some (.int (nI (if zdf (fun j => A 9 (A 8 1 - 16 + j)) (A 30) 16 = 0 then 1 else 0)))) A B) := by
  refine z_Met.of (L := [(0, _), (1, _)]) (by decide) (Nat.le_of_ble_eq_true rfl) (z_fit_eq z_fitb) rfl ?_
  intro Ex hEx
  have hd := zdf_lt (a := (fun j => A 9 (A 8 1 - 16 + j))) (b := A 30) (n := 16) (fun i hi => hT _ (by omega)) hD
  refine z_iconst (pc := 0) dW_endsInDue_0 zi_0 ?_
  refine z_istore_n (L' := [(2, _), (0, _), (1, _)]) (pc := 1) dW_endsInDue_1 rfl (by decide) rfl ?_
  refine z_iconst (pc := 2) dW_endsInDue_2 zi_0 ?_
  refine z_istore_n (L' := [(3, _), (2, _), (0, _), (1, _)]) (pc := 3) dW_endsInDue_3 rfl (by decide) rfl ?_
  refine z_for 16 (fun i => [(3, .int (nI i)), (2, .int (nI ((zdf (fun j => A 9 (A 8 1 - 16 + j)) (A 30) i)))), (0, .ref (ad 25)), (1, .ref (ad 8))]) (fun i => A) (fun i => B) (fun i hi ki => ?_) ?_
  · refine z_iload_n (pc := 4) dW_endsInDue_4 rfl rfl ?_
    refine z_bipush (pc := 5) dW_endsInDue_5 zb_16 ?_
    refine z_icmp_ge (pc := 7) (by omega) (by omega) (tgt := 40) dW_endsInDue_7 rfl (fun h => by exfalso; omega) (fun h => ?_)
    refine z_iload_n (pc := 10) dW_endsInDue_10 rfl rfl ?_
    refine z_aload_n (pc := 11) dW_endsInDue_11 rfl rfl ?_
    refine z_getR (pc := 12) zo_8 rfl zf_W_51_2 dW_endsInDue_12 ?_
    refine z_aload_n (pc := 15) dW_endsInDue_15 rfl rfl ?_
    refine z_getI (pc := 16) zo_8 rfl zf_W_56_2 dW_endsInDue_16 ?_
    refine z_bipush (pc := 19) dW_endsInDue_19 zb_16 ?_
    refine z_isub (pc := 21) dW_endsInDue_21 (by omega) ?_
    refine z_iload_n (pc := 22) dW_endsInDue_22 rfl rfl ?_
    refine z_iadd (pc := 23) dW_endsInDue_23 ?_
    refine z_iaload (pc := 24) za_9 (by omega) dW_endsInDue_24 ?_
    refine z_aload_n (pc := 25) dW_endsInDue_25 rfl rfl ?_
    refine z_getR (pc := 26) zo_25 rfl zf_W_32_4 dW_endsInDue_26 ?_
    refine z_iload_n (pc := 29) dW_endsInDue_29 rfl rfl ?_
    refine z_iaload (pc := 30) za_30 (by omega) dW_endsInDue_30 ?_
    refine z_ixor (pc := 31) dW_endsInDue_31 ?_
    refine z_ior (pc := 32) dW_endsInDue_32 ?_
    refine z_istore_n (L' := [(2, _), (3, _), (0, _), (1, _)]) (pc := 33) dW_endsInDue_33 rfl (by decide) rfl ?_
    refine z_iinc (L' := [(3, _), (2, _), (0, _), (1, _)]) (pc := 34) dW_endsInDue_34 rfl zi_1 (by decide) rfl ?_
    refine z_goto (pc := 37) (tgt := 4) dW_endsInDue_37 rfl ?_
    exact ki
  · refine z_iload_n (pc := 4) dW_endsInDue_4 rfl rfl ?_
    refine z_bipush (pc := 5) dW_endsInDue_5 zb_16 ?_
    refine z_icmp_ge (pc := 7) (by omega) (by omega) (tgt := 40) dW_endsInDue_7 rfl (fun h => ?_) (fun h => by exfalso; omega)
    refine z_iload_n (pc := 40) dW_endsInDue_40 rfl rfl ?_
    refine z_if_ne (pc := 41) (by have := hd 16 (by omega); omega) (tgt := 48) dW_endsInDue_41 rfl (fun h1 => ?_) (fun h1 => ?_)
    · refine z_iconst (pc := 48) dW_endsInDue_48 zi_0 ?_
      exact z_reti (pc := 49) dW_endsInDue_49 (hEx _ _ _ (⟨by first | rw [if_neg h1] | rw [if_pos h1], rfl, rfl⟩))
    · refine z_iconst (pc := 44) dW_endsInDue_44 zi_1 ?_
      refine z_goto (pc := 45) (tgt := 49) dW_endsInDue_45 rfl ?_
      exact z_reti (pc := 49) dW_endsInDue_49 (hEx _ _ _ (⟨by first | rw [if_neg h1] | rw [if_pos h1], rfl, rfl⟩))
theorem c_hashWithAside1 {c nc n : Nat} (hc : z_ia c nc) (hn : n ≤ nc) (hnc : nc ≤ 900) (hX : ∀ j, j < n → A c j < 256) (hal : A 6 1 ≤ 32) (hY : ∀ j, j < A 6 1 → A 7 j < 256) (hhk : ∀ j, j < 16 → A 33 j < 256) (hw : z_hw A B 22 (zow 1) (zmw 1) (zvw 1)) (hq : ∃ H S, z_hk B 22 H S) : z_Met l g ad mW_hashWithAside (z_rm 3) [.ref (ad 32), .ref (ad 6), .ref (ad c), .int (nI n)] A B (z_vd (fun A' B' => z_hB B B' 22 ∧ (∃ H S, z_hk B' 22 H S) ∧ z_fr [23, 37] A A' ∧ ∀ j, j < 16 → A' 37 j = zby (zmw 1) (zhsh 1 (zHw 1 (A 33)) (A 7) (A 6 1) (A c) n) j)) := by
  refine z_Met.of (L := [(0, _), (1, _), (2, _), (3, _)]) (by decide) (Nat.le_of_ble_eq_true rfl) z_fit_vd rfl ?_
  intro Ex hEx
  obtain ⟨H0, S0, hq⟩ := hq
  refine z_aload_n (pc := 0) dW_hashWithAside_0 rfl rfl ?_
  refine z_getR (pc := 1) zo_32 rfl zf_W_15_3 dW_hashWithAside_1 ?_
  refine z_aload_n (pc := 4) dW_hashWithAside_4 rfl rfl ?_
  refine z_getR (pc := 5) zo_32 rfl zf_W_19_3 dW_hashWithAside_5 ?_
  refine z_callV (pc := 8) (c_begin (k := 22) (c := 33) (o := zow 1) (mr := zmw 1) (ov := zvw 1) zo_22 za_33 (by omega) hhk (Or.inr rfl) hw hq) (by decide) zo_22 rfl zc_W_45 rfl rfl (Nat.le_of_ble_eq_true rfl) dW_hashWithAside_8 (fun r A' B' hE => ?_)
  obtain ⟨rfl, rfl, hB1, hq1⟩ := hE
  replace hq1 : z_hk B' 22 (zHw 1 (A 33)) 0 := hq1
  have hw1 := hw.mv rfl hB1
  refine z_r0 ?_
  refine z_aload_n (pc := 11) dW_hashWithAside_11 rfl rfl ?_
  refine z_getR (pc := 12) zo_32 rfl zf_W_15_3 dW_hashWithAside_12 ?_
  refine z_aload_n (pc := 15) dW_hashWithAside_15 rfl rfl ?_
  refine z_getR (pc := 16) zo_6 rfl zf_W_51_2 dW_hashWithAside_16 ?_
  refine z_aload_n (pc := 19) dW_hashWithAside_19 rfl rfl ?_
  refine z_getI (pc := 20) zo_6 rfl zf_W_56_2 dW_hashWithAside_20 ?_
  refine z_callV (pc := 23) (c_add (k := 22) zo_22 za_7 hal (by omega) hY hw1 hq1) (by decide) zo_22 rfl zc_W_60 rfl rfl (Nat.le_of_ble_eq_true rfl) dW_hashWithAside_23 (fun r A' B' hE => ?_)
  obtain ⟨rfl, rfl, hB2, hq2⟩ := hE
  have hw2 := hw1.mv rfl hB2
  refine z_r0 ?_
  refine z_aload_n (pc := 26) dW_hashWithAside_26 rfl rfl ?_
  refine z_getR (pc := 27) zo_32 rfl zf_W_15_3 dW_hashWithAside_27 ?_
  refine z_aload_n (pc := 30) dW_hashWithAside_30 rfl rfl ?_
  refine z_iload_n (pc := 31) dW_hashWithAside_31 rfl rfl ?_
  refine z_callV (pc := 32) (c_add (k := 22) zo_22 hc hn (by omega) hX hw2 hq2) (by decide) zo_22 rfl zc_W_60 rfl rfl (Nat.le_of_ble_eq_true rfl) dW_hashWithAside_32 (fun r A' B' hE => ?_)
  obtain ⟨rfl, rfl, hB3, hq3⟩ := hE
  have hw3 := hw2.mv rfl hB3
  refine z_r0 ?_
  refine z_aload_n (pc := 35) dW_hashWithAside_35 rfl rfl ?_
  refine z_getR (pc := 36) zo_32 rfl zf_W_15_3 dW_hashWithAside_36 ?_
  refine z_aload_n (pc := 39) dW_hashWithAside_39 rfl rfl ?_
  refine z_getI (pc := 40) zo_6 rfl zf_W_56_2 dW_hashWithAside_40 ?_
  refine z_iload_n (pc := 43) dW_hashWithAside_43 rfl rfl ?_
  refine z_callV (pc := 44) (c_addLengths0 (k := 22) zo_22 za_23 (by decide) (by omega) (by omega) hw3 hq3) (by decide) zo_22 rfl zc_W_64 rfl rfl (Nat.le_of_ble_eq_true rfl) dW_hashWithAside_44 (fun r A' B' hE => ?_)
  obtain ⟨rfl, hA4, hB4, hq4⟩ := hE
  refine z_r0 ?_
  refine z_aload_n (pc := 47) dW_hashWithAside_47 rfl rfl ?_
  refine z_getR (pc := 48) zo_32 rfl zf_W_15_3 dW_hashWithAside_48 ?_
  refine z_aload_n (pc := 51) dW_hashWithAside_51 rfl rfl ?_
  refine z_getR (pc := 52) zo_32 rfl zf_W_32_3 dW_hashWithAside_52 ?_
  refine z_callV (pc := 55) (c_write (k := 22) (c := 37) (mr := zmw 1) zo_22 za_37 (by omega) (by decide) (by rw [hA4 22 (by decide)]; exact hw.2.1) (zmw_ok 1) hq4) (by decide) zo_22 rfl zc_W_68 rfl rfl (Nat.le_of_ble_eq_true rfl) dW_hashWithAside_55 (fun r A' B' hE => ?_)
  obtain ⟨rfl, rfl, hA5, hX5, hX6⟩ := hE
  refine z_r0 ?_
  exact z_ret0 (pc := 58) dW_hashWithAside_58 (hEx _ _ _ (⟨rfl, ((hB1.tr hB2).tr hB3).tr hB4, ⟨_, _, hq4⟩, fun q hq => (hA5 q (z_nm hq (by decide))).trans (hA4 q (z_nm hq (by decide))), hX5⟩))
theorem c_cipherText1 {f nf t nt n : Nat} {W : Nat → Nat} (hf : z_ia f nf) (hnf : n ≤ nf) (ht : z_ia t nt) (hnt : n ≤ nt) (hn : n ≤ 900) (hft : f ≠ t) (hf17 : f ≠ 17) (hf18 : f ≠ 18) (hfC : f ≠ 35) (hfE : f ≠ 36) (ht15 : t ≠ 15) (ht16 : t ≠ 16) (ht17 : t ≠ 17) (ht18 : t ≠ 18) (htS : t ≠ 34) (htC : t ≠ 35) (htE : 36 ≠ t) (hb : z_box A 15) (hW : ∀ j, j < 176 → A 16 j = W j) (hWb : ∀ j, j < 176 → W j < 256) (hJ : ∀ j, j < 16 → A 34 j < 256) : z_Met l g ad mW_cipherText (z_rm 4) [.ref (ad 32), .ref (ad f), .int (nI n), .ref (ad t)] A B (z_vd (fun A' B' => B = B' ∧ z_fr [17, 18, 35, 36, t] A A' ∧ (∀ j, n ≤ j → A' t j = A t j) ∧ ∀ j, j < n → A' t j = A f j ^^^ zEs W (zcnt 1 (z128 (A 34)) (j / 16)) 10 (j % 16))) := by
  refine z_Met.of (L := [(0, _), (1, _), (2, _), (3, _)]) (by decide) (Nat.le_of_ble_eq_true rfl) z_fit_vd rfl ?_
  intro Ex hEx
  refine z_iconst (pc := 0) dW_cipherText_0 zi_0 ?_
  refine z_istore (L' := [(4, _), (0, _), (1, _), (2, _), (3, _)]) (pc := 1) dW_cipherText_1 (by decide) rfl ?_
  refine z_loop ((n + 15) / 16) (fun q L A' B' => L = [(4, .int (nI (16 * q))), (0, .ref (ad 32)), (1, .ref (ad f)), (2, .int (nI n)), (3, .ref (ad t))] ∧ B = B' ∧ z_fr [17, 18, 35, 36, t] A A' ∧ (∀ j, n ≤ j → A' t j = A t j) ∧ ∀ j, j < 16 * q → j < n → A' t j = A f j ^^^ zEs W (zcnt 1 (z128 (A 34)) (j / 16)) 10 (j % 16)) ?_ ?_ _ _ _ ⟨rfl, rfl, fun _ _ => rfl, fun _ _ => rfl, fun j hj _ => by omega⟩
  · rintro q L A1 B1 hq ⟨rfl, rfl, hA, hhi, hC⟩ kq
    have e15 : A1 15 = A 15 := hA 15 (by simp; omega)
    have e16 : A1 16 = A 16 := hA 16 (by simp; omega)
    have est : A1 34 = A 34 := hA 34 (by simp; omega)
    have ef0 : A1 f = A f := hA f (by simp; omega)
    refine z_iload (pc := 3) dW_cipherText_3 rfl ?_
    refine z_iload_n (pc := 5) dW_cipherText_5 rfl rfl ?_
    refine z_icmp_ge (pc := 6) (by omega) (by omega) (tgt := 86) dW_cipherText_6 rfl (fun h => by exfalso; omega) (fun h => ?_)
    refine z_aload_n (pc := 9) dW_cipherText_9 rfl rfl ?_
    refine z_iload (pc := 10) dW_cipherText_10 rfl ?_
    refine z_bipush (pc := 12) dW_cipherText_12 zb_16 ?_
    refine z_idiv (pc := 14) dW_cipherText_14 (by omega) (by omega) (by omega) ?_
    refine z_callU (pc := 15) (c_count1 (part := 16 * q / 16) (by omega) (fun j hj => by rw [est]; exact hJ j hj)) (by decide) zo_32 rfl zc_W_35_O rfl rfl (Nat.le_of_ble_eq_true rfl) dW_cipherText_15 (fun r A' B' hE => ?_)
    obtain ⟨rfl, rfl, hA3, hX3⟩ := hE
    rw [est, show 16 * q / 16 = q by omega] at hX3
    refine z_r0 ?_
    refine z_aload_n (pc := 18) dW_cipherText_18 rfl rfl ?_
    refine z_getR (pc := 19) zo_32 rfl zf_W_9_3 dW_cipherText_19 ?_
    refine z_aload_n (pc := 22) dW_cipherText_22 rfl rfl ?_
    refine z_getR (pc := 23) zo_32 rfl zf_W_26_3 dW_cipherText_23 ?_
    refine z_aload_n (pc := 26) dW_cipherText_26 rfl rfl ?_
    refine z_getR (pc := 27) zo_32 rfl zf_W_29_3 dW_cipherText_27 ?_
    refine z_callV (pc := 30) (c_encipher (f := 35) (t := 36) (W := W) za_35 (by omega) za_36 (by omega) (by decide) (by decide) (fun j hj => by rw [hA3 15 (by decide), e15]; exact hb j hj) (fun j hj => by rw [hA3 16 (by decide), e16]; exact hW j hj) hWb (fun j hj => by rw [hX3 j hj]; exact zcnt_lt (z128_lt hJ) j hj)) (by decide) zo_14 rfl zc_W_39 rfl rfl (Nat.le_of_ble_eq_true rfl) dW_cipherText_30 (fun r A' B' hE => ?_)
    obtain ⟨rfl, rfl, hA4, hX4, hX4'⟩ := hE
    have hX5 : ∀ j, j < 16 → A' 36 j = zEs W (zcnt 1 (z128 (A 34)) q) 10 j := fun j hj => by rw [hX4 j hj]; exact zEs_cg (fun _ _ => rfl) hX3 10 (by omega) j hj
    have ef : A' f = A f := by rw [hA4 f hf17 hf18 hfE, hA3 f hfC, ef0]
    have et : A' t = A1 t := by rw [hA4 t ht17 ht18 htE.symm, hA3 t htC]
    refine z_r0 ?_
    refine z_iconst (pc := 33) dW_cipherText_33 zi_0 ?_
    refine z_istore (L' := [(5, _), (4, _), (0, _), (1, _), (2, _), (3, _)]) (pc := 34) dW_cipherText_34 (by decide) rfl ?_
    refine z_wd (z_seg_0 A' t (16 * q) (fun x => A' f x ^^^ A' 36 (x - 16 * q))).symm rfl ?_
    refine z_for (min 16 (n - 16 * q)) (fun i => [(5, .int (nI i)), (4, .int (nI (16 * q))), (0, .ref (ad 32)), (1, .ref (ad f)), (2, .int (nI n)), (3, .ref (ad t))]) (fun i => z_seg A' t (16 * q) i (fun x => A' f x ^^^ A' 36 (x - 16 * q))) (fun i => B) (fun i hi ki => ?_) ?_
    · refine z_iload (pc := 36) dW_cipherText_36 rfl ?_
      refine z_bipush (pc := 38) dW_cipherText_38 zb_16 ?_
      refine z_icmp_ge (pc := 40) (by omega) (by omega) (tgt := 80) dW_cipherText_40 rfl (fun h => by exfalso; omega) (fun h => ?_)
      refine z_iload (pc := 43) dW_cipherText_43 rfl ?_
      refine z_iload (pc := 45) dW_cipherText_45 rfl ?_
      refine z_iadd (pc := 47) dW_cipherText_47 ?_
      refine z_iload_n (pc := 48) dW_cipherText_48 rfl rfl ?_
      refine z_icmp_ge (pc := 49) (by omega) (by omega) (tgt := 80) dW_cipherText_49 rfl (fun h => by exfalso; omega) (fun h => ?_)
      refine z_aload_n (pc := 52) dW_cipherText_52 rfl rfl ?_
      refine z_iload (pc := 53) dW_cipherText_53 rfl ?_
      refine z_iload (pc := 55) dW_cipherText_55 rfl ?_
      refine z_iadd (pc := 57) dW_cipherText_57 ?_
      refine z_aload_n (pc := 58) dW_cipherText_58 rfl rfl ?_
      refine z_iload (pc := 59) dW_cipherText_59 rfl ?_
      refine z_iload (pc := 61) dW_cipherText_61 rfl ?_
      refine z_iadd (pc := 63) dW_cipherText_63 ?_
      refine z_iaload (pc := 64) hf (by omega) dW_cipherText_64 ?_
      refine z_aload_n (pc := 65) dW_cipherText_65 rfl rfl ?_
      refine z_getR (pc := 66) zo_32 rfl zf_W_29_3 dW_cipherText_66 ?_
      refine z_iload (pc := 69) dW_cipherText_69 rfl ?_
      refine z_iaload (pc := 71) za_36 (by omega) dW_cipherText_71 ?_
      refine z_ixor (pc := 72) dW_cipherText_72 ?_
      refine z_iastore (pc := 73) ht (by omega) dW_cipherText_73 ?_
      refine z_iinc (L' := [(5, _), (4, _), (0, _), (1, _), (2, _), (3, _)]) (pc := 74) dW_cipherText_74 rfl zi_1 (by decide) rfl ?_
      refine z_goto (pc := 77) (tgt := 36) dW_cipherText_77 rfl ?_
      refine z_wd (z_seg_set ?_) rfl ki
      rw [z_seg_ne hft, z_seg_ne htE, Nat.add_sub_cancel_left]
    · refine z_iload (pc := 36) dW_cipherText_36 rfl ?_
      refine z_bipush (pc := 38) dW_cipherText_38 zb_16 ?_
      refine z_icmp_ge (pc := 40) (by omega) (by omega) (tgt := 80) dW_cipherText_40 rfl (fun h1 => ?_) (fun h1 => ?_)
      · refine z_iinc (L' := [(4, _), (5, _), (0, _), (1, _), (2, _), (3, _)]) (pc := 80) dW_cipherText_80 rfl zi_16 (by decide) rfl ?_
        refine z_goto (pc := 83) (tgt := 3) dW_cipherText_83 rfl ?_
        refine z_ls (L' := [(4, _), (0, _), (1, _), (2, _), (3, _)]) [0, 2, 3, 4, 5] rfl ?_
        refine kq _ _ _ ⟨rfl, rfl, fun x hx => by rw [z_seg_ne (z_nm hx (by simp)), hA4 x (z_nm hx (by simp)) (z_nm hx (by simp)) (z_nm hx (by simp)), hA3 x (z_nm hx (by simp)), hA x hx], fun j hj => by rw [z_seg_out (Or.inr (by omega)), et]; exact hhi j hj, fun j hj hn => ?_⟩
        by_cases hjq : j < 16 * q
        · rw [z_seg_out (Or.inl (by omega)), et]; exact hC j hjq hn
        · rw [z_seg_in (by omega) (by omega), ef, hX5 _ (by omega), show j - 16 * q = j % 16 by omega, show j / 16 = q by omega]
      · refine z_iload (pc := 43) dW_cipherText_43 rfl ?_
        refine z_iload (pc := 45) dW_cipherText_45 rfl ?_
        refine z_iadd (pc := 47) dW_cipherText_47 ?_
        refine z_iload_n (pc := 48) dW_cipherText_48 rfl rfl ?_
        refine z_icmp_ge (pc := 49) (by omega) (by omega) (tgt := 80) dW_cipherText_49 rfl (fun h => ?_) (fun h => by exfalso; omega)
        refine z_iinc (L' := [(4, _), (5, _), (0, _), (1, _), (2, _), (3, _)]) (pc := 80) dW_cipherText_80 rfl zi_16 (by decide) rfl ?_
        refine z_goto (pc := 83) (tgt := 3) dW_cipherText_83 rfl ?_
        refine z_ls (L' := [(4, _), (0, _), (1, _), (2, _), (3, _)]) [0, 2, 3, 4, 5] rfl ?_
        refine kq _ _ _ ⟨rfl, rfl, fun x hx => by rw [z_seg_ne (z_nm hx (by simp)), hA4 x (z_nm hx (by simp)) (z_nm hx (by simp)) (z_nm hx (by simp)), hA3 x (z_nm hx (by simp)), hA x hx], fun j hj => by rw [z_seg_out (Or.inr (by omega)), et]; exact hhi j hj, fun j hj hn => ?_⟩
        by_cases hjq : j < 16 * q
        · rw [z_seg_out (Or.inl (by omega)), et]; exact hC j hjq hn
        · rw [z_seg_in (by omega) (by omega), ef, hX5 _ (by omega), show j - 16 * q = j % 16 by omega, show j / 16 = q by omega]
  · rintro L A1 B1 ⟨rfl, rfl, hA, hhi, hC⟩
    refine z_iload (pc := 3) dW_cipherText_3 rfl ?_
    refine z_iload_n (pc := 5) dW_cipherText_5 rfl rfl ?_
    refine z_icmp_ge (pc := 6) (by omega) (by omega) (tgt := 86) dW_cipherText_6 rfl (fun h => ?_) (fun h => by exfalso; omega)
    exact z_ret0 (pc := 86) dW_cipherText_86 (hEx _ _ _ (⟨rfl, rfl, hA, hhi, fun j hj => hC j (by omega) hj⟩))
theorem c_appendDue1 {n : Nat} (hn : n ≤ 48) : z_Met l g ad mW_appendDue (z_rm 1) [.ref (ad 32), .ref (ad 10), .int (nI n)] A B (z_eq none (z_set (z_seg A 11 n 16 (fun j => A 37 (0 + (j - n)))) 10 1 (n + 16)) B) := by
  refine z_Met.of (L := [(0, _), (1, _), (2, _)]) (by decide) (Nat.le_of_ble_eq_true rfl) (z_fit_eq rfl) rfl ?_
  intro Ex hEx
  refine z_aload_n (pc := 0) dW_appendDue_0 rfl rfl ?_
  refine z_getR (pc := 1) zo_32 rfl zf_W_32_3 dW_appendDue_1 ?_
  refine z_iconst (pc := 4) dW_appendDue_4 zi_0 ?_
  refine z_aload_n (pc := 5) dW_appendDue_5 rfl rfl ?_
  refine z_getR (pc := 6) zo_10 rfl zf_W_51_2 dW_appendDue_6 ?_
  refine z_iload_n (pc := 9) dW_appendDue_9 rfl rfl ?_
  refine z_bipush (pc := 10) dW_appendDue_10 zb_16 ?_
  refine z_copy (pc := 12) za_37 za_11 (by omega) (by omega) zy_W_71 (by decide) (Nat.le_of_ble_eq_true rfl) (by decide) dW_appendDue_12 ?_
  refine z_aload_n (pc := 15) dW_appendDue_15 rfl rfl ?_
  refine z_iload_n (pc := 16) dW_appendDue_16 rfl rfl ?_
  refine z_bipush (pc := 17) dW_appendDue_17 zb_16 ?_
  refine z_iadd (pc := 19) dW_appendDue_19 ?_
  refine z_putI (pc := 20) zo_10 rfl zp_W_56_2 dW_appendDue_20 ?_
  exact z_ret0 (pc := 23) dW_appendDue_23 (hEx _ _ _ (⟨rfl, rfl, rfl⟩))
theorem c_endsInDue1  (hl : 16 ≤ A 8 1) (hl2 : A 8 1 ≤ 64) (hT : ∀ j, j < A 8 1 → A 9 j < 256) (hD : ∀ j, j < 16 → A 37 j < 256) : z_Met l g ad mW_endsInDue (z_rm 0) [.ref (ad 32), .ref (ad 8)] A B (z_eq (some (.int (nI (if zdf (fun j => A 9 (A 8 1 - 16 + j)) (A 37) 16 = 0 then 1 else 0)))) A B) := by
  refine z_Met.of (L := [(0, _), (1, _)]) (by decide) (Nat.le_of_ble_eq_true rfl) (z_fit_eq z_fitb) rfl ?_
  intro Ex hEx
  have hd := zdf_lt (a := (fun j => A 9 (A 8 1 - 16 + j))) (b := A 37) (n := 16) (fun i hi => hT _ (by omega)) hD
  refine z_iconst (pc := 0) dW_endsInDue_0 zi_0 ?_
  refine z_istore_n (L' := [(2, _), (0, _), (1, _)]) (pc := 1) dW_endsInDue_1 rfl (by decide) rfl ?_
  refine z_iconst (pc := 2) dW_endsInDue_2 zi_0 ?_
  refine z_istore_n (L' := [(3, _), (2, _), (0, _), (1, _)]) (pc := 3) dW_endsInDue_3 rfl (by decide) rfl ?_
  refine z_for 16 (fun i => [(3, .int (nI i)), (2, .int (nI ((zdf (fun j => A 9 (A 8 1 - 16 + j)) (A 37) i)))), (0, .ref (ad 32)), (1, .ref (ad 8))]) (fun i => A) (fun i => B) (fun i hi ki => ?_) ?_
  · refine z_iload_n (pc := 4) dW_endsInDue_4 rfl rfl ?_
    refine z_bipush (pc := 5) dW_endsInDue_5 zb_16 ?_
    refine z_icmp_ge (pc := 7) (by omega) (by omega) (tgt := 40) dW_endsInDue_7 rfl (fun h => by exfalso; omega) (fun h => ?_)
    refine z_iload_n (pc := 10) dW_endsInDue_10 rfl rfl ?_
    refine z_aload_n (pc := 11) dW_endsInDue_11 rfl rfl ?_
    refine z_getR (pc := 12) zo_8 rfl zf_W_51_2 dW_endsInDue_12 ?_
    refine z_aload_n (pc := 15) dW_endsInDue_15 rfl rfl ?_
    refine z_getI (pc := 16) zo_8 rfl zf_W_56_2 dW_endsInDue_16 ?_
    refine z_bipush (pc := 19) dW_endsInDue_19 zb_16 ?_
    refine z_isub (pc := 21) dW_endsInDue_21 (by omega) ?_
    refine z_iload_n (pc := 22) dW_endsInDue_22 rfl rfl ?_
    refine z_iadd (pc := 23) dW_endsInDue_23 ?_
    refine z_iaload (pc := 24) za_9 (by omega) dW_endsInDue_24 ?_
    refine z_aload_n (pc := 25) dW_endsInDue_25 rfl rfl ?_
    refine z_getR (pc := 26) zo_32 rfl zf_W_32_3 dW_endsInDue_26 ?_
    refine z_iload_n (pc := 29) dW_endsInDue_29 rfl rfl ?_
    refine z_iaload (pc := 30) za_37 (by omega) dW_endsInDue_30 ?_
    refine z_ixor (pc := 31) dW_endsInDue_31 ?_
    refine z_ior (pc := 32) dW_endsInDue_32 ?_
    refine z_istore_n (L' := [(2, _), (3, _), (0, _), (1, _)]) (pc := 33) dW_endsInDue_33 rfl (by decide) rfl ?_
    refine z_iinc (L' := [(3, _), (2, _), (0, _), (1, _)]) (pc := 34) dW_endsInDue_34 rfl zi_1 (by decide) rfl ?_
    refine z_goto (pc := 37) (tgt := 4) dW_endsInDue_37 rfl ?_
    exact ki
  · refine z_iload_n (pc := 4) dW_endsInDue_4 rfl rfl ?_
    refine z_bipush (pc := 5) dW_endsInDue_5 zb_16 ?_
    refine z_icmp_ge (pc := 7) (by omega) (by omega) (tgt := 40) dW_endsInDue_7 rfl (fun h => ?_) (fun h => by exfalso; omega)
    refine z_iload_n (pc := 40) dW_endsInDue_40 rfl rfl ?_
    refine z_if_ne (pc := 41) (by have := hd 16 (by omega); omega) (tgt := 48) dW_endsInDue_41 rfl (fun h1 => ?_) (fun h1 => ?_)
    · refine z_iconst (pc := 48) dW_endsInDue_48 zi_0 ?_
      exact z_reti (pc := 49) dW_endsInDue_49 (hEx _ _ _ (⟨by first | rw [if_neg h1] | rw [if_pos h1], rfl, rfl⟩))
    · refine z_iconst (pc := 44) dW_endsInDue_44 zi_1 ?_
      refine z_goto (pc := 45) (tgt := 49) dW_endsInDue_45 rfl ?_
      exact z_reti (pc := 49) dW_endsInDue_49 (hEx _ _ _ (⟨by first | rw [if_neg h1] | rw [if_pos h1], rfl, rfl⟩))
end
