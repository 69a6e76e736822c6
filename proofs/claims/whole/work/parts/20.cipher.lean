/-! pure part of the cipher -/
def zSl : List Nat := [99, 124, 119, 123, 242, 107, 111, 197, 48, 1, 103, 43, 254, 215, 171, 118, 202, 130, 201, 125, 250, 89, 71, 240, 173, 212, 162, 175, 156, 164, 114, 192, 183, 253, 147, 38, 54, 63, 247, 204, 52, 165, 229, 241, 113, 216, 49, 21, 4, 199, 35, 195, 24, 150, 5, 154, 7, 18, 128, 226, 235, 39, 178, 117, 9, 131, 44, 26, 27, 110, 90, 160, 82, 59, 214, 179, 41, 227, 47, 132, 83, 209, 0, 237, 32, 252, 177, 91, 106, 203, 190, 57, 74, 76, 88, 207, 208, 239, 170, 251, 67, 77, 51, 133, 69, 249, 2, 127, 80, 60, 159, 168, 81, 163, 64, 143, 146, 157, 56, 245, 188, 182, 218, 33, 16, 255, 243, 210, 205, 12, 19, 236, 95, 151, 68, 23, 196, 167, 126, 61, 100, 93, 25, 115, 96, 129, 79, 220, 34, 42, 144, 136, 70, 238, 184, 20, 222, 94, 11, 219, 224, 50, 58, 10, 73, 6, 36, 92, 194, 211, 172, 98, 145, 149, 228, 121, 231, 200, 55, 109, 141, 213, 78, 169, 108, 86, 244, 234, 101, 122, 174, 8, 186, 120, 37, 46, 28, 166, 180, 198, 232, 221, 116, 31, 75, 189, 139, 138, 112, 62, 181, 102, 72, 3, 246, 14, 97, 53, 87, 185, 134, 193, 29, 158, 225, 248, 152, 17, 105, 217, 142, 148, 155, 30, 135, 233, 206, 85, 40, 223, 140, 161, 137, 13, 191, 230, 66, 104, 65, 153, 45, 15, 176, 84, 187, 22]
def zS (j : Nat) : Nat := zSl.getD j 0
def zd (a : Nat) : Nat := if 2 * a ≤ 255 then 2 * a else 2 * a ^^^ 283
theorem zS_lt : ∀ j, j < 256 → zS j < 256 := by decide +kernel
theorem zd_lt : ∀ a, a < 256 → zd a < 256 := by decide +kernel
/-- a word made from the words before -/
def zkw1 (W : Nat → Nat) (i j : Nat) : Nat := W (4 * (i - 4) + (j - 4 * i)) ^^^ W (4 * (i - 1) + (j - 4 * i))
def zkw2 (W : Nat → Nat) (i j : Nat) : Nat := W (4 * (i - 4) + (j - 4 * i)) ^^^ zS (W (4 * (i - 1) + (j - 4 * i + 1) % 4))
def zkA (W : Nat → Nat) (i : Nat) : Nat → Nat := fun j => if 4 * i ≤ j ∧ j < 4 * i + 4 then zkw1 W i j else W j
def zkB (W : Nat → Nat) (i c : Nat) : Nat → Nat := fun j => if 4 * i ≤ j ∧ j < 4 * i + 4 then (if j = 4 * i then zkw2 W i j ^^^ c else zkw2 W i j) else W j
def zkS (K : Nat → Nat) : Nat → (Nat → Nat) × Nat
  | 0 => (K, 1)
  | n + 1 => if (n + 4) % 4 = 0 then (zkB (zkS K n).1 (n + 4) (zkS K n).2, zd (zkS K n).2) else (zkA (zkS K n).1 (n + 4), (zkS K n).2)
/-- the 176 bytes of the words of key K -/
def zKX (K : Nat → Nat) : Nat → Nat := (zkS K 40).1
theorem zkS_c (K : Nat → Nat) : ∀ n, (zkS K n).2 < 256
  | 0 => by show 1 < 256; decide
  | n + 1 => by
    unfold zkS
    split
    · exact zd_lt _ (zkS_c K n)
    · exact zkS_c K n
theorem zkS_by {K : Nat → Nat} (hK : ∀ j, j < 16 → K j < 256) : ∀ n j, j < 4 * (n + 4) → (zkS K n).1 j < 256
  | 0, j, h => hK j (by omega)
  | n + 1, j, h => by
    have ih := zkS_by hK n
    unfold zkS
    by_cases h4 : (n + 4) % 4 = 0
    · rw [if_pos h4]
      show zkB _ _ _ j < 256
      unfold zkB
      by_cases hj : 4 * (n + 4) ≤ j ∧ j < 4 * (n + 4) + 4
      · rw [if_pos hj]
        have h5 : zkw2 (zkS K n).1 (n + 4) j < 256 := z_xor8 (ih _ (by omega)) (zS_lt _ (ih _ (by omega)))
        split
        · exact z_xor8 h5 (zkS_c K n)
        · exact h5
      · rw [if_neg hj]; exact ih j (by omega)
    · rw [if_neg h4]
      show zkA _ _ j < 256
      unfold zkA
      by_cases hj : 4 * (n + 4) ≤ j ∧ j < 4 * (n + 4) + 4
      · rw [if_pos hj]; exact z_xor8 (ih _ (by omega)) (ih _ (by omega))
      · rw [if_neg hj]; exact ih j (by omega)
theorem zkS_cg {K K' : Nat → Nat} (hK : ∀ j, j < 16 → K j = K' j) : ∀ n, (zkS K n).2 = (zkS K' n).2 ∧ ∀ j, j < 4 * (n + 4) → (zkS K n).1 j = (zkS K' n).1 j
  | 0 => ⟨rfl, fun j h => hK j (by omega)⟩
  | n + 1 => by
    obtain ⟨hc, ih⟩ := zkS_cg hK n
    unfold zkS
    by_cases h4 : (n + 4) % 4 = 0
    · rw [if_pos h4, if_pos h4]
      refine ⟨by rw [hc], fun j h => ?_⟩
      show zkB _ _ _ j = zkB _ _ _ j
      unfold zkB zkw2
      by_cases hj : 4 * (n + 4) ≤ j ∧ j < 4 * (n + 4) + 4
      · rw [if_pos hj, if_pos hj, hc, ih (4 * (n + 4 - 4) + (j - 4 * (n + 4))) (by omega), ih (4 * (n + 4 - 1) + (j - 4 * (n + 4) + 1) % 4) (by omega)]
      · rw [if_neg hj, if_neg hj]; exact ih j (by omega)
    · rw [if_neg h4, if_neg h4]
      refine ⟨hc, fun j h => ?_⟩
      show zkA _ _ j = zkA _ _ j
      unfold zkA zkw1
      by_cases hj : 4 * (n + 4) ≤ j ∧ j < 4 * (n + 4) + 4
      · rw [if_pos hj, if_pos hj, ih (4 * (n + 4 - 4) + (j - 4 * (n + 4))) (by omega), ih (4 * (n + 4 - 1) + (j - 4 * (n + 4))) (by omega)]
      · rw [if_neg hj, if_neg hj]; exact ih j (by omega)
theorem zKX_by {K : Nat → Nat} (hK : ∀ j, j < 16 → K j < 256) : ∀ j, j < 176 → zKX K j < 256 := fun j h => zkS_by hK 40 j (by omega)
theorem zKX_cg {K K' : Nat → Nat} (hK : ∀ j, j < 16 → K j = K' j) : ∀ j, j < 176 → zKX K j = zKX K' j := fun j h => (zkS_cg hK 40).2 j (by omega)
/-- boxed and moved; mixed; a round; all rounds -/
def zmv (s : Nat → Nat) (j : Nat) : Nat := zS (s (4 * ((j / 4 + j % 4) % 4) + j % 4))
def zt (a : Nat) : Nat := zd a ^^^ a
theorem zt_lt : ∀ a, a < 256 → zt a < 256 := by decide +kernel
def zmx (m : Nat → Nat) (j : Nat) : Nat := zd (m (4 * (j / 4) + j % 4)) ^^^ zt (m (4 * (j / 4) + (j % 4 + 1) % 4)) ^^^ m (4 * (j / 4) + (j % 4 + 2) % 4) ^^^ m (4 * (j / 4) + (j % 4 + 3) % 4)
def zrd (W : Nat → Nat) (n : Nat) (s : Nat → Nat) (j : Nat) : Nat := (if n < 10 then zmx (zmv s) j else zmv s j) ^^^ W (16 * n + j)
def zEs (W x : Nat → Nat) : Nat → Nat → Nat
  | 0 => fun j => x j ^^^ W (16 * 0 + j)
  | n + 1 => zrd W (n + 1) (zEs W x n)
theorem zmv_lt {s : Nat → Nat} (h : ∀ j, j < 16 → s j < 256) (j : Nat) (hj : j < 16) : zmv s j < 256 := zS_lt _ (h _ (by omega))
theorem zmx_lt {s : Nat → Nat} (h : ∀ j, j < 16 → s j < 256) (j : Nat) (hj : j < 16) : zmx s j < 256 :=
  z_xor8 (z_xor8 (z_xor8 (zd_lt _ (h _ (by omega))) (zt_lt _ (h _ (by omega)))) (h _ (by omega))) (h _ (by omega))
theorem zmv_cg {s s' : Nat → Nat} (h : ∀ j, j < 16 → s j = s' j) (j : Nat) (hj : j < 16) : zmv s j = zmv s' j := by unfold zmv; rw [h _ (by omega)]
theorem zmx_cg {s s' : Nat → Nat} (h : ∀ j, j < 16 → s j = s' j) (j : Nat) (hj : j < 16) : zmx s j = zmx s' j := by
  unfold zmx; rw [h (4 * (j / 4) + j % 4) (by omega), h (4 * (j / 4) + (j % 4 + 1) % 4) (by omega), h (4 * (j / 4) + (j % 4 + 2) % 4) (by omega), h (4 * (j / 4) + (j % 4 + 3) % 4) (by omega)]
theorem zEs_by {W x : Nat → Nat} (hW : ∀ j, j < 176 → W j < 256) (hx : ∀ j, j < 16 → x j < 256) : ∀ n, n ≤ 10 → ∀ j, j < 16 → zEs W x n j < 256
  | 0, _, j, h => z_xor8 (hx j h) (hW _ (by omega))
  | n + 1, hn, j, h => by
    have ih := zEs_by hW hx n (by omega)
    show zrd W (n + 1) _ j < 256
    unfold zrd
    refine z_xor8 ?_ (hW _ (by omega))
    split
    · exact zmx_lt (zmv_lt ih) j h
    · exact zmv_lt ih j h
theorem zEs_cg {W W' x x' : Nat → Nat} (hW : ∀ j, j < 176 → W j = W' j) (hx : ∀ j, j < 16 → x j = x' j) : ∀ n, n ≤ 10 → ∀ j, j < 16 → zEs W x n j = zEs W' x' n j
  | 0, _, j, h => by show x j ^^^ W _ = x' j ^^^ W' _; rw [hx j h, hW _ (by omega)]
  | n + 1, hn, j, h => by
    have ih := zEs_cg hW hx n (by omega)
    show zrd W (n + 1) _ j = zrd W' (n + 1) _ j
    unfold zrd
    rw [hW _ (by omega), zmx_cg (zmv_cg ih) j h, zmv_cg ih j h]
/-- E(K, X) -/
def zE (K X : Nat → Nat) (j : Nat) : Nat := zEs (zKX K) X 10 j
theorem zE_by {K X : Nat → Nat} (hK : ∀ j, j < 16 → K j < 256) (hX : ∀ j, j < 16 → X j < 256) (j : Nat) (h : j < 16) : zE K X j < 256 := zEs_by (zKX_by hK) hX 10 (by omega) j h
theorem zE_cg {K K' X X' : Nat → Nat} (hK : ∀ j, j < 16 → K j = K' j) (hX : ∀ j, j < 16 → X j = X' j) (j : Nat) (h : j < 16) : zE K X j = zE K' X' j := zEs_cg (zKX_cg hK) hX 10 (by omega) j h
def z_box (A : z_A) (k : Nat) : Prop := ∀ j, j < 256 → A k j = zS j
section
variable {l : Launch} {g : z_G} {ad : Nat → Nat} {A B : z_A}
theorem c_doubled {a : Nat} (ha : a < 256) : z_Met l g ad mC_doubled (z_rm 0) [.int (nI a)] A B (z_eq (some (.int (nI (zd a)))) A B) := by
  refine z_Met.of (L := [(0, _)]) (by decide) (Nat.le_of_ble_eq_true rfl) (z_fit_eq (Or.inl rfl)) rfl ?_
  intro Ex hEx
  refine z_iconst (pc := 0) dC_doubled_0 zi_2 ?_
  refine z_iload_n (pc := 1) dC_doubled_1 rfl rfl ?_
  refine z_imul (pc := 2) dC_doubled_2 ?_
  refine z_istore_n (L' := [(1, _), (0, _)]) (pc := 3) dC_doubled_3 rfl (by decide) rfl ?_
  refine z_iload_n (pc := 4) dC_doubled_4 rfl rfl ?_
  refine z_sipush (pc := 5) dC_doubled_5 zs_255 ?_
  refine z_icmp_le (pc := 8) (by omega) (by omega) (tgt := 19) dC_doubled_8 rfl (fun h1 => ?_) (fun h2 => ?_)
  · refine z_iload_n (pc := 19) dC_doubled_19 rfl rfl ?_
    exact z_reti (pc := 20) dC_doubled_20 (hEx _ _ _ (⟨by first | (rw [zd, if_pos h1]) | (rw [zd, if_neg h2]), rfl, rfl⟩))
  · refine z_iload_n (pc := 11) dC_doubled_11 rfl rfl ?_
    refine z_sipush (pc := 12) dC_doubled_12 zs_283 ?_
    refine z_ixor (pc := 15) dC_doubled_15 ?_
    refine z_goto (pc := 16) (tgt := 20) dC_doubled_16 rfl ?_
    exact z_reti (pc := 20) dC_doubled_20 (hEx _ _ _ (⟨by first | (rw [zd, if_pos h1]) | (rw [zd, if_neg h2]), rfl, rfl⟩))
theorem c_tripled {a : Nat} (ha : a < 256) : z_Met l g ad mC_tripled (z_rm 1) [.int (nI a)] A B (z_eq (some (.int (nI (zt a)))) A B) := by
  refine z_Met.of (L := [(0, _)]) (by decide) (Nat.le_of_ble_eq_true rfl) (z_fit_eq (Or.inl rfl)) rfl ?_
  intro Ex hEx
  refine z_iload_n (pc := 0) dC_tripled_0 rfl rfl ?_
  refine z_callS (pc := 1) (c_doubled ha) (by decide) zc_C_39 rfl rfl (Nat.le_of_ble_eq_true rfl) dC_tripled_1 (fun r A' B' hE => ?_)
  obtain ⟨rfl, rfl, rfl⟩ := hE
  refine z_r1 ?_
  refine z_iload_n (pc := 4) dC_tripled_4 rfl rfl ?_
  refine z_ixor (pc := 5) dC_tripled_5 ?_
  exact z_reti (pc := 6) dC_tripled_6 (hEx _ _ _ (⟨rfl, rfl, rfl⟩))
theorem c_addWords {r : Nat} (hr : r ≤ 10) : z_Met l g ad mC_addWords (z_rm 0) [.ref (ad 14), .int (nI r)] A B (z_eq none (z_map A 17 16 (fun j => A 17 j ^^^ A 16 (16 * r + j))) B) := by
  refine z_Met.of (L := [(0, _), (1, _)]) (by decide) (Nat.le_of_ble_eq_true rfl) (z_fit_eq rfl) rfl ?_
  intro Ex hEx
  refine z_iconst (pc := 0) dC_addWords_0 zi_0 ?_
  refine z_istore_n (L' := [(2, _), (0, _), (1, _)]) (pc := 1) dC_addWords_1 rfl (by decide) rfl ?_
  refine z_wd (z_map_0 A 17 (fun j => A 17 j ^^^ A 16 (16 * r + j))).symm rfl ?_
  refine z_for 16 (fun i => [(2, .int (nI i)), (0, .ref (ad 14)), (1, .int (nI r))]) (fun i => z_map A 17 i (fun j => A 17 j ^^^ A 16 (16 * r + j))) (fun i => B) (fun i hi ki => ?_) ?_
  · refine z_iload_n (pc := 2) dC_addWords_2 rfl rfl ?_
    refine z_bipush (pc := 3) dC_addWords_3 zb_16 ?_
    refine z_icmp_ge (pc := 5) (by omega) (by omega) (tgt := 34) dC_addWords_5 rfl (fun h => by exfalso; omega) (fun h => ?_)
    refine z_aload_n (pc := 8) dC_addWords_8 rfl rfl ?_
    refine z_getR (pc := 9) zo_14 rfl zf_C_22_0 dC_addWords_9 ?_
    refine z_iload_n (pc := 12) dC_addWords_12 rfl rfl ?_
    refine z_dup2 (pc := 13) dC_addWords_13 rfl rfl ?_
    refine z_iaload (pc := 14) za_17 (by omega) dC_addWords_14 ?_
    refine z_aload_n (pc := 15) dC_addWords_15 rfl rfl ?_
    refine z_getR (pc := 16) zo_14 rfl zf_C_19_0 dC_addWords_16 ?_
    refine z_bipush (pc := 19) dC_addWords_19 zb_16 ?_
    refine z_iload_n (pc := 21) dC_addWords_21 rfl rfl ?_
    refine z_imul (pc := 22) dC_addWords_22 ?_
    refine z_iload_n (pc := 23) dC_addWords_23 rfl rfl ?_
    refine z_iadd (pc := 24) dC_addWords_24 ?_
    refine z_iaload (pc := 25) za_16 (by omega) dC_addWords_25 ?_
    refine z_ixor (pc := 26) dC_addWords_26 ?_
    refine z_iastore (pc := 27) za_17 (by omega) dC_addWords_27 ?_
    refine z_iinc (L' := [(2, _), (0, _), (1, _)]) (pc := 28) dC_addWords_28 rfl zi_1 (by decide) rfl ?_
    refine z_goto (pc := 31) (tgt := 2) dC_addWords_31 rfl ?_
    refine z_wd (z_map_set ?_) rfl ki
    rw [z_map_ge (Nat.le_refl _), z_map_ne (by decide)]
  · refine z_iload_n (pc := 2) dC_addWords_2 rfl rfl ?_
    refine z_bipush (pc := 3) dC_addWords_3 zb_16 ?_
    refine z_icmp_ge (pc := 5) (by omega) (by omega) (tgt := 34) dC_addWords_5 rfl (fun h => ?_) (fun h => by exfalso; omega)
    exact z_ret0 (pc := 34) dC_addWords_34 (hEx _ _ _ (⟨rfl, rfl, rfl⟩))
theorem c_makeWord {i : Nat} (h4 : 4 ≤ i) (hi : i < 44) : z_Met l g ad mC_makeWord (z_rm 0) [.ref (ad 14), .int (nI i)] A B (z_eq none (va_up A 16 (zkA (A 16) i)) B) := by
  refine z_Met.of (L := [(0, _), (1, _)]) (by decide) (Nat.le_of_ble_eq_true rfl) (z_fit_eq rfl) rfl ?_
  intro Ex hEx
  refine z_iconst (pc := 0) dC_makeWord_0 zi_0 ?_
  refine z_istore_n (L' := [(2, _), (0, _), (1, _)]) (pc := 1) dC_makeWord_1 rfl (by decide) rfl ?_
  refine z_wd (z_seg_0 A 16 (4 * i) (zkw1 (A 16) i)).symm rfl ?_
  refine z_for 4 (fun r => [(2, .int (nI r)), (0, .ref (ad 14)), (1, .int (nI i))]) (fun r => z_seg A 16 (4 * i) r (zkw1 (A 16) i)) (fun r => B) (fun r hr kr => ?_) ?_
  · refine z_iload_n (pc := 2) dC_makeWord_2 rfl rfl ?_
    refine z_iconst (pc := 3) dC_makeWord_3 zi_4 ?_
    refine z_icmp_ge (pc := 4) (by omega) (by omega) (tgt := 48) dC_makeWord_4 rfl (fun h => by exfalso; omega) (fun h => ?_)
    refine z_aload_n (pc := 7) dC_makeWord_7 rfl rfl ?_
    refine z_getR (pc := 8) zo_14 rfl zf_C_19_0 dC_makeWord_8 ?_
    refine z_iconst (pc := 11) dC_makeWord_11 zi_4 ?_
    refine z_iload_n (pc := 12) dC_makeWord_12 rfl rfl ?_
    refine z_imul (pc := 13) dC_makeWord_13 ?_
    refine z_iload_n (pc := 14) dC_makeWord_14 rfl rfl ?_
    refine z_iadd (pc := 15) dC_makeWord_15 ?_
    refine z_aload_n (pc := 16) dC_makeWord_16 rfl rfl ?_
    refine z_getR (pc := 17) zo_14 rfl zf_C_19_0 dC_makeWord_17 ?_
    refine z_iconst (pc := 20) dC_makeWord_20 zi_4 ?_
    refine z_iload_n (pc := 21) dC_makeWord_21 rfl rfl ?_
    refine z_iconst (pc := 22) dC_makeWord_22 zi_4 ?_
    refine z_isub (pc := 23) dC_makeWord_23 (by omega) ?_
    refine z_imul (pc := 24) dC_makeWord_24 ?_
    refine z_iload_n (pc := 25) dC_makeWord_25 rfl rfl ?_
    refine z_iadd (pc := 26) dC_makeWord_26 ?_
    refine z_iaload (pc := 27) za_16 (by omega) dC_makeWord_27 ?_
    refine z_aload_n (pc := 28) dC_makeWord_28 rfl rfl ?_
    refine z_getR (pc := 29) zo_14 rfl zf_C_19_0 dC_makeWord_29 ?_
    refine z_iconst (pc := 32) dC_makeWord_32 zi_4 ?_
    refine z_iload_n (pc := 33) dC_makeWord_33 rfl rfl ?_
    refine z_iconst (pc := 34) dC_makeWord_34 zi_1 ?_
    refine z_isub (pc := 35) dC_makeWord_35 (by omega) ?_
    refine z_imul (pc := 36) dC_makeWord_36 ?_
    refine z_iload_n (pc := 37) dC_makeWord_37 rfl rfl ?_
    refine z_iadd (pc := 38) dC_makeWord_38 ?_
    refine z_iaload (pc := 39) za_16 (by omega) dC_makeWord_39 ?_
    refine z_ixor (pc := 40) dC_makeWord_40 ?_
    refine z_iastore (pc := 41) za_16 (by omega) dC_makeWord_41 ?_
    refine z_iinc (L' := [(2, _), (0, _), (1, _)]) (pc := 42) dC_makeWord_42 rfl zi_1 (by decide) rfl ?_
    refine z_goto (pc := 45) (tgt := 2) dC_makeWord_45 rfl ?_
    refine z_wd (z_seg_set ?_) rfl kr
    rw [z_seg_out (Or.inl (by omega)), z_seg_out (Or.inl (by omega)), zkw1, Nat.add_sub_cancel_left]
  · refine z_iload_n (pc := 2) dC_makeWord_2 rfl rfl ?_
    refine z_iconst (pc := 3) dC_makeWord_3 zi_4 ?_
    refine z_icmp_ge (pc := 4) (by omega) (by omega) (tgt := 48) dC_makeWord_4 rfl (fun h => ?_) (fun h => by exfalso; omega)
    exact z_ret0 (pc := 48) dC_makeWord_48 (hEx _ _ _ (⟨rfl, rfl, rfl⟩))
theorem z_kB (A : z_A) (k i c : Nat) : z_set (z_seg A k (4 * i) 4 (zkw2 (A k) i)) k (4 * i) (z_seg A k (4 * i) 4 (zkw2 (A k) i) k (4 * i) ^^^ c) = va_up A k (zkB (A k) i c) := by
  funext k' j
  by_cases hk : k' = k
  · subst hk
    by_cases hj : j = 4 * i
    · subst hj
      rw [z_set_at, z_seg_in (Nat.le_refl _) (by omega), va_up_self, zkB, if_pos ⟨Nat.le_refl _, by omega⟩, if_pos rfl]
    · rw [z_set_nj hj, va_up_self, zkB, if_neg hj]
      by_cases h2 : 4 * i ≤ j ∧ j < 4 * i + 4
      · rw [z_seg_in h2.1 h2.2, if_pos h2]
      · rw [z_seg_out (by omega), if_neg h2]
  · rw [z_set_ne hk, z_seg_ne hk, va_up_ne _ _ hk]
theorem c_makeBoxedWord {i c : Nat} (h4 : 4 ≤ i) (hi : i < 44) (hb : z_box A 15) (hw : ∀ j, j < 4 * i → A 16 j < 256) : z_Met l g ad mC_makeBoxedWord (z_rm 0) [.ref (ad 14), .int (nI i), .int (nI c)] A B (z_eq none (va_up A 16 (zkB (A 16) i c)) B) := by
  refine z_Met.of (L := [(0, _), (1, _), (2, _)]) (by decide) (Nat.le_of_ble_eq_true rfl) (z_fit_eq rfl) rfl ?_
  intro Ex hEx
  refine z_iconst (pc := 0) dC_makeBoxedWord_0 zi_0 ?_
  refine z_istore_n (L' := [(3, _), (0, _), (1, _), (2, _)]) (pc := 1) dC_makeBoxedWord_1 rfl (by decide) rfl ?_
  refine z_wd (z_seg_0 A 16 (4 * i) (zkw2 (A 16) i)).symm rfl ?_
  refine z_for 4 (fun r => [(3, .int (nI r)), (0, .ref (ad 14)), (1, .int (nI i)), (2, .int (nI c))]) (fun r => z_seg A 16 (4 * i) r (zkw2 (A 16) i)) (fun r => B) (fun r hr kr => ?_) ?_
  · refine z_iload_n (pc := 2) dC_makeBoxedWord_2 rfl rfl ?_
    refine z_iconst (pc := 3) dC_makeBoxedWord_3 zi_4 ?_
    refine z_icmp_ge (pc := 4) (by omega) (by omega) (tgt := 57) dC_makeBoxedWord_4 rfl (fun h => by exfalso; omega) (fun h => ?_)
    refine z_aload_n (pc := 7) dC_makeBoxedWord_7 rfl rfl ?_
    refine z_getR (pc := 8) zo_14 rfl zf_C_19_0 dC_makeBoxedWord_8 ?_
    refine z_iconst (pc := 11) dC_makeBoxedWord_11 zi_4 ?_
    refine z_iload_n (pc := 12) dC_makeBoxedWord_12 rfl rfl ?_
    refine z_imul (pc := 13) dC_makeBoxedWord_13 ?_
    refine z_iload_n (pc := 14) dC_makeBoxedWord_14 rfl rfl ?_
    refine z_iadd (pc := 15) dC_makeBoxedWord_15 ?_
    refine z_aload_n (pc := 16) dC_makeBoxedWord_16 rfl rfl ?_
    refine z_getR (pc := 17) zo_14 rfl zf_C_19_0 dC_makeBoxedWord_17 ?_
    refine z_iconst (pc := 20) dC_makeBoxedWord_20 zi_4 ?_
    refine z_iload_n (pc := 21) dC_makeBoxedWord_21 rfl rfl ?_
    refine z_iconst (pc := 22) dC_makeBoxedWord_22 zi_4 ?_
    refine z_isub (pc := 23) dC_makeBoxedWord_23 (by omega) ?_
    refine z_imul (pc := 24) dC_makeBoxedWord_24 ?_
    refine z_iload_n (pc := 25) dC_makeBoxedWord_25 rfl rfl ?_
    refine z_iadd (pc := 26) dC_makeBoxedWord_26 ?_
    refine z_iaload (pc := 27) za_16 (by omega) dC_makeBoxedWord_27 ?_
    refine z_aload_n (pc := 28) dC_makeBoxedWord_28 rfl rfl ?_
    refine z_getR (pc := 29) zo_14 rfl zf_C_15_0 dC_makeBoxedWord_29 ?_
    refine z_aload_n (pc := 32) dC_makeBoxedWord_32 rfl rfl ?_
    refine z_getR (pc := 33) zo_14 rfl zf_C_19_0 dC_makeBoxedWord_33 ?_
    refine z_iconst (pc := 36) dC_makeBoxedWord_36 zi_4 ?_
    refine z_iload_n (pc := 37) dC_makeBoxedWord_37 rfl rfl ?_
    refine z_iconst (pc := 38) dC_makeBoxedWord_38 zi_1 ?_
    refine z_isub (pc := 39) dC_makeBoxedWord_39 (by omega) ?_
    refine z_imul (pc := 40) dC_makeBoxedWord_40 ?_
    refine z_iload_n (pc := 41) dC_makeBoxedWord_41 rfl rfl ?_
    refine z_iconst (pc := 42) dC_makeBoxedWord_42 zi_1 ?_
    refine z_iadd (pc := 43) dC_makeBoxedWord_43 ?_
    refine z_iconst (pc := 44) dC_makeBoxedWord_44 zi_4 ?_
    refine z_irem (pc := 45) dC_makeBoxedWord_45 (by omega) (by omega) (by omega) ?_
    refine z_iadd (pc := 46) dC_makeBoxedWord_46 ?_
    refine z_iaload (pc := 47) za_16 (by omega) dC_makeBoxedWord_47 ?_
    refine z_iaload (pc := 48) za_15 (by rw [z_seg_out (Or.inl (by omega))]; exact hw _ (by omega)) dC_makeBoxedWord_48 ?_
    refine z_ixor (pc := 49) dC_makeBoxedWord_49 ?_
    refine z_iastore (pc := 50) za_16 (by omega) dC_makeBoxedWord_50 ?_
    refine z_iinc (L' := [(3, _), (0, _), (1, _), (2, _)]) (pc := 51) dC_makeBoxedWord_51 rfl zi_1 (by decide) rfl ?_
    refine z_goto (pc := 54) (tgt := 2) dC_makeBoxedWord_54 rfl ?_
    refine z_wd (z_seg_set ?_) rfl kr
    rw [z_seg_out (Or.inl (by omega)), z_seg_out (Or.inl (by omega)), z_seg_ne (by decide), hb _ (hw _ (by omega)), zkw2, Nat.add_sub_cancel_left]
  · refine z_iload_n (pc := 2) dC_makeBoxedWord_2 rfl rfl ?_
    refine z_iconst (pc := 3) dC_makeBoxedWord_3 zi_4 ?_
    refine z_icmp_ge (pc := 4) (by omega) (by omega) (tgt := 57) dC_makeBoxedWord_4 rfl (fun h => ?_) (fun h => by exfalso; omega)
    refine z_aload_n (pc := 57) dC_makeBoxedWord_57 rfl rfl ?_
    refine z_getR (pc := 58) zo_14 rfl zf_C_19_0 dC_makeBoxedWord_58 ?_
    refine z_iconst (pc := 61) dC_makeBoxedWord_61 zi_4 ?_
    refine z_iload_n (pc := 62) dC_makeBoxedWord_62 rfl rfl ?_
    refine z_imul (pc := 63) dC_makeBoxedWord_63 ?_
    refine z_dup2 (pc := 64) dC_makeBoxedWord_64 rfl rfl ?_
    refine z_iaload (pc := 65) za_16 (by omega) dC_makeBoxedWord_65 ?_
    refine z_iload_n (pc := 66) dC_makeBoxedWord_66 rfl rfl ?_
    refine z_ixor (pc := 67) dC_makeBoxedWord_67 ?_
    refine z_iastore (pc := 68) za_16 (by omega) dC_makeBoxedWord_68 ?_
    exact z_ret0 (pc := 69) dC_makeBoxedWord_69 (hEx _ _ _ (⟨rfl, (z_kB A 16 i c).symm, rfl⟩))
theorem z_up_up {α : Type} (f : Nat → α) (k : Nat) (x y : α) : va_up (va_up f k x) k y = va_up f k y := by
  funext i
  by_cases h : i = k
  · subst h; rw [va_up_self, va_up_self]
  · rw [va_up_ne _ _ h, va_up_ne _ _ h, va_up_ne _ _ h]
def zW0 (A : z_A) (kk : Nat) : Nat → Nat := fun j => if 0 ≤ j ∧ j < 0 + 16 then A kk (0 + (j - 0)) else A 16 j
theorem zW0_lt {A : z_A} {kk j : Nat} (h : j < 16) : zW0 A kk j = A kk j := by
  unfold zW0
  rw [if_pos ⟨Nat.zero_le _, by omega⟩, Nat.zero_add, Nat.sub_zero]
theorem c_useKey {kk nk : Nat} (hk : z_ia kk nk) (hn : 16 ≤ nk) (hb : z_box A 15) (hK : ∀ j, j < 16 → A kk j < 256) : z_Met l g ad mC_useKey (z_rm 1) [.ref (ad 14), .ref (ad kk)] A B (z_vd (fun A' B' => B = B' ∧ (∀ k, k ≠ 16 → A' k = A k) ∧ ∀ j, j < 176 → A' 16 j = zKX (A kk) j)) := by
  refine z_Met.of (L := [(0, _), (1, _)]) (by decide) (Nat.le_of_ble_eq_true rfl) z_fit_vd rfl ?_
  intro Ex hEx
  have hK0 : ∀ j, j < 16 → zW0 A kk j < 256 := fun j hj => by rw [zW0_lt hj]; exact hK j hj
  refine z_aload_n (pc := 0) dC_useKey_0 rfl rfl ?_
  refine z_iconst (pc := 1) dC_useKey_1 zi_0 ?_
  refine z_aload_n (pc := 2) dC_useKey_2 rfl rfl ?_
  refine z_getR (pc := 3) zo_14 rfl zf_C_19_0 dC_useKey_3 ?_
  refine z_iconst (pc := 6) dC_useKey_6 zi_0 ?_
  refine z_bipush (pc := 7) dC_useKey_7 zb_16 ?_
  refine z_copy (pc := 9) hk za_16 (by omega) (by omega) zy_C_42 (by decide) (Nat.le_of_ble_eq_true rfl) (by decide) dC_useKey_9 ?_
  refine z_iconst (pc := 12) dC_useKey_12 zi_1 ?_
  refine z_istore_n (L' := [(2, _), (0, _), (1, _)]) (pc := 13) dC_useKey_13 rfl (by decide) rfl ?_
  refine z_iconst (pc := 14) dC_useKey_14 zi_4 ?_
  refine z_istore_n (L' := [(3, _), (2, _), (0, _), (1, _)]) (pc := 15) dC_useKey_15 rfl (by decide) rfl ?_
  refine z_wd (A' := va_up A 16 (zkS (zW0 A kk) 0).1) rfl rfl ?_
  refine z_for 40 (fun m => [(3, .int (nI (m + 4))), (2, .int (nI (zkS (zW0 A kk) m).2)), (0, .ref (ad 14)), (1, .ref (ad kk))]) (fun m => va_up A 16 (zkS (zW0 A kk) m).1) (fun m => B) (fun m hm km => ?_) ?_
  · refine z_iload_n (pc := 16) dC_useKey_16 rfl rfl ?_
    refine z_bipush (pc := 17) dC_useKey_17 zb_44 ?_
    refine z_icmp_ge (pc := 19) (by omega) (by omega) (tgt := 53) dC_useKey_19 rfl (fun h => by exfalso; omega) (fun h => ?_)
    refine z_iload_n (pc := 22) dC_useKey_22 rfl rfl ?_
    refine z_iconst (pc := 23) dC_useKey_23 zi_4 ?_
    refine z_irem (pc := 24) dC_useKey_24 (by omega) (by omega) (by omega) ?_
    refine z_if_ne (pc := 25) (by omega) (tgt := 42) dC_useKey_25 rfl (fun h1 => ?_) (fun h1 => ?_)
    · have e : zkS (zW0 A kk) (m + 1) = (zkA (zkS (zW0 A kk) m).1 (m + 4), (zkS (zW0 A kk) m).2) := by rw [zkS, if_neg h1]
      rw [e] at km
      refine z_aload_n (pc := 42) dC_useKey_42 rfl rfl ?_
      refine z_iload_n (pc := 43) dC_useKey_43 rfl rfl ?_
      refine z_callV (pc := 44) (c_makeWord (i := m + 4) (by omega) (by omega)) (by decide) zo_14 rfl zc_C_52 rfl rfl (Nat.le_of_ble_eq_true rfl) dC_useKey_44 (fun r A' B' hE => ?_)
      obtain ⟨rfl, rfl, rfl⟩ := hE
      refine z_r0 ?_
      refine z_iinc (L' := [(3, _), (2, _), (0, _), (1, _)]) (pc := 47) dC_useKey_47 rfl zi_1 (by decide) rfl ?_
      refine z_goto (pc := 50) (tgt := 16) dC_useKey_50 rfl ?_
      refine z_wd ?_ rfl km
      rw [z_up_up, va_up_self]
    · have e : zkS (zW0 A kk) (m + 1) = (zkB (zkS (zW0 A kk) m).1 (m + 4) (zkS (zW0 A kk) m).2, zd (zkS (zW0 A kk) m).2) := by rw [zkS, if_pos h1]
      rw [e] at km
      refine z_aload_n (pc := 28) dC_useKey_28 rfl rfl ?_
      refine z_iload_n (pc := 29) dC_useKey_29 rfl rfl ?_
      refine z_iload_n (pc := 30) dC_useKey_30 rfl rfl ?_
      refine z_callV (pc := 31) (c_makeBoxedWord (i := m + 4) (by omega) (by omega) (fun j hj => by rw [va_up_ne _ _ (by decide)]; exact hb j hj) (fun j hj => by rw [va_up_self]; exact zkS_by hK0 m j hj)) (by decide) zo_14 rfl zc_C_48 rfl rfl (Nat.le_of_ble_eq_true rfl) dC_useKey_31 (fun r A' B' hE => ?_)
      obtain ⟨rfl, rfl, rfl⟩ := hE
      refine z_r0 ?_
      refine z_iload_n (pc := 34) dC_useKey_34 rfl rfl ?_
      refine z_callS (pc := 35) (c_doubled (zkS_c _ _)) (by decide) zc_C_39 rfl rfl (Nat.le_of_ble_eq_true rfl) dC_useKey_35 (fun r A' B' hE => ?_)
      obtain ⟨rfl, rfl, rfl⟩ := hE
      refine z_r1 ?_
      refine z_istore_n (L' := [(2, _), (3, _), (0, _), (1, _)]) (pc := 38) dC_useKey_38 rfl (by decide) rfl ?_
      refine z_goto (pc := 39) (tgt := 47) dC_useKey_39 rfl ?_
      refine z_iinc (L' := [(3, _), (2, _), (0, _), (1, _)]) (pc := 47) dC_useKey_47 rfl zi_1 (by decide) rfl ?_
      refine z_goto (pc := 50) (tgt := 16) dC_useKey_50 rfl ?_
      refine z_wd ?_ rfl km
      rw [z_up_up, va_up_self]
  · refine z_iload_n (pc := 16) dC_useKey_16 rfl rfl ?_
    refine z_bipush (pc := 17) dC_useKey_17 zb_44 ?_
    refine z_icmp_ge (pc := 19) (by omega) (by omega) (tgt := 53) dC_useKey_19 rfl (fun h => ?_) (fun h => by exfalso; omega)
    exact z_ret0 (pc := 53) dC_useKey_53 (hEx _ _ _ (⟨rfl, rfl, fun k hk => va_up_ne _ _ hk, fun j hj => by rw [va_up_self]; exact (zkS_cg (fun j' h' => zW0_lt h') 40).2 j (by omega)⟩))
theorem c_boxAndMove  (hb : z_box A 15) (hs : ∀ j, j < 16 → A 17 j < 256) : z_Met l g ad mC_boxAndMove (z_rm 0) [.ref (ad 14)] A B (z_eq none (z_map A 18 16 (zmv (A 17))) B) := by
  refine z_Met.of (L := [(0, _)]) (by decide) (Nat.le_of_ble_eq_true rfl) (z_fit_eq rfl) rfl ?_
  intro Ex hEx
  refine z_iconst (pc := 0) dC_boxAndMove_0 zi_0 ?_
  refine z_istore_n (L' := [(1, _), (0, _)]) (pc := 1) dC_boxAndMove_1 rfl (by decide) rfl ?_
  refine z_wd (z_map_0 A 18 (zmv (A 17))).symm rfl ?_
  refine z_for 4 (fun c => [(1, .int (nI c)), (0, .ref (ad 14))]) (fun c => z_map A 18 (4 * c) (zmv (A 17))) (fun c => B) (fun c hc kc => ?_) ?_
  · refine z_iload_n (pc := 2) dC_boxAndMove_2 rfl rfl ?_
    refine z_iconst (pc := 3) dC_boxAndMove_3 zi_4 ?_
    refine z_icmp_ge (pc := 4) (by omega) (by omega) (tgt := 55) dC_boxAndMove_4 rfl (fun h => by exfalso; omega) (fun h => ?_)
    refine z_iconst (pc := 7) dC_boxAndMove_7 zi_0 ?_
    refine z_istore_n (L' := [(2, _), (1, _), (0, _)]) (pc := 8) dC_boxAndMove_8 rfl (by decide) rfl ?_
    refine z_for 4 (fun r => [(2, .int (nI r)), (1, .int (nI c)), (0, .ref (ad 14))]) (fun r => z_map A 18 (4 * c + r) (zmv (A 17))) (fun r => B) (fun r hr kr => ?_) ?_
    · refine z_iload_n (pc := 9) dC_boxAndMove_9 rfl rfl ?_
      refine z_iconst (pc := 10) dC_boxAndMove_10 zi_4 ?_
      refine z_icmp_ge (pc := 11) (by omega) (by omega) (tgt := 49) dC_boxAndMove_11 rfl (fun h => by exfalso; omega) (fun h => ?_)
      refine z_aload_n (pc := 14) dC_boxAndMove_14 rfl rfl ?_
      refine z_getR (pc := 15) zo_14 rfl zf_C_25_0 dC_boxAndMove_15 ?_
      refine z_iconst (pc := 18) dC_boxAndMove_18 zi_4 ?_
      refine z_iload_n (pc := 19) dC_boxAndMove_19 rfl rfl ?_
      refine z_imul (pc := 20) dC_boxAndMove_20 ?_
      refine z_iload_n (pc := 21) dC_boxAndMove_21 rfl rfl ?_
      refine z_iadd (pc := 22) dC_boxAndMove_22 ?_
      refine z_aload_n (pc := 23) dC_boxAndMove_23 rfl rfl ?_
      refine z_getR (pc := 24) zo_14 rfl zf_C_15_0 dC_boxAndMove_24 ?_
      refine z_aload_n (pc := 27) dC_boxAndMove_27 rfl rfl ?_
      refine z_getR (pc := 28) zo_14 rfl zf_C_22_0 dC_boxAndMove_28 ?_
      refine z_iconst (pc := 31) dC_boxAndMove_31 zi_4 ?_
      refine z_iload_n (pc := 32) dC_boxAndMove_32 rfl rfl ?_
      refine z_iload_n (pc := 33) dC_boxAndMove_33 rfl rfl ?_
      refine z_iadd (pc := 34) dC_boxAndMove_34 ?_
      refine z_iconst (pc := 35) dC_boxAndMove_35 zi_4 ?_
      refine z_irem (pc := 36) dC_boxAndMove_36 (by omega) (by omega) (by omega) ?_
      refine z_imul (pc := 37) dC_boxAndMove_37 ?_
      refine z_iload_n (pc := 38) dC_boxAndMove_38 rfl rfl ?_
      refine z_iadd (pc := 39) dC_boxAndMove_39 ?_
      refine z_iaload (pc := 40) za_17 (by omega) dC_boxAndMove_40 ?_
      refine z_iaload (pc := 41) za_15 (by rw [z_map_ne (by decide)]; exact hs _ (by omega)) dC_boxAndMove_41 ?_
      refine z_iastore (pc := 42) za_18 (by omega) dC_boxAndMove_42 ?_
      refine z_iinc (L' := [(2, _), (1, _), (0, _)]) (pc := 43) dC_boxAndMove_43 rfl zi_1 (by decide) rfl ?_
      refine z_goto (pc := 46) (tgt := 9) dC_boxAndMove_46 rfl ?_
      refine z_wd (z_map_set ?_) rfl kr
      rw [z_map_ne (by decide), z_map_ne (by decide), hb _ (hs _ (by omega)), zmv, show (4 * c + r) / 4 = c by omega, show (4 * c + r) % 4 = r by omega]
    · refine z_iload_n (pc := 9) dC_boxAndMove_9 rfl rfl ?_
      refine z_iconst (pc := 10) dC_boxAndMove_10 zi_4 ?_
      refine z_icmp_ge (pc := 11) (by omega) (by omega) (tgt := 49) dC_boxAndMove_11 rfl (fun h => ?_) (fun h => by exfalso; omega)
      refine z_iinc (L' := [(1, _), (2, _), (0, _)]) (pc := 49) dC_boxAndMove_49 rfl zi_1 (by decide) rfl ?_
      refine z_goto (pc := 52) (tgt := 2) dC_boxAndMove_52 rfl ?_
      refine z_ls (L' := [(1, _), (0, _)]) [0, 2] rfl ?_
      exact z_wd (by rw [show 4 * (c + 1) = 4 * c + 4 by omega]) rfl kc
  · refine z_iload_n (pc := 2) dC_boxAndMove_2 rfl rfl ?_
    refine z_iconst (pc := 3) dC_boxAndMove_3 zi_4 ?_
    refine z_icmp_ge (pc := 4) (by omega) (by omega) (tgt := 55) dC_boxAndMove_4 rfl (fun h => ?_) (fun h => by exfalso; omega)
    exact z_ret0 (pc := 55) dC_boxAndMove_55 (hEx _ _ _ (⟨rfl, rfl, rfl⟩))
theorem c_mix  (hm : ∀ j, j < 16 → A 18 j < 256) : z_Met l g ad mC_mix (z_rm 2) [.ref (ad 14)] A B (z_eq none (z_map A 17 16 (zmx (A 18))) B) := by
  refine z_Met.of (L := [(0, _)]) (by decide) (Nat.le_of_ble_eq_true rfl) (z_fit_eq rfl) rfl ?_
  intro Ex hEx
  refine z_iconst (pc := 0) dC_mix_0 zi_0 ?_
  refine z_istore_n (L' := [(1, _), (0, _)]) (pc := 1) dC_mix_1 rfl (by decide) rfl ?_
  refine z_wd (z_map_0 A 17 (zmx (A 18))).symm rfl ?_
  refine z_for 4 (fun c => [(1, .int (nI c)), (0, .ref (ad 14))]) (fun c => z_map A 17 (4 * c) (zmx (A 18))) (fun c => B) (fun c hc kc => ?_) ?_
  · refine z_iload_n (pc := 2) dC_mix_2 rfl rfl ?_
    refine z_iconst (pc := 3) dC_mix_3 zi_4 ?_
    refine z_icmp_ge (pc := 4) (by omega) (by omega) (tgt := 97) dC_mix_4 rfl (fun h => by exfalso; omega) (fun h => ?_)
    refine z_iconst (pc := 7) dC_mix_7 zi_0 ?_
    refine z_istore_n (L' := [(2, _), (1, _), (0, _)]) (pc := 8) dC_mix_8 rfl (by decide) rfl ?_
    refine z_for 4 (fun r => [(2, .int (nI r)), (1, .int (nI c)), (0, .ref (ad 14))]) (fun r => z_map A 17 (4 * c + r) (zmx (A 18))) (fun r => B) (fun r hr kr => ?_) ?_
    · refine z_iload_n (pc := 9) dC_mix_9 rfl rfl ?_
      refine z_iconst (pc := 10) dC_mix_10 zi_4 ?_
      refine z_icmp_ge (pc := 11) (by omega) (by omega) (tgt := 91) dC_mix_11 rfl (fun h => by exfalso; omega) (fun h => ?_)
      refine z_aload_n (pc := 14) dC_mix_14 rfl rfl ?_
      refine z_getR (pc := 15) zo_14 rfl zf_C_22_0 dC_mix_15 ?_
      refine z_iconst (pc := 18) dC_mix_18 zi_4 ?_
      refine z_iload_n (pc := 19) dC_mix_19 rfl rfl ?_
      refine z_imul (pc := 20) dC_mix_20 ?_
      refine z_iload_n (pc := 21) dC_mix_21 rfl rfl ?_
      refine z_iadd (pc := 22) dC_mix_22 ?_
      refine z_aload_n (pc := 23) dC_mix_23 rfl rfl ?_
      refine z_getR (pc := 24) zo_14 rfl zf_C_25_0 dC_mix_24 ?_
      refine z_iconst (pc := 27) dC_mix_27 zi_4 ?_
      refine z_iload_n (pc := 28) dC_mix_28 rfl rfl ?_
      refine z_imul (pc := 29) dC_mix_29 ?_
      refine z_iload_n (pc := 30) dC_mix_30 rfl rfl ?_
      refine z_iadd (pc := 31) dC_mix_31 ?_
      refine z_iaload (pc := 32) za_18 (by omega) dC_mix_32 ?_
      refine z_callS (pc := 33) (c_doubled (by rw [z_map_ne (by decide)]; exact hm _ (by omega))) (by decide) zc_C_39 rfl rfl (Nat.le_of_ble_eq_true rfl) dC_mix_33 (fun r A' B' hE => ?_)
      obtain ⟨rfl, rfl, rfl⟩ := hE
      refine z_r1 ?_
      refine z_aload_n (pc := 36) dC_mix_36 rfl rfl ?_
      refine z_getR (pc := 37) zo_14 rfl zf_C_25_0 dC_mix_37 ?_
      refine z_iconst (pc := 40) dC_mix_40 zi_4 ?_
      refine z_iload_n (pc := 41) dC_mix_41 rfl rfl ?_
      refine z_imul (pc := 42) dC_mix_42 ?_
      refine z_iload_n (pc := 43) dC_mix_43 rfl rfl ?_
      refine z_iconst (pc := 44) dC_mix_44 zi_1 ?_
      refine z_iadd (pc := 45) dC_mix_45 ?_
      refine z_iconst (pc := 46) dC_mix_46 zi_4 ?_
      refine z_irem (pc := 47) dC_mix_47 (by omega) (by omega) (by omega) ?_
      refine z_iadd (pc := 48) dC_mix_48 ?_
      refine z_iaload (pc := 49) za_18 (by omega) dC_mix_49 ?_
      refine z_callS (pc := 50) (c_tripled (by rw [z_map_ne (by decide)]; exact hm _ (by omega))) (by decide) zc_C_28 rfl rfl (Nat.le_of_ble_eq_true rfl) dC_mix_50 (fun r A' B' hE => ?_)
      obtain ⟨rfl, rfl, rfl⟩ := hE
      refine z_r1 ?_
      refine z_ixor (pc := 53) dC_mix_53 ?_
      refine z_aload_n (pc := 54) dC_mix_54 rfl rfl ?_
      refine z_getR (pc := 55) zo_14 rfl zf_C_25_0 dC_mix_55 ?_
      refine z_iconst (pc := 58) dC_mix_58 zi_4 ?_
      refine z_iload_n (pc := 59) dC_mix_59 rfl rfl ?_
      refine z_imul (pc := 60) dC_mix_60 ?_
      refine z_iload_n (pc := 61) dC_mix_61 rfl rfl ?_
      refine z_iconst (pc := 62) dC_mix_62 zi_2 ?_
      refine z_iadd (pc := 63) dC_mix_63 ?_
      refine z_iconst (pc := 64) dC_mix_64 zi_4 ?_
      refine z_irem (pc := 65) dC_mix_65 (by omega) (by omega) (by omega) ?_
      refine z_iadd (pc := 66) dC_mix_66 ?_
      refine z_iaload (pc := 67) za_18 (by omega) dC_mix_67 ?_
      refine z_ixor (pc := 68) dC_mix_68 ?_
      refine z_aload_n (pc := 69) dC_mix_69 rfl rfl ?_
      refine z_getR (pc := 70) zo_14 rfl zf_C_25_0 dC_mix_70 ?_
      refine z_iconst (pc := 73) dC_mix_73 zi_4 ?_
      refine z_iload_n (pc := 74) dC_mix_74 rfl rfl ?_
      refine z_imul (pc := 75) dC_mix_75 ?_
      refine z_iload_n (pc := 76) dC_mix_76 rfl rfl ?_
      refine z_iconst (pc := 77) dC_mix_77 zi_3 ?_
      refine z_iadd (pc := 78) dC_mix_78 ?_
      refine z_iconst (pc := 79) dC_mix_79 zi_4 ?_
      refine z_irem (pc := 80) dC_mix_80 (by omega) (by omega) (by omega) ?_
      refine z_iadd (pc := 81) dC_mix_81 ?_
      refine z_iaload (pc := 82) za_18 (by omega) dC_mix_82 ?_
      refine z_ixor (pc := 83) dC_mix_83 ?_
      refine z_iastore (pc := 84) za_17 (by omega) dC_mix_84 ?_
      refine z_iinc (L' := [(2, _), (1, _), (0, _)]) (pc := 85) dC_mix_85 rfl zi_1 (by decide) rfl ?_
      refine z_goto (pc := 88) (tgt := 9) dC_mix_88 rfl ?_
      refine z_wd (z_map_set ?_) rfl kr
      rw [z_map_ne (by decide), zmx, show (4 * c + r) / 4 = c by omega, show (4 * c + r) % 4 = r by omega]
    · refine z_iload_n (pc := 9) dC_mix_9 rfl rfl ?_
      refine z_iconst (pc := 10) dC_mix_10 zi_4 ?_
      refine z_icmp_ge (pc := 11) (by omega) (by omega) (tgt := 91) dC_mix_11 rfl (fun h => ?_) (fun h => by exfalso; omega)
      refine z_iinc (L' := [(1, _), (2, _), (0, _)]) (pc := 91) dC_mix_91 rfl zi_1 (by decide) rfl ?_
      refine z_goto (pc := 94) (tgt := 2) dC_mix_94 rfl ?_
      refine z_ls (L' := [(1, _), (0, _)]) [0, 2] rfl ?_
      exact z_wd (by rw [show 4 * (c + 1) = 4 * c + 4 by omega]) rfl kc
  · refine z_iload_n (pc := 2) dC_mix_2 rfl rfl ?_
    refine z_iconst (pc := 3) dC_mix_3 zi_4 ?_
    refine z_icmp_ge (pc := 4) (by omega) (by omega) (tgt := 97) dC_mix_4 rfl (fun h => ?_) (fun h => by exfalso; omega)
    exact z_ret0 (pc := 97) dC_mix_97 (hEx _ _ _ (⟨rfl, rfl, rfl⟩))
theorem c_encipher {f nf t nt : Nat} {W : Nat → Nat} (hf : z_ia f nf) (hnf : 16 ≤ nf) (ht : z_ia t nt) (hnt : 16 ≤ nt) (ht17 : t ≠ 17) (ht18 : t ≠ 18) (hb : z_box A 15) (hW : ∀ j, j < 176 → A 16 j = W j) (hWb : ∀ j, j < 176 → W j < 256) (hx : ∀ j, j < 16 → A f j < 256) : z_Met l g ad mC_encipher (z_rm 3) [.ref (ad 14), .ref (ad f), .ref (ad t)] A B (z_vd (fun A' B' => B = B' ∧ (∀ k, k ≠ 17 → k ≠ 18 → k ≠ t → A' k = A k) ∧ (∀ j, j < 16 → A' t j = zEs W (A f) 10 j) ∧ ∀ j, 16 ≤ j → A' t j = A t j)) := by
  refine z_Met.of (L := [(0, _), (1, _), (2, _)]) (by decide) (Nat.le_of_ble_eq_true rfl) z_fit_vd rfl ?_
  intro Ex hEx
  refine z_aload_n (pc := 0) dC_encipher_0 rfl rfl ?_
  refine z_iconst (pc := 1) dC_encipher_1 zi_0 ?_
  refine z_aload_n (pc := 2) dC_encipher_2 rfl rfl ?_
  refine z_getR (pc := 3) zo_14 rfl zf_C_22_0 dC_encipher_3 ?_
  refine z_iconst (pc := 6) dC_encipher_6 zi_0 ?_
  refine z_bipush (pc := 7) dC_encipher_7 zb_16 ?_
  refine z_copy (pc := 9) hf za_17 (by omega) (by omega) zy_C_42 (by decide) (Nat.le_of_ble_eq_true rfl) (by decide) dC_encipher_9 ?_
  refine z_aload_n (pc := 12) dC_encipher_12 rfl rfl ?_
  refine z_iconst (pc := 13) dC_encipher_13 zi_0 ?_
  refine z_callV (pc := 14) (c_addWords (r := 0) (by omega)) (by decide) zo_14 rfl zc_C_56 rfl rfl (Nat.le_of_ble_eq_true rfl) dC_encipher_14 (fun r A' B' hE => ?_)
  obtain ⟨rfl, rfl, rfl⟩ := hE
  refine z_r0 ?_
  refine z_iconst (pc := 17) dC_encipher_17 zi_1 ?_
  refine z_istore_n (L' := [(3, _), (0, _), (1, _), (2, _)]) (pc := 18) dC_encipher_18 rfl (by decide) rfl ?_
  refine z_loop 10 (fun m L A' B' => L = [(3, .int (nI (m + 1))), (0, .ref (ad 14)), (1, .ref (ad f)), (2, .ref (ad t))] ∧ B = B' ∧ (∀ k, k ≠ 17 → k ≠ 18 → A' k = A k) ∧ ∀ j, j < 16 → A' 17 j = zEs W (A f) m j) ?_ ?_ _ _ _ ⟨rfl, rfl, ?_, ?_⟩
  · rintro m L A' B' hm ⟨rfl, rfl, hA, hs⟩ km
    have hsb := zEs_by hWb hx m (by omega)
    refine z_iload_n (pc := 19) dC_encipher_19 rfl rfl ?_
    refine z_bipush (pc := 20) dC_encipher_20 zb_10 ?_
    refine z_icmp_gt (pc := 22) (by omega) (by omega) (tgt := 68) dC_encipher_22 rfl (fun h => by exfalso; omega) (fun h => ?_)
    refine z_aload_n (pc := 25) dC_encipher_25 rfl rfl ?_
    refine z_callV (pc := 26) (c_boxAndMove (fun j hj => by rw [hA 15 (by decide) (by decide)]; exact hb j hj) (fun j hj => by rw [hs j hj]; exact hsb j hj)) (by decide) zo_14 rfl zc_C_59 rfl rfl (Nat.le_of_ble_eq_true rfl) dC_encipher_26 (fun r A' B' hE => ?_)
    obtain ⟨rfl, rfl, rfl⟩ := hE
    refine z_r0 ?_
    refine z_iload_n (pc := 29) dC_encipher_29 rfl rfl ?_
    refine z_bipush (pc := 30) dC_encipher_30 zb_10 ?_
    refine z_icmp_ge (pc := 32) (by omega) (by omega) (tgt := 42) dC_encipher_32 rfl (fun h9 => ?_) (fun h9 => ?_)
    · have hR : ∀ j, j < 16 → zEs W (A f) (m + 1) j = zmv (zEs W (A f) m) j ^^^ W (16 * (m + 1) + j) := fun j hj => by show zrd W (m + 1) _ j = _; rw [zrd, if_neg (by omega)]
      refine z_aload_n (pc := 42) dC_encipher_42 rfl rfl ?_
      refine z_getR (pc := 43) zo_14 rfl zf_C_25_0 dC_encipher_43 ?_
      refine z_iconst (pc := 46) dC_encipher_46 zi_0 ?_
      refine z_aload_n (pc := 47) dC_encipher_47 rfl rfl ?_
      refine z_getR (pc := 48) zo_14 rfl zf_C_22_0 dC_encipher_48 ?_
      refine z_iconst (pc := 51) dC_encipher_51 zi_0 ?_
      refine z_bipush (pc := 52) dC_encipher_52 zb_16 ?_
      refine z_copy (pc := 54) za_18 za_17 (by omega) (by omega) zy_C_42 (by decide) (Nat.le_of_ble_eq_true rfl) (by decide) dC_encipher_54 ?_
      refine z_aload_n (pc := 57) dC_encipher_57 rfl rfl ?_
      refine z_iload_n (pc := 58) dC_encipher_58 rfl rfl ?_
      refine z_callV (pc := 59) (c_addWords (r := m + 1) (by omega)) (by decide) zo_14 rfl zc_C_56 rfl rfl (Nat.le_of_ble_eq_true rfl) dC_encipher_59 (fun r A' B' hE => ?_)
      obtain ⟨rfl, rfl, rfl⟩ := hE
      refine z_r0 ?_
      refine z_iinc (L' := [(3, _), (0, _), (1, _), (2, _)]) (pc := 62) dC_encipher_62 rfl zi_1 (by decide) rfl ?_
      refine z_goto (pc := 65) (tgt := 19) dC_encipher_65 rfl ?_
      refine km _ _ _ ⟨rfl, rfl, fun k h17 h18 => by rw [z_map_ne h17, z_seg_ne h17, z_map_ne h18, hA k h17 h18], fun j hj => ?_⟩
      rw [z_map_lt hj, z_seg_ne (i := 16) (by decide), z_map_ne (i := 16) (by decide), hA 16 (by decide) (by decide), hW _ (by omega), hR j hj, z_seg_in (Nat.zero_le _) (by omega), Nat.zero_add, Nat.sub_zero, z_map_lt hj, zmv_cg hs j hj]
    · have hR : ∀ j, j < 16 → zEs W (A f) (m + 1) j = zmx (zmv (zEs W (A f) m)) j ^^^ W (16 * (m + 1) + j) := fun j hj => by show zrd W (m + 1) _ j = _; rw [zrd, if_pos (by omega)]
      refine z_aload_n (pc := 35) dC_encipher_35 rfl rfl ?_
      refine z_callV (pc := 36) (c_mix (fun j hj => by rw [z_map_lt hj]; exact zmv_lt (fun j' h' => by rw [hs j' h']; exact hsb j' h') j hj)) (by decide) zo_14 rfl zc_C_62 rfl rfl (Nat.le_of_ble_eq_true rfl) dC_encipher_36 (fun r A' B' hE => ?_)
      obtain ⟨rfl, rfl, rfl⟩ := hE
      refine z_r0 ?_
      refine z_goto (pc := 39) (tgt := 57) dC_encipher_39 rfl ?_
      refine z_aload_n (pc := 57) dC_encipher_57 rfl rfl ?_
      refine z_iload_n (pc := 58) dC_encipher_58 rfl rfl ?_
      refine z_callV (pc := 59) (c_addWords (r := m + 1) (by omega)) (by decide) zo_14 rfl zc_C_56 rfl rfl (Nat.le_of_ble_eq_true rfl) dC_encipher_59 (fun r A' B' hE => ?_)
      obtain ⟨rfl, rfl, rfl⟩ := hE
      refine z_r0 ?_
      refine z_iinc (L' := [(3, _), (0, _), (1, _), (2, _)]) (pc := 62) dC_encipher_62 rfl zi_1 (by decide) rfl ?_
      refine z_goto (pc := 65) (tgt := 19) dC_encipher_65 rfl ?_
      refine km _ _ _ ⟨rfl, rfl, fun k h17 h18 => by rw [z_map_ne h17, z_map_ne h17, z_map_ne h18, hA k h17 h18], fun j hj => ?_⟩
      rw [z_map_lt hj, z_map_ne (i := 16) (by decide), z_map_ne (i := 16) (by decide), hA 16 (by decide) (by decide), hW _ (by omega), hR j hj, z_map_lt hj, zmx_cg (s' := zmv (zEs W (A f) m)) (fun j' h' => by rw [z_map_lt h']; exact zmv_cg hs j' h') j hj]
  · rintro L A' B' ⟨rfl, rfl, hA, hs⟩
    refine z_iload_n (pc := 19) dC_encipher_19 rfl rfl ?_
    refine z_bipush (pc := 20) dC_encipher_20 zb_10 ?_
    refine z_icmp_gt (pc := 22) (by omega) (by omega) (tgt := 68) dC_encipher_22 rfl (fun h => ?_) (fun h => by exfalso; omega)
    refine z_aload_n (pc := 68) dC_encipher_68 rfl rfl ?_
    refine z_getR (pc := 69) zo_14 rfl zf_C_22_0 dC_encipher_69 ?_
    refine z_iconst (pc := 72) dC_encipher_72 zi_0 ?_
    refine z_aload_n (pc := 73) dC_encipher_73 rfl rfl ?_
    refine z_iconst (pc := 74) dC_encipher_74 zi_0 ?_
    refine z_bipush (pc := 75) dC_encipher_75 zb_16 ?_
    refine z_copy (pc := 77) za_17 ht (by omega) (by omega) zy_C_42 (by decide) (Nat.le_of_ble_eq_true rfl) (by decide) dC_encipher_77 ?_
    exact z_ret0 (pc := 80) dC_encipher_80 (hEx _ _ _ (⟨rfl, rfl, fun k h17 h18 hk => by rw [z_seg_ne hk, hA k h17 h18], fun j hj => by rw [z_seg_in (Nat.zero_le _) (by omega), Nat.zero_add, Nat.sub_zero, hs j hj], fun j hj => by rw [z_seg_out (Or.inr (by omega)), hA t ht17 ht18]⟩))
  · intro k h17 h18
    rw [z_map_ne h17, z_seg_ne h17]
  · intro j hj
    rw [z_map_lt hj, z_seg_ne (i := 16) (by decide), hW _ (by omega), z_seg_in (Nat.zero_le _) (by omega), Nat.zero_add, Nat.sub_zero]
    rfl
end
