theorem z_fitb {p : Prop} {dp : Decidable p} : z_fit (some .boolean) (some (.int (nI (@ite Nat p dp 1 0)))) := by
  refine Or.inr ⟨rfl, ?_⟩
  by_cases h : p
  · rw [if_pos h]; rfl
  · rw [if_neg h]; rfl
theorem z_lge {a : Nat} (h : a < 2 ^ 64) : lN 0 ≤ lN a ↔ a < 2 ^ 63 := by
  have e0 : (lN 0).toInt = 0 := by decide
  rw [Int64.le_iff_toInt_le, lN_ti h, e0]
  by_cases h2 : a < 2 ^ 63
  · rw [if_pos h2]; exact ⟨fun _ => h2, fun _ => by omega⟩
  · rw [if_neg h2]; exact ⟨fun q => by omega, fun q => absurd q h2⟩
section
variable {l : Launch} {g : z_G} {ad : Nat → Nat} {A B : z_A}
theorem c_hasRoomFor {k kb n w : Nat} (ho : z_ob k 2 [(2, kb), (0, 0)]) (hb : z_ia kb n) (hw : w < 2 ^ 31) : z_Met l g ad mR_hasRoomFor (z_rm 0) [.ref (ad k), .int (nI w)] A B (z_eq (some (.int (nI (if w ≤ n then 1 else 0)))) A B) := by
  refine z_Met.of (L := [(0, _), (1, _)]) (by decide) (Nat.le_of_ble_eq_true rfl) (z_fit_eq z_fitb) rfl ?_
  intro Ex hEx
  have hn := hb.2.2
  refine z_iload_n (pc := 0) dR_hasRoomFor_0 rfl rfl ?_
  refine z_aload_n (pc := 1) dR_hasRoomFor_1 rfl rfl ?_
  refine z_getR (pc := 2) ho rfl zf_R_7_2 dR_hasRoomFor_2 ?_
  refine z_alen (pc := 5) hb dR_hasRoomFor_5 ?_
  refine z_icmp_gt (pc := 6) (by omega) (by omega) (tgt := 13) dR_hasRoomFor_6 rfl (fun h1 => ?_) (fun h2 => ?_)
  · refine z_iconst (pc := 13) dR_hasRoomFor_13 zi_0 ?_
    exact z_reti (pc := 14) dR_hasRoomFor_14 (hEx _ _ _ (⟨by first | rw [if_neg (by omega)] | rw [if_pos (by omega)], rfl, rfl⟩))
  · refine z_iconst (pc := 9) dR_hasRoomFor_9 zi_1 ?_
    refine z_goto (pc := 10) (tgt := 14) dR_hasRoomFor_10 rfl ?_
    exact z_reti (pc := 14) dR_hasRoomFor_14 (hEx _ _ _ (⟨by first | rw [if_neg (by omega)] | rw [if_pos (by omega)], rfl, rfl⟩))
theorem c_has1 {k kb n i : Nat} (ho : z_ob k 2 [(2, kb), (0, 0)]) (hb : z_ia kb n) (hi : i < A k 1) (hl : A k 1 < 2 ^ 31) : z_Met l g ad mR_has (z_rm 0) [.ref (ad k), .int (nI i)] A B (z_eq (some (.int (nI 1))) A B) := by
  refine z_Met.of (L := [(0, _), (1, _)]) (by decide) (Nat.le_of_ble_eq_true rfl) (z_fit_eq (Or.inr ⟨rfl, rfl⟩)) rfl ?_
  intro Ex hEx
  refine z_iload_n (pc := 0) dR_has_0 rfl rfl ?_
  refine z_if_lt (pc := 1) (by omega) (tgt := 16) dR_has_1 rfl (fun h => by exfalso; omega) (fun h => ?_)
  refine z_iload_n (pc := 4) dR_has_4 rfl rfl ?_
  refine z_aload_n (pc := 5) dR_has_5 rfl rfl ?_
  refine z_getI (pc := 6) ho rfl zf_R_13_2 dR_has_6 ?_
  refine z_icmp_ge (pc := 9) (by omega) (by omega) (tgt := 16) dR_has_9 rfl (fun h => by exfalso; omega) (fun h => ?_)
  refine z_iconst (pc := 12) dR_has_12 zi_1 ?_
  refine z_goto (pc := 13) (tgt := 17) dR_has_13 rfl ?_
  exact z_reti (pc := 17) dR_has_17 (hEx _ _ _ (⟨rfl, rfl, rfl⟩))
theorem c_has0 {k kb n : Nat} {x : Int32} (ho : z_ob k 2 [(2, kb), (0, 0)]) (hb : z_ia kb n) (hx : x < 0 ∨ nI (A k 1) ≤ x) : z_Met l g ad mR_has (z_rm 0) [.ref (ad k), .int x] A B (z_eq (some (.int (nI 0))) A B) := by
  refine z_Met.of (L := [(0, _), (1, _)]) (by decide) (Nat.le_of_ble_eq_true rfl) (z_fit_eq (Or.inr ⟨rfl, rfl⟩)) rfl ?_
  intro Ex hEx
  refine z_iload_n (pc := 0) dR_has_0 rfl rfl ?_
  refine z_ifX_lt (pc := 1) (tgt := 16) dR_has_1 rfl (fun h1 => ?_) (fun h1 => ?_)
  · refine z_iconst (pc := 16) dR_has_16 zi_0 ?_
    exact z_reti (pc := 17) dR_has_17 (hEx _ _ _ (⟨rfl, rfl, rfl⟩))
  · refine z_iload_n (pc := 4) dR_has_4 rfl rfl ?_
    refine z_aload_n (pc := 5) dR_has_5 rfl rfl ?_
    refine z_getI (pc := 6) ho rfl zf_R_13_2 dR_has_6 ?_
    refine z_icmpX_ge (pc := 9) (tgt := 16) dR_has_9 rfl (fun h => ?_) (fun h => absurd (hx.resolve_left h1) h)
    refine z_iconst (pc := 16) dR_has_16 zi_0 ?_
    exact z_reti (pc := 17) dR_has_17 (hEx _ _ _ (⟨rfl, rfl, rfl⟩))
theorem c_append {k kb n v : Nat} (ho : z_ob k 2 [(2, kb), (0, 0)]) (hb : z_ia kb n) (hl : A k 1 < n) : z_Met l g ad mR_append (z_rm 0) [.ref (ad k), .int (nI v)] A B (z_eq none (z_set (z_set A kb (A k 1) v) k 1 (z_set A kb (A k 1) v k 1 + 1)) B) := by
  refine z_Met.of (L := [(0, _), (1, _)]) (by decide) (Nat.le_of_ble_eq_true rfl) (z_fit_eq rfl) rfl ?_
  intro Ex hEx
  refine z_aload_n (pc := 0) dR_append_0 rfl rfl ?_
  refine z_getR (pc := 1) ho rfl zf_R_7_2 dR_append_1 ?_
  refine z_aload_n (pc := 4) dR_append_4 rfl rfl ?_
  refine z_getI (pc := 5) ho rfl zf_R_13_2 dR_append_5 ?_
  refine z_iload_n (pc := 8) dR_append_8 rfl rfl ?_
  refine z_iastore (pc := 9) hb (by omega) dR_append_9 ?_
  refine z_aload_n (pc := 10) dR_append_10 rfl rfl ?_
  refine z_dup (pc := 11) dR_append_11 rfl ?_
  refine z_getI (pc := 12) ho rfl zf_R_13_2 dR_append_12 ?_
  refine z_iconst (pc := 15) dR_append_15 zi_1 ?_
  refine z_iadd (pc := 16) dR_append_16 ?_
  refine z_putI (pc := 17) ho rfl zp_R_13_2 dR_append_17 ?_
  exact z_ret0 (pc := 20) dR_append_20 (hEx _ _ _ (⟨rfl, rfl, rfl⟩))
theorem c_become {k kb n k2 kb2 n2 : Nat} (ho : z_ob k 2 [(2, kb), (0, 0)]) (hb : z_ia kb n) (ho2 : z_ob k2 2 [(2, kb2), (0, 0)]) (hb2 : z_ia kb2 n2) (h1 : A k2 1 ≤ n) (h2 : A k2 1 ≤ n2) : z_Met l g ad mR_become (z_rm 1) [.ref (ad k), .ref (ad k2)] A B (z_eq none (z_set (z_seg A kb 0 (A k2 1) (fun j => A kb2 (0 + (j - 0)))) k 1 ((z_seg A kb 0 (A k2 1) (fun j => A kb2 (0 + (j - 0)))) k2 1)) B) := by
  refine z_Met.of (L := [(0, _), (1, _)]) (by decide) (Nat.le_of_ble_eq_true rfl) (z_fit_eq rfl) rfl ?_
  intro Ex hEx
  refine z_aload_n (pc := 0) dR_become_0 rfl rfl ?_
  refine z_getR (pc := 1) ho2 rfl zf_R_7_2 dR_become_1 ?_
  refine z_iconst (pc := 4) dR_become_4 zi_0 ?_
  refine z_aload_n (pc := 5) dR_become_5 rfl rfl ?_
  refine z_getR (pc := 6) ho rfl zf_R_7_2 dR_become_6 ?_
  refine z_iconst (pc := 9) dR_become_9 zi_0 ?_
  refine z_aload_n (pc := 10) dR_become_10 rfl rfl ?_
  refine z_getI (pc := 11) ho2 rfl zf_R_13_2 dR_become_11 ?_
  refine z_copy (pc := 14) hb2 hb (by omega) (by omega) zy_R_17 (by decide) (Nat.le_of_ble_eq_true rfl) (by decide) dR_become_14 ?_
  refine z_aload_n (pc := 17) dR_become_17 rfl rfl ?_
  refine z_aload_n (pc := 18) dR_become_18 rfl rfl ?_
  refine z_getI (pc := 19) ho2 rfl zf_R_13_2 dR_become_19 ?_
  refine z_putI (pc := 22) ho rfl zp_R_13_2 dR_become_22 ?_
  exact z_ret0 (pc := 25) dR_become_25 (hEx _ _ _ (⟨rfl, rfl, rfl⟩))
def zHf (kl : Nat) : List (Nat × Nat) := [(0, 0), (0, 0), (1, 0), (1, 0), (2, kl), (1, 0), (1, 0), (1, 0), (1, 0)]
theorem c_readHalf {k kl c n fr len mr : Nat} (ho : z_ob k 1 (zHf kl)) (hc : z_ia c n) (hlen : len ≤ n) (hfr : fr < 2 ^ 30) (hby : ∀ j, j < len → A c j < 256) (h1 : A k 1 = mr) (hm : zmr mr) : z_Met l g ad mH_readHalf (z_rm 0) [.ref (ad k), .ref (ad c), .int (nI fr), .int (nI len)] A B (z_eq (some (.long (lN (zbits (zp mr (A c) fr len) 64)))) A B) := by
  refine z_Met.of (L := [(0, _), (1, _), (2, _), (3, _)]) (by decide) (Nat.le_of_ble_eq_true rfl) (z_fit_eq rfl) rfl ?_
  intro Ex hEx
  subst h1
  refine z_lconst (pc := 0) dH_readHalf_0 zl_0 ?_
  refine z_lstore (L' := [(4, _), (0, _), (1, _), (2, _), (3, _)]) (pc := 1) dH_readHalf_1 (by decide) rfl ?_
  refine z_iconst (pc := 3) dH_readHalf_3 zi_0 ?_
  refine z_istore (L' := [(6, _), (4, _), (0, _), (1, _), (2, _), (3, _)]) (pc := 4) dH_readHalf_4 (by decide) rfl ?_
  have hn := hc.2.2
  refine z_for (min 64 (8 * (len - fr))) (fun i => [(6, .int (nI i)), (4, .long (lN (zbits (zp (A k 1) (A c) fr len) i))), (0, .ref (ad k)), (1, .ref (ad c)), (2, .int (nI fr)), (3, .int (nI len))]) (fun i => A) (fun i => B) (fun i hi ki => ?_) ?_
  · refine z_iload (pc := 6) dH_readHalf_6 rfl ?_
    refine z_bipush (pc := 8) dH_readHalf_8 zb_64 ?_
    refine z_icmp_ge (pc := 10) (by omega) (by omega) (tgt := 65) dH_readHalf_10 rfl (fun h => by exfalso; omega) (fun h => ?_)
    refine z_iload_n (pc := 13) dH_readHalf_13 rfl rfl ?_
    refine z_iload (pc := 14) dH_readHalf_14 rfl ?_
    refine z_bipush (pc := 16) dH_readHalf_16 zb_8 ?_
    refine z_idiv (pc := 18) dH_readHalf_18 (by omega) (by omega) (by omega) ?_
    refine z_iadd (pc := 19) dH_readHalf_19 ?_
    refine z_iload_n (pc := 20) dH_readHalf_20 rfl rfl ?_
    refine z_icmp_ge (pc := 21) (by omega) (by omega) (tgt := 65) dH_readHalf_21 rfl (fun h => by exfalso; omega) (fun h => ?_)
    refine z_aload_n (pc := 24) dH_readHalf_24 rfl rfl ?_
    refine z_iload_n (pc := 25) dH_readHalf_25 rfl rfl ?_
    refine z_iload (pc := 26) dH_readHalf_26 rfl ?_
    refine z_bipush (pc := 28) dH_readHalf_28 zb_8 ?_
    refine z_idiv (pc := 30) dH_readHalf_30 (by omega) (by omega) (by omega) ?_
    refine z_iadd (pc := 31) dH_readHalf_31 ?_
    refine z_iaload (pc := 32) hc (by omega) dH_readHalf_32 ?_
    refine z_iload (pc := 33) dH_readHalf_33 rfl ?_
    refine z_bipush (pc := 35) dH_readHalf_35 zb_8 ?_
    refine z_irem (pc := 37) dH_readHalf_37 (by omega) (by omega) (by omega) ?_
    refine z_aload_n (pc := 38) dH_readHalf_38 rfl rfl ?_
    refine z_getI (pc := 39) ho rfl zf_H_15_1 dH_readHalf_39 ?_
    refine z_ixor (pc := 42) dH_readHalf_42 ?_
    refine z_ishr (pc := 43) dH_readHalf_43 (by have := hby (fr + i / 8) (by omega); omega) (by have := zmr_lt hm (Nat.mod_lt i (by decide : 0 < 8)); omega) ?_
    refine z_iconst (pc := 44) dH_readHalf_44 zi_1 ?_
    refine z_iand (pc := 45) dH_readHalf_45 ?_
    refine z_top (congrArg (fun x => Value.int (nI x)) (show _ = ((zp (A k 1) (A c) fr len) i).toNat from (by rw [z_tb1, zp, decide_eq_true (show fr + i / 8 < len by omega), Bool.true_and]))) ?_
    refine z_i2l (pc := 46) dH_readHalf_46 (by have := Bool.toNat_lt ((zp (A k 1) (A c) fr len) i); omega) ?_
    refine z_lstore (L' := [(7, _), (6, _), (4, _), (0, _), (1, _), (2, _), (3, _)]) (pc := 47) dH_readHalf_47 (by decide) rfl ?_
    refine z_lload (pc := 49) dH_readHalf_49 rfl ?_
    refine z_lload (pc := 51) dH_readHalf_51 rfl ?_
    refine z_iload (pc := 53) dH_readHalf_53 rfl ?_
    refine z_lshl (pc := 55) dH_readHalf_55 (by omega) ?_
    refine z_lor (pc := 56) dH_readHalf_56 ?_
    refine z_lstore (L' := [(4, _), (7, _), (6, _), (0, _), (1, _), (2, _), (3, _)]) (pc := 57) dH_readHalf_57 (by decide) rfl ?_
    refine z_iinc (L' := [(6, _), (4, _), (7, _), (0, _), (1, _), (2, _), (3, _)]) (pc := 59) dH_readHalf_59 rfl zi_1 (by decide) rfl ?_
    refine z_goto (pc := 62) (tgt := 6) dH_readHalf_62 rfl ?_
    refine z_ls (L' := [(6, _), (4, _), (0, _), (1, _), (2, _), (3, _)]) [0, 1, 3, 4, 5, 6] rfl ?_
    exact ki
  · refine z_iload (pc := 6) dH_readHalf_6 rfl ?_
    refine z_bipush (pc := 8) dH_readHalf_8 zb_64 ?_
    refine z_icmp_ge (pc := 10) (by omega) (by omega) (tgt := 65) dH_readHalf_10 rfl (fun h5 => ?_) (fun h5 => ?_)
    · refine z_lload (pc := 65) dH_readHalf_65 rfl ?_
      exact z_retl (pc := 67) dH_readHalf_67 (hEx _ _ _ (⟨by rw [zbits_ext (n := min 64 (8 * (len - fr))) (by omega) (fun i h6 h7 => by rw [zp, decide_eq_false (by omega), Bool.false_and])], rfl, rfl⟩))
    · refine z_iload_n (pc := 13) dH_readHalf_13 rfl rfl ?_
      refine z_iload (pc := 14) dH_readHalf_14 rfl ?_
      refine z_bipush (pc := 16) dH_readHalf_16 zb_8 ?_
      refine z_idiv (pc := 18) dH_readHalf_18 (by omega) (by omega) (by omega) ?_
      refine z_iadd (pc := 19) dH_readHalf_19 ?_
      refine z_iload_n (pc := 20) dH_readHalf_20 rfl rfl ?_
      refine z_icmp_ge (pc := 21) (by omega) (by omega) (tgt := 65) dH_readHalf_21 rfl (fun h => ?_) (fun h => by exfalso; omega)
      refine z_lload (pc := 65) dH_readHalf_65 rfl ?_
      exact z_retl (pc := 67) dH_readHalf_67 (hEx _ _ _ (⟨by rw [zbits_ext (n := min 64 (8 * (len - fr))) (by omega) (fun i h6 h7 => by rw [zp, decide_eq_false (by omega), Bool.false_and])], rfl, rfl⟩))
theorem z_dbl {th tl : Nat} (h1 : th < 2 ^ 64) (h2 : tl < 2 ^ 64) : lN (th * 2 ^ 1 ||| tl / 2 ^ 63) = lN (zth th tl) := by
  rw [wb_mod]
  congr 1
  have h3 : tl / 2 ^ 63 < 2 ^ 1 := by omega
  rw [show th * 2 ^ 1 = 2 ^ 1 * th by omega, ← Nat.two_pow_add_eq_or_of_lt h3 th]
  rfl
/-- only the hasher's key and sum have changed -/
def z_hB (B B' : z_A) (k : Nat) : Prop := ∀ k' f, k' ≠ k ∨ f < 5 → B' k' f = B k' f
theorem z_hB.rf {B : z_A} {k : Nat} : z_hB B B k := fun _ _ _ => rfl
theorem z_hB.tr {B B' B'' : z_A} {k : Nat} (h : z_hB B B' k) (h' : z_hB B' B'' k) : z_hB B B'' k := fun k' f q => (h' k' f q).trans (h k' f q)
theorem z_hB.set {B B' : z_A} {k f x : Nat} (h : z_hB B B' k) (hf : 5 ≤ f) : z_hB B (z_set B' k f x) k := by
  intro k' f' q
  rw [← h k' f' q]
  by_cases e : k' = k
  · subst e; exact z_set_nj (by omega)
  · rw [z_set_ne e]
/-- the hasher's own constants -/
def z_hw (A B : z_A) (k o mr ov : Nat) : Prop := A k 0 = o ∧ A k 1 = mr ∧ zmr mr ∧ B k 2 < 2 ^ 64 ∧ B k 3 < 2 ^ 64 ∧ 2 ^ 64 * B k 2 + B k 3 = ov
theorem z_hw.mv {A A' B B' : z_A} {k o mr ov : Nat} (h : z_hw A B k o mr ov) (hA : A' k = A k) (hB : z_hB B B' k) : z_hw A' B' k o mr ov := by
  obtain ⟨h0, h1, hm, h2, h3, h4⟩ := h
  refine ⟨by rw [hA]; exact h0, by rw [hA]; exact h1, hm, ?_, ?_, ?_⟩
  · rw [hB k 2 (Or.inr (by decide))]; exact h2
  · rw [hB k 3 (Or.inr (by decide))]; exact h3
  · rw [hB k 2 (Or.inr (by decide)), hB k 3 (Or.inr (by decide))]; exact h4
/-- its key H and its sum S -/
def z_hk (B : z_A) (k H S : Nat) : Prop := B k 5 < 2 ^ 64 ∧ B k 6 < 2 ^ 64 ∧ B k 7 < 2 ^ 64 ∧ B k 8 < 2 ^ 64 ∧ 2 ^ 64 * B k 5 + B k 6 = H ∧ 2 ^ 64 * B k 7 + B k 8 = S
theorem z_hk.lt {B : z_A} {k H S : Nat} (h : z_hk B k H S) : H < 2 ^ 128 ∧ S < 2 ^ 128 := by
  obtain ⟨h5, h6, h7, h8, e1, e2⟩ := h
  omega
theorem z_hk.s78 {B : z_A} {k H S x y : Nat} (h : z_hk B k H S) (hx : x < 2 ^ 64) (hy : y < 2 ^ 64) : z_hk (z_set (z_set B k 7 x) k 8 y) k H (2 ^ 64 * x + y) := by
  obtain ⟨h5, h6, h7, h8, e1, e2⟩ := h
  have a5 : z_set (z_set B k 7 x) k 8 y k 5 = B k 5 := by rw [z_set_nj (by decide), z_set_nj (by decide)]
  have a6 : z_set (z_set B k 7 x) k 8 y k 6 = B k 6 := by rw [z_set_nj (by decide), z_set_nj (by decide)]
  have a7 : z_set (z_set B k 7 x) k 8 y k 7 = x := by rw [z_set_nj (by decide), z_set_at]
  have a8 : z_set (z_set B k 7 x) k 8 y k 8 = y := z_set_at
  unfold z_hk
  rw [a5, a6, a7, a8]
  exact ⟨h5, h6, hx, hy, e1, rfl⟩
theorem z_hk.s87 {B : z_A} {k H S x y : Nat} (h : z_hk B k H S) (hx : x < 2 ^ 64) (hy : y < 2 ^ 64) : z_hk (z_set (z_set B k 8 y) k 7 x) k H (2 ^ 64 * x + y) := by
  obtain ⟨h5, h6, h7, h8, e1, e2⟩ := h
  have a5 : z_set (z_set B k 8 y) k 7 x k 5 = B k 5 := by rw [z_set_nj (by decide), z_set_nj (by decide)]
  have a6 : z_set (z_set B k 8 y) k 7 x k 6 = B k 6 := by rw [z_set_nj (by decide), z_set_nj (by decide)]
  have a8 : z_set (z_set B k 8 y) k 7 x k 8 = y := by rw [z_set_nj (by decide), z_set_at]
  have a7 : z_set (z_set B k 8 y) k 7 x k 7 = x := z_set_at
  unfold z_hk
  rw [a5, a6, a7, a8]
  exact ⟨h5, h6, hx, hy, e1, rfl⟩
theorem z_hk.s56 {B : z_A} {k H S x y : Nat} (h : z_hk B k H S) (hx : x < 2 ^ 64) (hy : y < 2 ^ 64) : z_hk (z_set (z_set B k 5 x) k 6 y) k (2 ^ 64 * x + y) S := by
  obtain ⟨h5, h6, h7, h8, e1, e2⟩ := h
  have a7 : z_set (z_set B k 5 x) k 6 y k 7 = B k 7 := by rw [z_set_nj (by decide), z_set_nj (by decide)]
  have a8 : z_set (z_set B k 5 x) k 6 y k 8 = B k 8 := by rw [z_set_nj (by decide), z_set_nj (by decide)]
  have a5 : z_set (z_set B k 5 x) k 6 y k 5 = x := by rw [z_set_nj (by decide), z_set_at]
  have a6 : z_set (z_set B k 5 x) k 6 y k 6 = y := z_set_at
  unfold z_hk
  rw [a5, a6, a7, a8]
  exact ⟨hx, hy, h7, h8, rfl, e2⟩
theorem c_mul {k kl o mr ov H S : Nat} (ho : z_ob k 1 (zHf kl)) (hw : z_hw A B k o mr ov) (hq : z_hk B k H S) : z_Met l g ad mH_multiplySumByKey (z_rm 0) [.ref (ad k)] A B (z_vd (fun A' B' => A = A' ∧ z_hB B B' k ∧ z_hk B' k H (zmul ov S H))) := by
  refine z_Met.of (L := [(0, _)]) (by decide) (Nat.le_of_ble_eq_true rfl) z_fit_vd rfl ?_
  intro Ex hEx
  obtain ⟨h0, h1, hm, h2, h3, rfl⟩ := hw
  obtain ⟨h5, h6, h7, h8, rfl, rfl⟩ := hq
  refine z_aload_n (pc := 0) dH_multiplySumByKey_0 rfl rfl ?_
  refine z_getJ (pc := 1) ho rfl zf_H_38_1 dH_multiplySumByKey_1 ?_
  refine z_lstore_n (L' := [(1, _), (0, _)]) (pc := 4) dH_multiplySumByKey_4 rfl (by decide) rfl ?_
  refine z_aload_n (pc := 5) dH_multiplySumByKey_5 rfl rfl ?_
  refine z_getJ (pc := 6) ho rfl zf_H_41_1 dH_multiplySumByKey_6 ?_
  refine z_lstore_n (L' := [(3, _), (1, _), (0, _)]) (pc := 9) dH_multiplySumByKey_9 rfl (by decide) rfl ?_
  refine z_lconst (pc := 10) dH_multiplySumByKey_10 zl_0 ?_
  refine z_lstore (L' := [(5, _), (3, _), (1, _), (0, _)]) (pc := 11) dH_multiplySumByKey_11 (by decide) rfl ?_
  refine z_lconst (pc := 13) dH_multiplySumByKey_13 zl_0 ?_
  refine z_lstore (L' := [(7, _), (5, _), (3, _), (1, _), (0, _)]) (pc := 14) dH_multiplySumByKey_14 (by decide) rfl ?_
  refine z_iconst (pc := 16) dH_multiplySumByKey_16 zi_0 ?_
  refine z_istore (L' := [(9, _), (7, _), (5, _), (3, _), (1, _), (0, _)]) (pc := 17) dH_multiplySumByKey_17 (by decide) rfl ?_
  refine z_loop 128 (fun i L A' B' => A = A' ∧ B = B' ∧ ∃ th tl ph pl, th < 2 ^ 64 ∧ tl < 2 ^ 64 ∧ ph < 2 ^ 64 ∧ pl < 2 ^ 64 ∧ 2 ^ 64 * th + tl = zx (2 ^ 64 * B k 2 + B k 3) (2 ^ 64 * B k 5 + B k 6) i ∧ 2 ^ 64 * ph + pl = zml (2 ^ 64 * B k 2 + B k 3) (2 ^ 64 * B k 7 + B k 8) (2 ^ 64 * B k 5 + B k 6) i ∧ L = [(9, .int (nI i)), (7, .long (lN pl)), (5, .long (lN ph)), (3, .long (lN tl)), (1, .long (lN th)), (0, .ref (ad k))]) ?_ ?_ _ _ _ ⟨rfl, rfl, _, _, 0, 0, h5, h6, by decide, by decide, rfl, rfl, rfl⟩
  · rintro i L A' B' hi ⟨rfl, rfl, th, tl, ph, pl, hth, htl, hph, hpl, hT, hP, rfl⟩ ki
    have J3 : ∀ th' tl', th' < 2 ^ 64 → tl' < 2 ^ 64 → 2 ^ 64 * th' + tl' = zx (2 ^ 64 * B k 2 + B k 3) (2 ^ 64 * B k 5 + B k 6) (i + 1) → ∀ ph' pl', ph' < 2 ^ 64 → pl' < 2 ^ 64 → 2 ^ 64 * ph' + pl' = zml (2 ^ 64 * B k 2 + B k 3) (2 ^ 64 * B k 7 + B k 8) (2 ^ 64 * B k 5 + B k 6) (i + 1) → z_R l g ad mH_multiplySumByKey (z_rm 0) Ex 0 0  119 [(9, .int (nI i)), (7, .long (lN pl')), (5, .long (lN ph')), (3, .long (lN tl')), (1, .long (lN th')), (0, .ref (ad k))] [] A B := by
      intro th' tl' h1 h2 h3 ph' pl' h4 h5 h6
      refine z_iinc (L' := [(9, _), (7, _), (5, _), (3, _), (1, _), (0, _)]) (pc := 119) dH_multiplySumByKey_119 rfl zi_1 (by decide) rfl ?_
      refine z_goto (pc := 122) (tgt := 19) dH_multiplySumByKey_122 rfl ?_
      exact ki _ _ _ ⟨rfl, rfl, th', tl', ph', pl', h1, h2, h4, h5, h3, h6, rfl⟩
    have hx : zx (2 ^ 64 * B k 2 + B k 3) (2 ^ 64 * B k 5 + B k 6) (i + 1) = if th < 2 ^ 63 then 2 ^ 64 * zth th tl + ztl tl else 2 ^ 64 * (zth th tl ^^^ B k 2) + (ztl tl ^^^ B k 3) := by
      show zxt _ (zx _ _ i) = _
      rw [← hT, zxt_jn h2 h3 hth htl]
    have hz1 : zth th tl < 2 ^ 64 := Nat.mod_lt _ (by decide)
    have hz2 : ztl tl < 2 ^ 64 := Nat.mod_lt _ (by decide)
    have J2 : ∀ ph' pl' hf, ph' < 2 ^ 64 → pl' < 2 ^ 64 → 2 ^ 64 * ph' + pl' = zml (2 ^ 64 * B k 2 + B k 3) (2 ^ 64 * B k 7 + B k 8) (2 ^ 64 * B k 5 + B k 6) (i + 1) → z_R l g ad mH_multiplySumByKey (z_rm 0) Ex 0 0  74 [(10, .long (lN hf)), (9, .int (nI i)), (7, .long (lN pl')), (5, .long (lN ph')), (3, .long (lN tl)), (1, .long (lN th)), (0, .ref (ad k))] [] A B := by
      intro ph' pl' hf h4 h5 h6
      refine z_lload_n (pc := 74) dH_multiplySumByKey_74 rfl rfl ?_
      refine z_lconst (pc := 75) dH_multiplySumByKey_75 zl_0 ?_
      refine z_lcmp (pc := 76) dH_multiplySumByKey_76 ?_
      refine z_ifX_ge (pc := 77) (tgt := 84) dH_multiplySumByKey_77 rfl (fun h7 => ?_) (fun h7 => ?_)
      · have h8 : th < 2 ^ 63 := (z_lge hth).mp ((lg_cmp_ge _ _).mp h7)
        refine z_iconst (pc := 84) dH_multiplySumByKey_84 zi_0 ?_
        refine z_istore (L' := [(12, _), (10, _), (9, _), (7, _), (5, _), (3, _), (1, _), (0, _)]) (pc := 85) dH_multiplySumByKey_85 (by decide) rfl ?_
        refine z_lload_n (pc := 87) dH_multiplySumByKey_87 rfl rfl ?_
        refine z_iconst (pc := 88) dH_multiplySumByKey_88 zi_1 ?_
        refine z_lshl (pc := 89) dH_multiplySumByKey_89 (by omega) ?_
        refine z_lload_n (pc := 90) dH_multiplySumByKey_90 rfl rfl ?_
        refine z_bipush (pc := 91) dH_multiplySumByKey_91 zb_63 ?_
        refine z_lushr (pc := 93) dH_multiplySumByKey_93 (by omega) (by omega) ?_
        refine z_lor (pc := 94) dH_multiplySumByKey_94 ?_
        refine z_top (congrArg Value.long (show _ = lN (zth th tl) from (by rw [z_dbl hth htl]))) ?_
        refine z_lstore_n (L' := [(1, _), (12, _), (10, _), (9, _), (7, _), (5, _), (3, _), (0, _)]) (pc := 95) dH_multiplySumByKey_95 rfl (by decide) rfl ?_
        refine z_lload_n (pc := 96) dH_multiplySumByKey_96 rfl rfl ?_
        refine z_iconst (pc := 97) dH_multiplySumByKey_97 zi_1 ?_
        refine z_lshl (pc := 98) dH_multiplySumByKey_98 (by omega) ?_
        refine z_top (congrArg Value.long (show _ = lN (ztl tl) from wb_mod _ |>.trans (by rw [Nat.pow_one, Nat.mul_comm]; rfl))) ?_
        refine z_lstore_n (L' := [(3, _), (1, _), (12, _), (10, _), (9, _), (7, _), (5, _), (0, _)]) (pc := 99) dH_multiplySumByKey_99 rfl (by decide) rfl ?_
        refine z_iload (pc := 100) dH_multiplySumByKey_100 rfl ?_
        refine z_if_eq (pc := 102) (by omega) (tgt := 119) dH_multiplySumByKey_102 rfl (fun h => ?_) (fun h => by exfalso; omega)
        refine z_ls (L' := [(9, _), (7, _), (5, _), (3, _), (1, _), (0, _)]) [4, 5, 6, 0, 1, 7] rfl ?_
        exact J3 _ _ hz1 hz2 (by rw [hx, if_pos h8]) _ _ h4 h5 h6
      · have h8 : ¬ th < 2 ^ 63 := fun q => h7 ((lg_cmp_ge _ _).mpr ((z_lge hth).mpr q))
        refine z_iconst (pc := 80) dH_multiplySumByKey_80 zi_1 ?_
        refine z_goto (pc := 81) (tgt := 85) dH_multiplySumByKey_81 rfl ?_
        refine z_istore (L' := [(12, _), (10, _), (9, _), (7, _), (5, _), (3, _), (1, _), (0, _)]) (pc := 85) dH_multiplySumByKey_85 (by decide) rfl ?_
        refine z_lload_n (pc := 87) dH_multiplySumByKey_87 rfl rfl ?_
        refine z_iconst (pc := 88) dH_multiplySumByKey_88 zi_1 ?_
        refine z_lshl (pc := 89) dH_multiplySumByKey_89 (by omega) ?_
        refine z_lload_n (pc := 90) dH_multiplySumByKey_90 rfl rfl ?_
        refine z_bipush (pc := 91) dH_multiplySumByKey_91 zb_63 ?_
        refine z_lushr (pc := 93) dH_multiplySumByKey_93 (by omega) (by omega) ?_
        refine z_lor (pc := 94) dH_multiplySumByKey_94 ?_
        refine z_top (congrArg Value.long (show _ = lN (zth th tl) from (by rw [z_dbl hth htl]))) ?_
        refine z_lstore_n (L' := [(1, _), (12, _), (10, _), (9, _), (7, _), (5, _), (3, _), (0, _)]) (pc := 95) dH_multiplySumByKey_95 rfl (by decide) rfl ?_
        refine z_lload_n (pc := 96) dH_multiplySumByKey_96 rfl rfl ?_
        refine z_iconst (pc := 97) dH_multiplySumByKey_97 zi_1 ?_
        refine z_lshl (pc := 98) dH_multiplySumByKey_98 (by omega) ?_
        refine z_top (congrArg Value.long (show _ = lN (ztl tl) from wb_mod _ |>.trans (by rw [Nat.pow_one, Nat.mul_comm]; rfl))) ?_
        refine z_lstore_n (L' := [(3, _), (1, _), (12, _), (10, _), (9, _), (7, _), (5, _), (0, _)]) (pc := 99) dH_multiplySumByKey_99 rfl (by decide) rfl ?_
        refine z_iload (pc := 100) dH_multiplySumByKey_100 rfl ?_
        refine z_if_eq (pc := 102) (by omega) (tgt := 119) dH_multiplySumByKey_102 rfl (fun h => by exfalso; omega) (fun h => ?_)
        refine z_lload_n (pc := 105) dH_multiplySumByKey_105 rfl rfl ?_
        refine z_aload_n (pc := 106) dH_multiplySumByKey_106 rfl rfl ?_
        refine z_getJ (pc := 107) ho rfl zf_H_21_1 dH_multiplySumByKey_107 ?_
        refine z_lxor (pc := 110) dH_multiplySumByKey_110 ?_
        refine z_lstore_n (L' := [(1, _), (3, _), (12, _), (10, _), (9, _), (7, _), (5, _), (0, _)]) (pc := 111) dH_multiplySumByKey_111 rfl (by decide) rfl ?_
        refine z_lload_n (pc := 112) dH_multiplySumByKey_112 rfl rfl ?_
        refine z_aload_n (pc := 113) dH_multiplySumByKey_113 rfl rfl ?_
        refine z_getJ (pc := 114) ho rfl zf_H_27_1 dH_multiplySumByKey_114 ?_
        refine z_lxor (pc := 117) dH_multiplySumByKey_117 ?_
        refine z_lstore_n (L' := [(3, _), (1, _), (12, _), (10, _), (9, _), (7, _), (5, _), (0, _)]) (pc := 118) dH_multiplySumByKey_118 rfl (by decide) rfl ?_
        refine z_ls (L' := [(9, _), (7, _), (5, _), (3, _), (1, _), (0, _)]) [4, 5, 6, 0, 1, 7] rfl ?_
        exact J3 _ _ (Nat.xor_lt_two_pow hz1 h2) (Nat.xor_lt_two_pow hz2 h3) (by rw [hx, if_neg h8]) _ _ h4 h5 h6
    have J1 : ∀ hf, hf < 2 ^ 64 → hf.testBit (i % 64) = (2 ^ 64 * B k 7 + B k 8).testBit i → z_R l g ad mH_multiplySumByKey (z_rm 0) Ex 0 0  47 [(10, .long (lN hf)), (9, .int (nI i)), (7, .long (lN pl)), (5, .long (lN ph)), (3, .long (lN tl)), (1, .long (lN th)), (0, .ref (ad k))] [] A B := by
      intro hf h4 h5
      have hb1 : hf / 2 ^ (i % 64) &&& 1 = (hf.testBit (i % 64)).toNat := z_tb1 _ _
      have hb2 := Bool.toNat_lt (hf.testBit (i % 64))
      refine z_lload (pc := 47) dH_multiplySumByKey_47 rfl ?_
      refine z_iload (pc := 49) dH_multiplySumByKey_49 rfl ?_
      refine z_bipush (pc := 51) dH_multiplySumByKey_51 zb_64 ?_
      refine z_irem (pc := 53) dH_multiplySumByKey_53 (by omega) (by omega) (by omega) ?_
      refine z_lushr (pc := 54) dH_multiplySumByKey_54 (by omega) (by omega) ?_
      refine z_lconst (pc := 55) dH_multiplySumByKey_55 zl_1 ?_
      refine z_land (pc := 56) dH_multiplySumByKey_56 ?_
      refine z_lconst (pc := 57) dH_multiplySumByKey_57 zl_0 ?_
      refine z_lcmp (pc := 58) dH_multiplySumByKey_58 ?_
      refine z_ifX_eq (pc := 59) (tgt := 74) dH_multiplySumByKey_59 rfl (fun h7 => ?_) (fun h7 => ?_)
      · have h7' := (pk_lEQ (by rw [hb1]; omega) (by decide)).mp ((lg_cmp_eq _ _).mp h7)
        rw [hb1] at h7'
        have h8 : (2 ^ 64 * B k 7 + B k 8).testBit i = false := by rw [← h5]; exact Bool.toNat_eq_zero.mp h7'
        exact J2 _ _ _ hph hpl (by rw [zml, h8, hP, Bool.toNat_false, Nat.zero_mul, Nat.xor_zero])
      · have h7' : (hf.testBit (i % 64)).toNat ≠ 0 := fun q => h7 ((lg_cmp_eq _ _).mpr (by rw [hb1, q]))
        have h8 : (2 ^ 64 * B k 7 + B k 8).testBit i = true := by rw [← h5]; exact Bool.toNat_eq_one.mp (by omega)
        refine z_lload (pc := 62) dH_multiplySumByKey_62 rfl ?_
        refine z_lload_n (pc := 64) dH_multiplySumByKey_64 rfl rfl ?_
        refine z_lxor (pc := 65) dH_multiplySumByKey_65 ?_
        refine z_lstore (L' := [(5, _), (10, _), (9, _), (7, _), (3, _), (1, _), (0, _)]) (pc := 66) dH_multiplySumByKey_66 (by decide) rfl ?_
        refine z_lload (pc := 68) dH_multiplySumByKey_68 rfl ?_
        refine z_lload_n (pc := 70) dH_multiplySumByKey_70 rfl rfl ?_
        refine z_lxor (pc := 71) dH_multiplySumByKey_71 ?_
        refine z_lstore (L' := [(7, _), (5, _), (10, _), (9, _), (3, _), (1, _), (0, _)]) (pc := 72) dH_multiplySumByKey_72 (by decide) rfl ?_
        refine z_ls (L' := [(10, _), (9, _), (7, _), (5, _), (3, _), (1, _), (0, _)]) [2, 3, 0, 1, 4, 5, 6] rfl ?_
        exact J2 _ _ _ (Nat.xor_lt_two_pow hph hth) (Nat.xor_lt_two_pow hpl htl) (by rw [zml, h8, Bool.toNat_true, Nat.one_mul, ← hP, ← hT, z_jn_xor hpl htl])
    refine z_iload (pc := 19) dH_multiplySumByKey_19 rfl ?_
    refine z_sipush (pc := 21) dH_multiplySumByKey_21 zs_128 ?_
    refine z_icmp_ge (pc := 24) (by omega) (by omega) (tgt := 125) dH_multiplySumByKey_24 rfl (fun h => by exfalso; omega) (fun h => ?_)
    refine z_iload (pc := 27) dH_multiplySumByKey_27 rfl ?_
    refine z_bipush (pc := 29) dH_multiplySumByKey_29 zb_64 ?_
    refine z_icmp_ge (pc := 31) (by omega) (by omega) (tgt := 41) dH_multiplySumByKey_31 rfl (fun h4 => ?_) (fun h4 => ?_)
    · refine z_aload_n (pc := 41) dH_multiplySumByKey_41 rfl rfl ?_
      refine z_getJ (pc := 42) ho rfl zf_H_47_1 dH_multiplySumByKey_42 ?_
      refine z_lstore (L' := [(10, _), (9, _), (7, _), (5, _), (3, _), (1, _), (0, _)]) (pc := 45) dH_multiplySumByKey_45 (by decide) rfl ?_
      exact J1 _ h7 (by rw [z_jn_tb h8, if_neg (by omega), show i % 64 = i - 64 by omega])
    · refine z_aload_n (pc := 34) dH_multiplySumByKey_34 rfl rfl ?_
      refine z_getJ (pc := 35) ho rfl zf_H_50_1 dH_multiplySumByKey_35 ?_
      refine z_goto (pc := 38) (tgt := 45) dH_multiplySumByKey_38 rfl ?_
      refine z_lstore (L' := [(10, _), (9, _), (7, _), (5, _), (3, _), (1, _), (0, _)]) (pc := 45) dH_multiplySumByKey_45 (by decide) rfl ?_
      exact J1 _ h8 (by rw [z_jn_tb h8, if_pos (by omega), show i % 64 = i by omega])
  · rintro L A' B' ⟨rfl, rfl, th, tl, ph, pl, hth, htl, hph, hpl, hT, hP, rfl⟩
    refine z_iload (pc := 19) dH_multiplySumByKey_19 rfl ?_
    refine z_sipush (pc := 21) dH_multiplySumByKey_21 zs_128 ?_
    refine z_icmp_ge (pc := 24) (by omega) (by omega) (tgt := 125) dH_multiplySumByKey_24 rfl (fun h => ?_) (fun h => by exfalso; omega)
    refine z_aload_n (pc := 125) dH_multiplySumByKey_125 rfl rfl ?_
    refine z_lload (pc := 126) dH_multiplySumByKey_126 rfl ?_
    refine z_putJ (pc := 128) ho rfl zp_H_47_1 dH_multiplySumByKey_128 ?_
    refine z_aload_n (pc := 131) dH_multiplySumByKey_131 rfl rfl ?_
    refine z_lload (pc := 132) dH_multiplySumByKey_132 rfl ?_
    refine z_putJ (pc := 134) ho rfl zp_H_50_1 dH_multiplySumByKey_134 ?_
    exact z_ret0 (pc := 137) dH_multiplySumByKey_137 (hEx _ _ _ (⟨rfl, rfl, (z_hB.rf.set (by decide)).set (by decide), by have q := z_hk.s78 (B := B) (k := k) ⟨h5, h6, h7, h8, rfl, rfl⟩ hph hpl; rw [hP] at q; exact q⟩))
end
