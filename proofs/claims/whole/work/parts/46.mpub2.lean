theorem zmost_le (r : Nat) : zmost r ≤ 64 := by unfold zmost; split; decide; split; decide; split <;> decide
def zrdy (w : Nat) (n : Nat → Nat) : Prop := n 0 = 16 ∧ (if w = 0 then 1 ≤ n 1 else n 1 = 12)
theorem zMR.r0 {A : z_A} {n : Nat → Nat} {R : Nat → Nat → Nat} {m : Nat} {X : Nat → Nat} (h : zMR A n R m X) : ∀ j, j < n 0 → A 40 j = R 0 j := fun j hj => by
  have := (h.1 0 (by decide)).2 j hj
  rw [Nat.mul_zero, Nat.zero_add] at this
  exact this
theorem zMR.r1 {A : z_A} {n : Nat → Nat} {R : Nat → Nat → Nat} {m : Nat} {X : Nat → Nat} (h : zMR A n R m X) : ∀ j, j < n 1 → A 40 (64 + j) = R 1 j := fun j hj => (h.1 1 (by decide)).2 j hj
theorem zMR.r2 {A : z_A} {n : Nat → Nat} {R : Nat → Nat → Nat} {m : Nat} {X : Nat → Nat} (h : zMR A n R m X) : ∀ j, j < n 2 → A 40 (128 + j) = R 2 j := fun j hj => (h.1 2 (by decide)).2 j hj
theorem zMR.r3 {A : z_A} {n : Nat → Nat} {R : Nat → Nat → Nat} {m : Nat} {X : Nat → Nat} (h : zMR A n R m X) : ∀ j, j < n 3 → A 40 (192 + j) = R 3 j := fun j hj => (h.1 3 (by decide)).2 j hj
/-- the result is new, the rows are as they were -/
theorem zMR.res {A A' : z_A} {n : Nat → Nat} {R : Nat → Nat → Nat} {m m' : Nat} {X X' : Nat → Nat} (h : zMR A n R m X) (h40 : ∀ i, i < 256 → A' 40 i = A 40 i) (h41 : A' 41 = A 41) (h3 : A' 39 3 = m') (h42 : ∀ j, j < m' → A' 42 j = X' j) (hv : zVS n R m X) : zMR A' n R m' X' := by
  refine ⟨fun r hr => ⟨by rw [h41]; exact (h.1 r hr).1, fun j hj => ?_⟩, h3, h42⟩
  have hm := (hv.1 r hr).1
  have h64 := zmost_le r
  rw [h40 _ (by omega)]
  exact (h.1 r hr).2 j hj
section
variable {l : Launch} {g : z_G} {ad : Nat → Nat} {A B : z_A} {n : Nat → Nat} {R : Nat → Nat → Nat} {m : Nat} {X : Nat → Nat}
theorem m_type1a {x y : Int32} {v : Nat} (hx : x < 0 ∨ nI 4 ≤ x) (hb : z_box A 46) (hs : zMR A n R m X) (hv : zVS n R m X) : z_Met l g ad mM_type (z_rm 1) [.ref (ad 39), .int x, .long (lN v), .int y] A B (z_an 0 (zMP A B 1 n R m X)) := by
  refine z_Met.of (L := [(0, _), (1, _), (2, _), (4, _)]) (by decide) (Nat.le_of_ble_eq_true rfl) z_fit_an rfl ?_
  intro Ex hEx
  refine z_aload_n (pc := 0) dM_type_0 rfl rfl ?_
  refine z_iload_n (pc := 1) dM_type_1 rfl rfl ?_
  refine z_callS (pc := 2) (m_isRow0 hx) (by decide) zc_M_96 rfl rfl (Nat.le_of_ble_eq_true rfl) dM_type_2 (fun r A' B' hE => ?_)
  obtain ⟨rfl, rfl, rfl⟩ := hE
  refine z_r1 ?_
  refine z_if_eq (pc := 5) (by omega) (tgt := 21) dM_type_5 rfl (fun h => ?_) (fun h => by exfalso; omega)
  refine z_iconst (pc := 21) dM_type_21 zi_1 ?_
  refine z_goto (pc := 22) (tgt := 46) dM_type_22 rfl ?_
  refine z_putI (pc := 46) zo_39 rfl zp_M_59_6 dM_type_46 ?_
  refine z_aload_n (pc := 49) dM_type_49 rfl rfl ?_
  refine z_getI (pc := 50) zo_39 rfl zf_M_59_6 dM_type_50 ?_
  refine z_top (congrArg (fun x => Value.int (nI x)) z_set_at) ?_
  refine z_if_le (pc := 53) (by omega) (tgt := 58) dM_type_53 rfl (fun h => by exfalso; omega) (fun h => ?_)
  refine z_iconst (pc := 56) dM_type_56 zi_0 ?_
  exact z_reti (pc := 57) dM_type_57 (hEx _ _ _ (⟨rfl, rfl, fun q hq => z_set_ne (by omega), z_set_at, fun j hj => by rw [z_set_ne (by decide)]; exact hb j hj, hs.mv (fun i _ => by rw [z_set_ne (by decide)]) (z_set_ne (by decide)) (z_set_nj (by decide)) (z_set_ne (by decide)) hv⟩))
theorem m_type1b {r v : Nat} {y : Int32} (hr : r < 4) (hy : y < nI 1 ∨ nI 8 < y) (hb : z_box A 46) (hs : zMR A n R m X) (hv : zVS n R m X) : z_Met l g ad mM_type (z_rm 1) [.ref (ad 39), .int (nI r), .long (lN v), .int y] A B (z_an 0 (zMP A B 1 n R m X)) := by
  refine z_Met.of (L := [(0, _), (1, _), (2, _), (4, _)]) (by decide) (Nat.le_of_ble_eq_true rfl) z_fit_an rfl ?_
  intro Ex hEx
  refine z_aload_n (pc := 0) dM_type_0 rfl rfl ?_
  refine z_iload_n (pc := 1) dM_type_1 rfl rfl ?_
  refine z_callS (pc := 2) (m_isRow1 hr) (by decide) zc_M_96 rfl rfl (Nat.le_of_ble_eq_true rfl) dM_type_2 (fun r A' B' hE => ?_)
  obtain ⟨rfl, rfl, rfl⟩ := hE
  refine z_r1 ?_
  refine z_if_eq (pc := 5) (by omega) (tgt := 21) dM_type_5 rfl (fun h => by exfalso; omega) (fun h => ?_)
  refine z_iload (pc := 8) dM_type_8 rfl ?_
  refine z_iconst (pc := 10) dM_type_10 zi_1 ?_
  refine z_icmpX_lt (pc := 11) (tgt := 21) dM_type_11 rfl (fun h1 => ?_) (fun h1 => ?_)
  · refine z_iconst (pc := 21) dM_type_21 zi_1 ?_
    refine z_goto (pc := 22) (tgt := 46) dM_type_22 rfl ?_
    refine z_putI (pc := 46) zo_39 rfl zp_M_59_6 dM_type_46 ?_
    refine z_aload_n (pc := 49) dM_type_49 rfl rfl ?_
    refine z_getI (pc := 50) zo_39 rfl zf_M_59_6 dM_type_50 ?_
    refine z_top (congrArg (fun x => Value.int (nI x)) z_set_at) ?_
    refine z_if_le (pc := 53) (by omega) (tgt := 58) dM_type_53 rfl (fun h => by exfalso; omega) (fun h => ?_)
    refine z_iconst (pc := 56) dM_type_56 zi_0 ?_
    exact z_reti (pc := 57) dM_type_57 (hEx _ _ _ (⟨rfl, rfl, fun q hq => z_set_ne (by omega), z_set_at, fun j hj => by rw [z_set_ne (by decide)]; exact hb j hj, hs.mv (fun i _ => by rw [z_set_ne (by decide)]) (z_set_ne (by decide)) (z_set_nj (by decide)) (z_set_ne (by decide)) hv⟩))
  · refine z_iload (pc := 14) dM_type_14 rfl ?_
    refine z_bipush (pc := 16) dM_type_16 zb_8 ?_
    refine z_icmpX_le (pc := 18) (tgt := 25) dM_type_18 rfl (fun h => absurd h (Int32.not_le.mpr (hy.resolve_left h1))) (fun h => ?_)
    refine z_iconst (pc := 21) dM_type_21 zi_1 ?_
    refine z_goto (pc := 22) (tgt := 46) dM_type_22 rfl ?_
    refine z_putI (pc := 46) zo_39 rfl zp_M_59_6 dM_type_46 ?_
    refine z_aload_n (pc := 49) dM_type_49 rfl rfl ?_
    refine z_getI (pc := 50) zo_39 rfl zf_M_59_6 dM_type_50 ?_
    refine z_top (congrArg (fun x => Value.int (nI x)) z_set_at) ?_
    refine z_if_le (pc := 53) (by omega) (tgt := 58) dM_type_53 rfl (fun h => by exfalso; omega) (fun h => ?_)
    refine z_iconst (pc := 56) dM_type_56 zi_0 ?_
    exact z_reti (pc := 57) dM_type_57 (hEx _ _ _ (⟨rfl, rfl, fun q hq => z_set_ne (by omega), z_set_at, fun j hj => by rw [z_set_ne (by decide)]; exact hb j hj, hs.mv (fun i _ => by rw [z_set_ne (by decide)]) (z_set_ne (by decide)) (z_set_nj (by decide)) (z_set_ne (by decide)) hv⟩))
theorem m_type2 {r v k : Nat} (hr : r < 4) (hk1 : 1 ≤ k) (hk8 : k ≤ 8) (hn : zmost r < n r + k) (hb : z_box A 46) (hs : zMR A n R m X) (hv : zVS n R m X) : z_Met l g ad mM_type (z_rm 1) [.ref (ad 39), .int (nI r), .long (lN v), .int (nI k)] A B (z_an 0 (zMP A B 2 n R m X)) := by
  refine z_Met.of (L := [(0, _), (1, _), (2, _), (4, _)]) (by decide) (Nat.le_of_ble_eq_true rfl) z_fit_an rfl ?_
  intro Ex hEx
  have hm := (hv.1 r hr).1
  have h64 := zmost_le r
  have e41 := (hs.1 r hr).1
  refine z_aload_n (pc := 0) dM_type_0 rfl rfl ?_
  refine z_iload_n (pc := 1) dM_type_1 rfl rfl ?_
  refine z_callS (pc := 2) (m_isRow1 hr) (by decide) zc_M_96 rfl rfl (Nat.le_of_ble_eq_true rfl) dM_type_2 (fun r A' B' hE => ?_)
  obtain ⟨rfl, rfl, rfl⟩ := hE
  refine z_r1 ?_
  refine z_if_eq (pc := 5) (by omega) (tgt := 21) dM_type_5 rfl (fun h => by exfalso; omega) (fun h => ?_)
  refine z_iload (pc := 8) dM_type_8 rfl ?_
  refine z_iconst (pc := 10) dM_type_10 zi_1 ?_
  refine z_icmp_lt (pc := 11) (by omega) (by omega) (tgt := 21) dM_type_11 rfl (fun h => by exfalso; omega) (fun h => ?_)
  refine z_iload (pc := 14) dM_type_14 rfl ?_
  refine z_bipush (pc := 16) dM_type_16 zb_8 ?_
  refine z_icmp_le (pc := 18) (by omega) (by omega) (tgt := 25) dM_type_18 rfl (fun h => ?_) (fun h => by exfalso; omega)
  refine z_aload_n (pc := 25) dM_type_25 rfl rfl ?_
  refine z_getR (pc := 26) zo_39 rfl zf_M_13_6 dM_type_26 ?_
  refine z_iload_n (pc := 29) dM_type_29 rfl rfl ?_
  refine z_iaload (pc := 30) za_41 (by omega) dM_type_30 ?_
  refine z_iload (pc := 31) dM_type_31 rfl ?_
  refine z_iadd (pc := 33) dM_type_33 ?_
  refine z_iload_n (pc := 34) dM_type_34 rfl rfl ?_
  refine z_callS (pc := 35) (m_most hr) (by decide) zc_M_100 rfl rfl (Nat.le_of_ble_eq_true rfl) dM_type_35 (fun r A' B' hE => ?_)
  obtain ⟨rfl, rfl, rfl⟩ := hE
  refine z_r1 ?_
  refine z_icmp_le (pc := 38) (by omega) (by omega) (tgt := 45) dM_type_38 rfl (fun h => by exfalso; omega) (fun h => ?_)
  refine z_iconst (pc := 41) dM_type_41 zi_2 ?_
  refine z_goto (pc := 42) (tgt := 46) dM_type_42 rfl ?_
  refine z_putI (pc := 46) zo_39 rfl zp_M_59_6 dM_type_46 ?_
  refine z_aload_n (pc := 49) dM_type_49 rfl rfl ?_
  refine z_getI (pc := 50) zo_39 rfl zf_M_59_6 dM_type_50 ?_
  refine z_top (congrArg (fun x => Value.int (nI x)) z_set_at) ?_
  refine z_if_le (pc := 53) (by omega) (tgt := 58) dM_type_53 rfl (fun h => by exfalso; omega) (fun h => ?_)
  refine z_iconst (pc := 56) dM_type_56 zi_0 ?_
  exact z_reti (pc := 57) dM_type_57 (hEx _ _ _ (⟨rfl, rfl, fun q hq => z_set_ne (by omega), z_set_at, fun j hj => by rw [z_set_ne (by decide)]; exact hb j hj, hs.mv (fun i _ => by rw [z_set_ne (by decide)]) (z_set_ne (by decide)) (z_set_nj (by decide)) (z_set_ne (by decide)) hv⟩))
theorem m_type0 {r v k : Nat} (hr : r < 4) (hk1 : 1 ≤ k) (hk8 : k ≤ 8) (hn : n r + k ≤ zmost r) (hb : z_box A 46) (hs : zMR A n R m X) (hv : zVS n R m X) : z_Met l g ad mM_type (z_rm 1) [.ref (ad 39), .int (nI r), .long (lN v), .int (nI k)] A B (z_an (n r + k) (zMP A B 0 (va_up n r (n r + k)) (va_up R r (fun j => if j < n r then R r j else zty v k (j - n r))) m X)) := by
  refine z_Met.of (L := [(0, _), (1, _), (2, _), (4, _)]) (by decide) (Nat.le_of_ble_eq_true rfl) z_fit_an rfl ?_
  intro Ex hEx
  have hm := (hv.1 r hr).1
  have h64 := zmost_le r
  have e41 := (hs.1 r hr).1
  refine z_aload_n (pc := 0) dM_type_0 rfl rfl ?_
  refine z_iload_n (pc := 1) dM_type_1 rfl rfl ?_
  refine z_callS (pc := 2) (m_isRow1 hr) (by decide) zc_M_96 rfl rfl (Nat.le_of_ble_eq_true rfl) dM_type_2 (fun r A' B' hE => ?_)
  obtain ⟨rfl, rfl, rfl⟩ := hE
  refine z_r1 ?_
  refine z_if_eq (pc := 5) (by omega) (tgt := 21) dM_type_5 rfl (fun h => by exfalso; omega) (fun h => ?_)
  refine z_iload (pc := 8) dM_type_8 rfl ?_
  refine z_iconst (pc := 10) dM_type_10 zi_1 ?_
  refine z_icmp_lt (pc := 11) (by omega) (by omega) (tgt := 21) dM_type_11 rfl (fun h => by exfalso; omega) (fun h => ?_)
  refine z_iload (pc := 14) dM_type_14 rfl ?_
  refine z_bipush (pc := 16) dM_type_16 zb_8 ?_
  refine z_icmp_le (pc := 18) (by omega) (by omega) (tgt := 25) dM_type_18 rfl (fun h => ?_) (fun h => by exfalso; omega)
  refine z_aload_n (pc := 25) dM_type_25 rfl rfl ?_
  refine z_getR (pc := 26) zo_39 rfl zf_M_13_6 dM_type_26 ?_
  refine z_iload_n (pc := 29) dM_type_29 rfl rfl ?_
  refine z_iaload (pc := 30) za_41 (by omega) dM_type_30 ?_
  refine z_iload (pc := 31) dM_type_31 rfl ?_
  refine z_iadd (pc := 33) dM_type_33 ?_
  refine z_iload_n (pc := 34) dM_type_34 rfl rfl ?_
  refine z_callS (pc := 35) (m_most hr) (by decide) zc_M_100 rfl rfl (Nat.le_of_ble_eq_true rfl) dM_type_35 (fun r A' B' hE => ?_)
  obtain ⟨rfl, rfl, rfl⟩ := hE
  refine z_r1 ?_
  refine z_icmp_le (pc := 38) (by omega) (by omega) (tgt := 45) dM_type_38 rfl (fun h => ?_) (fun h => by exfalso; omega)
  refine z_iconst (pc := 45) dM_type_45 zi_0 ?_
  refine z_putI (pc := 46) zo_39 rfl zp_M_59_6 dM_type_46 ?_
  refine z_aload_n (pc := 49) dM_type_49 rfl rfl ?_
  refine z_getI (pc := 50) zo_39 rfl zf_M_59_6 dM_type_50 ?_
  refine z_top (congrArg (fun x => Value.int (nI x)) z_set_at) ?_
  refine z_if_le (pc := 53) (by omega) (tgt := 58) dM_type_53 rfl (fun h => ?_) (fun h => by exfalso; omega)
  refine z_iload (pc := 58) dM_type_58 rfl ?_
  refine z_iconst (pc := 60) dM_type_60 zi_1 ?_
  refine z_isub (pc := 61) dM_type_61 (by omega) ?_
  refine z_istore (L' := [(5, _), (0, _), (1, _), (2, _), (4, _)]) (pc := 62) dM_type_62 (by decide) rfl ?_
  rw [show nI (k - 1) = nI (k + 4294967295) from (z_dec hk1).symm]
  refine z_loop k (fun i L A' B' => L = [(5, .int (nI (k + 4294967295 - i))), (0, .ref (ad 39)), (1, .int (nI r)), (2, .long (lN v)), (4, .int (nI k))] ∧ B = B' ∧ z_fr [40, 41] (z_set A 39 0 0) A' ∧ (∀ q, q ≠ r → A' 41 q = (z_set A 39 0 0) 41 q) ∧ A' 41 r = n r + i ∧ (∀ x, x < 64 * r + n r ∨ 64 * r + n r + i ≤ x → A' 40 x = (z_set A 39 0 0) 40 x) ∧ ∀ t, t < i → A' 40 (64 * r + n r + t) = zty v k t) ?_ ?_ _ _ _ ⟨rfl, rfl, fun _ _ => rfl, fun _ _ => rfl, by rw [z_set_ne (by decide)]; exact e41, fun _ _ => rfl, fun t ht => absurd ht (Nat.not_lt_zero _)⟩
  · rintro i L A' B' hi ⟨rfl, rfl, hf, hq, h41, hlo, ht⟩ ki
    rw [show nI (k + 4294967295 - i) = nI (k - 1 - i) by rw [show k + 4294967295 - i = (k - i) + 4294967295 by omega, z_dec (by omega), show k - i - 1 = k - 1 - i by omega]]
    obtain ⟨mm, hm1, hm2⟩ := z_lsar v (b := 8 * (k - 1 - i)) (by omega)
    refine z_iload (pc := 64) dM_type_64 rfl ?_
    refine z_if_lt (pc := 66) (by omega) (tgt := 113) dM_type_66 rfl (fun h => by exfalso; omega) (fun h => ?_)
    refine z_aload_n (pc := 69) dM_type_69 rfl rfl ?_
    refine z_getR (pc := 70) zo_39 rfl zf_M_7_6 dM_type_70 ?_
    refine z_bipush (pc := 73) dM_type_73 zb_64 ?_
    refine z_iload_n (pc := 75) dM_type_75 rfl rfl ?_
    refine z_imul (pc := 76) dM_type_76 ?_
    refine z_aload_n (pc := 77) dM_type_77 rfl rfl ?_
    refine z_getR (pc := 78) zo_39 rfl zf_M_13_6 dM_type_78 ?_
    refine z_iload_n (pc := 81) dM_type_81 rfl rfl ?_
    refine z_iaload (pc := 82) za_41 (by omega) dM_type_82 ?_
    refine z_iadd (pc := 83) dM_type_83 ?_
    refine z_lload_n (pc := 84) dM_type_84 rfl rfl ?_
    refine z_bipush (pc := 85) dM_type_85 zb_8 ?_
    refine z_iload (pc := 87) dM_type_87 rfl ?_
    refine z_imul (pc := 89) dM_type_89 ?_
    refine z_lshr (pc := 90) dM_type_90 (hm1) ?_
    refine z_ldc2 (pc := 91) dM_type_91 wk_M_103 zk_M_103 ?_
    refine z_land (pc := 94) dM_type_94 ?_
    refine z_l2i (pc := 95) dM_type_95 ?_
    refine z_top (congrArg (fun x => Value.int (nI x)) (show _ = zty v k i by rw [z_and255, hm2]; rfl)) ?_
    refine z_iastore (pc := 96) za_40 (by rw [h41]; omega) dM_type_96 ?_
    refine z_aload_n (pc := 97) dM_type_97 rfl rfl ?_
    refine z_getR (pc := 98) zo_39 rfl zf_M_13_6 dM_type_98 ?_
    refine z_iload_n (pc := 101) dM_type_101 rfl rfl ?_
    refine z_dup2 (pc := 102) dM_type_102 rfl rfl ?_
    refine z_iaload (pc := 103) za_41 (by omega) dM_type_103 ?_
    refine z_iconst (pc := 104) dM_type_104 zi_1 ?_
    refine z_iadd (pc := 105) dM_type_105 ?_
    refine z_iastore (pc := 106) za_41 (by omega) dM_type_106 ?_
    refine z_iinc (L' := [(5, _), (0, _), (1, _), (2, _), (4, _)]) (pc := 107) dM_type_107 rfl zi_m1 (by decide) rfl ?_
    refine z_goto (pc := 110) (tgt := 64) dM_type_110 rfl ?_
    rw [show k - 1 - i + 4294967295 = k + 4294967295 - (i + 1) by omega]
    refine ki _ _ _ ⟨rfl, rfl, fun q hq9 => by rw [z_set_ne (z_nm hq9 (by decide)), z_set_ne (z_nm hq9 (by decide)), hf q hq9], fun q hq9 => by rw [z_set_nj hq9, z_set_ne (by decide)]; exact hq q hq9, by rw [z_set_at, z_set_ne (by decide), h41, Nat.add_assoc], fun x hx => by rw [z_set_ne (by decide), z_set_nj (by omega)]; exact hlo x (by omega), fun t h9 => ?_⟩
    rw [z_set_ne (by decide)]
    by_cases e : t = i
    · rw [e, h41, show 64 * r + n r + i = 64 * r + (n r + i) by omega, z_set_at]
    · rw [z_set_nj (by omega)]; exact ht t (by omega)
  · rintro L A' B' ⟨rfl, rfl, hf, hq, h41, hlo, ht⟩
    rw [show k + 4294967295 - k = 4294967295 by omega]
    refine z_iload (pc := 64) dM_type_64 rfl ?_
    refine z_ifX_lt (pc := 66) (tgt := 113) dM_type_66 rfl (fun h => ?_) (fun h => absurd (show nI 4294967295 < 0 by decide) h)
    refine z_aload_n (pc := 113) dM_type_113 rfl rfl ?_
    refine z_getR (pc := 114) zo_39 rfl zf_M_13_6 dM_type_114 ?_
    refine z_iload_n (pc := 117) dM_type_117 rfl rfl ?_
    refine z_iaload (pc := 118) za_41 (by omega) dM_type_118 ?_
    refine z_top (congrArg (fun x => Value.int (nI x)) (show _ = n r + k from h41)) ?_
    refine z_reti (pc := 119) dM_type_119 (hEx _ _ _ (⟨rfl, rfl, fun q hq9 => by rw [hf q (by simp; omega), z_set_ne (by omega)], by rw [hf 39 (by decide), z_set_at], fun j hj => by rw [hf 46 (by decide), z_set_ne (by decide)]; exact hb j hj, fun q hq9 => ?_, by rw [hf 39 (by decide), z_set_nj (by decide)]; exact hs.2.1, fun j hj => by rw [hf 42 (by decide), z_set_ne (by decide)]; exact hs.2.2 j hj⟩))
    have hmq := (hv.1 q hq9).1
    have h64q := zmost_le q
    by_cases e : q = r
    · subst e
      rw [va_up_self, va_up_self]
      refine ⟨h41, fun j hj => ?_⟩
      by_cases h : j < n q
      · rw [if_pos h, hlo _ (by omega), z_set_ne (by decide)]; exact (hs.1 q hq9).2 j h
      · rw [if_neg h]
        have := ht (j - n q) (by omega)
        rw [show 64 * q + n q + (j - n q) = 64 * q + j by omega] at this
        exact this
    · rw [va_up_ne _ _ e, va_up_ne _ _ e]
      refine ⟨by rw [hq q e, z_set_ne (by decide)]; exact (hs.1 q hq9).1, fun j hj => ?_⟩
      rw [hlo _ (by omega), z_set_ne (by decide)]
      exact (hs.1 q hq9).2 j hj
theorem m_block1  (hn : n 0 ≠ 16 ∨ n 3 ≠ 16) (hb : z_box A 46) (hs : zMR A n R m X) (hv : zVS n R m X) : z_Met l g ad mM_block (z_rm 5) [.ref (ad 39)] A B (z_vd (zMP A B 1 n R m X)) := by
  refine z_Met.of (L := [(0, _)]) (by decide) (Nat.le_of_ble_eq_true rfl) z_fit_vd rfl ?_
  intro Ex hEx
  have k0 := hv.1 0 (by decide)
  have k1 := hv.1 1 (by decide)
  have k2 := hv.1 2 (by decide)
  have k3 := hv.1 3 (by decide)
  have l0 := zmost_le 0
  have l3 := zmost_le 3
  have e0 := (hs.1 0 (by decide)).1
  have e1 := (hs.1 1 (by decide)).1
  have e2 := (hs.1 2 (by decide)).1
  have e3 := (hs.1 3 (by decide)).1
  have l1 : zmost 1 = 24 := rfl
  have l2 : zmost 2 = 32 := rfl
  refine z_aload_n (pc := 0) dM_block_0 rfl rfl ?_
  refine z_aload_n (pc := 1) dM_block_1 rfl rfl ?_
  refine z_getR (pc := 2) zo_39 rfl zf_M_13_6 dM_block_2 ?_
  refine z_iconst (pc := 5) dM_block_5 zi_0 ?_
  refine z_iaload (pc := 6) za_41 (by omega) dM_block_6 ?_
  refine z_bipush (pc := 7) dM_block_7 zb_16 ?_
  refine z_icmp_ne (pc := 9) (by omega) (by omega) (tgt := 23) dM_block_9 rfl (fun h1 => ?_) (fun h1 => ?_)
  · refine z_iconst (pc := 23) dM_block_23 zi_1 ?_
    refine z_goto (pc := 24) (tgt := 28) dM_block_24 rfl ?_
    refine z_putI (pc := 28) zo_39 rfl zp_M_59_6 dM_block_28 ?_
    refine z_aload_n (pc := 31) dM_block_31 rfl rfl ?_
    refine z_getI (pc := 32) zo_39 rfl zf_M_59_6 dM_block_32 ?_
    refine z_top (congrArg (fun x => Value.int (nI x)) z_set_at) ?_
    refine z_if_le (pc := 35) (by omega) (tgt := 39) dM_block_35 rfl (fun h => by exfalso; omega) (fun h => ?_)
    exact z_ret0 (pc := 38) dM_block_38 (hEx _ _ _ (⟨rfl, rfl, fun q hq => z_set_ne (by omega), z_set_at, fun j hj => by rw [z_set_ne (by decide)]; exact hb j hj, hs.mv (fun i _ => by rw [z_set_ne (by decide)]) (z_set_ne (by decide)) (z_set_nj (by decide)) (z_set_ne (by decide)) hv⟩))
  · refine z_aload_n (pc := 12) dM_block_12 rfl rfl ?_
    refine z_getR (pc := 13) zo_39 rfl zf_M_13_6 dM_block_13 ?_
    refine z_iconst (pc := 16) dM_block_16 zi_3 ?_
    refine z_iaload (pc := 17) za_41 (by omega) dM_block_17 ?_
    refine z_bipush (pc := 18) dM_block_18 zb_16 ?_
    refine z_icmp_eq (pc := 20) (by omega) (by omega) (tgt := 27) dM_block_20 rfl (fun h => by exfalso; omega) (fun h => ?_)
    refine z_iconst (pc := 23) dM_block_23 zi_1 ?_
    refine z_goto (pc := 24) (tgt := 28) dM_block_24 rfl ?_
    refine z_putI (pc := 28) zo_39 rfl zp_M_59_6 dM_block_28 ?_
    refine z_aload_n (pc := 31) dM_block_31 rfl rfl ?_
    refine z_getI (pc := 32) zo_39 rfl zf_M_59_6 dM_block_32 ?_
    refine z_top (congrArg (fun x => Value.int (nI x)) z_set_at) ?_
    refine z_if_le (pc := 35) (by omega) (tgt := 39) dM_block_35 rfl (fun h => by exfalso; omega) (fun h => ?_)
    exact z_ret0 (pc := 38) dM_block_38 (hEx _ _ _ (⟨rfl, rfl, fun q hq => z_set_ne (by omega), z_set_at, fun j hj => by rw [z_set_ne (by decide)]; exact hb j hj, hs.mv (fun i _ => by rw [z_set_ne (by decide)]) (z_set_ne (by decide)) (z_set_nj (by decide)) (z_set_ne (by decide)) hv⟩))
theorem m_block0  (hn0 : n 0 = 16) (hn3 : n 3 = 16) (hb : z_box A 46) (hs : zMR A n R m X) (hv : zVS n R m X) : z_Met l g ad mM_block (z_rm 5) [.ref (ad 39)] A B (z_vd (zMP A B 0 n R 16 (zE (R 0) (R 3)))) := by
  refine z_Met.of (L := [(0, _)]) (by decide) (Nat.le_of_ble_eq_true rfl) z_fit_vd rfl ?_
  intro Ex hEx
  have k0 := hv.1 0 (by decide)
  have k1 := hv.1 1 (by decide)
  have k2 := hv.1 2 (by decide)
  have k3 := hv.1 3 (by decide)
  have l0 := zmost_le 0
  have l3 := zmost_le 3
  have e0 := (hs.1 0 (by decide)).1
  have e1 := (hs.1 1 (by decide)).1
  have e2 := (hs.1 2 (by decide)).1
  have e3 := (hs.1 3 (by decide)).1
  have l1 : zmost 1 = 24 := rfl
  have l2 : zmost 2 = 32 := rfl
  have r0 := hs.r0
  have r3 := hs.r3
  refine z_aload_n (pc := 0) dM_block_0 rfl rfl ?_
  refine z_aload_n (pc := 1) dM_block_1 rfl rfl ?_
  refine z_getR (pc := 2) zo_39 rfl zf_M_13_6 dM_block_2 ?_
  refine z_iconst (pc := 5) dM_block_5 zi_0 ?_
  refine z_iaload (pc := 6) za_41 (by omega) dM_block_6 ?_
  refine z_bipush (pc := 7) dM_block_7 zb_16 ?_
  refine z_icmp_ne (pc := 9) (by omega) (by omega) (tgt := 23) dM_block_9 rfl (fun h => by exfalso; omega) (fun h => ?_)
  refine z_aload_n (pc := 12) dM_block_12 rfl rfl ?_
  refine z_getR (pc := 13) zo_39 rfl zf_M_13_6 dM_block_13 ?_
  refine z_iconst (pc := 16) dM_block_16 zi_3 ?_
  refine z_iaload (pc := 17) za_41 (by omega) dM_block_17 ?_
  refine z_bipush (pc := 18) dM_block_18 zb_16 ?_
  refine z_icmp_eq (pc := 20) (by omega) (by omega) (tgt := 27) dM_block_20 rfl (fun h => ?_) (fun h => by exfalso; omega)
  refine z_iconst (pc := 27) dM_block_27 zi_0 ?_
  refine z_putI (pc := 28) zo_39 rfl zp_M_59_6 dM_block_28 ?_
  refine z_aload_n (pc := 31) dM_block_31 rfl rfl ?_
  refine z_getI (pc := 32) zo_39 rfl zf_M_59_6 dM_block_32 ?_
  refine z_top (congrArg (fun x => Value.int (nI x)) z_set_at) ?_
  refine z_if_le (pc := 35) (by omega) (tgt := 39) dM_block_35 rfl (fun h => ?_) (fun h => by exfalso; omega)
  refine z_aload_n (pc := 39) dM_block_39 rfl rfl ?_
  refine z_callV (pc := 40) (m_useKey) (by decide) zo_39 rfl zc_M_108 rfl rfl (Nat.le_of_ble_eq_true rfl) dM_block_40 (fun r A' B' hE => ?_)
  obtain ⟨rfl, rfl, rfl⟩ := hE
  refine z_r0 ?_
  refine z_iconst (pc := 43) dM_block_43 zi_0 ?_
  refine z_istore_n (L' := [(1, _), (0, _)]) (pc := 44) dM_block_44 rfl (by decide) rfl ?_
  refine z_wd (z_map_0 (z_map (z_set A 39 0 0) 47 16 ((z_set A 39 0 0) 40)) 48 (fun k => (z_map (z_set A 39 0 0) 47 16 ((z_set A 39 0 0) 40)) 40 (192 + k))).symm rfl ?_
  refine z_for 16 (fun i => [(1, .int (nI i)), (0, .ref (ad 39))]) (fun i => z_map (z_map (z_set A 39 0 0) 47 16 ((z_set A 39 0 0) 40)) 48 i (fun k => (z_map (z_set A 39 0 0) 47 16 ((z_set A 39 0 0) 40)) 40 (192 + k))) (fun i => B) (fun i hi ki => ?_) ?_
  · refine z_iload_n (pc := 45) dM_block_45 rfl rfl ?_
    refine z_bipush (pc := 46) dM_block_46 zb_16 ?_
    refine z_icmp_ge (pc := 48) (by omega) (by omega) (tgt := 73) dM_block_48 rfl (fun h => by exfalso; omega) (fun h => ?_)
    refine z_aload_n (pc := 51) dM_block_51 rfl rfl ?_
    refine z_getR (pc := 52) zo_39 rfl zf_M_34_6 dM_block_52 ?_
    refine z_iload_n (pc := 55) dM_block_55 rfl rfl ?_
    refine z_aload_n (pc := 56) dM_block_56 rfl rfl ?_
    refine z_getR (pc := 57) zo_39 rfl zf_M_7_6 dM_block_57 ?_
    refine z_sipush (pc := 60) dM_block_60 zs_192 ?_
    refine z_iload_n (pc := 63) dM_block_63 rfl rfl ?_
    refine z_iadd (pc := 64) dM_block_64 ?_
    refine z_iaload (pc := 65) za_40 (by omega) dM_block_65 ?_
    refine z_iastore (pc := 66) za_48 (by omega) dM_block_66 ?_
    refine z_iinc (L' := [(1, _), (0, _)]) (pc := 67) dM_block_67 rfl zi_1 (by decide) rfl ?_
    refine z_goto (pc := 70) (tgt := 45) dM_block_70 rfl ?_
    refine z_wd (z_map_set ?_) rfl ki
    rw [z_map_ne (by decide)]
  · refine z_iload_n (pc := 45) dM_block_45 rfl rfl ?_
    refine z_bipush (pc := 46) dM_block_46 zb_16 ?_
    refine z_icmp_ge (pc := 48) (by omega) (by omega) (tgt := 73) dM_block_48 rfl (fun h => ?_) (fun h => by exfalso; omega)
    refine z_aload_n (pc := 73) dM_block_73 rfl rfl ?_
    have q47 : ∀ j, j < 16 → (z_map (z_map (z_set A 39 0 0) 47 16 ((z_set A 39 0 0) 40)) 48 16 (fun k => (z_map (z_set A 39 0 0) 47 16 ((z_set A 39 0 0) 40)) 40 (192 + k))) 47 j = R 0 j := fun j hj => by rw [z_map_ne (by decide), z_map_lt hj, z_set_ne (by decide)]; exact r0 j (by omega)
    have q48 : ∀ j, j < 16 → (z_map (z_map (z_set A 39 0 0) 47 16 ((z_set A 39 0 0) 40)) 48 16 (fun k => (z_map (z_set A 39 0 0) 47 16 ((z_set A 39 0 0) 40)) 40 (192 + k))) 48 j = R 3 j := fun j hj => by rw [z_map_lt hj, z_map_ne (by decide), z_set_ne (by decide)]; exact r3 j (by omega)
    refine z_callV (pc := 74) (m_encipher (fun j hj => by rw [z_map_ne (by decide), z_map_ne (by decide), z_set_ne (by decide)]; exact hb j hj) (fun j hj => by rw [q47 j hj]; exact k0.2 j (by omega)) (fun j hj => by rw [q48 j hj]; exact k3.2 j (by omega))) (by decide) zo_39 rfl zc_M_111 rfl rfl (Nat.le_of_ble_eq_true rfl) dM_block_74 (fun r A' B' hE => ?_)
    obtain ⟨rfl, rfl, hA4, hX4⟩ := hE
    have hf : z_fr [43, 44, 45, 47, 48] (z_set A 39 0 0) A' := fun q hk => by rw [hA4 q (z_nm hk (by decide)) (z_nm hk (by decide)) (z_nm hk (by decide)) (z_nm hk (by decide)), z_map_ne (z_nm hk (by decide)), z_map_ne (z_nm hk (by decide))]
    refine z_r0 ?_
    refine z_aload_n (pc := 77) dM_block_77 rfl rfl ?_
    refine z_callV (pc := 78) (m_keepBlock) (by decide) zo_39 rfl zc_M_114 rfl rfl (Nat.le_of_ble_eq_true rfl) dM_block_78 (fun r A' B' hE => ?_)
    obtain ⟨rfl, rfl, rfl⟩ := hE
    refine z_r0 ?_
    exact z_ret0 (pc := 81) dM_block_81 (hEx _ _ _ (⟨rfl, rfl, fun q hq => by rw [z_set_ne (by omega), z_map_ne (by omega), hf q (by simp; omega), z_set_ne (by omega)], by rw [z_set_nj (by decide), z_map_ne (by decide), hf 39 (by decide), z_set_at], fun j hj => by rw [z_set_ne (by decide), z_map_ne (by decide), hf 46 (by decide), z_set_ne (by decide)]; exact hb j hj, hs.res (fun i _ => by rw [z_set_ne (by decide), z_map_ne (by decide), hf 40 (by decide), z_set_ne (by decide)]) (by rw [z_set_ne (by decide), z_map_ne (by decide), hf 41 (by decide), z_set_ne (by decide)]) z_set_at (fun j hj => by rw [z_set_ne (by decide), z_map_lt hj, hX4 j hj]; exact zE_cg q47 q48 j hj) hv⟩))
theorem m_hash1 {x : Int32} (hx : ¬ x = nI 0) (hx1 : ¬ x = nI 1) (hb : z_box A 46) (hs : zMR A n R m X) (hv : zVS n R m X) : z_Met l g ad mM_hash (z_rm 5) [.ref (ad 39), .int x] A B (z_vd (zMP A B 1 n R m X)) := by
  refine z_Met.of (L := [(0, _), (1, _)]) (by decide) (Nat.le_of_ble_eq_true rfl) z_fit_vd rfl ?_
  intro Ex hEx
  refine z_aload_n (pc := 0) dM_hash_0 rfl rfl ?_
  refine z_iload_n (pc := 1) dM_hash_1 rfl rfl ?_
  refine z_ifX_eq (pc := 2) (tgt := 14) dM_hash_2 rfl (fun h => absurd h (by rw [← nI_0]; exact hx)) (fun h => ?_)
  refine z_iload_n (pc := 5) dM_hash_5 rfl rfl ?_
  refine z_iconst (pc := 6) dM_hash_6 zi_1 ?_
  refine z_icmpX_eq (pc := 7) (tgt := 14) dM_hash_7 rfl (fun h => absurd h hx1) (fun h => ?_)
  refine z_iconst (pc := 10) dM_hash_10 zi_1 ?_
  refine z_goto (pc := 11) (tgt := 30) dM_hash_11 rfl ?_
  refine z_putI (pc := 30) zo_39 rfl zp_M_59_6 dM_hash_30 ?_
  refine z_aload_n (pc := 33) dM_hash_33 rfl rfl ?_
  refine z_getI (pc := 34) zo_39 rfl zf_M_59_6 dM_hash_34 ?_
  refine z_top (congrArg (fun x => Value.int (nI x)) z_set_at) ?_
  refine z_if_le (pc := 37) (by omega) (tgt := 41) dM_hash_37 rfl (fun h => by exfalso; omega) (fun h => ?_)
  exact z_ret0 (pc := 40) dM_hash_40 (hEx _ _ _ (⟨rfl, rfl, fun q hq => z_set_ne (by omega), z_set_at, fun j hj => by rw [z_set_ne (by decide)]; exact hb j hj, hs.mv (fun i _ => by rw [z_set_ne (by decide)]) (z_set_ne (by decide)) (z_set_nj (by decide)) (z_set_ne (by decide)) hv⟩))
theorem m_hash2 {w : Nat} (hw : w = 0 ∨ w = 1) (hn : n 0 ≠ 16) (hb : z_box A 46) (hs : zMR A n R m X) (hv : zVS n R m X) : z_Met l g ad mM_hash (z_rm 5) [.ref (ad 39), .int (nI w)] A B (z_vd (zMP A B 2 n R m X)) := by
  refine z_Met.of (L := [(0, _), (1, _)]) (by decide) (Nat.le_of_ble_eq_true rfl) z_fit_vd rfl ?_
  intro Ex hEx
  have k0 := hv.1 0 (by decide)
  have k1 := hv.1 1 (by decide)
  have k2 := hv.1 2 (by decide)
  have k3 := hv.1 3 (by decide)
  have l0 := zmost_le 0
  have l3 := zmost_le 3
  have e0 := (hs.1 0 (by decide)).1
  have e1 := (hs.1 1 (by decide)).1
  have e2 := (hs.1 2 (by decide)).1
  have e3 := (hs.1 3 (by decide)).1
  have l1 : zmost 1 = 24 := rfl
  have l2 : zmost 2 = 32 := rfl
  refine z_aload_n (pc := 0) dM_hash_0 rfl rfl ?_
  refine z_iload_n (pc := 1) dM_hash_1 rfl rfl ?_
  refine z_if_eq (pc := 2) (by omega) (tgt := 14) dM_hash_2 rfl (fun hw0 => ?_) (fun hw0 => ?_)
  · refine z_aload_n (pc := 14) dM_hash_14 rfl rfl ?_
    refine z_getR (pc := 15) zo_39 rfl zf_M_13_6 dM_hash_15 ?_
    refine z_iconst (pc := 18) dM_hash_18 zi_0 ?_
    refine z_iaload (pc := 19) za_41 (by omega) dM_hash_19 ?_
    refine z_bipush (pc := 20) dM_hash_20 zb_16 ?_
    refine z_icmp_eq (pc := 22) (by omega) (by omega) (tgt := 29) dM_hash_22 rfl (fun h => by exfalso; omega) (fun h => ?_)
    refine z_iconst (pc := 25) dM_hash_25 zi_2 ?_
    refine z_goto (pc := 26) (tgt := 30) dM_hash_26 rfl ?_
    refine z_putI (pc := 30) zo_39 rfl zp_M_59_6 dM_hash_30 ?_
    refine z_aload_n (pc := 33) dM_hash_33 rfl rfl ?_
    refine z_getI (pc := 34) zo_39 rfl zf_M_59_6 dM_hash_34 ?_
    refine z_top (congrArg (fun x => Value.int (nI x)) z_set_at) ?_
    refine z_if_le (pc := 37) (by omega) (tgt := 41) dM_hash_37 rfl (fun h => by exfalso; omega) (fun h => ?_)
    exact z_ret0 (pc := 40) dM_hash_40 (hEx _ _ _ (⟨rfl, rfl, fun q hq => z_set_ne (by omega), z_set_at, fun j hj => by rw [z_set_ne (by decide)]; exact hb j hj, hs.mv (fun i _ => by rw [z_set_ne (by decide)]) (z_set_ne (by decide)) (z_set_nj (by decide)) (z_set_ne (by decide)) hv⟩))
  · refine z_iload_n (pc := 5) dM_hash_5 rfl rfl ?_
    refine z_iconst (pc := 6) dM_hash_6 zi_1 ?_
    refine z_icmp_eq (pc := 7) (by omega) (by omega) (tgt := 14) dM_hash_7 rfl (fun h => ?_) (fun h => by exfalso; omega)
    refine z_aload_n (pc := 14) dM_hash_14 rfl rfl ?_
    refine z_getR (pc := 15) zo_39 rfl zf_M_13_6 dM_hash_15 ?_
    refine z_iconst (pc := 18) dM_hash_18 zi_0 ?_
    refine z_iaload (pc := 19) za_41 (by omega) dM_hash_19 ?_
    refine z_bipush (pc := 20) dM_hash_20 zb_16 ?_
    refine z_icmp_eq (pc := 22) (by omega) (by omega) (tgt := 29) dM_hash_22 rfl (fun h => by exfalso; omega) (fun h => ?_)
    refine z_iconst (pc := 25) dM_hash_25 zi_2 ?_
    refine z_goto (pc := 26) (tgt := 30) dM_hash_26 rfl ?_
    refine z_putI (pc := 30) zo_39 rfl zp_M_59_6 dM_hash_30 ?_
    refine z_aload_n (pc := 33) dM_hash_33 rfl rfl ?_
    refine z_getI (pc := 34) zo_39 rfl zf_M_59_6 dM_hash_34 ?_
    refine z_top (congrArg (fun x => Value.int (nI x)) z_set_at) ?_
    refine z_if_le (pc := 37) (by omega) (tgt := 41) dM_hash_37 rfl (fun h => by exfalso; omega) (fun h => ?_)
    exact z_ret0 (pc := 40) dM_hash_40 (hEx _ _ _ (⟨rfl, rfl, fun q hq => z_set_ne (by omega), z_set_at, fun j hj => by rw [z_set_ne (by decide)]; exact hb j hj, hs.mv (fun i _ => by rw [z_set_ne (by decide)]) (z_set_ne (by decide)) (z_set_nj (by decide)) (z_set_ne (by decide)) hv⟩))
theorem m_hash0 {w : Nat} (hw : w = 0 ∨ w = 1) (hn0 : n 0 = 16) (hb : z_box A 46) (hs : zMR A n R m X) (hv : zVS n R m X) : z_Met l g ad mM_hash (z_rm 5) [.ref (ad 39), .int (nI w)] A B (z_vd (zMP A B 0 n R 16 (fun j => zby (zmw w) (zrow w (zHw w (R 0)) (R 3) (n 3) 0) j))) := by
  refine z_Met.of (L := [(0, _), (1, _)]) (by decide) (Nat.le_of_ble_eq_true rfl) z_fit_vd rfl ?_
  intro Ex hEx
  have k0 := hv.1 0 (by decide)
  have k1 := hv.1 1 (by decide)
  have k2 := hv.1 2 (by decide)
  have k3 := hv.1 3 (by decide)
  have l0 := zmost_le 0
  have l3 := zmost_le 3
  have e0 := (hs.1 0 (by decide)).1
  have e1 := (hs.1 1 (by decide)).1
  have e2 := (hs.1 2 (by decide)).1
  have e3 := (hs.1 3 (by decide)).1
  have l1 : zmost 1 = 24 := rfl
  have l2 : zmost 2 = 32 := rfl
  have r0 := hs.r0
  have r3 := hs.r3
  refine z_aload_n (pc := 0) dM_hash_0 rfl rfl ?_
  refine z_iload_n (pc := 1) dM_hash_1 rfl rfl ?_
  refine z_if_eq (pc := 2) (by omega) (tgt := 14) dM_hash_2 rfl (fun hw0 => ?_) (fun hw0 => ?_)
  · refine z_aload_n (pc := 14) dM_hash_14 rfl rfl ?_
    refine z_getR (pc := 15) zo_39 rfl zf_M_13_6 dM_hash_15 ?_
    refine z_iconst (pc := 18) dM_hash_18 zi_0 ?_
    refine z_iaload (pc := 19) za_41 (by omega) dM_hash_19 ?_
    refine z_bipush (pc := 20) dM_hash_20 zb_16 ?_
    refine z_icmp_eq (pc := 22) (by omega) (by omega) (tgt := 29) dM_hash_22 rfl (fun h => ?_) (fun h => by exfalso; omega)
    refine z_iconst (pc := 29) dM_hash_29 zi_0 ?_
    refine z_putI (pc := 30) zo_39 rfl zp_M_59_6 dM_hash_30 ?_
    refine z_aload_n (pc := 33) dM_hash_33 rfl rfl ?_
    refine z_getI (pc := 34) zo_39 rfl zf_M_59_6 dM_hash_34 ?_
    refine z_top (congrArg (fun x => Value.int (nI x)) z_set_at) ?_
    refine z_if_le (pc := 37) (by omega) (tgt := 41) dM_hash_37 rfl (fun h => ?_) (fun h => by exfalso; omega)
    refine z_iconst (pc := 41) dM_hash_41 zi_0 ?_
    refine z_istore_n (L' := [(2, _), (0, _), (1, _)]) (pc := 42) dM_hash_42 rfl (by decide) rfl ?_
    refine z_wd (z_map_0 (z_set A 39 0 0) 48 ((z_set A 39 0 0) 40)).symm rfl ?_
    refine z_for 16 (fun i => [(2, .int (nI i)), (0, .ref (ad 39)), (1, .int (nI w))]) (fun i => z_map (z_set A 39 0 0) 48 i ((z_set A 39 0 0) 40)) (fun i => B) (fun i hi ki => ?_) ?_
    · refine z_iload_n (pc := 43) dM_hash_43 rfl rfl ?_
      refine z_bipush (pc := 44) dM_hash_44 zb_16 ?_
      refine z_icmp_ge (pc := 46) (by omega) (by omega) (tgt := 67) dM_hash_46 rfl (fun h => by exfalso; omega) (fun h => ?_)
      refine z_aload_n (pc := 49) dM_hash_49 rfl rfl ?_
      refine z_getR (pc := 50) zo_39 rfl zf_M_34_6 dM_hash_50 ?_
      refine z_iload_n (pc := 53) dM_hash_53 rfl rfl ?_
      refine z_aload_n (pc := 54) dM_hash_54 rfl rfl ?_
      refine z_getR (pc := 55) zo_39 rfl zf_M_7_6 dM_hash_55 ?_
      refine z_iload_n (pc := 58) dM_hash_58 rfl rfl ?_
      refine z_iaload (pc := 59) za_40 (by omega) dM_hash_59 ?_
      refine z_iastore (pc := 60) za_48 (by omega) dM_hash_60 ?_
      refine z_iinc (L' := [(2, _), (0, _), (1, _)]) (pc := 61) dM_hash_61 rfl zi_1 (by decide) rfl ?_
      refine z_goto (pc := 64) (tgt := 43) dM_hash_64 rfl ?_
      refine z_wd (z_map_set ?_) rfl ki
      rw [z_map_ne (by decide)]
    · refine z_iload_n (pc := 43) dM_hash_43 rfl rfl ?_
      refine z_bipush (pc := 44) dM_hash_44 zb_16 ?_
      refine z_icmp_ge (pc := 46) (by omega) (by omega) (tgt := 67) dM_hash_46 rfl (fun h => ?_) (fun h => by exfalso; omega)
      refine z_aload_n (pc := 67) dM_hash_67 rfl rfl ?_
      refine z_iload_n (pc := 68) dM_hash_68 rfl rfl ?_
      have q48 : ∀ j, j < 16 → (z_map (z_set A 39 0 0) 48 16 ((z_set A 39 0 0) 40)) 48 j = R 0 j := fun j hj => by rw [z_map_lt hj, z_set_ne (by decide)]; exact r0 j (by omega)
      refine z_callV (pc := 69) (m_beginHash hw (fun j hj => by rw [q48 j hj]; exact k0.2 j (by omega))) (by decide) zo_39 rfl zc_M_117 rfl rfl (Nat.le_of_ble_eq_true rfl) dM_hash_69 (fun r A' B' hE => ?_)
      obtain ⟨rfl, rfl, hA2, hs2, hh2⟩ := hE
      replace hh2 : zbr (A' 50) 128 (zHw w (R 0)) := by rw [← zHw_cg q48]; exact hh2
      have f40 : A' 40 = A 40 := by rw [hA2 40 (by decide) (by decide) (by decide), z_map_ne (by decide), z_set_ne (by decide)]
      have f41 : A' 41 = A 41 := by rw [hA2 41 (by decide) (by decide) (by decide), z_map_ne (by decide), z_set_ne (by decide)]
      refine z_r0 ?_
      refine z_aload_n (pc := 72) dM_hash_72 rfl rfl ?_
      refine z_iload_n (pc := 73) dM_hash_73 rfl rfl ?_
      refine z_sipush (pc := 74) dM_hash_74 zs_192 ?_
      refine z_aload_n (pc := 77) dM_hash_77 rfl rfl ?_
      refine z_getR (pc := 78) zo_39 rfl zf_M_13_6 dM_hash_78 ?_
      refine z_iconst (pc := 81) dM_hash_81 zi_3 ?_
      refine z_iaload (pc := 82) za_41 (by omega) dM_hash_82 ?_
      refine z_callV (pc := 83) (m_feedRow (fr := 192) hw hs2 ⟨hh2, zHw_lt _ _⟩ (by rw [f41]; omega) (fun j hj => by rw [f41, e3] at hj; rw [f40, r3 j hj]; exact k3.2 j hj)) (by decide) zo_39 rfl zc_M_120 rfl rfl (Nat.le_of_ble_eq_true rfl) dM_hash_83 (fun r A' B' hE => ?_)
      obtain ⟨rfl, rfl, hA3, hs3⟩ := hE
      rw [f40, f41, e3] at hs3
      replace hs3 : zbr (A' 49) 128 (zrow w (zHw w (R 0)) (R 3) (n 3) 0) := by rw [← zrow_cg (X := fun j => A 40 (192 + j)) r3]; exact hs3
      refine z_r0 ?_
      refine z_aload_n (pc := 86) dM_hash_86 rfl rfl ?_
      refine z_iload_n (pc := 87) dM_hash_87 rfl rfl ?_
      refine z_callV (pc := 88) (m_endHash hw hs3) (by decide) zo_39 rfl zc_M_124 rfl rfl (Nat.le_of_ble_eq_true rfl) dM_hash_88 (fun r A' B' hE => ?_)
      obtain ⟨rfl, rfl, hA4, hX4⟩ := hE
      have hf : z_fr [48, 49, 50, 51] (z_set A 39 0 0) A' := fun q hk => by rw [hA4 q (z_nm hk (by decide)), hA3 q (z_nm hk (by decide)) (z_nm hk (by decide)) (z_nm hk (by decide)), hA2 q (z_nm hk (by decide)) (z_nm hk (by decide)) (z_nm hk (by decide)), z_map_ne (z_nm hk (by decide))]
      refine z_r0 ?_
      refine z_aload_n (pc := 91) dM_hash_91 rfl rfl ?_
      refine z_callV (pc := 92) (m_keepBlock) (by decide) zo_39 rfl zc_M_114 rfl rfl (Nat.le_of_ble_eq_true rfl) dM_hash_92 (fun r A' B' hE => ?_)
      obtain ⟨rfl, rfl, rfl⟩ := hE
      refine z_r0 ?_
      exact z_ret0 (pc := 95) dM_hash_95 (hEx _ _ _ (⟨rfl, rfl, fun q hq => by rw [z_set_ne (by omega), z_map_ne (by omega), hf q (by simp; omega), z_set_ne (by omega)], by rw [z_set_nj (by decide), z_map_ne (by decide), hf 39 (by decide), z_set_at], fun j hj => by rw [z_set_ne (by decide), z_map_ne (by decide), hf 46 (by decide), z_set_ne (by decide)]; exact hb j hj, hs.res (fun i _ => by rw [z_set_ne (by decide), z_map_ne (by decide), hf 40 (by decide), z_set_ne (by decide)]) (by rw [z_set_ne (by decide), z_map_ne (by decide), hf 41 (by decide), z_set_ne (by decide)]) z_set_at (fun j hj => by rw [z_set_ne (by decide), z_map_lt hj, hX4 j hj]) hv⟩))
  · refine z_iload_n (pc := 5) dM_hash_5 rfl rfl ?_
    refine z_iconst (pc := 6) dM_hash_6 zi_1 ?_
    refine z_icmp_eq (pc := 7) (by omega) (by omega) (tgt := 14) dM_hash_7 rfl (fun h => ?_) (fun h => by exfalso; omega)
    refine z_aload_n (pc := 14) dM_hash_14 rfl rfl ?_
    refine z_getR (pc := 15) zo_39 rfl zf_M_13_6 dM_hash_15 ?_
    refine z_iconst (pc := 18) dM_hash_18 zi_0 ?_
    refine z_iaload (pc := 19) za_41 (by omega) dM_hash_19 ?_
    refine z_bipush (pc := 20) dM_hash_20 zb_16 ?_
    refine z_icmp_eq (pc := 22) (by omega) (by omega) (tgt := 29) dM_hash_22 rfl (fun h => ?_) (fun h => by exfalso; omega)
    refine z_iconst (pc := 29) dM_hash_29 zi_0 ?_
    refine z_putI (pc := 30) zo_39 rfl zp_M_59_6 dM_hash_30 ?_
    refine z_aload_n (pc := 33) dM_hash_33 rfl rfl ?_
    refine z_getI (pc := 34) zo_39 rfl zf_M_59_6 dM_hash_34 ?_
    refine z_top (congrArg (fun x => Value.int (nI x)) z_set_at) ?_
    refine z_if_le (pc := 37) (by omega) (tgt := 41) dM_hash_37 rfl (fun h => ?_) (fun h => by exfalso; omega)
    refine z_iconst (pc := 41) dM_hash_41 zi_0 ?_
    refine z_istore_n (L' := [(2, _), (0, _), (1, _)]) (pc := 42) dM_hash_42 rfl (by decide) rfl ?_
    refine z_wd (z_map_0 (z_set A 39 0 0) 48 ((z_set A 39 0 0) 40)).symm rfl ?_
    refine z_for 16 (fun i => [(2, .int (nI i)), (0, .ref (ad 39)), (1, .int (nI w))]) (fun i => z_map (z_set A 39 0 0) 48 i ((z_set A 39 0 0) 40)) (fun i => B) (fun i hi ki => ?_) ?_
    · refine z_iload_n (pc := 43) dM_hash_43 rfl rfl ?_
      refine z_bipush (pc := 44) dM_hash_44 zb_16 ?_
      refine z_icmp_ge (pc := 46) (by omega) (by omega) (tgt := 67) dM_hash_46 rfl (fun h => by exfalso; omega) (fun h => ?_)
      refine z_aload_n (pc := 49) dM_hash_49 rfl rfl ?_
      refine z_getR (pc := 50) zo_39 rfl zf_M_34_6 dM_hash_50 ?_
      refine z_iload_n (pc := 53) dM_hash_53 rfl rfl ?_
      refine z_aload_n (pc := 54) dM_hash_54 rfl rfl ?_
      refine z_getR (pc := 55) zo_39 rfl zf_M_7_6 dM_hash_55 ?_
      refine z_iload_n (pc := 58) dM_hash_58 rfl rfl ?_
      refine z_iaload (pc := 59) za_40 (by omega) dM_hash_59 ?_
      refine z_iastore (pc := 60) za_48 (by omega) dM_hash_60 ?_
      refine z_iinc (L' := [(2, _), (0, _), (1, _)]) (pc := 61) dM_hash_61 rfl zi_1 (by decide) rfl ?_
      refine z_goto (pc := 64) (tgt := 43) dM_hash_64 rfl ?_
      refine z_wd (z_map_set ?_) rfl ki
      rw [z_map_ne (by decide)]
    · refine z_iload_n (pc := 43) dM_hash_43 rfl rfl ?_
      refine z_bipush (pc := 44) dM_hash_44 zb_16 ?_
      refine z_icmp_ge (pc := 46) (by omega) (by omega) (tgt := 67) dM_hash_46 rfl (fun h => ?_) (fun h => by exfalso; omega)
      refine z_aload_n (pc := 67) dM_hash_67 rfl rfl ?_
      refine z_iload_n (pc := 68) dM_hash_68 rfl rfl ?_
      have q48 : ∀ j, j < 16 → (z_map (z_set A 39 0 0) 48 16 ((z_set A 39 0 0) 40)) 48 j = R 0 j := fun j hj => by rw [z_map_lt hj, z_set_ne (by decide)]; exact r0 j (by omega)
      refine z_callV (pc := 69) (m_beginHash hw (fun j hj => by rw [q48 j hj]; exact k0.2 j (by omega))) (by decide) zo_39 rfl zc_M_117 rfl rfl (Nat.le_of_ble_eq_true rfl) dM_hash_69 (fun r A' B' hE => ?_)
      obtain ⟨rfl, rfl, hA2, hs2, hh2⟩ := hE
      replace hh2 : zbr (A' 50) 128 (zHw w (R 0)) := by rw [← zHw_cg q48]; exact hh2
      have f40 : A' 40 = A 40 := by rw [hA2 40 (by decide) (by decide) (by decide), z_map_ne (by decide), z_set_ne (by decide)]
      have f41 : A' 41 = A 41 := by rw [hA2 41 (by decide) (by decide) (by decide), z_map_ne (by decide), z_set_ne (by decide)]
      refine z_r0 ?_
      refine z_aload_n (pc := 72) dM_hash_72 rfl rfl ?_
      refine z_iload_n (pc := 73) dM_hash_73 rfl rfl ?_
      refine z_sipush (pc := 74) dM_hash_74 zs_192 ?_
      refine z_aload_n (pc := 77) dM_hash_77 rfl rfl ?_
      refine z_getR (pc := 78) zo_39 rfl zf_M_13_6 dM_hash_78 ?_
      refine z_iconst (pc := 81) dM_hash_81 zi_3 ?_
      refine z_iaload (pc := 82) za_41 (by omega) dM_hash_82 ?_
      refine z_callV (pc := 83) (m_feedRow (fr := 192) hw hs2 ⟨hh2, zHw_lt _ _⟩ (by rw [f41]; omega) (fun j hj => by rw [f41, e3] at hj; rw [f40, r3 j hj]; exact k3.2 j hj)) (by decide) zo_39 rfl zc_M_120 rfl rfl (Nat.le_of_ble_eq_true rfl) dM_hash_83 (fun r A' B' hE => ?_)
      obtain ⟨rfl, rfl, hA3, hs3⟩ := hE
      rw [f40, f41, e3] at hs3
      replace hs3 : zbr (A' 49) 128 (zrow w (zHw w (R 0)) (R 3) (n 3) 0) := by rw [← zrow_cg (X := fun j => A 40 (192 + j)) r3]; exact hs3
      refine z_r0 ?_
      refine z_aload_n (pc := 86) dM_hash_86 rfl rfl ?_
      refine z_iload_n (pc := 87) dM_hash_87 rfl rfl ?_
      refine z_callV (pc := 88) (m_endHash hw hs3) (by decide) zo_39 rfl zc_M_124 rfl rfl (Nat.le_of_ble_eq_true rfl) dM_hash_88 (fun r A' B' hE => ?_)
      obtain ⟨rfl, rfl, hA4, hX4⟩ := hE
      have hf : z_fr [48, 49, 50, 51] (z_set A 39 0 0) A' := fun q hk => by rw [hA4 q (z_nm hk (by decide)), hA3 q (z_nm hk (by decide)) (z_nm hk (by decide)) (z_nm hk (by decide)), hA2 q (z_nm hk (by decide)) (z_nm hk (by decide)) (z_nm hk (by decide)), z_map_ne (z_nm hk (by decide))]
      refine z_r0 ?_
      refine z_aload_n (pc := 91) dM_hash_91 rfl rfl ?_
      refine z_callV (pc := 92) (m_keepBlock) (by decide) zo_39 rfl zc_M_114 rfl rfl (Nat.le_of_ble_eq_true rfl) dM_hash_92 (fun r A' B' hE => ?_)
      obtain ⟨rfl, rfl, rfl⟩ := hE
      refine z_r0 ?_
      exact z_ret0 (pc := 95) dM_hash_95 (hEx _ _ _ (⟨rfl, rfl, fun q hq => by rw [z_set_ne (by omega), z_map_ne (by omega), hf q (by simp; omega), z_set_ne (by omega)], by rw [z_set_nj (by decide), z_map_ne (by decide), hf 39 (by decide), z_set_at], fun j hj => by rw [z_set_ne (by decide), z_map_ne (by decide), hf 46 (by decide), z_set_ne (by decide)]; exact hb j hj, hs.res (fun i _ => by rw [z_set_ne (by decide), z_map_ne (by decide), hf 40 (by decide), z_set_ne (by decide)]) (by rw [z_set_ne (by decide), z_map_ne (by decide), hf 41 (by decide), z_set_ne (by decide)]) z_set_at (fun j hj => by rw [z_set_ne (by decide), z_map_lt hj, hX4 j hj]) hv⟩))
end
