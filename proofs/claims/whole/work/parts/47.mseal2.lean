theorem z_rd {A : z_A} {n : Nat → Nat} {w : Nat} (e0 : A 41 0 = n 0) (e1 : A 41 1 = n 1) : (A 41 0 = 16 ∧ (if w = 0 then 1 ≤ A 41 1 else A 41 1 = 12)) ↔ zrdy w n := by rw [e0, e1]; rfl
theorem z_set_self {A : z_A} {k j x : Nat} (h : A k j = x) : z_set A k j x = A := by
  funext i q
  by_cases e : i = k
  · subst e
    by_cases e2 : q = j
    · subst e2; rw [z_set_at, h]
    · rw [z_set_nj e2]
  · rw [z_set_ne e]
theorem z_set_set {A : z_A} {k j x y : Nat} : z_set (z_set A k j x) k j y = z_set A k j y := by
  funext i q
  by_cases e : i = k
  · subst e
    by_cases e2 : q = j
    · subst e2; rw [z_set_at, z_set_at]
    · rw [z_set_nj e2, z_set_nj e2, z_set_nj e2]
  · rw [z_set_ne e, z_set_ne e, z_set_ne e]
theorem z_or0' {a b : Nat} : a ||| b = 0 ↔ a = 0 ∧ b = 0 := by
  constructor
  · intro h
    have h1 : a ≤ a ||| b := Nat.left_le_or
    have h2 : b ≤ a ||| b := Nat.right_le_or
    omega
  · rintro ⟨rfl, rfl⟩; rfl
/-- thrown behind i compared bytes -/
def zne (a b : Nat → Nat) : Nat → Nat
  | 0 => 0
  | i + 1 => if a i = b i then zne a b i else 3
theorem zne_0 (a b : Nat → Nat) : ∀ n, (∀ i, i < n → a i = b i) → zne a b n = 0
  | 0, _ => rfl
  | n + 1, h => by rw [zne, if_pos (h n (by omega))]; exact zne_0 a b n (fun i hi => h i (by omega))
theorem zne_3 (a b : Nat → Nat) : ∀ n, ¬ (∀ i, i < n → a i = b i) → zne a b n = 3
  | 0, h => absurd (fun i hi => absurd hi (Nat.not_lt_zero _)) h
  | n + 1, h => by
    rw [zne]
    by_cases e : a n = b n
    · rw [if_pos e]
      refine zne_3 a b n (fun q => h (fun i hi => ?_))
      by_cases e2 : i = n
      · rw [e2]; exact e
      · exact q i (by omega)
    · rw [if_neg e]
theorem zne_lt (a b : Nat → Nat) : ∀ n, zne a b n ≤ 3
  | 0 => by show 0 ≤ 3; decide
  | n + 1 => by
    rw [zne]
    split
    · exact zne_lt a b n
    · exact Nat.le_refl _
section
variable {l : Launch} {g : z_G} {ad : Nat → Nat} {A B : z_A} {n : Nat → Nat} {R : Nat → Nat → Nat} {m : Nat} {X : Nat → Nat}
theorem m_openInward {k : Nat} (hk : k ≤ 48) (hb : z_box A 46) (hK : ∀ j, j < 16 → A 47 j < 256) (hJ : ∀ j, j < 16 → A 52 j < 256) (hN : ∀ j, j < 12 → A 40 (64 + j) < 256) (hal : A 41 2 ≤ 32) (hY : ∀ j, j < A 41 2 → A 40 (128 + j) < 256) (hT : ∀ j, j < k + 16 → A 40 (192 + j) < 256) : z_Met l g ad mM_openInward (z_rm 6) [.ref (ad 39), .int (nI k)] A B (z_vd (fun A' B' => B = B' ∧ z_fr [40, 43, 44, 45, 48, 49, 50, 51, 52, 53] A A' ∧ (∀ i, i < 256 → A' 40 i = A 40 i) ∧ (∀ j, j < k → A' 40 (256 + j) = (zC1 (A 47) (fun j => A 40 (192 + k + j)) (fun j => A 40 (192 + j))) j) ∧ ∀ j, j < 16 → A' 53 j = zD1 (A 47) (A 52) (fun j => A 40 (64 + j)) (fun j => A 40 (128 + j)) (A 41 2) (zC1 (A 47) (fun j => A 40 (192 + k + j)) (fun j => A 40 (192 + j))) k j)) := by
  refine z_Met.of (L := [(0, _), (1, _)]) (by decide) (Nat.le_of_ble_eq_true rfl) z_fit_vd rfl ?_
  intro Ex hEx
  refine z_iconst (pc := 0) dM_openInward_0 zi_0 ?_
  refine z_istore_n (L' := [(2, _), (0, _), (1, _)]) (pc := 1) dM_openInward_1 rfl (by decide) rfl ?_
  refine z_loop 16 (fun i L A' B' => L = [(2, .int (nI i)), (0, .ref (ad 39)), (1, .int (nI k))] ∧ B = B' ∧ z_fr [52, 53] A A' ∧ (∀ j, i ≤ j → A' 52 j = A 52 j) ∧ (∀ j, j < i → A' 53 j = A 52 j) ∧ ∀ j, j < i → A' 52 j = z128 (fun j => A 40 (192 + k + j)) j) ?_ ?_ _ _ _ ⟨rfl, rfl, fun _ _ => rfl, fun _ _ => rfl, fun j hj => absurd hj (Nat.not_lt_zero _), fun j hj => absurd hj (Nat.not_lt_zero _)⟩
  · rintro i L A' B' hi ⟨rfl, rfl, hA, h0, h1, h2⟩ ki
    refine z_iload_n (pc := 2) dM_openInward_2 rfl rfl ?_
    refine z_bipush (pc := 3) dM_openInward_3 zb_16 ?_
    refine z_icmp_ge (pc := 5) (by omega) (by omega) (tgt := 69) dM_openInward_5 rfl (fun h => by exfalso; omega) (fun h => ?_)
    refine z_aload_n (pc := 8) dM_openInward_8 rfl rfl ?_
    refine z_getR (pc := 9) zo_39 rfl zf_M_49_6 dM_openInward_9 ?_
    refine z_iload_n (pc := 12) dM_openInward_12 rfl rfl ?_
    refine z_aload_n (pc := 13) dM_openInward_13 rfl rfl ?_
    refine z_getR (pc := 14) zo_39 rfl zf_M_46_6 dM_openInward_14 ?_
    refine z_iload_n (pc := 17) dM_openInward_17 rfl rfl ?_
    refine z_iaload (pc := 18) za_52 (by omega) dM_openInward_18 ?_
    refine z_iastore (pc := 19) za_53 (by omega) dM_openInward_19 ?_
    refine z_aload_n (pc := 20) dM_openInward_20 rfl rfl ?_
    refine z_getR (pc := 21) zo_39 rfl zf_M_46_6 dM_openInward_21 ?_
    refine z_iload_n (pc := 24) dM_openInward_24 rfl rfl ?_
    refine z_iload_n (pc := 25) dM_openInward_25 rfl rfl ?_
    refine z_bipush (pc := 26) dM_openInward_26 zb_15 ?_
    refine z_icmp_ne (pc := 28) (by omega) (by omega) (tgt := 50) dM_openInward_28 rfl (fun h5 => ?_) (fun h5 => ?_)
    · refine z_aload_n (pc := 50) dM_openInward_50 rfl rfl ?_
      refine z_getR (pc := 51) zo_39 rfl zf_M_7_6 dM_openInward_51 ?_
      refine z_sipush (pc := 54) dM_openInward_54 zs_192 ?_
      refine z_iload_n (pc := 57) dM_openInward_57 rfl rfl ?_
      refine z_iadd (pc := 58) dM_openInward_58 ?_
      refine z_iload_n (pc := 59) dM_openInward_59 rfl rfl ?_
      refine z_iadd (pc := 60) dM_openInward_60 ?_
      refine z_iaload (pc := 61) za_40 (by omega) dM_openInward_61 ?_
      refine z_iastore (pc := 62) za_52 (by omega) dM_openInward_62 ?_
      refine z_iinc (L' := [(2, _), (0, _), (1, _)]) (pc := 63) dM_openInward_63 rfl zi_1 (by decide) rfl ?_
      refine z_goto (pc := 66) (tgt := 2) dM_openInward_66 rfl ?_
      refine ki _ _ _ ⟨rfl, rfl, fun q hk => by rw [z_set_ne (z_nm hk (by decide)), z_set_ne (z_nm hk (by decide)), hA q hk], fun j hj => by rw [z_set_nj (by omega), z_set_ne (by decide)]; exact h0 j (by omega), fun j hj => ?_, fun j hj => ?_⟩
      · rw [z_set_ne (by decide)]
        by_cases e : j = i
        · rw [e, z_set_at]; exact h0 i (Nat.le_refl _)
        · rw [z_set_nj e]; exact h1 j (by omega)
      · by_cases e : j = i
        · rw [e, z_set_at, z_set_ne (by decide), hA 40 (by decide), z128]
          first | rw [if_pos h5] | rw [if_neg h5]
        · rw [z_set_nj e, z_set_ne (by decide)]; exact h2 j (by omega)
    · refine z_aload_n (pc := 31) dM_openInward_31 rfl rfl ?_
      refine z_getR (pc := 32) zo_39 rfl zf_M_7_6 dM_openInward_32 ?_
      refine z_sipush (pc := 35) dM_openInward_35 zs_192 ?_
      refine z_iload_n (pc := 38) dM_openInward_38 rfl rfl ?_
      refine z_iadd (pc := 39) dM_openInward_39 ?_
      refine z_iload_n (pc := 40) dM_openInward_40 rfl rfl ?_
      refine z_iadd (pc := 41) dM_openInward_41 ?_
      refine z_iaload (pc := 42) za_40 (by omega) dM_openInward_42 ?_
      refine z_sipush (pc := 43) dM_openInward_43 zs_128 ?_
      refine z_ior (pc := 46) dM_openInward_46 ?_
      refine z_goto (pc := 47) (tgt := 62) dM_openInward_47 rfl ?_
      refine z_iastore (pc := 62) za_52 (by omega) dM_openInward_62 ?_
      refine z_iinc (L' := [(2, _), (0, _), (1, _)]) (pc := 63) dM_openInward_63 rfl zi_1 (by decide) rfl ?_
      refine z_goto (pc := 66) (tgt := 2) dM_openInward_66 rfl ?_
      refine ki _ _ _ ⟨rfl, rfl, fun q hk => by rw [z_set_ne (z_nm hk (by decide)), z_set_ne (z_nm hk (by decide)), hA q hk], fun j hj => by rw [z_set_nj (by omega), z_set_ne (by decide)]; exact h0 j (by omega), fun j hj => ?_, fun j hj => ?_⟩
      · rw [z_set_ne (by decide)]
        by_cases e : j = i
        · rw [e, z_set_at]; exact h0 i (Nat.le_refl _)
        · rw [z_set_nj e]; exact h1 j (by omega)
      · by_cases e : j = i
        · rw [e, z_set_at, z_set_ne (by decide), hA 40 (by decide), z128]
          first | rw [if_pos h5] | rw [if_neg h5]
        · rw [z_set_nj e, z_set_ne (by decide)]; exact h2 j (by omega)
  · rintro L A1 B1 ⟨rfl, rfl, hA, h0, h1, h2⟩
    refine z_iload_n (pc := 2) dM_openInward_2 rfl rfl ?_
    refine z_bipush (pc := 3) dM_openInward_3 zb_16 ?_
    refine z_icmp_ge (pc := 5) (by omega) (by omega) (tgt := 69) dM_openInward_5 rfl (fun h => ?_) (fun h => by exfalso; omega)
    refine z_aload_n (pc := 69) dM_openInward_69 rfl rfl ?_
    refine z_iload_n (pc := 70) dM_openInward_70 rfl rfl ?_
    refine z_iconst (pc := 71) dM_openInward_71 zi_0 ?_
    refine z_callV (pc := 72) (m_cipher1 (n := k) (by omega) (fun j hj => by rw [hA 46 (by decide)]; exact hb j hj) (fun j hj => by rw [hA 47 (by decide)]; exact hK j hj) (fun j hj => by rw [h2 j hj]; exact z128_lt' (fun j' h' => by rw [show 192 + k + j' = 192 + (k + j') by omega]; exact hT _ (by omega)) j hj)) (by decide) zo_39 rfl zc_M_147 rfl rfl (Nat.le_of_ble_eq_true rfl) dM_openInward_72 (fun r A2 B' hE => ?_)
    obtain ⟨rfl, rfl, f2, lo2, c2⟩ := hE
    replace c2 : ∀ j, j < k → A2 40 (256 + j) = (zC1 (A 47) (fun j => A 40 (192 + k + j)) (fun j => A 40 (192 + j))) j := fun j hj => by
      rw [c2 j hj, hA 40 (by decide), hA 47 (by decide)]
      exact congrArg _ (zE_cg (fun _ _ => rfl) (zcnt_cg h2) _ (Nat.mod_lt _ (by decide)))
    refine z_r0 ?_
    refine z_iconst (pc := 75) dM_openInward_75 zi_0 ?_
    refine z_istore_n (L' := [(2, _), (0, _), (1, _)]) (pc := 76) dM_openInward_76 rfl (by decide) rfl ?_
    refine z_wd (z_map_0 A2 52 (A2 53)).symm rfl ?_
    refine z_for 16 (fun i => [(2, .int (nI i)), (0, .ref (ad 39)), (1, .int (nI k))]) (fun i => z_map A2 52 i (A2 53)) (fun i => B) (fun i hi ki => ?_) ?_
    · refine z_iload_n (pc := 77) dM_openInward_77 rfl rfl ?_
      refine z_bipush (pc := 78) dM_openInward_78 zb_16 ?_
      refine z_icmp_ge (pc := 80) (by omega) (by omega) (tgt := 101) dM_openInward_80 rfl (fun h => by exfalso; omega) (fun h => ?_)
      refine z_aload_n (pc := 83) dM_openInward_83 rfl rfl ?_
      refine z_getR (pc := 84) zo_39 rfl zf_M_46_6 dM_openInward_84 ?_
      refine z_iload_n (pc := 87) dM_openInward_87 rfl rfl ?_
      refine z_aload_n (pc := 88) dM_openInward_88 rfl rfl ?_
      refine z_getR (pc := 89) zo_39 rfl zf_M_49_6 dM_openInward_89 ?_
      refine z_iload_n (pc := 92) dM_openInward_92 rfl rfl ?_
      refine z_iaload (pc := 93) za_53 (by omega) dM_openInward_93 ?_
      refine z_iastore (pc := 94) za_52 (by omega) dM_openInward_94 ?_
      refine z_iinc (L' := [(2, _), (0, _), (1, _)]) (pc := 95) dM_openInward_95 rfl zi_1 (by decide) rfl ?_
      refine z_goto (pc := 98) (tgt := 77) dM_openInward_98 rfl ?_
      refine z_wd (z_map_set ?_) rfl ki
      rw [z_map_ne (by decide)]
    · refine z_iload_n (pc := 77) dM_openInward_77 rfl rfl ?_
      refine z_bipush (pc := 78) dM_openInward_78 zb_16 ?_
      refine z_icmp_ge (pc := 80) (by omega) (by omega) (tgt := 101) dM_openInward_80 rfl (fun h => ?_) (fun h => by exfalso; omega)
      refine z_aload_n (pc := 101) dM_openInward_101 rfl rfl ?_
      refine z_sipush (pc := 102) dM_openInward_102 zs_256 ?_
      refine z_iload_n (pc := 105) dM_openInward_105 rfl rfl ?_
      have g52 : ∀ j, j < 16 → z_map A2 52 16 (A2 53) 52 j = A 52 j := fun j hj => by rw [z_map_lt hj, f2 53 (by decide)]; exact h1 j hj
      have g : z_fr [40, 43, 44, 45, 48, 52, 53] A (z_map A2 52 16 (A2 53)) := fun q hk => by rw [z_map_ne (z_nm hk (by decide)), f2 q (fun q => hk (by revert q; simp; omega))]; exact hA q (fun q => hk (by revert q; simp; omega))
      have g40 : ∀ i, i < 256 → z_map A2 52 16 (A2 53) 40 i = A 40 i := fun i hi => by rw [z_map_ne (by decide), lo2 i hi, hA 40 (by decide)]
      have gP : ∀ j, j < k → z_map A2 52 16 (A2 53) 40 (256 + j) = (zC1 (A 47) (fun j => A 40 (192 + k + j)) (fun j => A 40 (192 + j))) j := fun j hj => by rw [z_map_ne (by decide)]; exact c2 j hj
      refine z_callV (pc := 106) (m_sealInward (fr := 256) (n := k) (fun j hj => by rw [g 47 (by decide)]; exact hK j hj) (fun j hj => by rw [g52 j hj]; exact hJ j hj) (fun j hj => by rw [g40 _ (by omega)]; exact hN j hj) (fun j hj => by rw [g 46 (by decide)]; exact hb j hj) (by rw [g 41 (by decide)]; exact hal) (fun j hj => by rw [g 41 (by decide)] at hj; rw [g40 _ (by omega)]; exact hY j hj) (by omega) (by omega) (fun j hj => by rw [gP j hj]; exact zC1_lt (n := k) hK (fun j' h' => by rw [show 192 + k + j' = 192 + (k + j') by omega]; exact hT _ (by omega)) (fun j' h' => hT j' (by omega)) j hj)) (by decide) zo_39 rfl zc_M_156 rfl rfl (Nat.le_of_ble_eq_true rfl) dM_openInward_106 (fun r A3 B' hE => ?_)
      obtain ⟨rfl, rfl, f3, t3⟩ := hE
      refine z_r0 ?_
      exact z_ret0 (pc := 109) dM_openInward_109 (hEx _ _ _ (⟨rfl, rfl, fun q hk => by rw [f3 q (fun q => hk (by revert q; simp; omega))]; exact g q (fun q => hk (by revert q; simp; omega)), fun i hi => by rw [f3 40 (by decide)]; exact g40 i hi, fun j hj => by rw [f3 40 (by decide)]; exact gP j hj, fun j hj => by rw [t3 j hj, g 47 (by decide), g 41 (by decide)]; exact zD1_cg (fun _ _ => rfl) g52 (fun j' h' => g40 _ (by omega)) (fun j' h' => g40 _ (by omega)) gP j hj⟩))
theorem m_seal1 {x : Int32} (hx : ¬ x = nI 0) (hx1 : ¬ x = nI 1) (hb : z_box A 46) (hs : zMR A n R m X) (hv : zVS n R m X) : z_Met l g ad mM_seal (z_rm 7) [.ref (ad 39), .int x] A B (z_an 0 (zMP A B 1 n R m X)) := by
  refine z_Met.of (L := [(0, _), (1, _)]) (by decide) (Nat.le_of_ble_eq_true rfl) z_fit_an rfl ?_
  intro Ex hEx
  refine z_aload_n (pc := 0) dM_seal_0 rfl rfl ?_
  refine z_iload_n (pc := 1) dM_seal_1 rfl rfl ?_
  refine z_ifX_eq (pc := 2) (tgt := 14) dM_seal_2 rfl (fun h => absurd h (by rw [← nI_0]; exact hx)) (fun h => ?_)
  refine z_iload_n (pc := 5) dM_seal_5 rfl rfl ?_
  refine z_iconst (pc := 6) dM_seal_6 zi_1 ?_
  refine z_icmpX_eq (pc := 7) (tgt := 14) dM_seal_7 rfl (fun h => absurd h hx1) (fun h => ?_)
  refine z_iconst (pc := 10) dM_seal_10 zi_1 ?_
  refine z_goto (pc := 11) (tgt := 38) dM_seal_11 rfl ?_
  refine z_putI (pc := 38) zo_39 rfl zp_M_59_6 dM_seal_38 ?_
  refine z_aload_n (pc := 41) dM_seal_41 rfl rfl ?_
  refine z_getI (pc := 42) zo_39 rfl zf_M_59_6 dM_seal_42 ?_
  refine z_top (congrArg (fun x => Value.int (nI x)) z_set_at) ?_
  refine z_if_le (pc := 45) (by omega) (tgt := 50) dM_seal_45 rfl (fun h => by exfalso; omega) (fun h => ?_)
  refine z_iconst (pc := 48) dM_seal_48 zi_0 ?_
  exact z_reti (pc := 49) dM_seal_49 (hEx _ _ _ (⟨rfl, rfl, fun q hq => z_set_ne (by omega), z_set_at, fun j hj => by rw [z_set_ne (by decide)]; exact hb j hj, hs.mv (fun i _ => by rw [z_set_ne (by decide)]) (z_set_ne (by decide)) (z_set_nj (by decide)) (z_set_ne (by decide)) hv⟩))
theorem m_seal2 {w : Nat} (hw : w = 0 ∨ w = 1) (hn : ¬ zrdy w n ∨ 48 < n 3) (hb : z_box A 46) (hs : zMR A n R m X) (hv : zVS n R m X) : z_Met l g ad mM_seal (z_rm 7) [.ref (ad 39), .int (nI w)] A B (z_an 0 (zMP A B 2 n R m X)) := by
  refine z_Met.of (L := [(0, _), (1, _)]) (by decide) (Nat.le_of_ble_eq_true rfl) z_fit_an rfl ?_
  intro Ex hEx
  have k0 := hv.1 0 (by decide)
  have k1 := hv.1 1 (by decide)
  have k2 := hv.1 2 (by decide)
  have k3 := hv.1 3 (by decide)
  have l0 := zmost_le 0
  have l3 := zmost_le 3
  have e0 := (hs.1 0 (by decide)).1
  have e1 := (hs.1 1 (by decide)).1
  have e2 := (hs.1 2 (by decide)).1
  have e3 := (hs.1 3 (by decide)).1
  have l1 : zmost 1 = 24 := rfl
  have l2 : zmost 2 = 32 := rfl
  have r0 := hs.r0
  have r1 := hs.r1
  have r2 := hs.r2
  have r3 := hs.r3
  by_cases hrd : (A 41 0 = 16 ∧ (if w = 0 then 1 ≤ A 41 1 else A 41 1 = 12))
  · have hn3 : 48 < n 3 := hn.resolve_left (fun q => q ((z_rd e0 e1).mp hrd))
    refine z_aload_n (pc := 0) dM_seal_0 rfl rfl ?_
    refine z_iload_n (pc := 1) dM_seal_1 rfl rfl ?_
    refine z_if_eq (pc := 2) (by omega) (tgt := 14) dM_seal_2 rfl (fun hw0 => ?_) (fun hw0 => ?_)
    · refine z_aload_n (pc := 14) dM_seal_14 rfl rfl ?_
      refine z_iload_n (pc := 15) dM_seal_15 rfl rfl ?_
      refine z_callV (pc := 16) (m_isReady hw (by omega) (by omega)) (by decide) zo_39 rfl zc_M_141 rfl rfl (Nat.le_of_ble_eq_true rfl) dM_seal_16 (fun r A' B' hE => ?_)
      obtain ⟨rfl, rfl, rfl⟩ := hE
      refine z_r1 ?_
      refine z_top (congrArg (fun x => Value.int (nI x)) (if_pos hrd)) ?_
      refine z_if_eq (pc := 19) (by omega) (tgt := 33) dM_seal_19 rfl (fun h => by exfalso; omega) (fun h => ?_)
      refine z_aload_n (pc := 22) dM_seal_22 rfl rfl ?_
      refine z_getR (pc := 23) zo_39 rfl zf_M_13_6 dM_seal_23 ?_
      refine z_iconst (pc := 26) dM_seal_26 zi_3 ?_
      refine z_iaload (pc := 27) za_41 (by omega) dM_seal_27 ?_
      refine z_bipush (pc := 28) dM_seal_28 zb_48 ?_
      refine z_icmp_le (pc := 30) (by omega) (by omega) (tgt := 37) dM_seal_30 rfl (fun h => by exfalso; omega) (fun h => ?_)
      refine z_iconst (pc := 33) dM_seal_33 zi_2 ?_
      refine z_goto (pc := 34) (tgt := 38) dM_seal_34 rfl ?_
      refine z_putI (pc := 38) zo_39 rfl zp_M_59_6 dM_seal_38 ?_
      refine z_aload_n (pc := 41) dM_seal_41 rfl rfl ?_
      refine z_getI (pc := 42) zo_39 rfl zf_M_59_6 dM_seal_42 ?_
      refine z_top (congrArg (fun x => Value.int (nI x)) z_set_at) ?_
      refine z_if_le (pc := 45) (by omega) (tgt := 50) dM_seal_45 rfl (fun h => by exfalso; omega) (fun h => ?_)
      refine z_iconst (pc := 48) dM_seal_48 zi_0 ?_
      exact z_reti (pc := 49) dM_seal_49 (hEx _ _ _ (⟨rfl, rfl, fun q hq => z_set_ne (by omega), z_set_at, fun j hj => by rw [z_set_ne (by decide)]; exact hb j hj, hs.mv (fun i _ => by rw [z_set_ne (by decide)]) (z_set_ne (by decide)) (z_set_nj (by decide)) (z_set_ne (by decide)) hv⟩))
    · refine z_iload_n (pc := 5) dM_seal_5 rfl rfl ?_
      refine z_iconst (pc := 6) dM_seal_6 zi_1 ?_
      refine z_icmp_eq (pc := 7) (by omega) (by omega) (tgt := 14) dM_seal_7 rfl (fun h => ?_) (fun h => by exfalso; omega)
      refine z_aload_n (pc := 14) dM_seal_14 rfl rfl ?_
      refine z_iload_n (pc := 15) dM_seal_15 rfl rfl ?_
      refine z_callV (pc := 16) (m_isReady hw (by omega) (by omega)) (by decide) zo_39 rfl zc_M_141 rfl rfl (Nat.le_of_ble_eq_true rfl) dM_seal_16 (fun r A' B' hE => ?_)
      obtain ⟨rfl, rfl, rfl⟩ := hE
      refine z_r1 ?_
      refine z_top (congrArg (fun x => Value.int (nI x)) (if_pos hrd)) ?_
      refine z_if_eq (pc := 19) (by omega) (tgt := 33) dM_seal_19 rfl (fun h => by exfalso; omega) (fun h => ?_)
      refine z_aload_n (pc := 22) dM_seal_22 rfl rfl ?_
      refine z_getR (pc := 23) zo_39 rfl zf_M_13_6 dM_seal_23 ?_
      refine z_iconst (pc := 26) dM_seal_26 zi_3 ?_
      refine z_iaload (pc := 27) za_41 (by omega) dM_seal_27 ?_
      refine z_bipush (pc := 28) dM_seal_28 zb_48 ?_
      refine z_icmp_le (pc := 30) (by omega) (by omega) (tgt := 37) dM_seal_30 rfl (fun h => by exfalso; omega) (fun h => ?_)
      refine z_iconst (pc := 33) dM_seal_33 zi_2 ?_
      refine z_goto (pc := 34) (tgt := 38) dM_seal_34 rfl ?_
      refine z_putI (pc := 38) zo_39 rfl zp_M_59_6 dM_seal_38 ?_
      refine z_aload_n (pc := 41) dM_seal_41 rfl rfl ?_
      refine z_getI (pc := 42) zo_39 rfl zf_M_59_6 dM_seal_42 ?_
      refine z_top (congrArg (fun x => Value.int (nI x)) z_set_at) ?_
      refine z_if_le (pc := 45) (by omega) (tgt := 50) dM_seal_45 rfl (fun h => by exfalso; omega) (fun h => ?_)
      refine z_iconst (pc := 48) dM_seal_48 zi_0 ?_
      exact z_reti (pc := 49) dM_seal_49 (hEx _ _ _ (⟨rfl, rfl, fun q hq => z_set_ne (by omega), z_set_at, fun j hj => by rw [z_set_ne (by decide)]; exact hb j hj, hs.mv (fun i _ => by rw [z_set_ne (by decide)]) (z_set_ne (by decide)) (z_set_nj (by decide)) (z_set_ne (by decide)) hv⟩))
  · refine z_aload_n (pc := 0) dM_seal_0 rfl rfl ?_
    refine z_iload_n (pc := 1) dM_seal_1 rfl rfl ?_
    refine z_if_eq (pc := 2) (by omega) (tgt := 14) dM_seal_2 rfl (fun hw0 => ?_) (fun hw0 => ?_)
    · refine z_aload_n (pc := 14) dM_seal_14 rfl rfl ?_
      refine z_iload_n (pc := 15) dM_seal_15 rfl rfl ?_
      refine z_callV (pc := 16) (m_isReady hw (by omega) (by omega)) (by decide) zo_39 rfl zc_M_141 rfl rfl (Nat.le_of_ble_eq_true rfl) dM_seal_16 (fun r A' B' hE => ?_)
      obtain ⟨rfl, rfl, rfl⟩ := hE
      refine z_r1 ?_
      refine z_top (congrArg (fun x => Value.int (nI x)) (if_neg hrd)) ?_
      refine z_if_eq (pc := 19) (by omega) (tgt := 33) dM_seal_19 rfl (fun h => ?_) (fun h => by exfalso; omega)
      refine z_iconst (pc := 33) dM_seal_33 zi_2 ?_
      refine z_goto (pc := 34) (tgt := 38) dM_seal_34 rfl ?_
      refine z_putI (pc := 38) zo_39 rfl zp_M_59_6 dM_seal_38 ?_
      refine z_aload_n (pc := 41) dM_seal_41 rfl rfl ?_
      refine z_getI (pc := 42) zo_39 rfl zf_M_59_6 dM_seal_42 ?_
      refine z_top (congrArg (fun x => Value.int (nI x)) z_set_at) ?_
      refine z_if_le (pc := 45) (by omega) (tgt := 50) dM_seal_45 rfl (fun h => by exfalso; omega) (fun h => ?_)
      refine z_iconst (pc := 48) dM_seal_48 zi_0 ?_
      exact z_reti (pc := 49) dM_seal_49 (hEx _ _ _ (⟨rfl, rfl, fun q hq => z_set_ne (by omega), z_set_at, fun j hj => by rw [z_set_ne (by decide)]; exact hb j hj, hs.mv (fun i _ => by rw [z_set_ne (by decide)]) (z_set_ne (by decide)) (z_set_nj (by decide)) (z_set_ne (by decide)) hv⟩))
    · refine z_iload_n (pc := 5) dM_seal_5 rfl rfl ?_
      refine z_iconst (pc := 6) dM_seal_6 zi_1 ?_
      refine z_icmp_eq (pc := 7) (by omega) (by omega) (tgt := 14) dM_seal_7 rfl (fun h => ?_) (fun h => by exfalso; omega)
      refine z_aload_n (pc := 14) dM_seal_14 rfl rfl ?_
      refine z_iload_n (pc := 15) dM_seal_15 rfl rfl ?_
      refine z_callV (pc := 16) (m_isReady hw (by omega) (by omega)) (by decide) zo_39 rfl zc_M_141 rfl rfl (Nat.le_of_ble_eq_true rfl) dM_seal_16 (fun r A' B' hE => ?_)
      obtain ⟨rfl, rfl, rfl⟩ := hE
      refine z_r1 ?_
      refine z_top (congrArg (fun x => Value.int (nI x)) (if_neg hrd)) ?_
      refine z_if_eq (pc := 19) (by omega) (tgt := 33) dM_seal_19 rfl (fun h => ?_) (fun h => by exfalso; omega)
      refine z_iconst (pc := 33) dM_seal_33 zi_2 ?_
      refine z_goto (pc := 34) (tgt := 38) dM_seal_34 rfl ?_
      refine z_putI (pc := 38) zo_39 rfl zp_M_59_6 dM_seal_38 ?_
      refine z_aload_n (pc := 41) dM_seal_41 rfl rfl ?_
      refine z_getI (pc := 42) zo_39 rfl zf_M_59_6 dM_seal_42 ?_
      refine z_top (congrArg (fun x => Value.int (nI x)) z_set_at) ?_
      refine z_if_le (pc := 45) (by omega) (tgt := 50) dM_seal_45 rfl (fun h => by exfalso; omega) (fun h => ?_)
      refine z_iconst (pc := 48) dM_seal_48 zi_0 ?_
      exact z_reti (pc := 49) dM_seal_49 (hEx _ _ _ (⟨rfl, rfl, fun q hq => z_set_ne (by omega), z_set_at, fun j hj => by rw [z_set_ne (by decide)]; exact hb j hj, hs.mv (fun i _ => by rw [z_set_ne (by decide)]) (z_set_ne (by decide)) (z_set_nj (by decide)) (z_set_ne (by decide)) hv⟩))
theorem m_open1 {x : Int32} (hx : ¬ x = nI 0) (hx1 : ¬ x = nI 1) (hb : z_box A 46) (hs : zMR A n R m X) (hv : zVS n R m X) : z_Met l g ad mM_open (z_rm 7) [.ref (ad 39), .int x] A B (z_an 0 (zMP A B 1 n R m X)) := by
  refine z_Met.of (L := [(0, _), (1, _)]) (by decide) (Nat.le_of_ble_eq_true rfl) z_fit_an rfl ?_
  intro Ex hEx
  refine z_aload_n (pc := 0) dM_open_0 rfl rfl ?_
  refine z_iload_n (pc := 1) dM_open_1 rfl rfl ?_
  refine z_ifX_eq (pc := 2) (tgt := 14) dM_open_2 rfl (fun h => absurd h (by rw [← nI_0]; exact hx)) (fun h => ?_)
  refine z_iload_n (pc := 5) dM_open_5 rfl rfl ?_
  refine z_iconst (pc := 6) dM_open_6 zi_1 ?_
  refine z_icmpX_eq (pc := 7) (tgt := 14) dM_open_7 rfl (fun h => absurd h hx1) (fun h => ?_)
  refine z_iconst (pc := 10) dM_open_10 zi_1 ?_
  refine z_goto (pc := 11) (tgt := 38) dM_open_11 rfl ?_
  refine z_putI (pc := 38) zo_39 rfl zp_M_59_6 dM_open_38 ?_
  refine z_aload_n (pc := 41) dM_open_41 rfl rfl ?_
  refine z_getI (pc := 42) zo_39 rfl zf_M_59_6 dM_open_42 ?_
  refine z_top (congrArg (fun x => Value.int (nI x)) z_set_at) ?_
  refine z_if_le (pc := 45) (by omega) (tgt := 50) dM_open_45 rfl (fun h => by exfalso; omega) (fun h => ?_)
  refine z_iconst (pc := 48) dM_open_48 zi_0 ?_
  exact z_reti (pc := 49) dM_open_49 (hEx _ _ _ (⟨rfl, rfl, fun q hq => z_set_ne (by omega), z_set_at, fun j hj => by rw [z_set_ne (by decide)]; exact hb j hj, hs.mv (fun i _ => by rw [z_set_ne (by decide)]) (z_set_ne (by decide)) (z_set_nj (by decide)) (z_set_ne (by decide)) hv⟩))
theorem m_open2 {w : Nat} (hw : w = 0 ∨ w = 1) (hn : ¬ zrdy w n ∨ n 3 < 16) (hb : z_box A 46) (hs : zMR A n R m X) (hv : zVS n R m X) : z_Met l g ad mM_open (z_rm 7) [.ref (ad 39), .int (nI w)] A B (z_an 0 (zMP A B 2 n R m X)) := by
  refine z_Met.of (L := [(0, _), (1, _)]) (by decide) (Nat.le_of_ble_eq_true rfl) z_fit_an rfl ?_
  intro Ex hEx
  have k0 := hv.1 0 (by decide)
  have k1 := hv.1 1 (by decide)
  have k2 := hv.1 2 (by decide)
  have k3 := hv.1 3 (by decide)
  have l0 := zmost_le 0
  have l3 := zmost_le 3
  have e0 := (hs.1 0 (by decide)).1
  have e1 := (hs.1 1 (by decide)).1
  have e2 := (hs.1 2 (by decide)).1
  have e3 := (hs.1 3 (by decide)).1
  have l1 : zmost 1 = 24 := rfl
  have l2 : zmost 2 = 32 := rfl
  have r0 := hs.r0
  have r1 := hs.r1
  have r2 := hs.r2
  have r3 := hs.r3
  by_cases hrd : (A 41 0 = 16 ∧ (if w = 0 then 1 ≤ A 41 1 else A 41 1 = 12))
  · have hn3 : n 3 < 16 := hn.resolve_left (fun q => q ((z_rd e0 e1).mp hrd))
    refine z_aload_n (pc := 0) dM_open_0 rfl rfl ?_
    refine z_iload_n (pc := 1) dM_open_1 rfl rfl ?_
    refine z_if_eq (pc := 2) (by omega) (tgt := 14) dM_open_2 rfl (fun hw0 => ?_) (fun hw0 => ?_)
    · refine z_aload_n (pc := 14) dM_open_14 rfl rfl ?_
      refine z_iload_n (pc := 15) dM_open_15 rfl rfl ?_
      refine z_callV (pc := 16) (m_isReady hw (by omega) (by omega)) (by decide) zo_39 rfl zc_M_141 rfl rfl (Nat.le_of_ble_eq_true rfl) dM_open_16 (fun r A' B' hE => ?_)
      obtain ⟨rfl, rfl, rfl⟩ := hE
      refine z_r1 ?_
      refine z_top (congrArg (fun x => Value.int (nI x)) (if_pos hrd)) ?_
      refine z_if_eq (pc := 19) (by omega) (tgt := 33) dM_open_19 rfl (fun h => by exfalso; omega) (fun h => ?_)
      refine z_aload_n (pc := 22) dM_open_22 rfl rfl ?_
      refine z_getR (pc := 23) zo_39 rfl zf_M_13_6 dM_open_23 ?_
      refine z_iconst (pc := 26) dM_open_26 zi_3 ?_
      refine z_iaload (pc := 27) za_41 (by omega) dM_open_27 ?_
      refine z_bipush (pc := 28) dM_open_28 zb_16 ?_
      refine z_icmp_ge (pc := 30) (by omega) (by omega) (tgt := 37) dM_open_30 rfl (fun h => by exfalso; omega) (fun h => ?_)
      refine z_iconst (pc := 33) dM_open_33 zi_2 ?_
      refine z_goto (pc := 34) (tgt := 38) dM_open_34 rfl ?_
      refine z_putI (pc := 38) zo_39 rfl zp_M_59_6 dM_open_38 ?_
      refine z_aload_n (pc := 41) dM_open_41 rfl rfl ?_
      refine z_getI (pc := 42) zo_39 rfl zf_M_59_6 dM_open_42 ?_
      refine z_top (congrArg (fun x => Value.int (nI x)) z_set_at) ?_
      refine z_if_le (pc := 45) (by omega) (tgt := 50) dM_open_45 rfl (fun h => by exfalso; omega) (fun h => ?_)
      refine z_iconst (pc := 48) dM_open_48 zi_0 ?_
      exact z_reti (pc := 49) dM_open_49 (hEx _ _ _ (⟨rfl, rfl, fun q hq => z_set_ne (by omega), z_set_at, fun j hj => by rw [z_set_ne (by decide)]; exact hb j hj, hs.mv (fun i _ => by rw [z_set_ne (by decide)]) (z_set_ne (by decide)) (z_set_nj (by decide)) (z_set_ne (by decide)) hv⟩))
    · refine z_iload_n (pc := 5) dM_open_5 rfl rfl ?_
      refine z_iconst (pc := 6) dM_open_6 zi_1 ?_
      refine z_icmp_eq (pc := 7) (by omega) (by omega) (tgt := 14) dM_open_7 rfl (fun h => ?_) (fun h => by exfalso; omega)
      refine z_aload_n (pc := 14) dM_open_14 rfl rfl ?_
      refine z_iload_n (pc := 15) dM_open_15 rfl rfl ?_
      refine z_callV (pc := 16) (m_isReady hw (by omega) (by omega)) (by decide) zo_39 rfl zc_M_141 rfl rfl (Nat.le_of_ble_eq_true rfl) dM_open_16 (fun r A' B' hE => ?_)
      obtain ⟨rfl, rfl, rfl⟩ := hE
      refine z_r1 ?_
      refine z_top (congrArg (fun x => Value.int (nI x)) (if_pos hrd)) ?_
      refine z_if_eq (pc := 19) (by omega) (tgt := 33) dM_open_19 rfl (fun h => by exfalso; omega) (fun h => ?_)
      refine z_aload_n (pc := 22) dM_open_22 rfl rfl ?_
      refine z_getR (pc := 23) zo_39 rfl zf_M_13_6 dM_open_23 ?_
      refine z_iconst (pc := 26) dM_open_26 zi_3 ?_
      refine z_iaload (pc := 27) za_41 (by omega) dM_open_27 ?_
      refine z_bipush (pc := 28) dM_open_28 zb_16 ?_
      refine z_icmp_ge (pc := 30) (by omega) (by omega) (tgt := 37) dM_open_30 rfl (fun h => by exfalso; omega) (fun h => ?_)
      refine z_iconst (pc := 33) dM_open_33 zi_2 ?_
      refine z_goto (pc := 34) (tgt := 38) dM_open_34 rfl ?_
      refine z_putI (pc := 38) zo_39 rfl zp_M_59_6 dM_open_38 ?_
      refine z_aload_n (pc := 41) dM_open_41 rfl rfl ?_
      refine z_getI (pc := 42) zo_39 rfl zf_M_59_6 dM_open_42 ?_
      refine z_top (congrArg (fun x => Value.int (nI x)) z_set_at) ?_
      refine z_if_le (pc := 45) (by omega) (tgt := 50) dM_open_45 rfl (fun h => by exfalso; omega) (fun h => ?_)
      refine z_iconst (pc := 48) dM_open_48 zi_0 ?_
      exact z_reti (pc := 49) dM_open_49 (hEx _ _ _ (⟨rfl, rfl, fun q hq => z_set_ne (by omega), z_set_at, fun j hj => by rw [z_set_ne (by decide)]; exact hb j hj, hs.mv (fun i _ => by rw [z_set_ne (by decide)]) (z_set_ne (by decide)) (z_set_nj (by decide)) (z_set_ne (by decide)) hv⟩))
  · refine z_aload_n (pc := 0) dM_open_0 rfl rfl ?_
    refine z_iload_n (pc := 1) dM_open_1 rfl rfl ?_
    refine z_if_eq (pc := 2) (by omega) (tgt := 14) dM_open_2 rfl (fun hw0 => ?_) (fun hw0 => ?_)
    · refine z_aload_n (pc := 14) dM_open_14 rfl rfl ?_
      refine z_iload_n (pc := 15) dM_open_15 rfl rfl ?_
      refine z_callV (pc := 16) (m_isReady hw (by omega) (by omega)) (by decide) zo_39 rfl zc_M_141 rfl rfl (Nat.le_of_ble_eq_true rfl) dM_open_16 (fun r A' B' hE => ?_)
      obtain ⟨rfl, rfl, rfl⟩ := hE
      refine z_r1 ?_
      refine z_top (congrArg (fun x => Value.int (nI x)) (if_neg hrd)) ?_
      refine z_if_eq (pc := 19) (by omega) (tgt := 33) dM_open_19 rfl (fun h => ?_) (fun h => by exfalso; omega)
      refine z_iconst (pc := 33) dM_open_33 zi_2 ?_
      refine z_goto (pc := 34) (tgt := 38) dM_open_34 rfl ?_
      refine z_putI (pc := 38) zo_39 rfl zp_M_59_6 dM_open_38 ?_
      refine z_aload_n (pc := 41) dM_open_41 rfl rfl ?_
      refine z_getI (pc := 42) zo_39 rfl zf_M_59_6 dM_open_42 ?_
      refine z_top (congrArg (fun x => Value.int (nI x)) z_set_at) ?_
      refine z_if_le (pc := 45) (by omega) (tgt := 50) dM_open_45 rfl (fun h => by exfalso; omega) (fun h => ?_)
      refine z_iconst (pc := 48) dM_open_48 zi_0 ?_
      exact z_reti (pc := 49) dM_open_49 (hEx _ _ _ (⟨rfl, rfl, fun q hq => z_set_ne (by omega), z_set_at, fun j hj => by rw [z_set_ne (by decide)]; exact hb j hj, hs.mv (fun i _ => by rw [z_set_ne (by decide)]) (z_set_ne (by decide)) (z_set_nj (by decide)) (z_set_ne (by decide)) hv⟩))
    · refine z_iload_n (pc := 5) dM_open_5 rfl rfl ?_
      refine z_iconst (pc := 6) dM_open_6 zi_1 ?_
      refine z_icmp_eq (pc := 7) (by omega) (by omega) (tgt := 14) dM_open_7 rfl (fun h => ?_) (fun h => by exfalso; omega)
      refine z_aload_n (pc := 14) dM_open_14 rfl rfl ?_
      refine z_iload_n (pc := 15) dM_open_15 rfl rfl ?_
      refine z_callV (pc := 16) (m_isReady hw (by omega) (by omega)) (by decide) zo_39 rfl zc_M_141 rfl rfl (Nat.le_of_ble_eq_true rfl) dM_open_16 (fun r A' B' hE => ?_)
      obtain ⟨rfl, rfl, rfl⟩ := hE
      refine z_r1 ?_
      refine z_top (congrArg (fun x => Value.int (nI x)) (if_neg hrd)) ?_
      refine z_if_eq (pc := 19) (by omega) (tgt := 33) dM_open_19 rfl (fun h => ?_) (fun h => by exfalso; omega)
      refine z_iconst (pc := 33) dM_open_33 zi_2 ?_
      refine z_goto (pc := 34) (tgt := 38) dM_open_34 rfl ?_
      refine z_putI (pc := 38) zo_39 rfl zp_M_59_6 dM_open_38 ?_
      refine z_aload_n (pc := 41) dM_open_41 rfl rfl ?_
      refine z_getI (pc := 42) zo_39 rfl zf_M_59_6 dM_open_42 ?_
      refine z_top (congrArg (fun x => Value.int (nI x)) z_set_at) ?_
      refine z_if_le (pc := 45) (by omega) (tgt := 50) dM_open_45 rfl (fun h => by exfalso; omega) (fun h => ?_)
      refine z_iconst (pc := 48) dM_open_48 zi_0 ?_
      exact z_reti (pc := 49) dM_open_49 (hEx _ _ _ (⟨rfl, rfl, fun q hq => z_set_ne (by omega), z_set_at, fun j hj => by rw [z_set_ne (by decide)]; exact hb j hj, hs.mv (fun i _ => by rw [z_set_ne (by decide)]) (z_set_ne (by decide)) (z_set_nj (by decide)) (z_set_ne (by decide)) hv⟩))
theorem zdv_lt' {i : Nat} {N : Nat → Nat} (hi : i < 256) (hN : ∀ j, j < 12 → N j < 256) (j : Nat) (hj : j < 16) : zdv i N j < 256 := by
  unfold zdv
  split
  · exact hi
  · split
    · decide
    · exact hN _ (by omega)
theorem zdk_lt' {K N : Nat → Nat} {i : Nat} (hK : ∀ j, j < 16 → K j < 256) (hN : ∀ j, j < 12 → N j < 256) (hi : i < 200) (j : Nat) (hj : j < 16) : zdk K N i j < 256 := by
  unfold zdk
  split
  · exact zE_by hK (zdv_lt' (by omega) hN) j hj
  · exact zE_by hK (zdv_lt' (by omega) hN) (j - 8) (by omega)
theorem zdu_lt' {S : Nat} {N : Nat → Nat} (hN : ∀ j, j < 12 → N j < 256) (j : Nat) (hj : j < 16) : zdu S N j < 256 := by
  unfold zdu
  split
  · exact z_xor8 (zby_lt _ _ _) (hN j (by omega))
  · split
    · exact z_and8 (by decide)
    · exact zby_lt _ _ _
theorem m_seal0_0  (hrd : zrdy 0 n) (hn : n 3 ≤ 48) (hb : z_box A 46) (hs : zMR A n R m X) (hv : zVS n R m X) : z_Met l g ad mM_seal (z_rm 7) [.ref (ad 39), .int (nI 0)] A B (z_an (n 3 + 16) (zMP A B 0 n R (n 3 + 16) (zseal 0 (R 0) (R 1) (n 1) (R 2) (n 2) (R 3) (n 3)))) := by
  refine z_Met.of (L := [(0, _), (1, _)]) (by decide) (Nat.le_of_ble_eq_true rfl) z_fit_an rfl ?_
  intro Ex hEx
  have k0 := hv.1 0 (by decide)
  have k1 := hv.1 1 (by decide)
  have k2 := hv.1 2 (by decide)
  have k3 := hv.1 3 (by decide)
  have l0 := zmost_le 0
  have l3 := zmost_le 3
  have e0 := (hs.1 0 (by decide)).1
  have e1 := (hs.1 1 (by decide)).1
  have e2 := (hs.1 2 (by decide)).1
  have e3 := (hs.1 3 (by decide)).1
  have l1 : zmost 1 = 24 := rfl
  have l2 : zmost 2 = 32 := rfl
  have n0 : n 0 = 16 := hrd.1
  have n1 : 1 ≤ n 1 := hrd.2
  have r0 := hs.r0
  have r1 := hs.r1
  have r2 := hs.r2
  have r3 := hs.r3
  have s40 : (z_set A 39 0 0) 40 = A 40 := z_set_ne (by decide)
  have s41 : (z_set A 39 0 0) 41 = A 41 := z_set_ne (by decide)
  have s46 : (z_set A 39 0 0) 46 = A 46 := z_set_ne (by decide)
  have b0 : ∀ j, j < 16 → R 0 j < 256 := fun j hj => k0.2 j (by omega)
  refine z_aload_n (pc := 0) dM_seal_0 rfl rfl ?_
  refine z_iload_n (pc := 1) dM_seal_1 rfl rfl ?_
  refine z_if_eq (pc := 2) (by omega) (tgt := 14) dM_seal_2 rfl (fun h => ?_) (fun h => by exfalso; omega)
  refine z_aload_n (pc := 14) dM_seal_14 rfl rfl ?_
  refine z_iload_n (pc := 15) dM_seal_15 rfl rfl ?_
  refine z_callV (pc := 16) (m_isReady (w := 0) (by omega) (by omega) (by omega)) (by decide) zo_39 rfl zc_M_141 rfl rfl (Nat.le_of_ble_eq_true rfl) dM_seal_16 (fun r A' B' hE => ?_)
  obtain ⟨rfl, rfl, rfl⟩ := hE
  refine z_r1 ?_
  refine z_top (congrArg (fun x => Value.int (nI x)) (if_pos ((z_rd e0 e1).mpr hrd))) ?_
  refine z_if_eq (pc := 19) (by omega) (tgt := 33) dM_seal_19 rfl (fun h => by exfalso; omega) (fun h => ?_)
  refine z_aload_n (pc := 22) dM_seal_22 rfl rfl ?_
  refine z_getR (pc := 23) zo_39 rfl zf_M_13_6 dM_seal_23 ?_
  refine z_iconst (pc := 26) dM_seal_26 zi_3 ?_
  refine z_iaload (pc := 27) za_41 (by omega) dM_seal_27 ?_
  refine z_bipush (pc := 28) dM_seal_28 zb_48 ?_
  refine z_icmp_le (pc := 30) (by omega) (by omega) (tgt := 37) dM_seal_30 rfl (fun h => ?_) (fun h => by exfalso; omega)
  refine z_iconst (pc := 37) dM_seal_37 zi_0 ?_
  refine z_putI (pc := 38) zo_39 rfl zp_M_59_6 dM_seal_38 ?_
  refine z_aload_n (pc := 41) dM_seal_41 rfl rfl ?_
  refine z_getI (pc := 42) zo_39 rfl zf_M_59_6 dM_seal_42 ?_
  refine z_top (congrArg (fun x => Value.int (nI x)) z_set_at) ?_
  refine z_if_le (pc := 45) (by omega) (tgt := 50) dM_seal_45 rfl (fun h => ?_) (fun h => by exfalso; omega)
  refine z_aload_n (pc := 50) dM_seal_50 rfl rfl ?_
  refine z_getR (pc := 51) zo_39 rfl zf_M_13_6 dM_seal_51 ?_
  refine z_iconst (pc := 54) dM_seal_54 zi_3 ?_
  refine z_iaload (pc := 55) za_41 (by omega) dM_seal_55 ?_
  refine z_top (congrArg (fun x => Value.int (nI x)) (show _ = n 3 by rw [s41]; exact e3)) ?_
  refine z_istore_n (L' := [(2, _), (0, _), (1, _)]) (pc := 56) dM_seal_56 rfl (by decide) rfl ?_
  refine z_iload_n (pc := 57) dM_seal_57 rfl rfl ?_
  refine z_if_ne (pc := 58) (by omega) (tgt := 86) dM_seal_58 rfl (fun h => by exfalso; omega) (fun h => ?_)
  refine z_aload_n (pc := 61) dM_seal_61 rfl rfl ?_
  refine z_callV (pc := 62) (m_makeStart (fun j hj => by rw [s46]; exact hb j hj) (fun j hj => by rw [s40, r0 j (by omega)]; exact b0 j hj) (by rw [s41, e1]; omega) (fun j hj => by rw [s41, e1] at hj; rw [s40, r1 j hj]; exact k1.2 j hj)) (by decide) zo_39 rfl zc_M_144 rfl rfl (Nat.le_of_ble_eq_true rfl) dM_seal_62 (fun r A1 B' hE => ?_)
  obtain ⟨rfl, rfl, f1, j1⟩ := hE
  replace j1 : ∀ j, j < 16 → A1 52 j = (zJ (R 0) (R 1) (n 1)) j := fun j hj => by rw [j1 j hj, s40, s41, e1]; exact zJ_cg (fun j' h' => r0 j' (by omega)) r1 j
  have jb : ∀ j, j < 16 → (zJ (R 0) (R 1) (n 1)) j < 256 := fun j _ => zJ_lt k1.2 j
  have q40 : A1 40 = A 40 := (f1 40 (by decide)).trans s40
  refine z_r0 ?_
  refine z_aload_n (pc := 65) dM_seal_65 rfl rfl ?_
  refine z_callV (pc := 66) (m_useKey) (by decide) zo_39 rfl zc_M_108 rfl rfl (Nat.le_of_ble_eq_true rfl) dM_seal_66 (fun r A' B' hE => ?_)
  obtain ⟨rfl, rfl, rfl⟩ := hE
  have g1 : z_fr [40, 43, 44, 45, 47, 48, 49, 50, 51, 52, 53] (z_set A 39 0 0) (z_map A1 47 16 (A1 40)) := fun q hk => by rw [z_map_ne (z_nm hk (by decide))]; exact f1 q (fun q => hk (by revert q; simp; omega))
  have g47 : ∀ j, j < 16 → z_map A1 47 16 (A1 40) 47 j = R 0 j := fun j hj => by rw [z_map_lt hj, q40]; exact r0 j (by omega)
  have g52 : ∀ j, j < 16 → z_map A1 47 16 (A1 40) 52 j = (zJ (R 0) (R 1) (n 1)) j := fun j hj => by rw [z_map_ne (by decide)]; exact j1 j hj
  have g40 : z_map A1 47 16 (A1 40) 40 = A 40 := (z_map_ne (by decide)).trans q40
  have g41 : z_map A1 47 16 (A1 40) 41 = A 41 := ((z_map_ne (by decide)).trans (f1 41 (by decide))).trans s41
  have g46 : z_map A1 47 16 (A1 40) 46 = A 46 := ((z_map_ne (by decide)).trans (f1 46 (by decide))).trans s46
  generalize z_map A1 47 16 (A1 40) = A2 at *
  refine z_r0 ?_
  refine z_aload_n (pc := 69) dM_seal_69 rfl rfl ?_
  refine z_iload_n (pc := 70) dM_seal_70 rfl rfl ?_
  refine z_iconst (pc := 71) dM_seal_71 zi_1 ?_
  refine z_callV (pc := 72) (m_cipher0 (n := n 3) (by omega) (fun j hj => by rw [g46]; exact hb j hj) (fun j hj => by rw [g47 j hj]; exact b0 j hj) (fun j hj => by rw [g52 j hj]; exact jb j hj)) (by decide) zo_39 rfl zc_M_147 rfl rfl (Nat.le_of_ble_eq_true rfl) dM_seal_72 (fun r A3 B' hE => ?_)
  obtain ⟨rfl, rfl, f3, lo3, c3⟩ := hE
  replace c3 : ∀ j, j < n 3 → A3 40 (256 + j) = (zC0 (R 0) (zJ (R 0) (R 1) (n 1)) (R 3)) j := fun j hj => by
    rw [c3 j hj, g40, r3 j hj]
    exact congrArg _ (zE_cg g47 (zcnt_cg g52) _ (Nat.mod_lt _ (by decide)))
  have cb : ∀ j, j < n 3 → (zC0 (R 0) (zJ (R 0) (R 1) (n 1)) (R 3)) j < 256 := zC0_lt b0 jb k3.2
  rw [g40] at lo3
  have h41 : A3 41 = A 41 := (f3 41 (by decide)).trans g41
  have h52 : ∀ j, j < 16 → A3 52 j = (zJ (R 0) (R 1) (n 1)) j := fun j hj => by rw [f3 52 (by decide)]; exact g52 j hj
  refine z_r0 ?_
  refine z_aload_n (pc := 75) dM_seal_75 rfl rfl ?_
  refine z_sipush (pc := 76) dM_seal_76 zs_256 ?_
  refine z_iload_n (pc := 79) dM_seal_79 rfl rfl ?_
  refine z_callV (pc := 80) (m_sealOutward (fr := 256) (n := n 3) (fun j hj => by rw [lo3 j (by omega), r0 j (by omega)]; exact b0 j hj) (fun j hj => by rw [h52 j hj]; exact jb j hj) (fun j hj => by rw [f3 46 (by decide), g46]; exact hb j hj) (by rw [h41, e2]; omega) (fun j hj => by rw [h41, e2] at hj; rw [lo3 _ (by omega), r2 j hj]; exact k2.2 j hj) (by omega) (by omega) (fun j hj => by rw [c3 j hj]; exact cb j hj)) (by decide) zo_39 rfl zc_M_150 rfl rfl (Nat.le_of_ble_eq_true rfl) dM_seal_80 (fun r A4 B' hE => ?_)
  obtain ⟨rfl, rfl, f4, t4, -⟩ := hE
  replace t4 : ∀ j, j < 16 → A4 53 j = (zD0 (R 0) (zJ (R 0) (R 1) (n 1)) (R 2) (n 2) (zC0 (R 0) (zJ (R 0) (R 1) (n 1)) (R 3)) (n 3)) j := fun j hj => by
    rw [t4 j hj, h41, e2]
    exact zD0_cg (fun j' h' => by rw [lo3 j' (by omega)]; exact r0 j' (by omega)) h52 (fun j' h' => by rw [lo3 _ (by omega)]; exact r2 j' h') c3 j hj
  have F : z_fr [40, 43, 44, 45, 47, 48, 49, 50, 51, 52, 53] (z_set A 39 0 0) A4 := fun q hk => (f4 q (fun q => hk (by revert q; simp; omega))).trans ((f3 q (fun q => hk (by revert q; simp; omega))).trans (g1 q hk))
  have LO : ∀ i, i < 256 → A4 40 i = A 40 i := fun i hi => by rw [f4 40 (by decide)]; exact lo3 i hi
  have CC : ∀ j, j < n 3 → A4 40 (256 + j) = (zC0 (R 0) (zJ (R 0) (R 1) (n 1)) (R 3)) j := fun j hj => by rw [f4 40 (by decide)]; exact c3 j hj
  refine z_r0 ?_
  refine z_goto (pc := 83) (tgt := 108) dM_seal_83 rfl ?_
  refine z_iconst (pc := 108) dM_seal_108 zi_0 ?_
  refine z_istore_n (L' := [(3, _), (2, _), (0, _), (1, _)]) (pc := 109) dM_seal_109 rfl (by decide) rfl ?_
  refine z_wd (z_map_0 A4 42 (fun j => A4 40 (256 + j))).symm rfl ?_
  refine z_for (n 3) (fun i => [(3, .int (nI i)), (2, .int (nI (n 3))), (0, .ref (ad 39)), (1, .int (nI 0))]) (fun i => z_map A4 42 i (fun j => A4 40 (256 + j))) (fun i => B) (fun i hi ki => ?_) ?_
  · refine z_iload_n (pc := 110) dM_seal_110 rfl rfl ?_
    refine z_iload_n (pc := 111) dM_seal_111 rfl rfl ?_
    refine z_icmp_ge (pc := 112) (by omega) (by omega) (tgt := 137) dM_seal_112 rfl (fun h => by exfalso; omega) (fun h => ?_)
    refine z_aload_n (pc := 115) dM_seal_115 rfl rfl ?_
    refine z_getR (pc := 116) zo_39 rfl zf_M_16_6 dM_seal_116 ?_
    refine z_iload_n (pc := 119) dM_seal_119 rfl rfl ?_
    refine z_aload_n (pc := 120) dM_seal_120 rfl rfl ?_
    refine z_getR (pc := 121) zo_39 rfl zf_M_7_6 dM_seal_121 ?_
    refine z_sipush (pc := 124) dM_seal_124 zs_256 ?_
    refine z_iload_n (pc := 127) dM_seal_127 rfl rfl ?_
    refine z_iadd (pc := 128) dM_seal_128 ?_
    refine z_iaload (pc := 129) za_40 (by omega) dM_seal_129 ?_
    refine z_iastore (pc := 130) za_42 (by omega) dM_seal_130 ?_
    refine z_iinc (L' := [(3, _), (2, _), (0, _), (1, _)]) (pc := 131) dM_seal_131 rfl zi_1 (by decide) rfl ?_
    refine z_goto (pc := 134) (tgt := 110) dM_seal_134 rfl ?_
    refine z_wd (z_map_set ?_) rfl ki
    rw [z_map_ne (by decide)]
  · refine z_iload_n (pc := 110) dM_seal_110 rfl rfl ?_
    refine z_iload_n (pc := 111) dM_seal_111 rfl rfl ?_
    refine z_icmp_ge (pc := 112) (by omega) (by omega) (tgt := 137) dM_seal_112 rfl (fun h => ?_) (fun h => by exfalso; omega)
    refine z_iconst (pc := 137) dM_seal_137 zi_0 ?_
    refine z_istore_n (L' := [(3, _), (2, _), (0, _), (1, _)]) (pc := 138) dM_seal_138 rfl (by decide) rfl ?_
    refine z_wd (z_seg_0 (z_map A4 42 (n 3) (fun j => A4 40 (256 + j))) 42 (n 3) (fun x => A4 53 (x - n 3))).symm rfl ?_
    refine z_for 16 (fun i => [(3, .int (nI i)), (2, .int (nI (n 3))), (0, .ref (ad 39)), (1, .int (nI 0))]) (fun i => z_seg (z_map A4 42 (n 3) (fun j => A4 40 (256 + j))) 42 (n 3) i (fun x => A4 53 (x - n 3))) (fun i => B) (fun i hi ki => ?_) ?_
    · refine z_iload_n (pc := 139) dM_seal_139 rfl rfl ?_
      refine z_bipush (pc := 140) dM_seal_140 zb_16 ?_
      refine z_icmp_ge (pc := 142) (by omega) (by omega) (tgt := 165) dM_seal_142 rfl (fun h => by exfalso; omega) (fun h => ?_)
      refine z_aload_n (pc := 145) dM_seal_145 rfl rfl ?_
      refine z_getR (pc := 146) zo_39 rfl zf_M_16_6 dM_seal_146 ?_
      refine z_iload_n (pc := 149) dM_seal_149 rfl rfl ?_
      refine z_iload_n (pc := 150) dM_seal_150 rfl rfl ?_
      refine z_iadd (pc := 151) dM_seal_151 ?_
      refine z_aload_n (pc := 152) dM_seal_152 rfl rfl ?_
      refine z_getR (pc := 153) zo_39 rfl zf_M_49_6 dM_seal_153 ?_
      refine z_iload_n (pc := 156) dM_seal_156 rfl rfl ?_
      refine z_iaload (pc := 157) za_53 (by omega) dM_seal_157 ?_
      refine z_iastore (pc := 158) za_42 (by omega) dM_seal_158 ?_
      refine z_iinc (L' := [(3, _), (2, _), (0, _), (1, _)]) (pc := 159) dM_seal_159 rfl zi_1 (by decide) rfl ?_
      refine z_goto (pc := 162) (tgt := 139) dM_seal_162 rfl ?_
      refine z_wd (z_seg_set ?_) rfl ki
      rw [z_seg_ne (by decide), z_map_ne (by decide), Nat.add_sub_cancel_left]
    · refine z_iload_n (pc := 139) dM_seal_139 rfl rfl ?_
      refine z_bipush (pc := 140) dM_seal_140 zb_16 ?_
      refine z_icmp_ge (pc := 142) (by omega) (by omega) (tgt := 165) dM_seal_142 rfl (fun h => ?_) (fun h => by exfalso; omega)
      refine z_aload_n (pc := 165) dM_seal_165 rfl rfl ?_
      refine z_iload_n (pc := 166) dM_seal_166 rfl rfl ?_
      refine z_bipush (pc := 167) dM_seal_167 zb_16 ?_
      refine z_iadd (pc := 169) dM_seal_169 ?_
      refine z_putI (pc := 170) zo_39 rfl zp_M_105_6 dM_seal_170 ?_
      refine z_aload_n (pc := 173) dM_seal_173 rfl rfl ?_
      refine z_getI (pc := 174) zo_39 rfl zf_M_105_6 dM_seal_174 ?_
      refine z_top (congrArg (fun x => Value.int (nI x)) z_set_at) ?_
      refine z_reti (pc := 177) dM_seal_177 (hEx _ _ _ (⟨rfl, rfl, fun q hq => by rw [z_set_ne (by omega), z_seg_ne (by omega), z_map_ne (by omega), F q (by simp; omega), z_set_ne (by omega)], by rw [z_set_nj (by decide), z_seg_ne (by decide), z_map_ne (by decide), F 39 (by decide), z_set_at], fun j hj => by rw [z_set_ne (by decide), z_seg_ne (by decide), z_map_ne (by decide), F 46 (by decide), s46]; exact hb j hj, hs.res (fun i hi => by rw [z_set_ne (by decide), z_seg_ne (by decide), z_map_ne (by decide)]; exact LO i hi) (by rw [z_set_ne (by decide), z_seg_ne (by decide), z_map_ne (by decide), F 41 (by decide), s41]) z_set_at (fun j hj => ?_) hv⟩))
      rw [z_set_ne (by decide), zseal]
      rw [if_pos rfl]
      by_cases h : j < n 3
      · rw [if_pos h, z_seg_out (Or.inl h), z_map_lt h]; exact CC j h
      · rw [if_neg h, z_seg_in (by omega) (by omega)]; exact t4 _ (by omega)
theorem m_seal0_1  (hrd : zrdy 1 n) (hn : n 3 ≤ 48) (hb : z_box A 46) (hs : zMR A n R m X) (hv : zVS n R m X) : z_Met l g ad mM_seal (z_rm 7) [.ref (ad 39), .int (nI 1)] A B (z_an (n 3 + 16) (zMP A B 0 n R (n 3 + 16) (zseal 1 (R 0) (R 1) (n 1) (R 2) (n 2) (R 3) (n 3)))) := by
  refine z_Met.of (L := [(0, _), (1, _)]) (by decide) (Nat.le_of_ble_eq_true rfl) z_fit_an rfl ?_
  intro Ex hEx
  have k0 := hv.1 0 (by decide)
  have k1 := hv.1 1 (by decide)
  have k2 := hv.1 2 (by decide)
  have k3 := hv.1 3 (by decide)
  have l0 := zmost_le 0
  have l3 := zmost_le 3
  have e0 := (hs.1 0 (by decide)).1
  have e1 := (hs.1 1 (by decide)).1
  have e2 := (hs.1 2 (by decide)).1
  have e3 := (hs.1 3 (by decide)).1
  have l1 : zmost 1 = 24 := rfl
  have l2 : zmost 2 = 32 := rfl
  have n0 : n 0 = 16 := hrd.1
  have n1 : n 1 = 12 := hrd.2
  have r0 := hs.r0
  have r1 := hs.r1
  have r2 := hs.r2
  have r3 := hs.r3
  have s40 : (z_set A 39 0 0) 40 = A 40 := z_set_ne (by decide)
  have s41 : (z_set A 39 0 0) 41 = A 41 := z_set_ne (by decide)
  have s46 : (z_set A 39 0 0) 46 = A 46 := z_set_ne (by decide)
  have b0 : ∀ j, j < 16 → R 0 j < 256 := fun j hj => k0.2 j (by omega)
  refine z_aload_n (pc := 0) dM_seal_0 rfl rfl ?_
  refine z_iload_n (pc := 1) dM_seal_1 rfl rfl ?_
  refine z_if_eq (pc := 2) (by omega) (tgt := 14) dM_seal_2 rfl (fun h => by exfalso; omega) (fun h => ?_)
  refine z_iload_n (pc := 5) dM_seal_5 rfl rfl ?_
  refine z_iconst (pc := 6) dM_seal_6 zi_1 ?_
  refine z_icmp_eq (pc := 7) (by omega) (by omega) (tgt := 14) dM_seal_7 rfl (fun h => ?_) (fun h => by exfalso; omega)
  refine z_aload_n (pc := 14) dM_seal_14 rfl rfl ?_
  refine z_iload_n (pc := 15) dM_seal_15 rfl rfl ?_
  refine z_callV (pc := 16) (m_isReady (w := 1) (by omega) (by omega) (by omega)) (by decide) zo_39 rfl zc_M_141 rfl rfl (Nat.le_of_ble_eq_true rfl) dM_seal_16 (fun r A' B' hE => ?_)
  obtain ⟨rfl, rfl, rfl⟩ := hE
  refine z_r1 ?_
  refine z_top (congrArg (fun x => Value.int (nI x)) (if_pos ((z_rd e0 e1).mpr hrd))) ?_
  refine z_if_eq (pc := 19) (by omega) (tgt := 33) dM_seal_19 rfl (fun h => by exfalso; omega) (fun h => ?_)
  refine z_aload_n (pc := 22) dM_seal_22 rfl rfl ?_
  refine z_getR (pc := 23) zo_39 rfl zf_M_13_6 dM_seal_23 ?_
  refine z_iconst (pc := 26) dM_seal_26 zi_3 ?_
  refine z_iaload (pc := 27) za_41 (by omega) dM_seal_27 ?_
  refine z_bipush (pc := 28) dM_seal_28 zb_48 ?_
  refine z_icmp_le (pc := 30) (by omega) (by omega) (tgt := 37) dM_seal_30 rfl (fun h => ?_) (fun h => by exfalso; omega)
  refine z_iconst (pc := 37) dM_seal_37 zi_0 ?_
  refine z_putI (pc := 38) zo_39 rfl zp_M_59_6 dM_seal_38 ?_
  refine z_aload_n (pc := 41) dM_seal_41 rfl rfl ?_
  refine z_getI (pc := 42) zo_39 rfl zf_M_59_6 dM_seal_42 ?_
  refine z_top (congrArg (fun x => Value.int (nI x)) z_set_at) ?_
  refine z_if_le (pc := 45) (by omega) (tgt := 50) dM_seal_45 rfl (fun h => ?_) (fun h => by exfalso; omega)
  refine z_aload_n (pc := 50) dM_seal_50 rfl rfl ?_
  refine z_getR (pc := 51) zo_39 rfl zf_M_13_6 dM_seal_51 ?_
  refine z_iconst (pc := 54) dM_seal_54 zi_3 ?_
  refine z_iaload (pc := 55) za_41 (by omega) dM_seal_55 ?_
  refine z_top (congrArg (fun x => Value.int (nI x)) (show _ = n 3 by rw [s41]; exact e3)) ?_
  refine z_istore_n (L' := [(2, _), (0, _), (1, _)]) (pc := 56) dM_seal_56 rfl (by decide) rfl ?_
  refine z_iload_n (pc := 57) dM_seal_57 rfl rfl ?_
  refine z_if_ne (pc := 58) (by omega) (tgt := 86) dM_seal_58 rfl (fun h => ?_) (fun h => by exfalso; omega)
  refine z_aload_n (pc := 86) dM_seal_86 rfl rfl ?_
  refine z_callV (pc := 87) (m_deriveKeys (fun j hj => by rw [s46]; exact hb j hj) (fun j hj => by rw [s40, r0 j (by omega)]; exact b0 j hj) (fun j hj => by rw [s40, r1 j (by omega)]; exact k1.2 j (by omega))) (by decide) zo_39 rfl zc_M_153 rfl rfl (Nat.le_of_ble_eq_true rfl) dM_seal_87 (fun r A2 B' hE => ?_)
  obtain ⟨rfl, rfl, f1, lo1, h1, h2⟩ := hE
  have hN12 : ∀ j, j < 12 → R 1 j < 256 := fun j hj => k1.2 j (by omega)
  have g1 : z_fr [40, 43, 44, 45, 47, 48, 49, 50, 51, 52, 53] (z_set A 39 0 0) A2 := fun q hk => f1 q (fun q => hk (by revert q; simp; omega))
  have g52 : ∀ j, j < 16 → A2 52 j = (zdk (R 0) (R 1) 0) j := fun j hj => by rw [h1 j hj, s40]; exact zdk_cg (fun j' h' => r0 j' (by omega)) (fun j' h' => r1 j' (by omega)) j hj
  have g47 : ∀ j, j < 16 → A2 47 j = (zdk (R 0) (R 1) 2) j := fun j hj => by rw [h2 j hj, s40]; exact zdk_cg (fun j' h' => r0 j' (by omega)) (fun j' h' => r1 j' (by omega)) j hj
  have g40 : ∀ x, x < 256 → A2 40 x = A 40 x := fun x hx => by rw [lo1 x hx, s40]
  have g41 : A2 41 = A 41 := (f1 41 (by decide)).trans s41
  have g46 : A2 46 = A 46 := (f1 46 (by decide)).trans s46
  have kb : ∀ j, j < 16 → (zdk (R 0) (R 1) 2) j < 256 := zdk_lt' b0 hN12 (by omega)
  have hbk : ∀ j, j < 16 → (zdk (R 0) (R 1) 0) j < 256 := zdk_lt' b0 hN12 (by omega)
  refine z_r0 ?_
  refine z_aload_n (pc := 90) dM_seal_90 rfl rfl ?_
  refine z_sipush (pc := 91) dM_seal_91 zs_192 ?_
  refine z_iload_n (pc := 94) dM_seal_94 rfl rfl ?_
  refine z_callV (pc := 95) (m_sealInward (fr := 192) (n := n 3) (fun j hj => by rw [g47 j hj]; exact kb j hj) (fun j hj => by rw [g52 j hj]; exact hbk j hj) (fun j hj => by rw [g40 _ (by omega), r1 j (by omega)]; exact hN12 j hj) (fun j hj => by rw [g46]; exact hb j hj) (by rw [g41, e2]; omega) (fun j hj => by rw [g41, e2] at hj; rw [g40 _ (by omega), r2 j hj]; exact k2.2 j hj) (by omega) (by omega) (fun j hj => by rw [g40 _ (by omega), r3 j hj]; exact k3.2 j hj)) (by decide) zo_39 rfl zc_M_156 rfl rfl (Nat.le_of_ble_eq_true rfl) dM_seal_95 (fun r A3 B' hE => ?_)
  obtain ⟨rfl, rfl, f3, t3⟩ := hE
  replace t3 : ∀ j, j < 16 → A3 53 j = (zD1 (zdk (R 0) (R 1) 2) (zdk (R 0) (R 1) 0) (R 1) (R 2) (n 2) (R 3) (n 3)) j := fun j hj => by
    rw [t3 j hj, g41, e2]
    exact zD1_cg g47 g52 (fun j' h' => by rw [g40 _ (by omega)]; exact r1 j' (by omega)) (fun j' h' => by rw [g40 _ (by omega)]; exact r2 j' h') (fun j' h' => by rw [g40 _ (by omega)]; exact r3 j' h') j hj
  have tb : ∀ j, j < 16 → (zD1 (zdk (R 0) (R 1) 2) (zdk (R 0) (R 1) 0) (R 1) (R 2) (n 2) (R 3) (n 3)) j < 256 := fun j hj => zE_by kb (zdu_lt' hN12) j hj
  refine z_r0 ?_
  refine z_aload_n (pc := 98) dM_seal_98 rfl rfl ?_
  refine z_callV (pc := 99) (m_startAtTag) (by decide) zo_39 rfl zc_M_159 rfl rfl (Nat.le_of_ble_eq_true rfl) dM_seal_99 (fun r A' B' hE => ?_)
  obtain ⟨rfl, rfl, rfl⟩ := hE
  have p52 : ∀ j, j < 16 → z_map A3 52 16 (z128 (A3 53)) 52 j = z128 (zD1 (zdk (R 0) (R 1) 2) (zdk (R 0) (R 1) 0) (R 1) (R 2) (n 2) (R 3) (n 3)) j := fun j hj => by rw [z_map_lt hj]; exact z128_cg t3 j hj
  have p1 : z_fr [40, 43, 44, 45, 47, 48, 49, 50, 51, 52, 53] (z_set A 39 0 0) (z_map A3 52 16 (z128 (A3 53))) := fun q hk => by rw [z_map_ne (z_nm hk (by decide)), f3 q (fun q => hk (by revert q; simp; omega))]; exact g1 q hk
  have p47 : ∀ j, j < 16 → z_map A3 52 16 (z128 (A3 53)) 47 j = (zdk (R 0) (R 1) 2) j := fun j hj => by rw [z_map_ne (by decide), f3 47 (by decide)]; exact g47 j hj
  have p40 : ∀ x, x < 256 → z_map A3 52 16 (z128 (A3 53)) 40 x = A 40 x := fun x hx => by rw [z_map_ne (by decide), f3 40 (by decide)]; exact g40 x hx
  have p46 : z_map A3 52 16 (z128 (A3 53)) 46 = A 46 := ((z_map_ne (by decide)).trans (f3 46 (by decide))).trans g46
  have p53 : ∀ j, j < 16 → z_map A3 52 16 (z128 (A3 53)) 53 j = (zD1 (zdk (R 0) (R 1) 2) (zdk (R 0) (R 1) 0) (R 1) (R 2) (n 2) (R 3) (n 3)) j := fun j hj => by rw [z_map_ne (by decide)]; exact t3 j hj
  generalize z_map A3 52 16 (z128 (A3 53)) = A5 at *
  refine z_r0 ?_
  refine z_aload_n (pc := 102) dM_seal_102 rfl rfl ?_
  refine z_iload_n (pc := 103) dM_seal_103 rfl rfl ?_
  refine z_iconst (pc := 104) dM_seal_104 zi_0 ?_
  refine z_callV (pc := 105) (m_cipher1 (n := n 3) (by omega) (fun j hj => by rw [p46]; exact hb j hj) (fun j hj => by rw [p47 j hj]; exact kb j hj) (fun j hj => by rw [p52 j hj]; exact z128_lt' tb j hj)) (by decide) zo_39 rfl zc_M_147 rfl rfl (Nat.le_of_ble_eq_true rfl) dM_seal_105 (fun r A4 B' hE => ?_)
  obtain ⟨rfl, rfl, f4, lo4, c4⟩ := hE
  have CC : ∀ j, j < n 3 → A4 40 (256 + j) = (zC1 (zdk (R 0) (R 1) 2) (zD1 (zdk (R 0) (R 1) 2) (zdk (R 0) (R 1) 0) (R 1) (R 2) (n 2) (R 3) (n 3)) (R 3)) j := fun j hj => by
    rw [c4 j hj, p40 _ (by omega), r3 j hj]
    exact congrArg _ (zE_cg p47 (zcnt_cg p52) _ (Nat.mod_lt _ (by decide)))
  have F : z_fr [40, 43, 44, 45, 47, 48, 49, 50, 51, 52, 53] (z_set A 39 0 0) A4 := fun q hk => (f4 q (fun q => hk (by revert q; simp; omega))).trans (p1 q hk)
  have LO : ∀ i, i < 256 → A4 40 i = A 40 i := fun i hi => by rw [lo4 i hi]; exact p40 i hi
  have t4 : ∀ j, j < 16 → A4 53 j = (zD1 (zdk (R 0) (R 1) 2) (zdk (R 0) (R 1) 0) (R 1) (R 2) (n 2) (R 3) (n 3)) j := fun j hj => by rw [f4 53 (by decide)]; exact p53 j hj
  refine z_r0 ?_
  refine z_iconst (pc := 108) dM_seal_108 zi_0 ?_
  refine z_istore_n (L' := [(3, _), (2, _), (0, _), (1, _)]) (pc := 109) dM_seal_109 rfl (by decide) rfl ?_
  refine z_wd (z_map_0 A4 42 (fun j => A4 40 (256 + j))).symm rfl ?_
  refine z_for (n 3) (fun i => [(3, .int (nI i)), (2, .int (nI (n 3))), (0, .ref (ad 39)), (1, .int (nI 1))]) (fun i => z_map A4 42 i (fun j => A4 40 (256 + j))) (fun i => B) (fun i hi ki => ?_) ?_
  · refine z_iload_n (pc := 110) dM_seal_110 rfl rfl ?_
    refine z_iload_n (pc := 111) dM_seal_111 rfl rfl ?_
    refine z_icmp_ge (pc := 112) (by omega) (by omega) (tgt := 137) dM_seal_112 rfl (fun h => by exfalso; omega) (fun h => ?_)
    refine z_aload_n (pc := 115) dM_seal_115 rfl rfl ?_
    refine z_getR (pc := 116) zo_39 rfl zf_M_16_6 dM_seal_116 ?_
    refine z_iload_n (pc := 119) dM_seal_119 rfl rfl ?_
    refine z_aload_n (pc := 120) dM_seal_120 rfl rfl ?_
    refine z_getR (pc := 121) zo_39 rfl zf_M_7_6 dM_seal_121 ?_
    refine z_sipush (pc := 124) dM_seal_124 zs_256 ?_
    refine z_iload_n (pc := 127) dM_seal_127 rfl rfl ?_
    refine z_iadd (pc := 128) dM_seal_128 ?_
    refine z_iaload (pc := 129) za_40 (by omega) dM_seal_129 ?_
    refine z_iastore (pc := 130) za_42 (by omega) dM_seal_130 ?_
    refine z_iinc (L' := [(3, _), (2, _), (0, _), (1, _)]) (pc := 131) dM_seal_131 rfl zi_1 (by decide) rfl ?_
    refine z_goto (pc := 134) (tgt := 110) dM_seal_134 rfl ?_
    refine z_wd (z_map_set ?_) rfl ki
    rw [z_map_ne (by decide)]
  · refine z_iload_n (pc := 110) dM_seal_110 rfl rfl ?_
    refine z_iload_n (pc := 111) dM_seal_111 rfl rfl ?_
    refine z_icmp_ge (pc := 112) (by omega) (by omega) (tgt := 137) dM_seal_112 rfl (fun h => ?_) (fun h => by exfalso; omega)
    refine z_iconst (pc := 137) dM_seal_137 zi_0 ?_
    refine z_istore_n (L' := [(3, _), (2, _), (0, _), (1, _)]) (pc := 138) dM_seal_138 rfl (by decide) rfl ?_
    refine z_wd (z_seg_0 (z_map A4 42 (n 3) (fun j => A4 40 (256 + j))) 42 (n 3) (fun x => A4 53 (x - n 3))).symm rfl ?_
    refine z_for 16 (fun i => [(3, .int (nI i)), (2, .int (nI (n 3))), (0, .ref (ad 39)), (1, .int (nI 1))]) (fun i => z_seg (z_map A4 42 (n 3) (fun j => A4 40 (256 + j))) 42 (n 3) i (fun x => A4 53 (x - n 3))) (fun i => B) (fun i hi ki => ?_) ?_
    · refine z_iload_n (pc := 139) dM_seal_139 rfl rfl ?_
      refine z_bipush (pc := 140) dM_seal_140 zb_16 ?_
      refine z_icmp_ge (pc := 142) (by omega) (by omega) (tgt := 165) dM_seal_142 rfl (fun h => by exfalso; omega) (fun h => ?_)
      refine z_aload_n (pc := 145) dM_seal_145 rfl rfl ?_
      refine z_getR (pc := 146) zo_39 rfl zf_M_16_6 dM_seal_146 ?_
      refine z_iload_n (pc := 149) dM_seal_149 rfl rfl ?_
      refine z_iload_n (pc := 150) dM_seal_150 rfl rfl ?_
      refine z_iadd (pc := 151) dM_seal_151 ?_
      refine z_aload_n (pc := 152) dM_seal_152 rfl rfl ?_
      refine z_getR (pc := 153) zo_39 rfl zf_M_49_6 dM_seal_153 ?_
      refine z_iload_n (pc := 156) dM_seal_156 rfl rfl ?_
      refine z_iaload (pc := 157) za_53 (by omega) dM_seal_157 ?_
      refine z_iastore (pc := 158) za_42 (by omega) dM_seal_158 ?_
      refine z_iinc (L' := [(3, _), (2, _), (0, _), (1, _)]) (pc := 159) dM_seal_159 rfl zi_1 (by decide) rfl ?_
      refine z_goto (pc := 162) (tgt := 139) dM_seal_162 rfl ?_
      refine z_wd (z_seg_set ?_) rfl ki
      rw [z_seg_ne (by decide), z_map_ne (by decide), Nat.add_sub_cancel_left]
    · refine z_iload_n (pc := 139) dM_seal_139 rfl rfl ?_
      refine z_bipush (pc := 140) dM_seal_140 zb_16 ?_
      refine z_icmp_ge (pc := 142) (by omega) (by omega) (tgt := 165) dM_seal_142 rfl (fun h => ?_) (fun h => by exfalso; omega)
      refine z_aload_n (pc := 165) dM_seal_165 rfl rfl ?_
      refine z_iload_n (pc := 166) dM_seal_166 rfl rfl ?_
      refine z_bipush (pc := 167) dM_seal_167 zb_16 ?_
      refine z_iadd (pc := 169) dM_seal_169 ?_
      refine z_putI (pc := 170) zo_39 rfl zp_M_105_6 dM_seal_170 ?_
      refine z_aload_n (pc := 173) dM_seal_173 rfl rfl ?_
      refine z_getI (pc := 174) zo_39 rfl zf_M_105_6 dM_seal_174 ?_
      refine z_top (congrArg (fun x => Value.int (nI x)) z_set_at) ?_
      refine z_reti (pc := 177) dM_seal_177 (hEx _ _ _ (⟨rfl, rfl, fun q hq => by rw [z_set_ne (by omega), z_seg_ne (by omega), z_map_ne (by omega), F q (by simp; omega), z_set_ne (by omega)], by rw [z_set_nj (by decide), z_seg_ne (by decide), z_map_ne (by decide), F 39 (by decide), z_set_at], fun j hj => by rw [z_set_ne (by decide), z_seg_ne (by decide), z_map_ne (by decide), F 46 (by decide), s46]; exact hb j hj, hs.res (fun i hi => by rw [z_set_ne (by decide), z_seg_ne (by decide), z_map_ne (by decide)]; exact LO i hi) (by rw [z_set_ne (by decide), z_seg_ne (by decide), z_map_ne (by decide), F 41 (by decide), s41]) z_set_at (fun j hj => ?_) hv⟩))
      rw [z_set_ne (by decide), zseal]
      rw [if_neg (by decide)]
      by_cases h : j < n 3
      · rw [if_pos h, z_seg_out (Or.inl h), z_map_lt h]; exact CC j h
      · rw [if_neg h, z_seg_in (by omega) (by omega)]; exact t4 _ (by omega)
end
