theorem z_or256 (x : Nat) {y : Nat} (h : y < 256) : x * 2 ^ 8 ||| y = x * 256 + y := by
  have e := Nat.two_pow_add_eq_or_of_lt (i := 8) h x
  rw [show x * 2 ^ 8 = 2 ^ 8 * x by omega, ← e, show 2 ^ 8 * x = x * 256 by omega]
section
variable {l : Launch} {g : z_G} {ad : Nat → Nat} {A B : z_A}
theorem c_count0 {part : Nat} (hp : part < 1000) (hJ : ∀ j, j < 16 → A 27 j < 256) : z_Met l g ad mZ_count (z_rm 1) [.ref (ad 25), .int (nI part)] A B (z_vd (fun A' B' => B = B' ∧ (∀ q, q ≠ 28 → A' q = A q) ∧ ∀ j, j < 16 → A' 28 j = zcnt 0 (A 27) (part + 1) j)) := by
  refine z_Met.of (L := [(0, _), (1, _)]) (by decide) (Nat.le_of_ble_eq_true rfl) z_fit_vd rfl ?_
  intro Ex hEx
  have h12 := hJ 12 (by decide)
  have h13 := hJ 13 (by decide)
  have h14 := hJ 14 (by decide)
  have h15 := hJ 15 (by decide)
  refine z_aload_n (pc := 0) dZ_count_0 rfl rfl ?_
  refine z_getR (pc := 1) zo_25 rfl zf_Z_41_4 dZ_count_1 ?_
  refine z_iconst (pc := 4) dZ_count_4 zi_0 ?_
  refine z_aload_n (pc := 5) dZ_count_5 rfl rfl ?_
  refine z_getR (pc := 6) zo_25 rfl zf_Z_95_4 dZ_count_6 ?_
  refine z_iconst (pc := 9) dZ_count_9 zi_0 ?_
  refine z_bipush (pc := 10) dZ_count_10 zb_16 ?_
  refine z_copy (pc := 12) za_27 za_28 (by omega) (by omega) zy_Z_44 (by decide) (Nat.le_of_ble_eq_true rfl) (by decide) dZ_count_12 ?_
  refine z_iconst (pc := 15) dZ_count_15 zi_0 ?_
  refine z_istore_n (L' := [(2, _), (0, _), (1, _)]) (pc := 16) dZ_count_16 rfl (by decide) rfl ?_
  refine z_bipush (pc := 17) dZ_count_17 zb_12 ?_
  refine z_istore_n (L' := [(3, _), (2, _), (0, _), (1, _)]) (pc := 19) dZ_count_19 rfl (by decide) rfl ?_
  refine z_iload_n (pc := 20) dZ_count_20 rfl rfl ?_
  refine z_bipush (pc := 21) dZ_count_21 zb_16 ?_
  refine z_icmp_ge (pc := 23) (by omega) (by omega) (tgt := 44) dZ_count_23 rfl (fun h => by exfalso; omega) (fun h => ?_)
  refine z_iload_n (pc := 26) dZ_count_26 rfl rfl ?_
  refine z_bipush (pc := 27) dZ_count_27 zb_8 ?_
  refine z_ishl (pc := 29) dZ_count_29 (by omega) ?_
  refine z_aload_n (pc := 30) dZ_count_30 rfl rfl ?_
  refine z_getR (pc := 31) zo_25 rfl zf_Z_41_4 dZ_count_31 ?_
  refine z_iload_n (pc := 34) dZ_count_34 rfl rfl ?_
  refine z_iaload (pc := 35) za_27 (by omega) dZ_count_35 ?_
  refine z_ior (pc := 36) dZ_count_36 ?_
  refine z_top (congrArg (fun x => Value.int (nI x)) (show _ = A 27 12 by rw [z_seg_ne (by decide), z_or256 _ (hJ _ (by decide)), Nat.zero_mul, Nat.zero_add])) ?_
  refine z_istore_n (L' := [(2, _), (3, _), (0, _), (1, _)]) (pc := 37) dZ_count_37 rfl (by decide) rfl ?_
  refine z_iinc (L' := [(3, _), (2, _), (0, _), (1, _)]) (pc := 38) dZ_count_38 rfl zi_1 (by decide) rfl ?_
  refine z_goto (pc := 41) (tgt := 20) dZ_count_41 rfl ?_
  refine z_iload_n (pc := 20) dZ_count_20 rfl rfl ?_
  refine z_bipush (pc := 21) dZ_count_21 zb_16 ?_
  refine z_icmp_ge (pc := 23) (by omega) (by omega) (tgt := 44) dZ_count_23 rfl (fun h => by exfalso; omega) (fun h => ?_)
  refine z_iload_n (pc := 26) dZ_count_26 rfl rfl ?_
  refine z_bipush (pc := 27) dZ_count_27 zb_8 ?_
  refine z_ishl (pc := 29) dZ_count_29 (by omega) ?_
  refine z_aload_n (pc := 30) dZ_count_30 rfl rfl ?_
  refine z_getR (pc := 31) zo_25 rfl zf_Z_41_4 dZ_count_31 ?_
  refine z_iload_n (pc := 34) dZ_count_34 rfl rfl ?_
  refine z_iaload (pc := 35) za_27 (by omega) dZ_count_35 ?_
  refine z_ior (pc := 36) dZ_count_36 ?_
  refine z_top (congrArg (fun x => Value.int (nI x)) (show _ = A 27 12 * 256 + A 27 13 by rw [z_seg_ne (by decide), z_or256 _ (hJ _ (by decide))])) ?_
  refine z_istore_n (L' := [(2, _), (3, _), (0, _), (1, _)]) (pc := 37) dZ_count_37 rfl (by decide) rfl ?_
  refine z_iinc (L' := [(3, _), (2, _), (0, _), (1, _)]) (pc := 38) dZ_count_38 rfl zi_1 (by decide) rfl ?_
  refine z_goto (pc := 41) (tgt := 20) dZ_count_41 rfl ?_
  refine z_iload_n (pc := 20) dZ_count_20 rfl rfl ?_
  refine z_bipush (pc := 21) dZ_count_21 zb_16 ?_
  refine z_icmp_ge (pc := 23) (by omega) (by omega) (tgt := 44) dZ_count_23 rfl (fun h => by exfalso; omega) (fun h => ?_)
  refine z_iload_n (pc := 26) dZ_count_26 rfl rfl ?_
  refine z_bipush (pc := 27) dZ_count_27 zb_8 ?_
  refine z_ishl (pc := 29) dZ_count_29 (by omega) ?_
  refine z_aload_n (pc := 30) dZ_count_30 rfl rfl ?_
  refine z_getR (pc := 31) zo_25 rfl zf_Z_41_4 dZ_count_31 ?_
  refine z_iload_n (pc := 34) dZ_count_34 rfl rfl ?_
  refine z_iaload (pc := 35) za_27 (by omega) dZ_count_35 ?_
  refine z_ior (pc := 36) dZ_count_36 ?_
  refine z_top (congrArg (fun x => Value.int (nI x)) (show _ = (A 27 12 * 256 + A 27 13) * 256 + A 27 14 by rw [z_seg_ne (by decide), z_or256 _ (hJ _ (by decide))])) ?_
  refine z_istore_n (L' := [(2, _), (3, _), (0, _), (1, _)]) (pc := 37) dZ_count_37 rfl (by decide) rfl ?_
  refine z_iinc (L' := [(3, _), (2, _), (0, _), (1, _)]) (pc := 38) dZ_count_38 rfl zi_1 (by decide) rfl ?_
  refine z_goto (pc := 41) (tgt := 20) dZ_count_41 rfl ?_
  refine z_iload_n (pc := 20) dZ_count_20 rfl rfl ?_
  refine z_bipush (pc := 21) dZ_count_21 zb_16 ?_
  refine z_icmp_ge (pc := 23) (by omega) (by omega) (tgt := 44) dZ_count_23 rfl (fun h => by exfalso; omega) (fun h => ?_)
  refine z_iload_n (pc := 26) dZ_count_26 rfl rfl ?_
  refine z_bipush (pc := 27) dZ_count_27 zb_8 ?_
  refine z_ishl (pc := 29) dZ_count_29 (by omega) ?_
  refine z_aload_n (pc := 30) dZ_count_30 rfl rfl ?_
  refine z_getR (pc := 31) zo_25 rfl zf_Z_41_4 dZ_count_31 ?_
  refine z_iload_n (pc := 34) dZ_count_34 rfl rfl ?_
  refine z_iaload (pc := 35) za_27 (by omega) dZ_count_35 ?_
  refine z_ior (pc := 36) dZ_count_36 ?_
  refine z_top (congrArg (fun x => Value.int (nI x)) (show _ = ((A 27 12 * 256 + A 27 13) * 256 + A 27 14) * 256 + A 27 15 by rw [z_seg_ne (by decide), z_or256 _ (hJ _ (by decide))])) ?_
  refine z_istore_n (L' := [(2, _), (3, _), (0, _), (1, _)]) (pc := 37) dZ_count_37 rfl (by decide) rfl ?_
  refine z_iinc (L' := [(3, _), (2, _), (0, _), (1, _)]) (pc := 38) dZ_count_38 rfl zi_1 (by decide) rfl ?_
  refine z_goto (pc := 41) (tgt := 20) dZ_count_41 rfl ?_
  refine z_iload_n (pc := 20) dZ_count_20 rfl rfl ?_
  refine z_bipush (pc := 21) dZ_count_21 zb_16 ?_
  refine z_icmp_ge (pc := 23) (by omega) (by omega) (tgt := 44) dZ_count_23 rfl (fun h => ?_) (fun h => by exfalso; omega)
  refine z_iload_n (pc := 44) dZ_count_44 rfl rfl ?_
  refine z_iload_n (pc := 45) dZ_count_45 rfl rfl ?_
  refine z_iconst (pc := 46) dZ_count_46 zi_1 ?_
  refine z_iadd (pc := 47) dZ_count_47 ?_
  refine z_iadd (pc := 48) dZ_count_48 ?_
  refine z_top (congrArg Value.int (z_nmod _)) ?_
  refine z_istore_n (L' := [(2, _), (3, _), (0, _), (1, _)]) (pc := 49) dZ_count_49 rfl (by decide) rfl ?_
  refine z_bipush (pc := 50) dZ_count_50 zb_15 ?_
  refine z_istore_n (L' := [(3, _), (2, _), (0, _), (1, _)]) (pc := 52) dZ_count_52 rfl (by decide) rfl ?_
  refine z_iload_n (pc := 53) dZ_count_53 rfl rfl ?_
  refine z_bipush (pc := 54) dZ_count_54 zb_12 ?_
  refine z_icmp_lt (pc := 56) (by omega) (by omega) (tgt := 81) dZ_count_56 rfl (fun h => by exfalso; omega) (fun h => ?_)
  refine z_aload_n (pc := 59) dZ_count_59 rfl rfl ?_
  refine z_getR (pc := 60) zo_25 rfl zf_Z_95_4 dZ_count_60 ?_
  refine z_iload_n (pc := 63) dZ_count_63 rfl rfl ?_
  refine z_iload_n (pc := 64) dZ_count_64 rfl rfl ?_
  refine z_sipush (pc := 65) dZ_count_65 zs_255 ?_
  refine z_iand (pc := 68) dZ_count_68 ?_
  refine z_iastore (pc := 69) za_28 (by omega) dZ_count_69 ?_
  refine z_iload_n (pc := 70) dZ_count_70 rfl rfl ?_
  refine z_bipush (pc := 71) dZ_count_71 zb_8 ?_
  refine z_iushr (pc := 73) dZ_count_73 (by omega) (by omega) ?_
  refine z_istore_n (L' := [(2, _), (3, _), (0, _), (1, _)]) (pc := 74) dZ_count_74 rfl (by decide) rfl ?_
  refine z_iinc (L' := [(3, _), (2, _), (0, _), (1, _)]) (pc := 75) dZ_count_75 rfl zi_m1 (by decide) rfl ?_
  refine z_goto (pc := 78) (tgt := 53) dZ_count_78 rfl ?_
  refine z_ls (L' := [(3, .int (nI 14)), (2, _), (0, _), (1, _)]) [0, 1, 2, 3] rfl ?_
  refine z_iload_n (pc := 53) dZ_count_53 rfl rfl ?_
  refine z_bipush (pc := 54) dZ_count_54 zb_12 ?_
  refine z_icmp_lt (pc := 56) (by omega) (by omega) (tgt := 81) dZ_count_56 rfl (fun h => by exfalso; omega) (fun h => ?_)
  refine z_aload_n (pc := 59) dZ_count_59 rfl rfl ?_
  refine z_getR (pc := 60) zo_25 rfl zf_Z_95_4 dZ_count_60 ?_
  refine z_iload_n (pc := 63) dZ_count_63 rfl rfl ?_
  refine z_iload_n (pc := 64) dZ_count_64 rfl rfl ?_
  refine z_sipush (pc := 65) dZ_count_65 zs_255 ?_
  refine z_iand (pc := 68) dZ_count_68 ?_
  refine z_iastore (pc := 69) za_28 (by omega) dZ_count_69 ?_
  refine z_iload_n (pc := 70) dZ_count_70 rfl rfl ?_
  refine z_bipush (pc := 71) dZ_count_71 zb_8 ?_
  refine z_iushr (pc := 73) dZ_count_73 (by omega) (by omega) ?_
  refine z_istore_n (L' := [(2, _), (3, _), (0, _), (1, _)]) (pc := 74) dZ_count_74 rfl (by decide) rfl ?_
  refine z_iinc (L' := [(3, _), (2, _), (0, _), (1, _)]) (pc := 75) dZ_count_75 rfl zi_m1 (by decide) rfl ?_
  refine z_goto (pc := 78) (tgt := 53) dZ_count_78 rfl ?_
  refine z_ls (L' := [(3, .int (nI 13)), (2, _), (0, _), (1, _)]) [0, 1, 2, 3] rfl ?_
  refine z_iload_n (pc := 53) dZ_count_53 rfl rfl ?_
  refine z_bipush (pc := 54) dZ_count_54 zb_12 ?_
  refine z_icmp_lt (pc := 56) (by omega) (by omega) (tgt := 81) dZ_count_56 rfl (fun h => by exfalso; omega) (fun h => ?_)
  refine z_aload_n (pc := 59) dZ_count_59 rfl rfl ?_
  refine z_getR (pc := 60) zo_25 rfl zf_Z_95_4 dZ_count_60 ?_
  refine z_iload_n (pc := 63) dZ_count_63 rfl rfl ?_
  refine z_iload_n (pc := 64) dZ_count_64 rfl rfl ?_
  refine z_sipush (pc := 65) dZ_count_65 zs_255 ?_
  refine z_iand (pc := 68) dZ_count_68 ?_
  refine z_iastore (pc := 69) za_28 (by omega) dZ_count_69 ?_
  refine z_iload_n (pc := 70) dZ_count_70 rfl rfl ?_
  refine z_bipush (pc := 71) dZ_count_71 zb_8 ?_
  refine z_iushr (pc := 73) dZ_count_73 (by omega) (by omega) ?_
  refine z_istore_n (L' := [(2, _), (3, _), (0, _), (1, _)]) (pc := 74) dZ_count_74 rfl (by decide) rfl ?_
  refine z_iinc (L' := [(3, _), (2, _), (0, _), (1, _)]) (pc := 75) dZ_count_75 rfl zi_m1 (by decide) rfl ?_
  refine z_goto (pc := 78) (tgt := 53) dZ_count_78 rfl ?_
  refine z_ls (L' := [(3, .int (nI 12)), (2, _), (0, _), (1, _)]) [0, 1, 2, 3] rfl ?_
  refine z_iload_n (pc := 53) dZ_count_53 rfl rfl ?_
  refine z_bipush (pc := 54) dZ_count_54 zb_12 ?_
  refine z_icmp_lt (pc := 56) (by omega) (by omega) (tgt := 81) dZ_count_56 rfl (fun h => by exfalso; omega) (fun h => ?_)
  refine z_aload_n (pc := 59) dZ_count_59 rfl rfl ?_
  refine z_getR (pc := 60) zo_25 rfl zf_Z_95_4 dZ_count_60 ?_
  refine z_iload_n (pc := 63) dZ_count_63 rfl rfl ?_
  refine z_iload_n (pc := 64) dZ_count_64 rfl rfl ?_
  refine z_sipush (pc := 65) dZ_count_65 zs_255 ?_
  refine z_iand (pc := 68) dZ_count_68 ?_
  refine z_iastore (pc := 69) za_28 (by omega) dZ_count_69 ?_
  refine z_iload_n (pc := 70) dZ_count_70 rfl rfl ?_
  refine z_bipush (pc := 71) dZ_count_71 zb_8 ?_
  refine z_iushr (pc := 73) dZ_count_73 (by omega) (by omega) ?_
  refine z_istore_n (L' := [(2, _), (3, _), (0, _), (1, _)]) (pc := 74) dZ_count_74 rfl (by decide) rfl ?_
  refine z_iinc (L' := [(3, _), (2, _), (0, _), (1, _)]) (pc := 75) dZ_count_75 rfl zi_m1 (by decide) rfl ?_
  refine z_goto (pc := 78) (tgt := 53) dZ_count_78 rfl ?_
  refine z_ls (L' := [(3, .int (nI 11)), (2, _), (0, _), (1, _)]) [0, 1, 2, 3] rfl ?_
  refine z_iload_n (pc := 53) dZ_count_53 rfl rfl ?_
  refine z_bipush (pc := 54) dZ_count_54 zb_12 ?_
  refine z_icmp_lt (pc := 56) (by omega) (by omega) (tgt := 81) dZ_count_56 rfl (fun h => ?_) (fun h => by exfalso; omega)
  exact z_ret0 (pc := 81) dZ_count_81 (hEx _ _ _ (⟨rfl, rfl, fun q hq => by rw [z_set_ne hq, z_set_ne hq, z_set_ne hq, z_set_ne hq, z_seg_ne hq], fun j hj => by rcases z_c16 hj with rfl | rfl | rfl | rfl | rfl | rfl | rfl | rfl | rfl | rfl | rfl | rfl | rfl | rfl | rfl | rfl <;> simp [z_set, va_up, z_seg, zcnt, zcn, z128, z_and255] <;> omega⟩))
theorem c_count1 {part : Nat} (hp : part < 1000) (hJ : ∀ j, j < 16 → A 34 j < 256) : z_Met l g ad mO_count (z_rm 1) [.ref (ad 32), .int (nI part)] A B (z_vd (fun A' B' => B = B' ∧ (∀ q, q ≠ 35 → A' q = A q) ∧ ∀ j, j < 16 → A' 35 j = zcnt 1 (z128 (A 34)) part j)) := by
  refine z_Met.of (L := [(0, _), (1, _)]) (by decide) (Nat.le_of_ble_eq_true rfl) z_fit_vd rfl ?_
  intro Ex hEx
  have h3 := hJ 3 (by decide)
  have h2 := hJ 2 (by decide)
  have h1 := hJ 1 (by decide)
  have h0 := hJ 0 (by decide)
  refine z_aload_n (pc := 0) dO_count_0 rfl rfl ?_
  refine z_getR (pc := 1) zo_32 rfl zf_O_64_3 dO_count_1 ?_
  refine z_iconst (pc := 4) dO_count_4 zi_0 ?_
  refine z_aload_n (pc := 5) dO_count_5 rfl rfl ?_
  refine z_getR (pc := 6) zo_32 rfl zf_O_37_3 dO_count_6 ?_
  refine z_iconst (pc := 9) dO_count_9 zi_0 ?_
  refine z_bipush (pc := 10) dO_count_10 zb_16 ?_
  refine z_copy (pc := 12) za_34 za_35 (by omega) (by omega) zy_O_40 (by decide) (Nat.le_of_ble_eq_true rfl) (by decide) dO_count_12 ?_
  refine z_aload_n (pc := 15) dO_count_15 rfl rfl ?_
  refine z_getR (pc := 16) zo_32 rfl zf_O_37_3 dO_count_16 ?_
  refine z_bipush (pc := 19) dO_count_19 zb_15 ?_
  refine z_dup2 (pc := 21) dO_count_21 rfl rfl ?_
  refine z_iaload (pc := 22) za_35 (by omega) dO_count_22 ?_
  refine z_sipush (pc := 23) dO_count_23 zs_128 ?_
  refine z_ior (pc := 26) dO_count_26 ?_
  refine z_iastore (pc := 27) za_35 (by omega) dO_count_27 ?_
  refine z_iconst (pc := 28) dO_count_28 zi_0 ?_
  refine z_istore_n (L' := [(2, _), (0, _), (1, _)]) (pc := 29) dO_count_29 rfl (by decide) rfl ?_
  refine z_iconst (pc := 30) dO_count_30 zi_3 ?_
  refine z_istore_n (L' := [(3, _), (2, _), (0, _), (1, _)]) (pc := 31) dO_count_31 rfl (by decide) rfl ?_
  refine z_iload_n (pc := 32) dO_count_32 rfl rfl ?_
  refine z_if_lt (pc := 33) (by omega) (tgt := 54) dO_count_33 rfl (fun h => by exfalso; omega) (fun h => ?_)
  refine z_iload_n (pc := 36) dO_count_36 rfl rfl ?_
  refine z_bipush (pc := 37) dO_count_37 zb_8 ?_
  refine z_ishl (pc := 39) dO_count_39 (by omega) ?_
  refine z_aload_n (pc := 40) dO_count_40 rfl rfl ?_
  refine z_getR (pc := 41) zo_32 rfl zf_O_64_3 dO_count_41 ?_
  refine z_iload_n (pc := 44) dO_count_44 rfl rfl ?_
  refine z_iaload (pc := 45) za_34 (by omega) dO_count_45 ?_
  refine z_ior (pc := 46) dO_count_46 ?_
  refine z_top (congrArg (fun x => Value.int (nI x)) (show _ = A 34 3 by rw [z_set_ne (by decide), z_seg_ne (by decide), z_or256 _ (hJ _ (by decide)), Nat.zero_mul, Nat.zero_add])) ?_
  refine z_istore_n (L' := [(2, _), (3, _), (0, _), (1, _)]) (pc := 47) dO_count_47 rfl (by decide) rfl ?_
  refine z_iinc (L' := [(3, _), (2, _), (0, _), (1, _)]) (pc := 48) dO_count_48 rfl zi_m1 (by decide) rfl ?_
  refine z_goto (pc := 51) (tgt := 32) dO_count_51 rfl ?_
  refine z_ls (L' := [(3, .int (nI 2)), (2, _), (0, _), (1, _)]) [0, 1, 2, 3] rfl ?_
  refine z_iload_n (pc := 32) dO_count_32 rfl rfl ?_
  refine z_if_lt (pc := 33) (by omega) (tgt := 54) dO_count_33 rfl (fun h => by exfalso; omega) (fun h => ?_)
  refine z_iload_n (pc := 36) dO_count_36 rfl rfl ?_
  refine z_bipush (pc := 37) dO_count_37 zb_8 ?_
  refine z_ishl (pc := 39) dO_count_39 (by omega) ?_
  refine z_aload_n (pc := 40) dO_count_40 rfl rfl ?_
  refine z_getR (pc := 41) zo_32 rfl zf_O_64_3 dO_count_41 ?_
  refine z_iload_n (pc := 44) dO_count_44 rfl rfl ?_
  refine z_iaload (pc := 45) za_34 (by omega) dO_count_45 ?_
  refine z_ior (pc := 46) dO_count_46 ?_
  refine z_top (congrArg (fun x => Value.int (nI x)) (show _ = A 34 3 * 256 + A 34 2 by rw [z_set_ne (by decide), z_seg_ne (by decide), z_or256 _ (hJ _ (by decide))])) ?_
  refine z_istore_n (L' := [(2, _), (3, _), (0, _), (1, _)]) (pc := 47) dO_count_47 rfl (by decide) rfl ?_
  refine z_iinc (L' := [(3, _), (2, _), (0, _), (1, _)]) (pc := 48) dO_count_48 rfl zi_m1 (by decide) rfl ?_
  refine z_goto (pc := 51) (tgt := 32) dO_count_51 rfl ?_
  refine z_ls (L' := [(3, .int (nI 1)), (2, _), (0, _), (1, _)]) [0, 1, 2, 3] rfl ?_
  refine z_iload_n (pc := 32) dO_count_32 rfl rfl ?_
  refine z_if_lt (pc := 33) (by omega) (tgt := 54) dO_count_33 rfl (fun h => by exfalso; omega) (fun h => ?_)
  refine z_iload_n (pc := 36) dO_count_36 rfl rfl ?_
  refine z_bipush (pc := 37) dO_count_37 zb_8 ?_
  refine z_ishl (pc := 39) dO_count_39 (by omega) ?_
  refine z_aload_n (pc := 40) dO_count_40 rfl rfl ?_
  refine z_getR (pc := 41) zo_32 rfl zf_O_64_3 dO_count_41 ?_
  refine z_iload_n (pc := 44) dO_count_44 rfl rfl ?_
  refine z_iaload (pc := 45) za_34 (by omega) dO_count_45 ?_
  refine z_ior (pc := 46) dO_count_46 ?_
  refine z_top (congrArg (fun x => Value.int (nI x)) (show _ = (A 34 3 * 256 + A 34 2) * 256 + A 34 1 by rw [z_set_ne (by decide), z_seg_ne (by decide), z_or256 _ (hJ _ (by decide))])) ?_
  refine z_istore_n (L' := [(2, _), (3, _), (0, _), (1, _)]) (pc := 47) dO_count_47 rfl (by decide) rfl ?_
  refine z_iinc (L' := [(3, _), (2, _), (0, _), (1, _)]) (pc := 48) dO_count_48 rfl zi_m1 (by decide) rfl ?_
  refine z_goto (pc := 51) (tgt := 32) dO_count_51 rfl ?_
  refine z_ls (L' := [(3, .int (nI 0)), (2, _), (0, _), (1, _)]) [0, 1, 2, 3] rfl ?_
  refine z_iload_n (pc := 32) dO_count_32 rfl rfl ?_
  refine z_if_lt (pc := 33) (by omega) (tgt := 54) dO_count_33 rfl (fun h => by exfalso; omega) (fun h => ?_)
  refine z_iload_n (pc := 36) dO_count_36 rfl rfl ?_
  refine z_bipush (pc := 37) dO_count_37 zb_8 ?_
  refine z_ishl (pc := 39) dO_count_39 (by omega) ?_
  refine z_aload_n (pc := 40) dO_count_40 rfl rfl ?_
  refine z_getR (pc := 41) zo_32 rfl zf_O_64_3 dO_count_41 ?_
  refine z_iload_n (pc := 44) dO_count_44 rfl rfl ?_
  refine z_iaload (pc := 45) za_34 (by omega) dO_count_45 ?_
  refine z_ior (pc := 46) dO_count_46 ?_
  refine z_top (congrArg (fun x => Value.int (nI x)) (show _ = ((A 34 3 * 256 + A 34 2) * 256 + A 34 1) * 256 + A 34 0 by rw [z_set_ne (by decide), z_seg_ne (by decide), z_or256 _ (hJ _ (by decide))])) ?_
  refine z_istore_n (L' := [(2, _), (3, _), (0, _), (1, _)]) (pc := 47) dO_count_47 rfl (by decide) rfl ?_
  refine z_iinc (L' := [(3, _), (2, _), (0, _), (1, _)]) (pc := 48) dO_count_48 rfl zi_m1 (by decide) rfl ?_
  refine z_goto (pc := 51) (tgt := 32) dO_count_51 rfl ?_
  refine z_iload_n (pc := 32) dO_count_32 rfl rfl ?_
  refine z_ifX_lt (pc := 33) (tgt := 54) dO_count_33 rfl (fun h => ?_) (fun h => absurd (show nI (0 + 4294967295) < 0 by decide) h)
  refine z_iload_n (pc := 54) dO_count_54 rfl rfl ?_
  refine z_iload_n (pc := 55) dO_count_55 rfl rfl ?_
  refine z_iadd (pc := 56) dO_count_56 ?_
  refine z_top (congrArg Value.int (z_nmod _)) ?_
  refine z_istore_n (L' := [(2, _), (3, _), (0, _), (1, _)]) (pc := 57) dO_count_57 rfl (by decide) rfl ?_
  refine z_iconst (pc := 58) dO_count_58 zi_0 ?_
  refine z_istore_n (L' := [(3, _), (2, _), (0, _), (1, _)]) (pc := 59) dO_count_59 rfl (by decide) rfl ?_
  refine z_iload_n (pc := 60) dO_count_60 rfl rfl ?_
  refine z_iconst (pc := 61) dO_count_61 zi_4 ?_
  refine z_icmp_ge (pc := 62) (by omega) (by omega) (tgt := 87) dO_count_62 rfl (fun h => by exfalso; omega) (fun h => ?_)
  refine z_aload_n (pc := 65) dO_count_65 rfl rfl ?_
  refine z_getR (pc := 66) zo_32 rfl zf_O_37_3 dO_count_66 ?_
  refine z_iload_n (pc := 69) dO_count_69 rfl rfl ?_
  refine z_iload_n (pc := 70) dO_count_70 rfl rfl ?_
  refine z_sipush (pc := 71) dO_count_71 zs_255 ?_
  refine z_iand (pc := 74) dO_count_74 ?_
  refine z_iastore (pc := 75) za_35 (by omega) dO_count_75 ?_
  refine z_iload_n (pc := 76) dO_count_76 rfl rfl ?_
  refine z_bipush (pc := 77) dO_count_77 zb_8 ?_
  refine z_iushr (pc := 79) dO_count_79 (by omega) (by omega) ?_
  refine z_istore_n (L' := [(2, _), (3, _), (0, _), (1, _)]) (pc := 80) dO_count_80 rfl (by decide) rfl ?_
  refine z_iinc (L' := [(3, _), (2, _), (0, _), (1, _)]) (pc := 81) dO_count_81 rfl zi_1 (by decide) rfl ?_
  refine z_goto (pc := 84) (tgt := 60) dO_count_84 rfl ?_
  refine z_iload_n (pc := 60) dO_count_60 rfl rfl ?_
  refine z_iconst (pc := 61) dO_count_61 zi_4 ?_
  refine z_icmp_ge (pc := 62) (by omega) (by omega) (tgt := 87) dO_count_62 rfl (fun h => by exfalso; omega) (fun h => ?_)
  refine z_aload_n (pc := 65) dO_count_65 rfl rfl ?_
  refine z_getR (pc := 66) zo_32 rfl zf_O_37_3 dO_count_66 ?_
  refine z_iload_n (pc := 69) dO_count_69 rfl rfl ?_
  refine z_iload_n (pc := 70) dO_count_70 rfl rfl ?_
  refine z_sipush (pc := 71) dO_count_71 zs_255 ?_
  refine z_iand (pc := 74) dO_count_74 ?_
  refine z_iastore (pc := 75) za_35 (by omega) dO_count_75 ?_
  refine z_iload_n (pc := 76) dO_count_76 rfl rfl ?_
  refine z_bipush (pc := 77) dO_count_77 zb_8 ?_
  refine z_iushr (pc := 79) dO_count_79 (by omega) (by omega) ?_
  refine z_istore_n (L' := [(2, _), (3, _), (0, _), (1, _)]) (pc := 80) dO_count_80 rfl (by decide) rfl ?_
  refine z_iinc (L' := [(3, _), (2, _), (0, _), (1, _)]) (pc := 81) dO_count_81 rfl zi_1 (by decide) rfl ?_
  refine z_goto (pc := 84) (tgt := 60) dO_count_84 rfl ?_
  refine z_iload_n (pc := 60) dO_count_60 rfl rfl ?_
  refine z_iconst (pc := 61) dO_count_61 zi_4 ?_
  refine z_icmp_ge (pc := 62) (by omega) (by omega) (tgt := 87) dO_count_62 rfl (fun h => by exfalso; omega) (fun h => ?_)
  refine z_aload_n (pc := 65) dO_count_65 rfl rfl ?_
  refine z_getR (pc := 66) zo_32 rfl zf_O_37_3 dO_count_66 ?_
  refine z_iload_n (pc := 69) dO_count_69 rfl rfl ?_
  refine z_iload_n (pc := 70) dO_count_70 rfl rfl ?_
  refine z_sipush (pc := 71) dO_count_71 zs_255 ?_
  refine z_iand (pc := 74) dO_count_74 ?_
  refine z_iastore (pc := 75) za_35 (by omega) dO_count_75 ?_
  refine z_iload_n (pc := 76) dO_count_76 rfl rfl ?_
  refine z_bipush (pc := 77) dO_count_77 zb_8 ?_
  refine z_iushr (pc := 79) dO_count_79 (by omega) (by omega) ?_
  refine z_istore_n (L' := [(2, _), (3, _), (0, _), (1, _)]) (pc := 80) dO_count_80 rfl (by decide) rfl ?_
  refine z_iinc (L' := [(3, _), (2, _), (0, _), (1, _)]) (pc := 81) dO_count_81 rfl zi_1 (by decide) rfl ?_
  refine z_goto (pc := 84) (tgt := 60) dO_count_84 rfl ?_
  refine z_iload_n (pc := 60) dO_count_60 rfl rfl ?_
  refine z_iconst (pc := 61) dO_count_61 zi_4 ?_
  refine z_icmp_ge (pc := 62) (by omega) (by omega) (tgt := 87) dO_count_62 rfl (fun h => by exfalso; omega) (fun h => ?_)
  refine z_aload_n (pc := 65) dO_count_65 rfl rfl ?_
  refine z_getR (pc := 66) zo_32 rfl zf_O_37_3 dO_count_66 ?_
  refine z_iload_n (pc := 69) dO_count_69 rfl rfl ?_
  refine z_iload_n (pc := 70) dO_count_70 rfl rfl ?_
  refine z_sipush (pc := 71) dO_count_71 zs_255 ?_
  refine z_iand (pc := 74) dO_count_74 ?_
  refine z_iastore (pc := 75) za_35 (by omega) dO_count_75 ?_
  refine z_iload_n (pc := 76) dO_count_76 rfl rfl ?_
  refine z_bipush (pc := 77) dO_count_77 zb_8 ?_
  refine z_iushr (pc := 79) dO_count_79 (by omega) (by omega) ?_
  refine z_istore_n (L' := [(2, _), (3, _), (0, _), (1, _)]) (pc := 80) dO_count_80 rfl (by decide) rfl ?_
  refine z_iinc (L' := [(3, _), (2, _), (0, _), (1, _)]) (pc := 81) dO_count_81 rfl zi_1 (by decide) rfl ?_
  refine z_goto (pc := 84) (tgt := 60) dO_count_84 rfl ?_
  refine z_iload_n (pc := 60) dO_count_60 rfl rfl ?_
  refine z_iconst (pc := 61) dO_count_61 zi_4 ?_
  refine z_icmp_ge (pc := 62) (by omega) (by omega) (tgt := 87) dO_count_62 rfl (fun h => ?_) (fun h => by exfalso; omega)
  exact z_ret0 (pc := 87) dO_count_87 (hEx _ _ _ (⟨rfl, rfl, fun q hq => by rw [z_set_ne hq, z_set_ne hq, z_set_ne hq, z_set_ne hq, z_set_ne hq, z_seg_ne hq], fun j hj => by rcases z_c16 hj with rfl | rfl | rfl | rfl | rfl | rfl | rfl | rfl | rfl | rfl | rfl | rfl | rfl | rfl | rfl | rfl <;> simp [z_set, va_up, z_seg, zcnt, zcn, z128, z_and255] <;> omega⟩))
end
