def zpwl : List Nat := [1, 3, 5, 15, 17, 51, 85, 255, 26, 46, 114, 150, 161, 248, 19, 53, 95, 225, 56, 72, 216, 115, 149, 164, 247, 2, 6, 10, 30, 34, 102, 170, 229, 52, 92, 228, 55, 89, 235, 38, 106, 190, 217, 112, 144, 171, 230, 49, 83, 245, 4, 12, 20, 60, 68, 204, 79, 209, 104, 184, 211, 110, 178, 205, 76, 212, 103, 169, 224, 59, 77, 215, 98, 166, 241, 8, 24, 40, 120, 136, 131, 158, 185, 208, 107, 189, 220, 127, 129, 152, 179, 206, 73, 219, 118, 154, 181, 196, 87, 249, 16, 48, 80, 240, 11, 29, 39, 105, 187, 214, 97, 163, 254, 25, 43, 125, 135, 146, 173, 236, 47, 113, 147, 174, 233, 32, 96, 160, 251, 22, 58, 78, 210, 109, 183, 194, 93, 231, 50, 86, 250, 21, 63, 65, 195, 94, 226, 61, 71, 201, 64, 192, 91, 237, 44, 116, 156, 191, 218, 117, 159, 186, 213, 100, 172, 239, 42, 126, 130, 157, 188, 223, 122, 142, 137, 128, 155, 182, 193, 88, 232, 35, 101, 175, 234, 37, 111, 177, 200, 67, 197, 84, 252, 31, 33, 99, 165, 244, 7, 9, 27, 45, 119, 153, 176, 203, 70, 202, 69, 207, 74, 222, 121, 139, 134, 145, 168, 227, 62, 66, 198, 81, 243, 14, 18, 54, 90, 238, 41, 123, 141, 140, 143, 138, 133, 148, 167, 242, 13, 23, 57, 75, 221, 124, 132, 151, 162, 253, 28, 36, 108, 180, 199, 82, 246, 1]
def zlgl : List Nat := [0, 0, 25, 1, 50, 2, 26, 198, 75, 199, 27, 104, 51, 238, 223, 3, 100, 4, 224, 14, 52, 141, 129, 239, 76, 113, 8, 200, 248, 105, 28, 193, 125, 194, 29, 181, 249, 185, 39, 106, 77, 228, 166, 114, 154, 201, 9, 120, 101, 47, 138, 5, 33, 15, 225, 36, 18, 240, 130, 69, 53, 147, 218, 142, 150, 143, 219, 189, 54, 208, 206, 148, 19, 92, 210, 241, 64, 70, 131, 56, 102, 221, 253, 48, 191, 6, 139, 98, 179, 37, 226, 152, 34, 136, 145, 16, 126, 110, 72, 195, 163, 182, 30, 66, 58, 107, 40, 84, 250, 133, 61, 186, 43, 121, 10, 21, 155, 159, 94, 202, 78, 212, 172, 229, 243, 115, 167, 87, 175, 88, 168, 80, 244, 234, 214, 116, 79, 174, 233, 213, 231, 230, 173, 232, 44, 215, 117, 122, 235, 22, 11, 245, 89, 203, 95, 176, 156, 169, 81, 160, 127, 12, 246, 111, 23, 196, 73, 236, 216, 67, 31, 45, 164, 118, 123, 183, 204, 187, 62, 90, 251, 96, 177, 134, 59, 82, 161, 108, 170, 85, 41, 157, 151, 178, 135, 144, 97, 190, 220, 252, 188, 149, 207, 205, 55, 63, 91, 209, 83, 57, 132, 60, 65, 162, 109, 71, 20, 42, 158, 93, 86, 242, 211, 171, 68, 17, 146, 217, 35, 32, 46, 137, 180, 124, 184, 38, 119, 153, 227, 165, 103, 74, 237, 222, 197, 49, 254, 24, 13, 99, 140, 128, 192, 247, 112, 7]
def zpw (j : Nat) : Nat := zpwl.getD j 0
def zlg (j : Nat) : Nat := zlgl.getD j 0
theorem zpw_lt : ∀ j, j < 256 → zpw j < 256 := by decide +kernel
theorem zpw_s : ∀ j, j < 255 → zt (zpw j) = zpw (j + 1) := by decide +kernel
theorem zpw_sp : ∀ j, j < 255 → z_sp (zpw (255 - j)) = zS (zpw j) := by decide +kernel
theorem zpw_lg : ∀ j, j < 256 → j ≠ 0 → zlg j < 255 ∧ zpw (zlg j) = j := by decide +kernel
theorem z_up_at {f : Nat → Nat} {a x j : Nat} (h : j = a) : va_up f a x j = x := by subst h; simp [va_up]
theorem z_up_off {f : Nat → Nat} {a x j : Nat} (h : j ≠ a) : va_up f a x j = f j := by simp [va_up, h]
section
variable {l : Launch} {g : z_G} {ws : va_W}
theorem kC_makeBox   : k_Met l g mC_makeBox ⟨2, 2, 512, 96⟩ [] ws (fun r W => ∃ q0 q1 h f, (∀ j, j < 256 → h j = zS j) ∧ r = some (.ref q0) ∧ W = ws ++ [k_arr g q0 256 h, k_arr g q1 256 f]) := by
  refine k_Met.of (L := []) (by decide) (Nat.le_of_ble_eq_true rfl) (fun r W h => by obtain ⟨_, _, _, _, _, rfl, _⟩ := h; exact ⟨_, rfl⟩) rfl ?_
  intro p e s m args below meth c F Q hB
  have hC := hB.1
  have hF := hB.2.1
  have hA := hB.2.2.2.1
  refine k_sipush hC (pc := 0) dC_makeBox_0 zs_256 ?_
  refine k_newI hC hF wa_int (by decide) (Nat.le_of_ble_eq_true rfl) (Nat.le_of_ble_eq_true rfl) (pc := 3) dC_makeBox_3 (fun q0 => ?_)
  refine k_astore_n hC (L' := [(0, _)]) (pc := 5) dC_makeBox_5 rfl (by decide) rfl ?_
  refine k_sipush hC (pc := 6) dC_makeBox_6 zs_256 ?_
  refine k_newI hC hF wa_int (by decide) (Nat.le_of_ble_eq_true rfl) (Nat.le_of_ble_eq_true rfl) (pc := 9) dC_makeBox_9 (fun q1 => ?_)
  refine k_ws hC (ws' := ws ++ [k_arr g q0 256 (fun _ => 0), k_arr g q1 256 (fun _ => 0)]) (by rw [List.append_assoc]; rfl) ?_
  refine k_astore_n hC (L' := [(1, _), (0, _)]) (pc := 11) dC_makeBox_11 rfl (by decide) rfl ?_
  refine k_aload_n hC (pc := 12) dC_makeBox_12 rfl rfl ?_
  refine k_iconst hC (pc := 13) dC_makeBox_13 zi_0 ?_
  refine k_iconst hC (pc := 14) dC_makeBox_14 zi_1 ?_
  refine k_iastore hC (ws.length + 1) (ka_get 1) (by decide) (by decide) (ka_set 1) (pc := 15) dC_makeBox_15 ?_
  refine k_iconst hC (pc := 16) dC_makeBox_16 zi_1 ?_
  refine k_istore_n hC (L' := [(2, _), (1, _), (0, _)]) (pc := 17) dC_makeBox_17 rfl (by decide) rfl ?_
  refine k_loop 255 (fun i L W => ∃ f, (∀ j, j ≤ i → f j = zpw j) ∧ L = [(2, .int (nI (i + 1))), (1, .ref q1), (0, .ref q0)] ∧ W = ws ++ [k_arr g q0 256 (fun _ => 0), k_arr g q1 256 f]) ?_ ?_ _ _ ⟨_, ?_, rfl, rfl⟩
  · rintro i L W hi ⟨f, hf, rfl, rfl⟩ ki
    refine k_iload_n hC (pc := 18) dC_makeBox_18 rfl rfl ?_
    refine k_sipush hC (pc := 19) dC_makeBox_19 zs_256 ?_
    refine k_icmp_ge hC (pc := 22) (by omega) (by omega) (tgt := 42) dC_makeBox_22 rfl (fun h => by exfalso; omega) (fun h => ?_)
    refine k_aload_n hC (pc := 25) dC_makeBox_25 rfl rfl ?_
    refine k_iload_n hC (pc := 26) dC_makeBox_26 rfl rfl ?_
    refine k_aload_n hC (pc := 27) dC_makeBox_27 rfl rfl ?_
    refine k_iload_n hC (pc := 28) dC_makeBox_28 rfl rfl ?_
    refine k_iconst hC (pc := 29) dC_makeBox_29 zi_1 ?_
    refine k_isub hC (pc := 30) dC_makeBox_30 (by omega) ?_
    refine k_iaload hC (ws.length + 1) (ka_get 1) (by decide) (by omega) (pc := 31) dC_makeBox_31 ?_
    refine k_callS hC hF hA (pc := 32) (kC_tripled (by rw [hf _ (by omega)]; exact zpw_lt _ (by omega))) (by decide) zc_C_28 rfl rfl (Nat.le_of_ble_eq_true rfl) ⟨(Nat.le_of_ble_eq_true rfl), (Nat.le_of_ble_eq_true rfl)⟩ dC_makeBox_32 (fun r W9 hE => ?_)
    obtain ⟨rfl, rfl⟩ := hE
    refine k_r1 hC ?_
    refine k_iastore hC (ws.length + 1) (ka_get 1) (by decide) (by omega) (ka_set 1) (pc := 35) dC_makeBox_35 ?_
    refine k_iinc hC (L' := [(2, _), (1, _), (0, _)]) (pc := 36) dC_makeBox_36 rfl zi_1 (by decide) rfl ?_
    refine k_goto hC (pc := 39) (tgt := 18) dC_makeBox_39 rfl ?_
    refine ki _ _ ⟨_, ?_, rfl, rfl⟩
    intro j hj
    by_cases h1 : j = i + 1
    · rw [z_up_at h1, hf _ (by omega), h1, ← zpw_s i hi]
      rfl
    · rw [z_up_off h1]
      exact hf j (by omega)
  · rintro L W ⟨f, hf, rfl, rfl⟩
    refine k_iload_n hC (pc := 18) dC_makeBox_18 rfl rfl ?_
    refine k_sipush hC (pc := 19) dC_makeBox_19 zs_256 ?_
    refine k_icmp_ge hC (pc := 22) (by omega) (by omega) (tgt := 42) dC_makeBox_22 rfl (fun h => ?_) (fun h => by exfalso; omega)
    refine k_iconst hC (pc := 42) dC_makeBox_42 zi_0 ?_
    refine k_istore_n hC (L' := [(2, _), (1, _), (0, _)]) (pc := 43) dC_makeBox_43 rfl (by decide) rfl ?_
    refine k_loop 255 (fun i L W => ∃ h, (∀ t, t < i → h (zpw t) = zS (zpw t)) ∧ L = [(2, .int (nI i)), (1, .ref q1), (0, .ref q0)] ∧ W = ws ++ [k_arr g q0 256 h, k_arr g q1 256 f]) ?_ ?_ _ _ ⟨_, fun t h => absurd h (Nat.not_lt_zero _), rfl, rfl⟩
    · rintro i L W hi ⟨h, hh, rfl, rfl⟩ ki
      refine k_iload_n hC (pc := 44) dC_makeBox_44 rfl rfl ?_
      refine k_sipush hC (pc := 45) dC_makeBox_45 zs_255 ?_
      refine k_icmp_ge hC (pc := 48) (by omega) (by omega) (tgt := 72) dC_makeBox_48 rfl (fun h => by exfalso; omega) (fun h => ?_)
      refine k_aload_n hC (pc := 51) dC_makeBox_51 rfl rfl ?_
      refine k_aload_n hC (pc := 52) dC_makeBox_52 rfl rfl ?_
      refine k_iload_n hC (pc := 53) dC_makeBox_53 rfl rfl ?_
      refine k_iaload hC (ws.length + 1) (ka_get 1) (by decide) (by omega) (pc := 54) dC_makeBox_54 ?_
      refine k_aload_n hC (pc := 55) dC_makeBox_55 rfl rfl ?_
      refine k_sipush hC (pc := 56) dC_makeBox_56 zs_255 ?_
      refine k_iload_n hC (pc := 59) dC_makeBox_59 rfl rfl ?_
      refine k_isub hC (pc := 60) dC_makeBox_60 (by omega) ?_
      refine k_iaload hC (ws.length + 1) (ka_get 1) (by decide) (by omega) (pc := 61) dC_makeBox_61 ?_
      refine k_callS hC hF hA (pc := 62) (kC_spread (by rw [hf _ (by omega)]; exact zpw_lt _ (by omega))) (by decide) zc_C_32 rfl rfl (Nat.le_of_ble_eq_true rfl) ⟨(Nat.le_of_ble_eq_true rfl), (Nat.le_of_ble_eq_true rfl)⟩ dC_makeBox_62 (fun r W9 hE => ?_)
      obtain ⟨rfl, rfl⟩ := hE
      refine k_r1 hC ?_
      refine k_iastore hC (ws.length + 0) (ka_get 0) (by decide) (by rw [hf _ (by omega)]; exact zpw_lt _ (by omega)) (ka_set 0) (pc := 65) dC_makeBox_65 ?_
      refine k_iinc hC (L' := [(2, _), (1, _), (0, _)]) (pc := 66) dC_makeBox_66 rfl zi_1 (by decide) rfl ?_
      refine k_goto hC (pc := 69) (tgt := 44) dC_makeBox_69 rfl ?_
      refine ki _ _ ⟨_, ?_, rfl, rfl⟩
      intro t ht
      by_cases h1 : zpw t = f i
      · rw [z_up_at h1, hf _ (by omega), h1, hf _ (by omega)]
        exact zpw_sp i hi
      · rw [z_up_off h1]
        refine hh t ?_
        rcases Nat.lt_or_ge t i with h2 | h2
        · exact h2
        · exfalso
          have : t = i := by omega
          subst this
          exact h1 (hf _ (by omega)).symm
    · rintro L W ⟨h, hh, rfl, rfl⟩
      refine k_iload_n hC (pc := 44) dC_makeBox_44 rfl rfl ?_
      refine k_sipush hC (pc := 45) dC_makeBox_45 zs_255 ?_
      refine k_icmp_ge hC (pc := 48) (by omega) (by omega) (tgt := 72) dC_makeBox_48 rfl (fun h => ?_) (fun h => by exfalso; omega)
      refine k_aload_n hC (pc := 72) dC_makeBox_72 rfl rfl ?_
      refine k_iconst hC (pc := 73) dC_makeBox_73 zi_0 ?_
      refine k_iconst hC (pc := 74) dC_makeBox_74 zi_0 ?_
      refine k_callS hC hF hA (pc := 75) (kC_spread (a := 0) (by decide)) (by decide) zc_C_32 rfl rfl (Nat.le_of_ble_eq_true rfl) ⟨(Nat.le_of_ble_eq_true rfl), (Nat.le_of_ble_eq_true rfl)⟩ dC_makeBox_75 (fun r W9 hE => ?_)
      obtain ⟨rfl, rfl⟩ := hE
      refine k_r1 hC ?_
      refine k_iastore hC (ws.length + 0) (ka_get 0) (by decide) (by decide) (ka_set 0) (pc := 78) dC_makeBox_78 ?_
      refine k_aload_n hC (pc := 79) dC_makeBox_79 rfl rfl ?_
      refine k_ret hB (pc := 80) (r := some (.ref q0)) dC_makeBox_80 ⟨q0, q1, _, f, ?_, rfl, rfl⟩ (Nat.le_of_ble_eq_true rfl) (Nat.le_of_ble_eq_true rfl)
      intro j hj
      by_cases h1 : j = 0
      · rw [z_up_at h1, h1]
        decide
      · rw [z_up_off h1]
        obtain ⟨h2, h3⟩ := zpw_lg j hj h1
        rw [← h3]
        exact hh _ h2
  · intro j hj
    have : j = 0 := by omega
    subst this
    rw [z_up_at rfl]
    rfl
theorem kR_init {i a : Nat} {n : Nat} (hi : ws[i]? = some (a, .inr (2, [.null, .int (nI 0)]))) (hn : n ≤ 64) : k_Met l g mR_init ⟨1, 1, 64, 32⟩ [.ref a, .int (nI n)] ws (fun r W => ∃ q, r = none ∧ W = kw ws i a 2 [.ref q, .int (nI 0)] [k_arr g q n (fun _ => 0)]) := by
  refine k_Met.of (L := [(0, _), (1, _)]) (by decide) (Nat.le_of_ble_eq_true rfl) (fun r W h => by obtain ⟨_, rfl, _⟩ := h; rfl) rfl ?_
  intro p e s m args below meth c F Q hB
  have hC := hB.1
  have hF := hB.2.1
  have hA := hB.2.2.2.1
  have hin : meth.name = "<init>" := hB.2.2.1
  have hlt := kw_lt hi
  refine k_ws hC (kw_start hi) ?_
  refine k_aload_n hC (pc := 0) dR_init_0 rfl rfl ?_
  refine k_objInit hC ⟨wl_R_1, wi_obj, wc_obj⟩ (by decide) (Nat.le_of_ble_eq_true rfl) (by decide) (pc := 1) dR_init_1 ?_
  refine k_aload_n hC (pc := 4) dR_init_4 rfl rfl ?_
  refine k_iload_n hC (pc := 5) dR_init_5 rfl rfl ?_
  refine kc_newI hC hF wa_int (by omega) (Nat.le_of_ble_eq_true rfl) (by show 0 + n ≤ 64; omega) (pc := 6) dR_init_6 (fun q => ?_)
  refine kc_putF hC hin hlt zf_R_7_2 ztR_ok znR rfl rfl rfl rfl (Nat.le_of_ble_eq_true rfl) (pc := 8) dR_init_8 ?_
  refine k_aload_n hC (pc := 11) dR_init_11 rfl rfl ?_
  refine k_iconst hC (pc := 12) dR_init_12 zi_0 ?_
  refine kc_put hC hlt zf_R_13_2 ztR_ok znR rfl rfl rfl (Nat.le_of_ble_eq_true rfl) (pc := 13) dR_init_13 ?_
  exact k_ret hB (pc := 16) (r := none) dR_init_16 ⟨q, rfl, rfl⟩ (Nat.le_of_ble_eq_true rfl) (by show 0 + n ≤ 64; omega)
theorem kC_init {i a : Nat}  (hi : ws[i]? = some (a, .inr (0, [.null, .null, .null, .null])))  : k_Met l g mC_init ⟨3, 5, 720, 140⟩ [.ref a] ws (fun r W => ∃ q0 q1 h f q2 q3 q4, (∀ j, j < 256 → h j = zS j) ∧ r = none ∧ W = kw ws i a 0 [.ref q0, .ref q2, .ref q3, .ref q4] [k_arr g q0 256 h, k_arr g q1 256 f, k_arr g q2 176 (fun _ => 0), k_arr g q3 16 (fun _ => 0), k_arr g q4 16 (fun _ => 0)]) := by
  refine k_Met.of (L := [(0, _)]) (by decide) (Nat.le_of_ble_eq_true rfl) (fun r W h => by obtain ⟨_, _, _, _, _, _, _, _, rfl, _⟩ := h; rfl) rfl ?_
  intro p e s m args below meth c F Q hB
  have hC := hB.1
  have hF := hB.2.1
  have hA := hB.2.2.2.1
  have hin : meth.name = "<init>" := hB.2.2.1
  have hlt := kw_lt hi
  refine k_ws hC (kw_start hi) ?_
  refine k_aload_n hC (pc := 0) dC_init_0 rfl rfl ?_
  refine k_objInit hC ⟨wl_C_3, wi_obj, wc_obj⟩ (by decide) (Nat.le_of_ble_eq_true rfl) (by decide) (pc := 1) dC_init_1 ?_
  refine k_aload_n hC (pc := 4) dC_init_4 rfl rfl ?_
  refine k_callS hC hF hA (pc := 5) kC_makeBox (by decide) zc_C_9 rfl rfl (Nat.le_of_ble_eq_true rfl) ⟨(Nat.le_of_ble_eq_true rfl), (Nat.le_of_ble_eq_true rfl)⟩ dC_init_5 (fun r W9 hE => ?_)
  obtain ⟨q0, q1, h, f, hh, rfl, rfl⟩ := hE
  refine k_r1 hC (k_ws hC kw_app ?_)
  refine kc_putF hC hin hlt zf_C_15_0 ztC_ok znC rfl rfl rfl rfl (Nat.le_of_ble_eq_true rfl) (pc := 8) dC_init_8 ?_
  refine k_aload_n hC (pc := 11) dC_init_11 rfl rfl ?_
  refine k_sipush hC (pc := 12) dC_init_12 zs_176 ?_
  refine kc_newI hC hF wa_int (by decide) (Nat.le_of_ble_eq_true rfl) (Nat.le_of_ble_eq_true rfl) (pc := 15) dC_init_15 (fun q2 => ?_)
  refine kc_putF hC hin hlt zf_C_19_0 ztC_ok znC rfl rfl rfl rfl (Nat.le_of_ble_eq_true rfl) (pc := 17) dC_init_17 ?_
  refine k_aload_n hC (pc := 20) dC_init_20 rfl rfl ?_
  refine k_bipush hC (pc := 21) dC_init_21 zb_16 ?_
  refine kc_newI hC hF wa_int (by decide) (Nat.le_of_ble_eq_true rfl) (Nat.le_of_ble_eq_true rfl) (pc := 23) dC_init_23 (fun q3 => ?_)
  refine kc_putF hC hin hlt zf_C_22_0 ztC_ok znC rfl rfl rfl rfl (Nat.le_of_ble_eq_true rfl) (pc := 25) dC_init_25 ?_
  refine k_aload_n hC (pc := 28) dC_init_28 rfl rfl ?_
  refine k_bipush hC (pc := 29) dC_init_29 zb_16 ?_
  refine kc_newI hC hF wa_int (by decide) (Nat.le_of_ble_eq_true rfl) (Nat.le_of_ble_eq_true rfl) (pc := 31) dC_init_31 (fun q4 => ?_)
  refine kc_putF hC hin hlt zf_C_25_0 ztC_ok znC rfl rfl rfl rfl (Nat.le_of_ble_eq_true rfl) (pc := 33) dC_init_33 ?_
  exact k_ret hB (pc := 36) (r := none) dC_init_36 ⟨q0, q1, h, f, q2, q3, q4, hh, rfl, rfl⟩ (Nat.le_of_ble_eq_true rfl) (Nat.le_of_ble_eq_true rfl)
theorem kH_init1 {i a : Nat}  (hi : ws[i]? = some (a, .inr (1, [.int (nI 0), .int (nI 0), .long (lN 0), .long (lN 0), .null, .long (lN 0), .long (lN 0), .long (lN 0), .long (lN 0)])))  : k_Met l g mH_init ⟨1, 1, 16, 32⟩ [.ref a, .int (nI 1)] ws (fun r W => ∃ q, r = none ∧ W = kw ws i a 1 [.int (nI 1), .int (nI 7), .long (lN 0), .long (lN 135), .ref q, .long (lN 0), .long (lN 0), .long (lN 0), .long (lN 0)] [k_arr g q 16 (fun _ => 0)]) := by
  refine k_Met.of (L := [(0, _), (1, _)]) (by decide) (Nat.le_of_ble_eq_true rfl) (fun r W h => by obtain ⟨_, rfl, _⟩ := h; rfl) rfl ?_
  intro p e s m args below meth c F Q hB
  have hC := hB.1
  have hF := hB.2.1
  have hA := hB.2.2.2.1
  have hin : meth.name = "<init>" := hB.2.2.1
  have hlt := kw_lt hi
  refine k_ws hC (kw_start hi) ?_
  refine k_aload_n hC (pc := 0) dH_init_0 rfl rfl ?_
  refine k_objInit hC ⟨wl_H_3, wi_obj, wc_obj⟩ (by decide) (Nat.le_of_ble_eq_true rfl) (by decide) (pc := 1) dH_init_1 ?_
  refine k_aload_n hC (pc := 4) dH_init_4 rfl rfl ?_
  refine k_iload_n hC (pc := 5) dH_init_5 rfl rfl ?_
  refine kc_putF hC hin hlt zf_H_9_1 ztH_ok znH rfl rfl (by decide +kernel) rfl (Nat.le_of_ble_eq_true rfl) (pc := 6) dH_init_6 ?_
  refine k_aload_n hC (pc := 9) dH_init_9 rfl rfl ?_
  refine k_iload_n hC (pc := 10) dH_init_10 rfl rfl ?_
  refine k_if_eq hC (pc := 11) (by omega) (tgt := 19) dH_init_11 rfl (fun h => by exfalso; omega) (fun h => ?_)
  refine k_bipush hC (pc := 14) dH_init_14 zb_7 ?_
  refine k_goto hC (pc := 16) (tgt := 20) dH_init_16 rfl ?_
  refine kc_putF hC hin hlt zf_H_15_1 ztH_ok znH rfl rfl rfl rfl (Nat.le_of_ble_eq_true rfl) (pc := 20) dH_init_20 ?_
  refine k_aload_n hC (pc := 23) dH_init_23 rfl rfl ?_
  refine k_iload_n hC (pc := 24) dH_init_24 rfl rfl ?_
  refine k_if_eq hC (pc := 25) (by omega) (tgt := 32) dH_init_25 rfl (fun h => by exfalso; omega) (fun h => ?_)
  refine k_lconst hC (pc := 28) dH_init_28 zl_0 ?_
  refine k_goto hC (pc := 29) (tgt := 35) dH_init_29 rfl ?_
  refine kc_putF hC hin hlt zf_H_21_1 ztH_ok znH rfl rfl rfl rfl (Nat.le_of_ble_eq_true rfl) (pc := 35) dH_init_35 ?_
  refine k_aload_n hC (pc := 38) dH_init_38 rfl rfl ?_
  refine k_iload_n hC (pc := 39) dH_init_39 rfl rfl ?_
  refine k_if_eq hC (pc := 40) (by omega) (tgt := 49) dH_init_40 rfl (fun h => by exfalso; omega) (fun h => ?_)
  refine k_ldc2 hC (pc := 43) dH_init_43 wk_H_25 zk_H_25 ?_
  refine k_goto hC (pc := 46) (tgt := 50) dH_init_46 rfl ?_
  refine kc_putF hC hin hlt zf_H_27_1 ztH_ok znH rfl rfl rfl rfl (Nat.le_of_ble_eq_true rfl) (pc := 50) dH_init_50 ?_
  refine k_aload_n hC (pc := 53) dH_init_53 rfl rfl ?_
  refine k_bipush hC (pc := 54) dH_init_54 zb_16 ?_
  refine kc_newI hC hF wa_int (by decide) (Nat.le_of_ble_eq_true rfl) (Nat.le_of_ble_eq_true rfl) (pc := 56) dH_init_56 (fun q => ?_)
  refine kc_putF hC hin hlt zf_H_30_1 ztH_ok znH rfl rfl rfl rfl (Nat.le_of_ble_eq_true rfl) (pc := 58) dH_init_58 ?_
  exact k_ret hB (pc := 61) (r := none) dH_init_61 ⟨q, rfl, rfl⟩ (Nat.le_of_ble_eq_true rfl) (Nat.le_of_ble_eq_true rfl)
theorem kH_init0 {i a : Nat}  (hi : ws[i]? = some (a, .inr (1, [.int (nI 0), .int (nI 0), .long (lN 0), .long (lN 0), .null, .long (lN 0), .long (lN 0), .long (lN 0), .long (lN 0)])))  : k_Met l g mH_init ⟨1, 1, 16, 32⟩ [.ref a, .int (nI 0)] ws (fun r W => ∃ q, r = none ∧ W = kw ws i a 1 [.int (nI 0), .int (nI 0), .long (lN 13979173243358019584), .long (lN 1), .ref q, .long (lN 0), .long (lN 0), .long (lN 0), .long (lN 0)] [k_arr g q 16 (fun _ => 0)]) := by
  refine k_Met.of (L := [(0, _), (1, _)]) (by decide) (Nat.le_of_ble_eq_true rfl) (fun r W h => by obtain ⟨_, rfl, _⟩ := h; rfl) rfl ?_
  intro p e s m args below meth c F Q hB
  have hC := hB.1
  have hF := hB.2.1
  have hA := hB.2.2.2.1
  have hin : meth.name = "<init>" := hB.2.2.1
  have hlt := kw_lt hi
  refine k_ws hC (kw_start hi) ?_
  refine k_aload_n hC (pc := 0) dH_init_0 rfl rfl ?_
  refine k_objInit hC ⟨wl_H_3, wi_obj, wc_obj⟩ (by decide) (Nat.le_of_ble_eq_true rfl) (by decide) (pc := 1) dH_init_1 ?_
  refine k_aload_n hC (pc := 4) dH_init_4 rfl rfl ?_
  refine k_iload_n hC (pc := 5) dH_init_5 rfl rfl ?_
  refine kc_putF hC hin hlt zf_H_9_1 ztH_ok znH rfl rfl (by decide +kernel) rfl (Nat.le_of_ble_eq_true rfl) (pc := 6) dH_init_6 ?_
  refine k_aload_n hC (pc := 9) dH_init_9 rfl rfl ?_
  refine k_iload_n hC (pc := 10) dH_init_10 rfl rfl ?_
  refine k_if_eq hC (pc := 11) (by omega) (tgt := 19) dH_init_11 rfl (fun h => ?_) (fun h => by exfalso; omega)
  refine k_iconst hC (pc := 19) dH_init_19 zi_0 ?_
  refine kc_putF hC hin hlt zf_H_15_1 ztH_ok znH rfl rfl rfl rfl (Nat.le_of_ble_eq_true rfl) (pc := 20) dH_init_20 ?_
  refine k_aload_n hC (pc := 23) dH_init_23 rfl rfl ?_
  refine k_iload_n hC (pc := 24) dH_init_24 rfl rfl ?_
  refine k_if_eq hC (pc := 25) (by omega) (tgt := 32) dH_init_25 rfl (fun h => ?_) (fun h => by exfalso; omega)
  refine k_ldc2 hC (pc := 32) dH_init_32 wk_H_19 zk_H_19 ?_
  refine kc_putF hC hin hlt zf_H_21_1 ztH_ok znH rfl rfl rfl rfl (Nat.le_of_ble_eq_true rfl) (pc := 35) dH_init_35 ?_
  refine k_aload_n hC (pc := 38) dH_init_38 rfl rfl ?_
  refine k_iload_n hC (pc := 39) dH_init_39 rfl rfl ?_
  refine k_if_eq hC (pc := 40) (by omega) (tgt := 49) dH_init_40 rfl (fun h => ?_) (fun h => by exfalso; omega)
  refine k_lconst hC (pc := 49) dH_init_49 zl_1 ?_
  refine kc_putF hC hin hlt zf_H_27_1 ztH_ok znH rfl rfl rfl rfl (Nat.le_of_ble_eq_true rfl) (pc := 50) dH_init_50 ?_
  refine k_aload_n hC (pc := 53) dH_init_53 rfl rfl ?_
  refine k_bipush hC (pc := 54) dH_init_54 zb_16 ?_
  refine kc_newI hC hF wa_int (by decide) (Nat.le_of_ble_eq_true rfl) (Nat.le_of_ble_eq_true rfl) (pc := 56) dH_init_56 (fun q => ?_)
  refine kc_putF hC hin hlt zf_H_30_1 ztH_ok znH rfl rfl rfl rfl (Nat.le_of_ble_eq_true rfl) (pc := 58) dH_init_58 ?_
  exact k_ret hB (pc := 61) (r := none) dH_init_61 ⟨q, rfl, rfl⟩ (Nat.le_of_ble_eq_true rfl) (Nat.le_of_ble_eq_true rfl)
theorem kW_init3 {i a : Nat} {qc qh : Nat} (hi : ws[i]? = some (a, .inr (3, [.null, .null, .null, .null, .null, .null, .null, .null])))  : k_Met l g mW_init ⟨1, 5, 80, 32⟩ [.ref a, .ref qc, .ref qh] ws (fun r W => ∃ q1 q2 q3 q4 q5, r = none ∧ W = kw ws i a 3 [.ref qc, .ref qh, .ref q1, .ref q2, .ref q3, .ref q4, .ref q5, .null] [k_arr g q1 16 (fun _ => 0), k_arr g q2 16 (fun _ => 0), k_arr g q3 16 (fun _ => 0), k_arr g q4 16 (fun _ => 0), k_arr g q5 16 (fun _ => 0)]) := by
  refine k_Met.of (L := [(0, _), (1, _), (2, _)]) (by decide) (Nat.le_of_ble_eq_true rfl) (fun r W h => by obtain ⟨_, _, _, _, _, rfl, _⟩ := h; rfl) rfl ?_
  intro p e s m args below meth c F Q hB
  have hC := hB.1
  have hF := hB.2.1
  have hA := hB.2.2.2.1
  have hin : meth.name = "<init>" := hB.2.2.1
  have hlt := kw_lt hi
  refine k_ws hC (kw_start hi) ?_
  refine k_aload_n hC (pc := 0) dW_init_0 rfl rfl ?_
  refine k_objInit hC ⟨wl_W_3, wi_obj, wc_obj⟩ (by decide) (Nat.le_of_ble_eq_true rfl) (by decide) (pc := 1) dW_init_1 ?_
  refine k_aload_n hC (pc := 4) dW_init_4 rfl rfl ?_
  refine k_aload_n hC (pc := 5) dW_init_5 rfl rfl ?_
  refine kc_putF hC hin hlt zf_W_9_3 ztO_ok znO rfl rfl rfl rfl (Nat.le_of_ble_eq_true rfl) (pc := 6) dW_init_6 ?_
  refine k_aload_n hC (pc := 9) dW_init_9 rfl rfl ?_
  refine k_aload_n hC (pc := 10) dW_init_10 rfl rfl ?_
  refine kc_putF hC hin hlt zf_W_15_3 ztO_ok znO rfl rfl rfl rfl (Nat.le_of_ble_eq_true rfl) (pc := 11) dW_init_11 ?_
  refine k_aload_n hC (pc := 14) dW_init_14 rfl rfl ?_
  refine k_bipush hC (pc := 15) dW_init_15 zb_16 ?_
  refine kc_newI hC hF wa_int (by decide) (Nat.le_of_ble_eq_true rfl) (Nat.le_of_ble_eq_true rfl) (pc := 17) dW_init_17 (fun q1 => ?_)
  refine kc_putF hC hin hlt zf_W_19_3 ztO_ok znO rfl rfl rfl rfl (Nat.le_of_ble_eq_true rfl) (pc := 19) dW_init_19 ?_
  refine k_aload_n hC (pc := 22) dW_init_22 rfl rfl ?_
  refine k_bipush hC (pc := 23) dW_init_23 zb_16 ?_
  refine kc_newI hC hF wa_int (by decide) (Nat.le_of_ble_eq_true rfl) (Nat.le_of_ble_eq_true rfl) (pc := 25) dW_init_25 (fun q2 => ?_)
  refine kc_putF hC hin hlt zf_W_23_3 ztO_ok znO rfl rfl rfl rfl (Nat.le_of_ble_eq_true rfl) (pc := 27) dW_init_27 ?_
  refine k_aload_n hC (pc := 30) dW_init_30 rfl rfl ?_
  refine k_bipush hC (pc := 31) dW_init_31 zb_16 ?_
  refine kc_newI hC hF wa_int (by decide) (Nat.le_of_ble_eq_true rfl) (Nat.le_of_ble_eq_true rfl) (pc := 33) dW_init_33 (fun q3 => ?_)
  refine kc_putF hC hin hlt zf_W_26_3 ztO_ok znO rfl rfl rfl rfl (Nat.le_of_ble_eq_true rfl) (pc := 35) dW_init_35 ?_
  refine k_aload_n hC (pc := 38) dW_init_38 rfl rfl ?_
  refine k_bipush hC (pc := 39) dW_init_39 zb_16 ?_
  refine kc_newI hC hF wa_int (by decide) (Nat.le_of_ble_eq_true rfl) (Nat.le_of_ble_eq_true rfl) (pc := 41) dW_init_41 (fun q4 => ?_)
  refine kc_putF hC hin hlt zf_W_29_3 ztO_ok znO rfl rfl rfl rfl (Nat.le_of_ble_eq_true rfl) (pc := 43) dW_init_43 ?_
  refine k_aload_n hC (pc := 46) dW_init_46 rfl rfl ?_
  refine k_bipush hC (pc := 47) dW_init_47 zb_16 ?_
  refine kc_newI hC hF wa_int (by decide) (Nat.le_of_ble_eq_true rfl) (Nat.le_of_ble_eq_true rfl) (pc := 49) dW_init_49 (fun q5 => ?_)
  refine kc_putF hC hin hlt zf_W_32_3 ztO_ok znO rfl rfl rfl rfl (Nat.le_of_ble_eq_true rfl) (pc := 51) dW_init_51 ?_
  exact k_ret hB (pc := 54) (r := none) dW_init_54 ⟨q1, q2, q3, q4, q5, rfl, rfl⟩ (Nat.le_of_ble_eq_true rfl) (Nat.le_of_ble_eq_true rfl)
theorem kW_init4 {i a : Nat} {qc qh : Nat} (hi : ws[i]? = some (a, .inr (4, [.null, .null, .null, .null, .null, .null, .null, .null])))  : k_Met l g mW_init ⟨1, 5, 80, 32⟩ [.ref a, .ref qc, .ref qh] ws (fun r W => ∃ q1 q2 q3 q4 q5, r = none ∧ W = kw ws i a 4 [.ref qc, .ref qh, .ref q1, .ref q2, .ref q3, .ref q4, .ref q5, .null] [k_arr g q1 16 (fun _ => 0), k_arr g q2 16 (fun _ => 0), k_arr g q3 16 (fun _ => 0), k_arr g q4 16 (fun _ => 0), k_arr g q5 16 (fun _ => 0)]) := by
  refine k_Met.of (L := [(0, _), (1, _), (2, _)]) (by decide) (Nat.le_of_ble_eq_true rfl) (fun r W h => by obtain ⟨_, _, _, _, _, rfl, _⟩ := h; rfl) rfl ?_
  intro p e s m args below meth c F Q hB
  have hC := hB.1
  have hF := hB.2.1
  have hA := hB.2.2.2.1
  have hin : meth.name = "<init>" := hB.2.2.1
  have hlt := kw_lt hi
  refine k_ws hC (kw_start hi) ?_
  refine k_aload_n hC (pc := 0) dW_init_0 rfl rfl ?_
  refine k_objInit hC ⟨wl_W_3, wi_obj, wc_obj⟩ (by decide) (Nat.le_of_ble_eq_true rfl) (by decide) (pc := 1) dW_init_1 ?_
  refine k_aload_n hC (pc := 4) dW_init_4 rfl rfl ?_
  refine k_aload_n hC (pc := 5) dW_init_5 rfl rfl ?_
  refine kc_putF hC hin hlt zf_W_9_4 ztZ_ok znZ rfl rfl rfl rfl (Nat.le_of_ble_eq_true rfl) (pc := 6) dW_init_6 ?_
  refine k_aload_n hC (pc := 9) dW_init_9 rfl rfl ?_
  refine k_aload_n hC (pc := 10) dW_init_10 rfl rfl ?_
  refine kc_putF hC hin hlt zf_W_15_4 ztZ_ok znZ rfl rfl rfl rfl (Nat.le_of_ble_eq_true rfl) (pc := 11) dW_init_11 ?_
  refine k_aload_n hC (pc := 14) dW_init_14 rfl rfl ?_
  refine k_bipush hC (pc := 15) dW_init_15 zb_16 ?_
  refine kc_newI hC hF wa_int (by decide) (Nat.le_of_ble_eq_true rfl) (Nat.le_of_ble_eq_true rfl) (pc := 17) dW_init_17 (fun q1 => ?_)
  refine kc_putF hC hin hlt zf_W_19_4 ztZ_ok znZ rfl rfl rfl rfl (Nat.le_of_ble_eq_true rfl) (pc := 19) dW_init_19 ?_
  refine k_aload_n hC (pc := 22) dW_init_22 rfl rfl ?_
  refine k_bipush hC (pc := 23) dW_init_23 zb_16 ?_
  refine kc_newI hC hF wa_int (by decide) (Nat.le_of_ble_eq_true rfl) (Nat.le_of_ble_eq_true rfl) (pc := 25) dW_init_25 (fun q2 => ?_)
  refine kc_putF hC hin hlt zf_W_23_4 ztZ_ok znZ rfl rfl rfl rfl (Nat.le_of_ble_eq_true rfl) (pc := 27) dW_init_27 ?_
  refine k_aload_n hC (pc := 30) dW_init_30 rfl rfl ?_
  refine k_bipush hC (pc := 31) dW_init_31 zb_16 ?_
  refine kc_newI hC hF wa_int (by decide) (Nat.le_of_ble_eq_true rfl) (Nat.le_of_ble_eq_true rfl) (pc := 33) dW_init_33 (fun q3 => ?_)
  refine kc_putF hC hin hlt zf_W_26_4 ztZ_ok znZ rfl rfl rfl rfl (Nat.le_of_ble_eq_true rfl) (pc := 35) dW_init_35 ?_
  refine k_aload_n hC (pc := 38) dW_init_38 rfl rfl ?_
  refine k_bipush hC (pc := 39) dW_init_39 zb_16 ?_
  refine kc_newI hC hF wa_int (by decide) (Nat.le_of_ble_eq_true rfl) (Nat.le_of_ble_eq_true rfl) (pc := 41) dW_init_41 (fun q4 => ?_)
  refine kc_putF hC hin hlt zf_W_29_4 ztZ_ok znZ rfl rfl rfl rfl (Nat.le_of_ble_eq_true rfl) (pc := 43) dW_init_43 ?_
  refine k_aload_n hC (pc := 46) dW_init_46 rfl rfl ?_
  refine k_bipush hC (pc := 47) dW_init_47 zb_16 ?_
  refine kc_newI hC hF wa_int (by decide) (Nat.le_of_ble_eq_true rfl) (Nat.le_of_ble_eq_true rfl) (pc := 49) dW_init_49 (fun q5 => ?_)
  refine kc_putF hC hin hlt zf_W_32_4 ztZ_ok znZ rfl rfl rfl rfl (Nat.le_of_ble_eq_true rfl) (pc := 51) dW_init_51 ?_
  exact k_ret hB (pc := 54) (r := none) dW_init_54 ⟨q1, q2, q3, q4, q5, rfl, rfl⟩ (Nat.le_of_ble_eq_true rfl) (Nat.le_of_ble_eq_true rfl)
theorem kO_init {i a : Nat} {qc qh : Nat} (hi : ws[i]? = some (a, .inr (3, [.null, .null, .null, .null, .null, .null, .null, .null])))  : k_Met l g mO_init ⟨2, 6, 96, 80⟩ [.ref a, .ref qc, .ref qh] ws (fun r W => ∃ q1 q2 q3 q4 q5 q6, r = none ∧ W = kw ws i a 3 [.ref qc, .ref qh, .ref q1, .ref q2, .ref q3, .ref q4, .ref q5, .ref q6] [k_arr g q1 16 (fun _ => 0), k_arr g q2 16 (fun _ => 0), k_arr g q3 16 (fun _ => 0), k_arr g q4 16 (fun _ => 0), k_arr g q5 16 (fun _ => 0), k_arr g q6 16 (fun _ => 0)]) := by
  refine k_Met.of (L := [(0, _), (1, _), (2, _)]) (by decide) (Nat.le_of_ble_eq_true rfl) (fun r W h => by obtain ⟨_, _, _, _, _, _, rfl, _⟩ := h; rfl) rfl ?_
  intro p e s m args below meth c F Q hB
  have hC := hB.1
  have hF := hB.2.1
  have hA := hB.2.2.2.1
  have hin : meth.name = "<init>" := hB.2.2.1
  have hlt := kw_lt hi
  refine k_aload_n hC (pc := 0) dO_init_0 rfl rfl ?_
  refine k_aload_n hC (pc := 1) dO_init_1 rfl rfl ?_
  refine k_aload_n hC (pc := 2) dO_init_2 rfl rfl ?_
  refine k_callI hC hF hA (pc := 3) (kW_init3 hi) (by decide) zc_O_3 rfl rfl (Nat.le_of_ble_eq_true rfl) ⟨(Nat.le_of_ble_eq_true rfl), (Nat.le_of_ble_eq_true rfl)⟩ dO_init_3 (fun r W9 hE => ?_)
  obtain ⟨q1, q2, q3, q4, q5, rfl, rfl⟩ := hE
  refine k_r0 hC ?_
  refine k_aload_n hC (pc := 6) dO_init_6 rfl rfl ?_
  refine k_bipush hC (pc := 7) dO_init_7 zb_16 ?_
  refine kc_newI hC hF wa_int (by decide) (Nat.le_of_ble_eq_true rfl) (Nat.le_of_ble_eq_true rfl) (pc := 9) dO_init_9 (fun q6 => ?_)
  refine kc_putF hC hin hlt zf_O_9_3 ztO_ok znO rfl rfl rfl rfl (Nat.le_of_ble_eq_true rfl) (pc := 11) dO_init_11 ?_
  exact k_ret hB (pc := 14) (r := none) dO_init_14 ⟨q1, q2, q3, q4, q5, q6, rfl, rfl⟩ (Nat.le_of_ble_eq_true rfl) (Nat.le_of_ble_eq_true rfl)
theorem kZ_init {i a : Nat} {qc qh : Nat} (hi : ws[i]? = some (a, .inr (4, [.null, .null, .null, .null, .null, .null, .null, .null])))  : k_Met l g mZ_init ⟨2, 6, 96, 80⟩ [.ref a, .ref qc, .ref qh] ws (fun r W => ∃ q1 q2 q3 q4 q5 q6, r = none ∧ W = kw ws i a 4 [.ref qc, .ref qh, .ref q1, .ref q2, .ref q3, .ref q4, .ref q5, .ref q6] [k_arr g q1 16 (fun _ => 0), k_arr g q2 16 (fun _ => 0), k_arr g q3 16 (fun _ => 0), k_arr g q4 16 (fun _ => 0), k_arr g q5 16 (fun _ => 0), k_arr g q6 16 (fun _ => 0)]) := by
  refine k_Met.of (L := [(0, _), (1, _), (2, _)]) (by decide) (Nat.le_of_ble_eq_true rfl) (fun r W h => by obtain ⟨_, _, _, _, _, _, rfl, _⟩ := h; rfl) rfl ?_
  intro p e s m args below meth c F Q hB
  have hC := hB.1
  have hF := hB.2.1
  have hA := hB.2.2.2.1
  have hin : meth.name = "<init>" := hB.2.2.1
  have hlt := kw_lt hi
  refine k_aload_n hC (pc := 0) dZ_init_0 rfl rfl ?_
  refine k_aload_n hC (pc := 1) dZ_init_1 rfl rfl ?_
  refine k_aload_n hC (pc := 2) dZ_init_2 rfl rfl ?_
  refine k_callI hC hF hA (pc := 3) (kW_init4 hi) (by decide) zc_Z_3 rfl rfl (Nat.le_of_ble_eq_true rfl) ⟨(Nat.le_of_ble_eq_true rfl), (Nat.le_of_ble_eq_true rfl)⟩ dZ_init_3 (fun r W9 hE => ?_)
  obtain ⟨q1, q2, q3, q4, q5, rfl, rfl⟩ := hE
  refine k_r0 hC ?_
  refine k_aload_n hC (pc := 6) dZ_init_6 rfl rfl ?_
  refine k_bipush hC (pc := 7) dZ_init_7 zb_16 ?_
  refine kc_newI hC hF wa_int (by decide) (Nat.le_of_ble_eq_true rfl) (Nat.le_of_ble_eq_true rfl) (pc := 9) dZ_init_9 (fun q6 => ?_)
  refine kc_putF hC hin hlt zf_Z_9_4 ztZ_ok znZ rfl rfl rfl rfl (Nat.le_of_ble_eq_true rfl) (pc := 11) dZ_init_11 ?_
  exact k_ret hB (pc := 14) (r := none) dZ_init_14 ⟨q1, q2, q3, q4, q5, q6, rfl, rfl⟩ (Nat.le_of_ble_eq_true rfl) (Nat.le_of_ble_eq_true rfl)
end
