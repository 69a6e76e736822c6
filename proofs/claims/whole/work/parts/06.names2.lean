theorem zi_m1 : Int32.ofInt (-1) = nI 4294967295 := by decide +kernel
theorem zi_0 : Int32.ofInt (0) = nI 0 := by decide +kernel
theorem zi_1 : Int32.ofInt (1) = nI 1 := by decide +kernel
theorem zi_2 : Int32.ofInt (2) = nI 2 := by decide +kernel
theorem zi_3 : Int32.ofInt (3) = nI 3 := by decide +kernel
theorem zi_4 : Int32.ofInt (4) = nI 4 := by decide +kernel
theorem zi_5 : Int32.ofInt (5) = nI 5 := by decide +kernel
theorem zi_16 : Int32.ofInt (16) = nI 16 := by decide +kernel
theorem zb_7 : (Int8.ofInt (7)).toInt32 = nI 7 := by decide +kernel
theorem zb_8 : (Int8.ofInt (8)).toInt32 = nI 8 := by decide +kernel
theorem zb_10 : (Int8.ofInt (10)).toInt32 = nI 10 := by decide +kernel
theorem zb_12 : (Int8.ofInt (12)).toInt32 = nI 12 := by decide +kernel
theorem zb_15 : (Int8.ofInt (15)).toInt32 = nI 15 := by decide +kernel
theorem zb_16 : (Int8.ofInt (16)).toInt32 = nI 16 := by decide +kernel
theorem zb_24 : (Int8.ofInt (24)).toInt32 = nI 24 := by decide +kernel
theorem zb_32 : (Int8.ofInt (32)).toInt32 = nI 32 := by decide +kernel
theorem zb_44 : (Int8.ofInt (44)).toInt32 = nI 44 := by decide +kernel
theorem zb_48 : (Int8.ofInt (48)).toInt32 = nI 48 := by decide +kernel
theorem zb_60 : (Int8.ofInt (60)).toInt32 = nI 60 := by decide +kernel
theorem zb_63 : (Int8.ofInt (63)).toInt32 = nI 63 := by decide +kernel
theorem zb_64 : (Int8.ofInt (64)).toInt32 = nI 64 := by decide +kernel
theorem zb_99 : (Int8.ofInt (99)).toInt32 = nI 99 := by decide +kernel
theorem zb_114 : (Int8.ofInt (114)).toInt32 = nI 114 := by decide +kernel
theorem zb_121 : (Int8.ofInt (121)).toInt32 = nI 121 := by decide +kernel
theorem zb_124 : (Int8.ofInt (124)).toInt32 = nI 124 := by decide +kernel
theorem zb_126 : (Int8.ofInt (126)).toInt32 = nI 126 := by decide +kernel
theorem zb_127 : (Int8.ofInt (127)).toInt32 = nI 127 := by decide +kernel
theorem zs_128 : (Int16.ofInt (128)).toInt32 = nI 128 := by decide +kernel
theorem zs_176 : (Int16.ofInt (176)).toInt32 = nI 176 := by decide +kernel
theorem zs_192 : (Int16.ofInt (192)).toInt32 = nI 192 := by decide +kernel
theorem zs_255 : (Int16.ofInt (255)).toInt32 = nI 255 := by decide +kernel
theorem zs_256 : (Int16.ofInt (256)).toInt32 = nI 256 := by decide +kernel
theorem zs_272 : (Int16.ofInt (272)).toInt32 = nI 272 := by decide +kernel
theorem zs_283 : (Int16.ofInt (283)).toInt32 = nI 283 := by decide +kernel
theorem zs_320 : (Int16.ofInt (320)).toInt32 = nI 320 := by decide +kernel
theorem zl_0 : Int64.ofNat ((0 : Fin 2) : Nat) = lN 0 := by decide +kernel
theorem zl_1 : Int64.ofNat ((1 : Fin 2) : Nat) = lN 1 := by decide +kernel
theorem zk_H_19 : (-4467570830351532032 : Int64) = lN 13979173243358019584 := by decide +kernel
theorem zk_H_25 : (135 : Int64) = lN 135 := by decide +kernel
theorem zk_H_53 : (-7925209444265230336 : Int64) = lN 10521534629444321280 := by decide +kernel
theorem zk_H_58 : (8 : Int64) = lN 8 := by decide +kernel
theorem zk_M_103 : (255 : Int64) = lN 255 := by decide +kernel
theorem zk_L_52 : (4294967295 : Int64) = lN 4294967295 := by decide +kernel
theorem zo_0 : z_ob 0 5 [(2, 1), (2, 10), (2, 12), (2, 14), (2, 19), (2, 24)] := ⟨by decide, rfl⟩
theorem zr_1 : z_ra 1 2 [(2, 2), (2, 4), (2, 6), (2, 8)] := ⟨by decide, rfl, by decide⟩
theorem zo_2 : z_ob 2 2 [(2, 3), (0, 0)] := ⟨by decide, rfl⟩
theorem za_3 : z_ia 3 16 := ⟨by decide, rfl, by decide⟩
theorem zo_4 : z_ob 4 2 [(2, 5), (0, 0)] := ⟨by decide, rfl⟩
theorem za_5 : z_ia 5 24 := ⟨by decide, rfl, by decide⟩
theorem zo_6 : z_ob 6 2 [(2, 7), (0, 0)] := ⟨by decide, rfl⟩
theorem za_7 : z_ia 7 32 := ⟨by decide, rfl, by decide⟩
theorem zo_8 : z_ob 8 2 [(2, 9), (0, 0)] := ⟨by decide, rfl⟩
theorem za_9 : z_ia 9 64 := ⟨by decide, rfl, by decide⟩
theorem zo_10 : z_ob 10 2 [(2, 11), (0, 0)] := ⟨by decide, rfl⟩
theorem za_11 : z_ia 11 64 := ⟨by decide, rfl, by decide⟩
theorem zo_12 : z_ob 12 2 [(2, 13), (0, 0)] := ⟨by decide, rfl⟩
theorem za_13 : z_ia 13 64 := ⟨by decide, rfl, by decide⟩
theorem zo_14 : z_ob 14 0 [(2, 15), (2, 16), (2, 17), (2, 18)] := ⟨by decide, rfl⟩
theorem za_15 : z_ia 15 256 := ⟨by decide, rfl, by decide⟩
theorem za_16 : z_ia 16 176 := ⟨by decide, rfl, by decide⟩
theorem za_17 : z_ia 17 16 := ⟨by decide, rfl, by decide⟩
theorem za_18 : z_ia 18 16 := ⟨by decide, rfl, by decide⟩
theorem zr_19 : z_ra 19 3 [(2, 20), (2, 22)] := ⟨by decide, rfl, by decide⟩
theorem zo_20 : z_ob 20 1 [(0, 0), (0, 0), (1, 0), (1, 0), (2, 21), (1, 0), (1, 0), (1, 0), (1, 0)] := ⟨by decide, rfl⟩
theorem za_21 : z_ia 21 16 := ⟨by decide, rfl, by decide⟩
theorem zo_22 : z_ob 22 1 [(0, 0), (0, 0), (1, 0), (1, 0), (2, 23), (1, 0), (1, 0), (1, 0), (1, 0)] := ⟨by decide, rfl⟩
theorem za_23 : z_ia 23 16 := ⟨by decide, rfl, by decide⟩
theorem zr_24 : z_ra 24 4 [(2, 25), (2, 32)] := ⟨by decide, rfl, by decide⟩
theorem zo_25 : z_ob 25 4 [(2, 14), (2, 20), (2, 26), (2, 27), (2, 28), (2, 29), (2, 30), (2, 31)] := ⟨by decide, rfl⟩
theorem za_26 : z_ia 26 16 := ⟨by decide, rfl, by decide⟩
theorem za_27 : z_ia 27 16 := ⟨by decide, rfl, by decide⟩
theorem za_28 : z_ia 28 16 := ⟨by decide, rfl, by decide⟩
theorem za_29 : z_ia 29 16 := ⟨by decide, rfl, by decide⟩
theorem za_30 : z_ia 30 16 := ⟨by decide, rfl, by decide⟩
theorem za_31 : z_ia 31 16 := ⟨by decide, rfl, by decide⟩
theorem zo_32 : z_ob 32 3 [(2, 14), (2, 22), (2, 33), (2, 34), (2, 35), (2, 36), (2, 37), (2, 38)] := ⟨by decide, rfl⟩
theorem za_33 : z_ia 33 16 := ⟨by decide, rfl, by decide⟩
theorem za_34 : z_ia 34 16 := ⟨by decide, rfl, by decide⟩
theorem za_35 : z_ia 35 16 := ⟨by decide, rfl, by decide⟩
theorem za_36 : z_ia 36 16 := ⟨by decide, rfl, by decide⟩
theorem za_37 : z_ia 37 16 := ⟨by decide, rfl, by decide⟩
theorem za_38 : z_ia 38 16 := ⟨by decide, rfl, by decide⟩
theorem zo_39 : z_ob 39 6 [(0, 0), (2, 40), (2, 41), (0, 0), (2, 42), (2, 43), (2, 44), (2, 45), (2, 46), (2, 47), (2, 48), (2, 49), (2, 50), (2, 51), (2, 52), (2, 53)] := ⟨by decide, rfl⟩
theorem za_40 : z_ia 40 320 := ⟨by decide, rfl, by decide⟩
theorem za_41 : z_ia 41 4 := ⟨by decide, rfl, by decide⟩
theorem za_42 : z_ia 42 64 := ⟨by decide, rfl, by decide⟩
theorem za_43 : z_ia 43 176 := ⟨by decide, rfl, by decide⟩
theorem za_44 : z_ia 44 16 := ⟨by decide, rfl, by decide⟩
theorem za_45 : z_ia 45 16 := ⟨by decide, rfl, by decide⟩
theorem za_46 : z_ia 46 256 := ⟨by decide, rfl, by decide⟩
theorem za_47 : z_ia 47 16 := ⟨by decide, rfl, by decide⟩
theorem za_48 : z_ia 48 16 := ⟨by decide, rfl, by decide⟩
theorem za_49 : z_ia 49 128 := ⟨by decide, rfl, by decide⟩
theorem za_50 : z_ia 50 128 := ⟨by decide, rfl, by decide⟩
theorem za_51 : z_ia 51 256 := ⟨by decide, rfl, by decide⟩
theorem za_52 : z_ia 52 16 := ⟨by decide, rfl, by decide⟩
theorem za_53 : z_ia 53 16 := ⟨by decide, rfl, by decide⟩
theorem zf_S_11_5 : z_fw "TwoSeals" 11 5 0 "TwoSeals" zTS 6 "TwoSeals" := ⟨rfl, by decide, zuS, z_in1 (i := 198) rfl (by decide +kernel), Or.inl rfl⟩
theorem zf_S_18_5 : z_fw "TwoSeals" 18 5 1 "TwoSeals" zTS 6 "TwoSeals" := ⟨rfl, by decide, zuS, z_in1 (i := 199) rfl (by decide +kernel), Or.inl rfl⟩
theorem zf_S_22_5 : z_fw "TwoSeals" 22 5 2 "TwoSeals" zTS 6 "TwoSeals" := ⟨rfl, by decide, zuS, z_in1 (i := 200) rfl (by decide +kernel), Or.inl rfl⟩
theorem zf_S_28_5 : z_fw "TwoSeals" 28 5 3 "TwoSeals" zTS 6 "TwoSeals" := ⟨rfl, by decide, zuS, z_in1 (i := 201) rfl (by decide +kernel), Or.inl rfl⟩
theorem zf_S_34_5 : z_fw "TwoSeals" 34 5 4 "TwoSeals" zTS 6 "TwoSeals" := ⟨rfl, by decide, zuS, z_in1 (i := 202) rfl (by decide +kernel), Or.inl rfl⟩
theorem zf_S_43_5 : z_fw "TwoSeals" 43 5 5 "TwoSeals" zTS 6 "TwoSeals" := ⟨rfl, by decide, zuS, z_in1 (i := 203) rfl (by decide +kernel), Or.inl rfl⟩
theorem zc_S_55 : z_cwS "TwoSeals" 55 mS_requireRow 1 := ⟨wcmS_requireRow, wn_S, wl_S_55, ws_S_requireRow, by decide, by decide, by decide +kernel⟩
theorem zf_S_65_2 : z_fw "TwoSeals" 65 2 1 "TwoSeals$Row" zTR 2 "TwoSeals$Row" := ⟨rfl, by decide, zuR, z_in1 (i := 38) rfl (by decide +kernel), Or.inl rfl⟩
theorem zc_S_69 : z_cwV "TwoSeals" 69 mR_hasRoomFor 1 := ⟨wcmR_hasRoomFor, wn_R, wl_S_69, wi_R_hasRoomFor, wv_R_R_hasRoomFor, by decide, by decide, by decide +kernel⟩
theorem zc_S_78 : z_cwV "TwoSeals" 78 mR_append 1 := ⟨wcmR_append, wn_R, wl_S_78, wi_R_append, wv_R_R_append, by decide, by decide, by decide +kernel⟩
theorem zp_S_65_2 : z_pw "TwoSeals" 65 2 1 "TwoSeals$Row" zTR 2 "TwoSeals$Row" ztR .int := ⟨zf_S_65_2, ztR_ok, znR, rfl, by decide +kernel⟩
theorem zc_S_83 : z_cwV "TwoSeals" 83 mR_has 1 := ⟨wcmR_has, wn_R, wl_S_83, wi_R_has, wv_R_R_has, by decide, by decide, by decide +kernel⟩
theorem zf_S_91_2 : z_fw "TwoSeals" 91 2 0 "TwoSeals$Row" zTR 2 "TwoSeals$Row" := ⟨rfl, by decide, zuR, z_in1 (i := 35) rfl (by decide +kernel), Or.inl rfl⟩
theorem zc_S_97 : z_cwV "TwoSeals" 97 mR_become 1 := ⟨wcmR_become, wn_R, wl_S_97, wi_R_become, wv_R_R_become, by decide, by decide, by decide +kernel⟩
theorem zc_S_103 : z_cwV "TwoSeals" 103 mC_useKey 1 := ⟨wcmC_useKey, wn_C, wl_S_103, wi_C_useKey, wv_C_C_useKey, by decide, by decide, by decide +kernel⟩
theorem zc_S_107 : z_cwV "TwoSeals" 107 mC_encipher 2 := ⟨wcmC_encipher, wn_C, wl_S_107, wi_C_encipher, wv_C_C_encipher, by decide, by decide, by decide +kernel⟩
theorem zc_S_111 : z_cwS "TwoSeals" 111 mS_requireWay 1 := ⟨wcmS_requireWay, wn_S, wl_S_111, ws_S_requireWay, by decide, by decide, by decide +kernel⟩
theorem zc_S_116 : z_cwV "TwoSeals" 116 mH_begin 1 := ⟨wcmH_begin, wn_H, wl_S_116, wi_H_begin, wv_H_H_begin, by decide, by decide, by decide +kernel⟩
theorem zc_S_119 : z_cwV "TwoSeals" 119 mH_add 2 := ⟨wcmH_add, wn_H, wl_S_119, wi_H_add, wv_H_H_add, by decide, by decide, by decide +kernel⟩
theorem zc_S_123 : z_cwV "TwoSeals" 123 mH_write 1 := ⟨wcmH_write, wn_H, wl_S_123, wi_H_write, wv_H_H_write, by decide, by decide, by decide +kernel⟩
theorem zc_S_126 : z_cwV "TwoSeals" 126 mS_requireKeyAndNonce 1 := ⟨wcmS_requireKeyAndNonce, wn_S, wl_S_126, wi_S_requireKeyAndNonce, wv_S_S_requireKeyAndNonce, by decide, by decide, by decide +kernel⟩
theorem zc_S_131_O : z_cwU "TwoSeals" 131 "TwoSeals$WayOne" "TwoSeals$Way" ⟨"TwoSeals$Way", "useKey", "(LTwoSeals$Row;LTwoSeals$Row;)V"⟩ mO_useKey 2 := ⟨wcmO_useKey, wn_O, wl_S_131, wm_W_W_useKey, fun _ _ _ _ hk => va_Decl.abs (hk.2.1 _ (by decide)), wi_O_useKey, wv_O_W_useKey, by decide, by decide, by decide +kernel⟩
theorem zc_S_131_Z : z_cwU "TwoSeals" 131 "TwoSeals$WayZero" "TwoSeals$Way" ⟨"TwoSeals$Way", "useKey", "(LTwoSeals$Row;LTwoSeals$Row;)V"⟩ mZ_useKey 2 := ⟨wcmZ_useKey, wn_Z, wl_S_131, wm_W_W_useKey, fun _ _ _ _ hk => va_Decl.abs (hk.2.1 _ (by decide)), wi_Z_useKey, wv_Z_W_useKey, by decide, by decide, by decide +kernel⟩
theorem zc_S_134_O : z_cwU "TwoSeals" 134 "TwoSeals$WayOne" "TwoSeals$Way" ⟨"TwoSeals$Way", "sealText", "([LTwoSeals$Row;LTwoSeals$Row;)V"⟩ mO_sealText 2 := ⟨wcmO_sealText, wn_O, wl_S_134, wm_W_W_sealText, fun _ _ _ _ hk => va_Decl.abs (hk.2.1 _ (by decide)), wi_O_sealText, wv_O_W_sealText, by decide, by decide, by decide +kernel⟩
theorem zc_S_134_Z : z_cwU "TwoSeals" 134 "TwoSeals$WayZero" "TwoSeals$Way" ⟨"TwoSeals$Way", "sealText", "([LTwoSeals$Row;LTwoSeals$Row;)V"⟩ mZ_sealText 2 := ⟨wcmZ_sealText, wn_Z, wl_S_134, wm_W_W_sealText, fun _ _ _ _ hk => va_Decl.abs (hk.2.1 _ (by decide)), wi_Z_sealText, wv_Z_W_sealText, by decide, by decide, by decide +kernel⟩
theorem zc_S_140_O : z_cwU "TwoSeals" 140 "TwoSeals$WayOne" "TwoSeals$Way" ⟨"TwoSeals$Way", "openText", "([LTwoSeals$Row;LTwoSeals$Row;)Z"⟩ mO_openText 2 := ⟨wcmO_openText, wn_O, wl_S_140, wm_W_W_openText, fun _ _ _ _ hk => va_Decl.abs (hk.2.1 _ (by decide)), wi_O_openText, wv_O_W_openText, by decide, by decide, by decide +kernel⟩
theorem zc_S_140_Z : z_cwU "TwoSeals" 140 "TwoSeals$WayZero" "TwoSeals$Way" ⟨"TwoSeals$Way", "openText", "([LTwoSeals$Row;LTwoSeals$Row;)Z"⟩ mZ_openText 2 := ⟨wcmZ_openText, wn_Z, wl_S_140, wm_W_W_openText, fun _ _ _ _ hk => va_Decl.abs (hk.2.1 _ (by decide)), wi_Z_openText, wv_Z_W_openText, by decide, by decide, by decide +kernel⟩
theorem zc_S_155_O : z_cwU "TwoSeals" 155 "TwoSeals$WayOne" "TwoSeals$Way" ⟨"TwoSeals$Way", "takesNonceOf", "(I)Z"⟩ mO_takesNonceOf 1 := ⟨wcmO_takesNonceOf, wn_O, wl_S_155, wm_W_W_takesNonceOf, fun _ _ _ _ hk => va_Decl.abs (hk.2.1 _ (by decide)), wi_O_takesNonceOf, wv_O_W_takesNonceOf, by decide, by decide, by decide +kernel⟩
theorem zc_S_155_Z : z_cwU "TwoSeals" 155 "TwoSeals$WayZero" "TwoSeals$Way" ⟨"TwoSeals$Way", "takesNonceOf", "(I)Z"⟩ mZ_takesNonceOf 1 := ⟨wcmZ_takesNonceOf, wn_Z, wl_S_155, wm_W_W_takesNonceOf, fun _ _ _ _ hk => va_Decl.abs (hk.2.1 _ (by decide)), wi_Z_takesNonceOf, wv_Z_W_takesNonceOf, by decide, by decide, by decide +kernel⟩
theorem zf_M_7_6 : z_fw "TwoSealsModel" 7 6 1 "TwoSealsModel" zTM 16 "TwoSealsModel" := ⟨rfl, by decide, zuM, z_in3 (i := 156) rfl (by decide +kernel), Or.inl rfl⟩
theorem zf_M_13_6 : z_fw "TwoSealsModel" 13 6 2 "TwoSealsModel" zTM 16 "TwoSealsModel" := ⟨rfl, by decide, zuM, z_in3 (i := 157) rfl (by decide +kernel), Or.inl rfl⟩
theorem zf_M_16_6 : z_fw "TwoSealsModel" 16 6 4 "TwoSealsModel" zTM 16 "TwoSealsModel" := ⟨rfl, by decide, zuM, z_in3 (i := 159) rfl (by decide +kernel), Or.inl rfl⟩
theorem zf_M_19_6 : z_fw "TwoSealsModel" 19 6 5 "TwoSealsModel" zTM 16 "TwoSealsModel" := ⟨rfl, by decide, zuM, z_in3 (i := 160) rfl (by decide +kernel), Or.inl rfl⟩
theorem zf_M_22_6 : z_fw "TwoSealsModel" 22 6 6 "TwoSealsModel" zTM 16 "TwoSealsModel" := ⟨rfl, by decide, zuM, z_in3 (i := 161) rfl (by decide +kernel), Or.inl rfl⟩
theorem zf_M_25_6 : z_fw "TwoSealsModel" 25 6 7 "TwoSealsModel" zTM 16 "TwoSealsModel" := ⟨rfl, by decide, zuM, z_in3 (i := 162) rfl (by decide +kernel), Or.inl rfl⟩
theorem zf_M_28_6 : z_fw "TwoSealsModel" 28 6 8 "TwoSealsModel" zTM 16 "TwoSealsModel" := ⟨rfl, by decide, zuM, z_in3 (i := 163) rfl (by decide +kernel), Or.inl rfl⟩
theorem zf_M_31_6 : z_fw "TwoSealsModel" 31 6 9 "TwoSealsModel" zTM 16 "TwoSealsModel" := ⟨rfl, by decide, zuM, z_in3 (i := 164) rfl (by decide +kernel), Or.inl rfl⟩
theorem zf_M_34_6 : z_fw "TwoSealsModel" 34 6 10 "TwoSealsModel" zTM 16 "TwoSealsModel" := ⟨rfl, by decide, zuM, z_in3 (i := 165) rfl (by decide +kernel), Or.inl rfl⟩
theorem zf_M_37_6 : z_fw "TwoSealsModel" 37 6 11 "TwoSealsModel" zTM 16 "TwoSealsModel" := ⟨rfl, by decide, zuM, z_in3 (i := 166) rfl (by decide +kernel), Or.inl rfl⟩
theorem zf_M_40_6 : z_fw "TwoSealsModel" 40 6 12 "TwoSealsModel" zTM 16 "TwoSealsModel" := ⟨rfl, by decide, zuM, z_in3 (i := 167) rfl (by decide +kernel), Or.inl rfl⟩
theorem zf_M_43_6 : z_fw "TwoSealsModel" 43 6 13 "TwoSealsModel" zTM 16 "TwoSealsModel" := ⟨rfl, by decide, zuM, z_in3 (i := 168) rfl (by decide +kernel), Or.inl rfl⟩
theorem zf_M_46_6 : z_fw "TwoSealsModel" 46 6 14 "TwoSealsModel" zTM 16 "TwoSealsModel" := ⟨rfl, by decide, zuM, z_in3 (i := 169) rfl (by decide +kernel), Or.inl rfl⟩
theorem zf_M_49_6 : z_fw "TwoSealsModel" 49 6 15 "TwoSealsModel" zTM 16 "TwoSealsModel" := ⟨rfl, by decide, zuM, z_in3 (i := 170) rfl (by decide +kernel), Or.inl rfl⟩
theorem zc_M_52 : z_cwS "TwoSealsModel" 52 mM_times 2 := ⟨wcmM_times, wn_M, wl_M_52, ws_M_times, by decide, by decide, by decide +kernel⟩
theorem zc_M_56 : z_cwS "TwoSealsModel" 56 mM_turned 2 := ⟨wcmM_turned, wn_M, wl_M_56, ws_M_turned, by decide, by decide, by decide +kernel⟩
theorem zf_M_59_6 : z_fw "TwoSealsModel" 59 6 0 "TwoSealsModel" zTM 16 "TwoSealsModel" := ⟨rfl, by decide, zuM, z_in3 (i := 155) rfl (by decide +kernel), Or.inl rfl⟩
theorem zc_M_63 : z_cwS "TwoSealsModel" 63 mM_doubled 1 := ⟨wcmM_doubled, wn_M, wl_M_63, ws_M_doubled, by decide, by decide, by decide +kernel⟩
theorem zc_M_67 : z_cwV "TwoSealsModel" 67 mM_expand 0 := ⟨wcmM_expand, wn_M, wl_M_67, wi_M_expand, wv_M_M_expand, by decide, by decide, by decide +kernel⟩
theorem zc_M_70 : z_cwV "TwoSealsModel" 70 mM_addWords 1 := ⟨wcmM_addWords, wn_M, wl_M_70, wi_M_addWords, wv_M_M_addWords, by decide, by decide, by decide +kernel⟩
theorem zc_M_74 : z_cwV "TwoSealsModel" 74 mM_mixed 2 := ⟨wcmM_mixed, wn_M, wl_M_74, wi_M_mixed, wv_M_M_mixed, by decide, by decide, by decide +kernel⟩
theorem zc_M_77 : z_cwV "TwoSealsModel" 77 mM_clearProduct 0 := ⟨wcmM_clearProduct, wn_M, wl_M_77, wi_M_clearProduct, wv_M_M_clearProduct, by decide, by decide, by decide +kernel⟩
theorem zc_M_80 : z_cwV "TwoSealsModel" 80 mM_reduce 1 := ⟨wcmM_reduce, wn_M, wl_M_80, wi_M_reduce, wv_M_M_reduce, by decide, by decide, by decide +kernel⟩
theorem zc_M_83 : z_cwS "TwoSealsModel" 83 mM_bit 3 := ⟨wcmM_bit, wn_M, wl_M_83, ws_M_bit, by decide, by decide, by decide +kernel⟩
theorem zc_M_87 : z_cwV "TwoSealsModel" 87 mM_addShifted 1 := ⟨wcmM_addShifted, wn_M, wl_M_87, wi_M_addShifted, wv_M_M_addShifted, by decide, by decide, by decide +kernel⟩
theorem zc_M_90 : z_cwV "TwoSealsModel" 90 mM_multiply 1 := ⟨wcmM_multiply, wn_M, wl_M_90, wi_M_multiply, wv_M_M_multiply, by decide, by decide, by decide +kernel⟩
theorem zc_M_93 : z_cwV "TwoSealsModel" 93 mM_feed 1 := ⟨wcmM_feed, wn_M, wl_M_93, wi_M_feed, wv_M_M_feed, by decide, by decide, by decide +kernel⟩
theorem zc_M_96 : z_cwS "TwoSealsModel" 96 mM_isRow 1 := ⟨wcmM_isRow, wn_M, wl_M_96, ws_M_isRow, by decide, by decide, by decide +kernel⟩
theorem zc_M_100 : z_cwS "TwoSealsModel" 100 mM_most 1 := ⟨wcmM_most, wn_M, wl_M_100, ws_M_most, by decide, by decide, by decide +kernel⟩
theorem zp_M_59_6 : z_pw "TwoSealsModel" 59 6 0 "TwoSealsModel" zTM 16 "TwoSealsModel" ztM .int := ⟨zf_M_59_6, ztM_ok, znM, rfl, by decide +kernel⟩
theorem zf_M_105_6 : z_fw "TwoSealsModel" 105 6 3 "TwoSealsModel" zTM 16 "TwoSealsModel" := ⟨rfl, by decide, zuM, z_in3 (i := 158) rfl (by decide +kernel), Or.inl rfl⟩
theorem zp_M_105_6 : z_pw "TwoSealsModel" 105 6 3 "TwoSealsModel" zTM 16 "TwoSealsModel" ztM .int := ⟨zf_M_105_6, ztM_ok, znM, rfl, by decide +kernel⟩
theorem zc_M_108 : z_cwV "TwoSealsModel" 108 mM_useKey 0 := ⟨wcmM_useKey, wn_M, wl_M_108, wi_M_useKey, wv_M_M_useKey, by decide, by decide, by decide +kernel⟩
theorem zc_M_111 : z_cwV "TwoSealsModel" 111 mM_encipher 0 := ⟨wcmM_encipher, wn_M, wl_M_111, wi_M_encipher, wv_M_M_encipher, by decide, by decide, by decide +kernel⟩
theorem zc_M_114 : z_cwV "TwoSealsModel" 114 mM_keepBlock 0 := ⟨wcmM_keepBlock, wn_M, wl_M_114, wi_M_keepBlock, wv_M_M_keepBlock, by decide, by decide, by decide +kernel⟩
theorem zc_M_117 : z_cwV "TwoSealsModel" 117 mM_beginHash 1 := ⟨wcmM_beginHash, wn_M, wl_M_117, wi_M_beginHash, wv_M_M_beginHash, by decide, by decide, by decide +kernel⟩
theorem zc_M_120 : z_cwV "TwoSealsModel" 120 mM_feedRow 3 := ⟨wcmM_feedRow, wn_M, wl_M_120, wi_M_feedRow, wv_M_M_feedRow, by decide, by decide, by decide +kernel⟩
theorem zc_M_124 : z_cwV "TwoSealsModel" 124 mM_endHash 1 := ⟨wcmM_endHash, wn_M, wl_M_124, wi_M_endHash, wv_M_M_endHash, by decide, by decide, by decide +kernel⟩
theorem zc_M_127 : z_cwV "TwoSealsModel" 127 mM_beginOutward 0 := ⟨wcmM_beginOutward, wn_M, wl_M_127, wi_M_beginOutward, wv_M_M_beginOutward, by decide, by decide, by decide +kernel⟩
theorem zc_M_130 : z_cwV "TwoSealsModel" 130 mM_feedLengths 3 := ⟨wcmM_feedLengths, wn_M, wl_M_130, wi_M_feedLengths, wv_M_M_feedLengths, by decide, by decide, by decide +kernel⟩
theorem zc_M_133 : z_cwV "TwoSealsModel" 133 mM_count 2 := ⟨wcmM_count, wn_M, wl_M_133, wi_M_count, wv_M_M_count, by decide, by decide, by decide +kernel⟩
theorem zc_M_137 : z_cwV "TwoSealsModel" 137 mM_derive 2 := ⟨wcmM_derive, wn_M, wl_M_137, wi_M_derive, wv_M_M_derive, by decide, by decide, by decide +kernel⟩
theorem zc_M_141 : z_cwV "TwoSealsModel" 141 mM_isReady 1 := ⟨wcmM_isReady, wn_M, wl_M_141, wi_M_isReady, wv_M_M_isReady, by decide, by decide, by decide +kernel⟩
theorem zc_M_144 : z_cwV "TwoSealsModel" 144 mM_makeStart 0 := ⟨wcmM_makeStart, wn_M, wl_M_144, wi_M_makeStart, wv_M_M_makeStart, by decide, by decide, by decide +kernel⟩
theorem zc_M_147 : z_cwV "TwoSealsModel" 147 mM_cipher 2 := ⟨wcmM_cipher, wn_M, wl_M_147, wi_M_cipher, wv_M_M_cipher, by decide, by decide, by decide +kernel⟩
theorem zc_M_150 : z_cwV "TwoSealsModel" 150 mM_sealOutward 2 := ⟨wcmM_sealOutward, wn_M, wl_M_150, wi_M_sealOutward, wv_M_M_sealOutward, by decide, by decide, by decide +kernel⟩
theorem zc_M_153 : z_cwV "TwoSealsModel" 153 mM_deriveKeys 0 := ⟨wcmM_deriveKeys, wn_M, wl_M_153, wi_M_deriveKeys, wv_M_M_deriveKeys, by decide, by decide, by decide +kernel⟩
theorem zc_M_156 : z_cwV "TwoSealsModel" 156 mM_sealInward 2 := ⟨wcmM_sealInward, wn_M, wl_M_156, wi_M_sealInward, wv_M_M_sealInward, by decide, by decide, by decide +kernel⟩
theorem zc_M_159 : z_cwV "TwoSealsModel" 159 mM_startAtTag 0 := ⟨wcmM_startAtTag, wn_M, wl_M_159, wi_M_startAtTag, wv_M_M_startAtTag, by decide, by decide, by decide +kernel⟩
theorem zc_M_162 : z_cwV "TwoSealsModel" 162 mM_openInward 1 := ⟨wcmM_openInward, wn_M, wl_M_162, wi_M_openInward, wv_M_M_openInward, by decide, by decide, by decide +kernel⟩
theorem zc_C_9 : z_cwS "TwoSeals$Cipher" 9 mC_makeBox 0 := ⟨wcmC_makeBox, wn_C, wl_C_9, ws_C_makeBox, by decide, by decide, by decide +kernel⟩
theorem zf_C_15_0 : z_fw "TwoSeals$Cipher" 15 0 0 "TwoSeals$Cipher" zTC 4 "TwoSeals$Cipher" := ⟨rfl, by decide, zuC, z_in1 (i := 69) rfl (by decide +kernel), Or.inl rfl⟩
theorem zf_C_19_0 : z_fw "TwoSeals$Cipher" 19 0 1 "TwoSeals$Cipher" zTC 4 "TwoSeals$Cipher" := ⟨rfl, by decide, zuC, z_in1 (i := 70) rfl (by decide +kernel), Or.inl rfl⟩
theorem zf_C_22_0 : z_fw "TwoSeals$Cipher" 22 0 2 "TwoSeals$Cipher" zTC 4 "TwoSeals$Cipher" := ⟨rfl, by decide, zuC, z_in1 (i := 71) rfl (by decide +kernel), Or.inl rfl⟩
theorem zf_C_25_0 : z_fw "TwoSeals$Cipher" 25 0 3 "TwoSeals$Cipher" zTC 4 "TwoSeals$Cipher" := ⟨rfl, by decide, zuC, z_in1 (i := 72) rfl (by decide +kernel), Or.inl rfl⟩
theorem zc_C_28 : z_cwS "TwoSeals$Cipher" 28 mC_tripled 1 := ⟨wcmC_tripled, wn_C, wl_C_28, ws_C_tripled, by decide, by decide, by decide +kernel⟩
theorem zc_C_32 : z_cwS "TwoSeals$Cipher" 32 mC_spread 1 := ⟨wcmC_spread, wn_C, wl_C_32, ws_C_spread, by decide, by decide, by decide +kernel⟩
theorem zc_C_35 : z_cwS "TwoSeals$Cipher" 35 mC_turned 2 := ⟨wcmC_turned, wn_C, wl_C_35, ws_C_turned, by decide, by decide, by decide +kernel⟩
theorem zc_C_39 : z_cwS "TwoSeals$Cipher" 39 mC_doubled 1 := ⟨wcmC_doubled, wn_C, wl_C_39, ws_C_doubled, by decide, by decide, by decide +kernel⟩
theorem zy_C_42 : z_cpw "TwoSeals$Cipher" 42 := ⟨wl_C_42, wt_arraycopy, ws_arraycopy, wn_java_lang_System⟩
theorem zc_C_48 : z_cwV "TwoSeals$Cipher" 48 mC_makeBoxedWord 2 := ⟨wcmC_makeBoxedWord, wn_C, wl_C_48, wi_C_makeBoxedWord, wv_C_C_makeBoxedWord, by decide, by decide, by decide +kernel⟩
theorem zc_C_52 : z_cwV "TwoSeals$Cipher" 52 mC_makeWord 1 := ⟨wcmC_makeWord, wn_C, wl_C_52, wi_C_makeWord, wv_C_C_makeWord, by decide, by decide, by decide +kernel⟩
theorem zc_C_56 : z_cwV "TwoSeals$Cipher" 56 mC_addWords 1 := ⟨wcmC_addWords, wn_C, wl_C_56, wi_C_addWords, wv_C_C_addWords, by decide, by decide, by decide +kernel⟩
theorem zc_C_59 : z_cwV "TwoSeals$Cipher" 59 mC_boxAndMove 0 := ⟨wcmC_boxAndMove, wn_C, wl_C_59, wi_C_boxAndMove, wv_C_C_boxAndMove, by decide, by decide, by decide +kernel⟩
theorem zc_C_62 : z_cwV "TwoSeals$Cipher" 62 mC_mix 0 := ⟨wcmC_mix, wn_C, wl_C_62, wi_C_mix, wv_C_C_mix, by decide, by decide, by decide +kernel⟩
theorem zf_H_9_1 : z_fw "TwoSeals$Hasher" 9 1 0 "TwoSeals$Hasher" zTH 9 "TwoSeals$Hasher" := ⟨rfl, by decide, zuH, z_in1 (i := 91) rfl (by decide +kernel), Or.inl rfl⟩
theorem zf_H_15_1 : z_fw "TwoSeals$Hasher" 15 1 1 "TwoSeals$Hasher" zTH 9 "TwoSeals$Hasher" := ⟨rfl, by decide, zuH, z_in1 (i := 92) rfl (by decide +kernel), Or.inl rfl⟩
theorem zf_H_21_1 : z_fw "TwoSeals$Hasher" 21 1 2 "TwoSeals$Hasher" zTH 9 "TwoSeals$Hasher" := ⟨rfl, by decide, zuH, z_in1 (i := 93) rfl (by decide +kernel), Or.inl rfl⟩
theorem zf_H_27_1 : z_fw "TwoSeals$Hasher" 27 1 3 "TwoSeals$Hasher" zTH 9 "TwoSeals$Hasher" := ⟨rfl, by decide, zuH, z_in1 (i := 94) rfl (by decide +kernel), Or.inl rfl⟩
theorem zf_H_30_1 : z_fw "TwoSeals$Hasher" 30 1 4 "TwoSeals$Hasher" zTH 9 "TwoSeals$Hasher" := ⟨rfl, by decide, zuH, z_in1 (i := 95) rfl (by decide +kernel), Or.inl rfl⟩
theorem zc_H_34 : z_cwV "TwoSeals$Hasher" 34 mH_readHalf 3 := ⟨wcmH_readHalf, wn_H, wl_H_34, wi_H_readHalf, wv_H_H_readHalf, by decide, by decide, by decide +kernel⟩
theorem zf_H_38_1 : z_fw "TwoSeals$Hasher" 38 1 5 "TwoSeals$Hasher" zTH 9 "TwoSeals$Hasher" := ⟨rfl, by decide, zuH, z_in1 (i := 96) rfl (by decide +kernel), Or.inl rfl⟩
theorem zp_H_38_1 : z_pw "TwoSeals$Hasher" 38 1 5 "TwoSeals$Hasher" zTH 9 "TwoSeals$Hasher" ztH .long := ⟨zf_H_38_1, ztH_ok, znH, rfl, by decide +kernel⟩
theorem zf_H_41_1 : z_fw "TwoSeals$Hasher" 41 1 6 "TwoSeals$Hasher" zTH 9 "TwoSeals$Hasher" := ⟨rfl, by decide, zuH, z_in1 (i := 97) rfl (by decide +kernel), Or.inl rfl⟩
theorem zp_H_41_1 : z_pw "TwoSeals$Hasher" 41 1 6 "TwoSeals$Hasher" zTH 9 "TwoSeals$Hasher" ztH .long := ⟨zf_H_41_1, ztH_ok, znH, rfl, by decide +kernel⟩
theorem zc_H_44 : z_cwV "TwoSeals$Hasher" 44 mH_putBesidesIntoKey 0 := ⟨wcmH_putBesidesIntoKey, wn_H, wl_H_44, wi_H_putBesidesIntoKey, wv_H_H_putBesidesIntoKey, by decide, by decide, by decide +kernel⟩
theorem zf_H_47_1 : z_fw "TwoSeals$Hasher" 47 1 7 "TwoSeals$Hasher" zTH 9 "TwoSeals$Hasher" := ⟨rfl, by decide, zuH, z_in1 (i := 98) rfl (by decide +kernel), Or.inl rfl⟩
theorem zp_H_47_1 : z_pw "TwoSeals$Hasher" 47 1 7 "TwoSeals$Hasher" zTH 9 "TwoSeals$Hasher" ztH .long := ⟨zf_H_47_1, ztH_ok, znH, rfl, by decide +kernel⟩
theorem zf_H_50_1 : z_fw "TwoSeals$Hasher" 50 1 8 "TwoSeals$Hasher" zTH 9 "TwoSeals$Hasher" := ⟨rfl, by decide, zuH, z_in1 (i := 99) rfl (by decide +kernel), Or.inl rfl⟩
theorem zp_H_50_1 : z_pw "TwoSeals$Hasher" 50 1 8 "TwoSeals$Hasher" zTH 9 "TwoSeals$Hasher" ztH .long := ⟨zf_H_50_1, ztH_ok, znH, rfl, by decide +kernel⟩
theorem zc_H_55 : z_cwV "TwoSeals$Hasher" 55 mH_multiplySumByKey 0 := ⟨wcmH_multiplySumByKey, wn_H, wl_H_55, wi_H_multiplySumByKey, wv_H_H_multiplySumByKey, by decide, by decide, by decide +kernel⟩
theorem zc_H_60 : z_cwV "TwoSeals$Hasher" 60 mH_putLength 2 := ⟨wcmH_putLength, wn_H, wl_H_60, wi_H_putLength, wv_H_H_putLength, by decide, by decide, by decide +kernel⟩
theorem zc_H_64 : z_cwV "TwoSeals$Hasher" 64 mH_add 2 := ⟨wcmH_add, wn_H, wl_H_64, wi_H_add, wv_H_H_add, by decide, by decide, by decide +kernel⟩
theorem zc_H_68 : z_cwV "TwoSeals$Hasher" 68 mH_writeHalf 3 := ⟨wcmH_writeHalf, wn_H, wl_H_68, wi_H_writeHalf, wv_H_H_writeHalf, by decide, by decide, by decide +kernel⟩
theorem zf_R_7_2 : z_fw "TwoSeals$Row" 7 2 0 "TwoSeals$Row" zTR 2 "TwoSeals$Row" := ⟨rfl, by decide, zuR, z_in1 (i := 32) rfl (by decide +kernel), Or.inl rfl⟩
theorem zf_R_13_2 : z_fw "TwoSeals$Row" 13 2 1 "TwoSeals$Row" zTR 2 "TwoSeals$Row" := ⟨rfl, by decide, zuR, z_in1 (i := 37) rfl (by decide +kernel), Or.inl rfl⟩
theorem zp_R_13_2 : z_pw "TwoSeals$Row" 13 2 1 "TwoSeals$Row" zTR 2 "TwoSeals$Row" ztR .int := ⟨zf_R_13_2, ztR_ok, znR, rfl, by decide +kernel⟩
theorem zy_R_17 : z_cpw "TwoSeals$Row" 17 := ⟨wl_R_17, wt_arraycopy, ws_arraycopy, wn_java_lang_System⟩
theorem zf_W_9_3 : z_fw "TwoSeals$Way" 9 3 0 "TwoSeals$WayOne" zTO 8 "TwoSeals$Way" := ⟨rfl, by decide, zuO, z_in1 (i := 131) rfl (by decide +kernel), Or.inl rfl⟩
theorem zf_W_9_4 : z_fw "TwoSeals$Way" 9 4 0 "TwoSeals$WayZero" zTZ 8 "TwoSeals$Way" := ⟨rfl, by decide, zuZ, z_in1 (i := 131) rfl (by decide +kernel), Or.inl rfl⟩
theorem zf_W_15_3 : z_fw "TwoSeals$Way" 15 3 1 "TwoSeals$WayOne" zTO 8 "TwoSeals$Way" := ⟨rfl, by decide, zuO, z_in1 (i := 136) rfl (by decide +kernel), Or.inl rfl⟩
theorem zf_W_15_4 : z_fw "TwoSeals$Way" 15 4 1 "TwoSeals$WayZero" zTZ 8 "TwoSeals$Way" := ⟨rfl, by decide, zuZ, z_in1 (i := 136) rfl (by decide +kernel), Or.inl rfl⟩
theorem zf_W_19_3 : z_fw "TwoSeals$Way" 19 3 2 "TwoSeals$WayOne" zTO 8 "TwoSeals$Way" := ⟨rfl, by decide, zuO, z_in1 (i := 139) rfl (by decide +kernel), Or.inl rfl⟩
theorem zf_W_19_4 : z_fw "TwoSeals$Way" 19 4 2 "TwoSeals$WayZero" zTZ 8 "TwoSeals$Way" := ⟨rfl, by decide, zuZ, z_in1 (i := 139) rfl (by decide +kernel), Or.inl rfl⟩
theorem zf_W_23_3 : z_fw "TwoSeals$Way" 23 3 3 "TwoSeals$WayOne" zTO 8 "TwoSeals$Way" := ⟨rfl, by decide, zuO, z_in1 (i := 144) rfl (by decide +kernel), Or.inl rfl⟩
theorem zf_W_23_4 : z_fw "TwoSeals$Way" 23 4 3 "TwoSeals$WayZero" zTZ 8 "TwoSeals$Way" := ⟨rfl, by decide, zuZ, z_in1 (i := 144) rfl (by decide +kernel), Or.inl rfl⟩
theorem zf_W_26_3 : z_fw "TwoSeals$Way" 26 3 4 "TwoSeals$WayOne" zTO 8 "TwoSeals$Way" := ⟨rfl, by decide, zuO, z_in1 (i := 149) rfl (by decide +kernel), Or.inl rfl⟩
theorem zf_W_26_4 : z_fw "TwoSeals$Way" 26 4 4 "TwoSeals$WayZero" zTZ 8 "TwoSeals$Way" := ⟨rfl, by decide, zuZ, z_in1 (i := 149) rfl (by decide +kernel), Or.inl rfl⟩
theorem zf_W_29_3 : z_fw "TwoSeals$Way" 29 3 5 "TwoSeals$WayOne" zTO 8 "TwoSeals$Way" := ⟨rfl, by decide, zuO, z_in1 (i := 154) rfl (by decide +kernel), Or.inl rfl⟩
theorem zf_W_29_4 : z_fw "TwoSeals$Way" 29 4 5 "TwoSeals$WayZero" zTZ 8 "TwoSeals$Way" := ⟨rfl, by decide, zuZ, z_in1 (i := 154) rfl (by decide +kernel), Or.inl rfl⟩
theorem zf_W_32_3 : z_fw "TwoSeals$Way" 32 3 6 "TwoSeals$WayOne" zTO 8 "TwoSeals$Way" := ⟨rfl, by decide, zuO, z_in1 (i := 159) rfl (by decide +kernel), Or.inl rfl⟩
theorem zf_W_32_4 : z_fw "TwoSeals$Way" 32 4 6 "TwoSeals$WayZero" zTZ 8 "TwoSeals$Way" := ⟨rfl, by decide, zuZ, z_in1 (i := 159) rfl (by decide +kernel), Or.inl rfl⟩
theorem zc_W_35_O : z_cwU "TwoSeals$Way" 35 "TwoSeals$WayOne" "TwoSeals$Way" ⟨"TwoSeals$Way", "count", "(I)V"⟩ mO_count 1 := ⟨wcmO_count, wn_O, wl_W_35, wm_W_W_count, fun _ _ _ _ hk => va_Decl.abs (hk.2.1 _ (by decide)), wi_O_count, wv_O_W_count, by decide, by decide, by decide +kernel⟩
theorem zc_W_35_Z : z_cwU "TwoSeals$Way" 35 "TwoSeals$WayZero" "TwoSeals$Way" ⟨"TwoSeals$Way", "count", "(I)V"⟩ mZ_count 1 := ⟨wcmZ_count, wn_Z, wl_W_35, wm_W_W_count, fun _ _ _ _ hk => va_Decl.abs (hk.2.1 _ (by decide)), wi_Z_count, wv_Z_W_count, by decide, by decide, by decide +kernel⟩
theorem zc_W_39 : z_cwV "TwoSeals$Way" 39 mC_encipher 2 := ⟨wcmC_encipher, wn_C, wl_W_39, wi_C_encipher, wv_C_C_encipher, by decide, by decide, by decide +kernel⟩
theorem zc_W_45 : z_cwV "TwoSeals$Way" 45 mH_begin 1 := ⟨wcmH_begin, wn_H, wl_W_45, wi_H_begin, wv_H_H_begin, by decide, by decide, by decide +kernel⟩
theorem zf_W_51_2 : z_fw "TwoSeals$Way" 51 2 0 "TwoSeals$Row" zTR 2 "TwoSeals$Row" := ⟨rfl, by decide, zuR, z_in1 (i := 36) rfl (by decide +kernel), Or.inl rfl⟩
theorem zf_W_56_2 : z_fw "TwoSeals$Way" 56 2 1 "TwoSeals$Row" zTR 2 "TwoSeals$Row" := ⟨rfl, by decide, zuR, z_in1 (i := 41) rfl (by decide +kernel), Or.inl rfl⟩
theorem zc_W_60 : z_cwV "TwoSeals$Way" 60 mH_add 2 := ⟨wcmH_add, wn_H, wl_W_60, wi_H_add, wv_H_H_add, by decide, by decide, by decide +kernel⟩
theorem zc_W_64 : z_cwV "TwoSeals$Way" 64 mH_addLengths 2 := ⟨wcmH_addLengths, wn_H, wl_W_64, wi_H_addLengths, wv_H_H_addLengths, by decide, by decide, by decide +kernel⟩
theorem zc_W_68 : z_cwV "TwoSeals$Way" 68 mH_write 1 := ⟨wcmH_write, wn_H, wl_W_68, wi_H_write, wv_H_H_write, by decide, by decide, by decide +kernel⟩
theorem zy_W_71 : z_cpw "TwoSeals$Way" 71 := ⟨wl_W_71, wt_arraycopy, ws_arraycopy, wn_java_lang_System⟩
theorem zp_W_56_2 : z_pw "TwoSeals$Way" 56 2 1 "TwoSeals$Row" zTR 2 "TwoSeals$Row" ztR .int := ⟨zf_W_56_2, ztR_ok, znR, rfl, by decide +kernel⟩
theorem zf_O_9_3 : z_fw "TwoSeals$WayOne" 9 3 7 "TwoSeals$WayOne" zTO 8 "TwoSeals$WayOne" := ⟨rfl, by decide, zuO, z_in1 (i := 187) rfl (by decide +kernel), Or.inl rfl⟩
theorem zf_O_15_3 : z_fw "TwoSeals$WayOne" 15 3 0 "TwoSeals$WayOne" zTO 8 "TwoSeals$WayOne" := ⟨rfl, by decide, zuO, z_in1 (i := 132) rfl (by decide +kernel), Or.inr wq_O_W_cipher⟩
theorem zf_O_19_2 : z_fw "TwoSeals$WayOne" 19 2 0 "TwoSeals$Row" zTR 2 "TwoSeals$Row" := ⟨rfl, by decide, zuR, z_in1 (i := 33) rfl (by decide +kernel), Or.inl rfl⟩
theorem zc_O_24 : z_cwV "TwoSeals$WayOne" 24 mC_useKey 1 := ⟨wcmC_useKey, wn_C, wl_O_24, wi_C_useKey, wv_C_C_useKey, by decide, by decide, by decide +kernel⟩
theorem zf_O_30_3 : z_fw "TwoSeals$WayOne" 30 3 2 "TwoSeals$WayOne" zTO 8 "TwoSeals$WayOne" := ⟨rfl, by decide, zuO, z_in1 (i := 140) rfl (by decide +kernel), Or.inr wq_O_W_hashKey⟩
theorem zc_O_33 : z_cwV "TwoSeals$WayOne" 33 mO_derive 4 := ⟨wcmO_derive, wn_O, wl_O_33, wi_O_derive, wv_O_O_derive, by decide, by decide, by decide +kernel⟩
theorem zf_O_37_3 : z_fw "TwoSeals$WayOne" 37 3 4 "TwoSeals$WayOne" zTO 8 "TwoSeals$WayOne" := ⟨rfl, by decide, zuO, z_in1 (i := 150) rfl (by decide +kernel), Or.inr wq_O_W_counted⟩
theorem zy_O_40 : z_cpw "TwoSeals$WayOne" 40 := ⟨wl_O_40, wt_arraycopy, ws_arraycopy, wn_java_lang_System⟩
theorem zf_O_46_3 : z_fw "TwoSeals$WayOne" 46 3 5 "TwoSeals$WayOne" zTO 8 "TwoSeals$WayOne" := ⟨rfl, by decide, zuO, z_in1 (i := 155) rfl (by decide +kernel), Or.inr wq_O_W_enciphered⟩
theorem zc_O_49 : z_cwV "TwoSeals$WayOne" 49 mC_encipher 2 := ⟨wcmC_encipher, wn_C, wl_O_49, wi_C_encipher, wv_C_C_encipher, by decide, by decide, by decide +kernel⟩
theorem zf_O_53_2 : z_fw "TwoSeals$WayOne" 53 2 1 "TwoSeals$Row" zTR 2 "TwoSeals$Row" := ⟨rfl, by decide, zuR, z_in1 (i := 40) rfl (by decide +kernel), Or.inl rfl⟩
theorem zc_O_57 : z_cwV "TwoSeals$WayOne" 57 mO_makeDue 3 := ⟨wcmO_makeDue, wn_O, wl_O_57, wi_O_makeDue, wv_O_O_makeDue, by decide, by decide, by decide +kernel⟩
theorem zf_O_61_3 : z_fw "TwoSeals$WayOne" 61 3 6 "TwoSeals$WayOne" zTO 8 "TwoSeals$WayOne" := ⟨rfl, by decide, zuO, z_in1 (i := 160) rfl (by decide +kernel), Or.inr wq_O_W_due⟩
theorem zf_O_64_3 : z_fw "TwoSeals$WayOne" 64 3 3 "TwoSeals$WayOne" zTO 8 "TwoSeals$WayOne" := ⟨rfl, by decide, zuO, z_in1 (i := 147) rfl (by decide +kernel), Or.inr wq_O_W_start⟩
theorem zc_O_67 : z_cwU "TwoSeals$WayOne" 67 "TwoSeals$WayOne" "TwoSeals$Way" ⟨"TwoSeals$WayOne", "cipherText", "([II[I)V"⟩ mW_cipherText 3 := ⟨wcmW_cipherText, wn_W, wl_O_67, wm_O_W_cipherText, fun _ _ _ ht _ => va_Decl.of (ht _ wi_W_cipherText) (ht _ wcmW_cipherText), wi_W_cipherText, wv_O_O_cipherText, by decide, by decide, by decide +kernel⟩
theorem zc_O_71 : z_cwU "TwoSeals$WayOne" 71 "TwoSeals$WayOne" "TwoSeals$Way" ⟨"TwoSeals$WayOne", "appendDue", "(LTwoSeals$Row;I)V"⟩ mW_appendDue 2 := ⟨wcmW_appendDue, wn_W, wl_O_71, wm_O_W_appendDue, fun _ _ _ ht _ => va_Decl.of (ht _ wi_W_appendDue) (ht _ wcmW_appendDue), wi_W_appendDue, wv_O_O_appendDue, by decide, by decide, by decide +kernel⟩
theorem zp_O_53_2 : z_pw "TwoSeals$WayOne" 53 2 1 "TwoSeals$Row" zTR 2 "TwoSeals$Row" ztR .int := ⟨zf_O_53_2, ztR_ok, znR, rfl, by decide +kernel⟩
theorem zc_O_75 : z_cwU "TwoSeals$WayOne" 75 "TwoSeals$WayOne" "TwoSeals$Way" ⟨"TwoSeals$WayOne", "endsInDue", "(LTwoSeals$Row;)Z"⟩ mW_endsInDue 1 := ⟨wcmW_endsInDue, wn_W, wl_O_75, wm_O_W_endsInDue, fun _ _ _ ht _ => va_Decl.of (ht _ wi_W_endsInDue) (ht _ wcmW_endsInDue), wi_W_endsInDue, wv_O_O_endsInDue, by decide, by decide, by decide +kernel⟩
theorem zc_O_79 : z_cwU "TwoSeals$WayOne" 79 "TwoSeals$WayOne" "TwoSeals$Way" ⟨"TwoSeals$WayOne", "hashWithAside", "(LTwoSeals$Row;[II)V"⟩ mW_hashWithAside 3 := ⟨wcmW_hashWithAside, wn_W, wl_O_79, wm_O_W_hashWithAside, fun _ _ _ ht _ => va_Decl.of (ht _ wi_W_hashWithAside) (ht _ wcmW_hashWithAside), wi_W_hashWithAside, wv_O_O_hashWithAside, by decide, by decide, by decide +kernel⟩
theorem zf_Z_9_4 : z_fw "TwoSeals$WayZero" 9 4 7 "TwoSeals$WayZero" zTZ 8 "TwoSeals$WayZero" := ⟨rfl, by decide, zuZ, z_in1 (i := 130) rfl (by decide +kernel), Or.inl rfl⟩
theorem zf_Z_15_4 : z_fw "TwoSeals$WayZero" 15 4 0 "TwoSeals$WayZero" zTZ 8 "TwoSeals$WayZero" := ⟨rfl, by decide, zuZ, z_in1 (i := 134) rfl (by decide +kernel), Or.inr wq_Z_W_cipher⟩
theorem zf_Z_19_2 : z_fw "TwoSeals$WayZero" 19 2 0 "TwoSeals$Row" zTR 2 "TwoSeals$Row" := ⟨rfl, by decide, zuR, z_in1 (i := 34) rfl (by decide +kernel), Or.inl rfl⟩
theorem zc_Z_24 : z_cwV "TwoSeals$WayZero" 24 mC_useKey 1 := ⟨wcmC_useKey, wn_C, wl_Z_24, wi_C_useKey, wv_C_C_useKey, by decide, by decide, by decide +kernel⟩
theorem zf_Z_30_4 : z_fw "TwoSeals$WayZero" 30 4 2 "TwoSeals$WayZero" zTZ 8 "TwoSeals$WayZero" := ⟨rfl, by decide, zuZ, z_in1 (i := 142) rfl (by decide +kernel), Or.inr wq_Z_W_hashKey⟩
theorem zc_Z_33 : z_cwV "TwoSeals$WayZero" 33 mC_encipher 2 := ⟨wcmC_encipher, wn_C, wl_Z_33, wi_C_encipher, wv_C_C_encipher, by decide, by decide, by decide +kernel⟩
theorem zf_Z_37_2 : z_fw "TwoSeals$WayZero" 37 2 1 "TwoSeals$Row" zTR 2 "TwoSeals$Row" := ⟨rfl, by decide, zuR, z_in1 (i := 39) rfl (by decide +kernel), Or.inl rfl⟩
theorem zf_Z_41_4 : z_fw "TwoSeals$WayZero" 41 4 3 "TwoSeals$WayZero" zTZ 8 "TwoSeals$WayZero" := ⟨rfl, by decide, zuZ, z_in1 (i := 145) rfl (by decide +kernel), Or.inr wq_Z_W_start⟩
theorem zy_Z_44 : z_cpw "TwoSeals$WayZero" 44 := ⟨wl_Z_44, wt_arraycopy, ws_arraycopy, wn_java_lang_System⟩
theorem zf_Z_50_4 : z_fw "TwoSeals$WayZero" 50 4 1 "TwoSeals$WayZero" zTZ 8 "TwoSeals$WayZero" := ⟨rfl, by decide, zuZ, z_in1 (i := 137) rfl (by decide +kernel), Or.inr wq_Z_W_hasher⟩
theorem zc_Z_54 : z_cwV "TwoSeals$WayZero" 54 mH_begin 1 := ⟨wcmH_begin, wn_H, wl_Z_54, wi_H_begin, wv_H_H_begin, by decide, by decide, by decide +kernel⟩
theorem zc_Z_59 : z_cwV "TwoSeals$WayZero" 59 mH_add 2 := ⟨wcmH_add, wn_H, wl_Z_59, wi_H_add, wv_H_H_add, by decide, by decide, by decide +kernel⟩
theorem zc_Z_63 : z_cwV "TwoSeals$WayZero" 63 mH_addLengths 2 := ⟨wcmH_addLengths, wn_H, wl_Z_63, wi_H_addLengths, wv_H_H_addLengths, by decide, by decide, by decide +kernel⟩
theorem zc_Z_67 : z_cwV "TwoSeals$WayZero" 67 mH_write 1 := ⟨wcmH_write, wn_H, wl_Z_67, wi_H_write, wv_H_H_write, by decide, by decide, by decide +kernel⟩
theorem zc_Z_70 : z_cwU "TwoSeals$WayZero" 70 "TwoSeals$WayZero" "TwoSeals$Way" ⟨"TwoSeals$WayZero", "cipherText", "([II[I)V"⟩ mW_cipherText 3 := ⟨wcmW_cipherText, wn_W, wl_Z_70, wm_Z_W_cipherText, fun _ _ _ ht _ => va_Decl.of (ht _ wi_W_cipherText) (ht _ wcmW_cipherText), wi_W_cipherText, wv_Z_Z_cipherText, by decide, by decide, by decide +kernel⟩
theorem zc_Z_74 : z_cwV "TwoSeals$WayZero" 74 mZ_makeDue 3 := ⟨wcmZ_makeDue, wn_Z, wl_Z_74, wi_Z_makeDue, wv_Z_Z_makeDue, by decide, by decide, by decide +kernel⟩
theorem zc_Z_78 : z_cwU "TwoSeals$WayZero" 78 "TwoSeals$WayZero" "TwoSeals$Way" ⟨"TwoSeals$WayZero", "appendDue", "(LTwoSeals$Row;I)V"⟩ mW_appendDue 2 := ⟨wcmW_appendDue, wn_W, wl_Z_78, wm_Z_W_appendDue, fun _ _ _ ht _ => va_Decl.of (ht _ wi_W_appendDue) (ht _ wcmW_appendDue), wi_W_appendDue, wv_Z_Z_appendDue, by decide, by decide, by decide +kernel⟩
theorem zp_Z_37_2 : z_pw "TwoSeals$WayZero" 37 2 1 "TwoSeals$Row" zTR 2 "TwoSeals$Row" ztR .int := ⟨zf_Z_37_2, ztR_ok, znR, rfl, by decide +kernel⟩
theorem zc_Z_82 : z_cwU "TwoSeals$WayZero" 82 "TwoSeals$WayZero" "TwoSeals$Way" ⟨"TwoSeals$WayZero", "endsInDue", "(LTwoSeals$Row;)Z"⟩ mW_endsInDue 1 := ⟨wcmW_endsInDue, wn_W, wl_Z_82, wm_Z_W_endsInDue, fun _ _ _ ht _ => va_Decl.of (ht _ wi_W_endsInDue) (ht _ wcmW_endsInDue), wi_W_endsInDue, wv_Z_Z_endsInDue, by decide, by decide, by decide +kernel⟩
theorem zc_Z_86 : z_cwU "TwoSeals$WayZero" 86 "TwoSeals$WayZero" "TwoSeals$Way" ⟨"TwoSeals$WayZero", "hashWithAside", "(LTwoSeals$Row;[II)V"⟩ mW_hashWithAside 3 := ⟨wcmW_hashWithAside, wn_W, wl_Z_86, wm_Z_W_hashWithAside, fun _ _ _ ht _ => va_Decl.of (ht _ wi_W_hashWithAside) (ht _ wcmW_hashWithAside), wi_W_hashWithAside, wv_Z_Z_hashWithAside, by decide, by decide, by decide +kernel⟩
theorem zf_Z_89_4 : z_fw "TwoSeals$WayZero" 89 4 5 "TwoSeals$WayZero" zTZ 8 "TwoSeals$WayZero" := ⟨rfl, by decide, zuZ, z_in1 (i := 157) rfl (by decide +kernel), Or.inr wq_Z_W_enciphered⟩
theorem zf_Z_92_4 : z_fw "TwoSeals$WayZero" 92 4 6 "TwoSeals$WayZero" zTZ 8 "TwoSeals$WayZero" := ⟨rfl, by decide, zuZ, z_in1 (i := 162) rfl (by decide +kernel), Or.inr wq_Z_W_due⟩
theorem zf_Z_95_4 : z_fw "TwoSeals$WayZero" 95 4 4 "TwoSeals$WayZero" zTZ 8 "TwoSeals$WayZero" := ⟨rfl, by decide, zuZ, z_in1 (i := 152) rfl (by decide +kernel), Or.inr wq_Z_W_counted⟩
