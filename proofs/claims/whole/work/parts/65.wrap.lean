theorem dL_type_0 : decode mL_type.2.1 0 = .ok (.aload 5, 2) := by decide +kernel
theorem dL_type_2 : decode mL_type.2.1 2 = .ok (.iconst 0, 1) := by decide +kernel
theorem dL_type_3 : decode mL_type.2.1 3 = .ok (.aload_n 0, 1) := by decide +kernel
theorem dL_type_4 : decode mL_type.2.1 4 = .ok (.iload_n 1, 1) := by decide +kernel
theorem dL_type_5 : decode mL_type.2.1 5 = .ok (.lload_n 2, 1) := by decide +kernel
theorem dL_type_6 : decode mL_type.2.1 6 = .ok (.iload 4, 2) := by decide +kernel
theorem dL_type_8 : decode mL_type.2.1 8 = .ok (.invokevirtual 7, 3) := by decide +kernel
theorem dL_type_11 : decode mL_type.2.1 11 = .ok (.i2l, 1) := by decide +kernel
theorem dL_type_12 : decode mL_type.2.1 12 = .ok (.lastore, 1) := by decide +kernel
theorem dL_type_13 : decode mL_type.2.1 13 = .ok (.goto 11, 3) := by decide +kernel
theorem dL_type_16 : decode mL_type.2.1 16 = .ok (.astore 6, 2) := by decide +kernel
theorem dL_type_18 : decode mL_type.2.1 18 = .ok (.iconst 1, 1) := by decide +kernel
theorem dL_type_19 : decode mL_type.2.1 19 = .ok (.ireturn, 1) := by decide +kernel
theorem dL_type_20 : decode mL_type.2.1 20 = .ok (.astore 6, 2) := by decide +kernel
theorem dL_type_22 : decode mL_type.2.1 22 = .ok (.iconst 2, 1) := by decide +kernel
theorem dL_type_23 : decode mL_type.2.1 23 = .ok (.ireturn, 1) := by decide +kernel
theorem dL_type_24 : decode mL_type.2.1 24 = .ok (.iconst 0, 1) := by decide +kernel
theorem dL_type_25 : decode mL_type.2.1 25 = .ok (.ireturn, 1) := by decide +kernel
theorem dL_clear_0 : decode mL_clear.2.1 0 = .ok (.aload_n 2, 1) := by decide +kernel
theorem dL_clear_1 : decode mL_clear.2.1 1 = .ok (.iconst 0, 1) := by decide +kernel
theorem dL_clear_2 : decode mL_clear.2.1 2 = .ok (.aload_n 0, 1) := by decide +kernel
theorem dL_clear_3 : decode mL_clear.2.1 3 = .ok (.iload_n 1, 1) := by decide +kernel
theorem dL_clear_4 : decode mL_clear.2.1 4 = .ok (.invokevirtual 17, 3) := by decide +kernel
theorem dL_clear_7 : decode mL_clear.2.1 7 = .ok (.i2l, 1) := by decide +kernel
theorem dL_clear_8 : decode mL_clear.2.1 8 = .ok (.lastore, 1) := by decide +kernel
theorem dL_clear_9 : decode mL_clear.2.1 9 = .ok (.goto 6, 3) := by decide +kernel
theorem dL_clear_12 : decode mL_clear.2.1 12 = .ok (.astore_n 3, 1) := by decide +kernel
theorem dL_clear_13 : decode mL_clear.2.1 13 = .ok (.iconst 1, 1) := by decide +kernel
theorem dL_clear_14 : decode mL_clear.2.1 14 = .ok (.ireturn, 1) := by decide +kernel
theorem dL_clear_15 : decode mL_clear.2.1 15 = .ok (.iconst 0, 1) := by decide +kernel
theorem dL_clear_16 : decode mL_clear.2.1 16 = .ok (.ireturn, 1) := by decide +kernel
theorem dL_poke_0 : decode mL_poke.2.1 0 = .ok (.aload_n 0, 1) := by decide +kernel
theorem dL_poke_1 : decode mL_poke.2.1 1 = .ok (.iload_n 1, 1) := by decide +kernel
theorem dL_poke_2 : decode mL_poke.2.1 2 = .ok (.iload_n 2, 1) := by decide +kernel
theorem dL_poke_3 : decode mL_poke.2.1 3 = .ok (.iload_n 3, 1) := by decide +kernel
theorem dL_poke_4 : decode mL_poke.2.1 4 = .ok (.invokevirtual 21, 3) := by decide +kernel
theorem dL_poke_7 : decode mL_poke.2.1 7 = .ok (.goto 11, 3) := by decide +kernel
theorem dL_poke_10 : decode mL_poke.2.1 10 = .ok (.astore 4, 2) := by decide +kernel
theorem dL_poke_12 : decode mL_poke.2.1 12 = .ok (.iconst 1, 1) := by decide +kernel
theorem dL_poke_13 : decode mL_poke.2.1 13 = .ok (.ireturn, 1) := by decide +kernel
theorem dL_poke_14 : decode mL_poke.2.1 14 = .ok (.astore 4, 2) := by decide +kernel
theorem dL_poke_16 : decode mL_poke.2.1 16 = .ok (.iconst 2, 1) := by decide +kernel
theorem dL_poke_17 : decode mL_poke.2.1 17 = .ok (.ireturn, 1) := by decide +kernel
theorem dL_poke_18 : decode mL_poke.2.1 18 = .ok (.iconst 0, 1) := by decide +kernel
theorem dL_poke_19 : decode mL_poke.2.1 19 = .ok (.ireturn, 1) := by decide +kernel
theorem dL_take_0 : decode mL_take.2.1 0 = .ok (.aload_n 2, 1) := by decide +kernel
theorem dL_take_1 : decode mL_take.2.1 1 = .ok (.iconst 0, 1) := by decide +kernel
theorem dL_take_2 : decode mL_take.2.1 2 = .ok (.aload_n 0, 1) := by decide +kernel
theorem dL_take_3 : decode mL_take.2.1 3 = .ok (.iload_n 1, 1) := by decide +kernel
theorem dL_take_4 : decode mL_take.2.1 4 = .ok (.invokevirtual 27, 3) := by decide +kernel
theorem dL_take_7 : decode mL_take.2.1 7 = .ok (.i2l, 1) := by decide +kernel
theorem dL_take_8 : decode mL_take.2.1 8 = .ok (.lastore, 1) := by decide +kernel
theorem dL_take_9 : decode mL_take.2.1 9 = .ok (.goto 9, 3) := by decide +kernel
theorem dL_take_12 : decode mL_take.2.1 12 = .ok (.astore_n 3, 1) := by decide +kernel
theorem dL_take_13 : decode mL_take.2.1 13 = .ok (.iconst 1, 1) := by decide +kernel
theorem dL_take_14 : decode mL_take.2.1 14 = .ok (.ireturn, 1) := by decide +kernel
theorem dL_take_15 : decode mL_take.2.1 15 = .ok (.astore_n 3, 1) := by decide +kernel
theorem dL_take_16 : decode mL_take.2.1 16 = .ok (.iconst 2, 1) := by decide +kernel
theorem dL_take_17 : decode mL_take.2.1 17 = .ok (.ireturn, 1) := by decide +kernel
theorem dL_take_18 : decode mL_take.2.1 18 = .ok (.iconst 0, 1) := by decide +kernel
theorem dL_take_19 : decode mL_take.2.1 19 = .ok (.ireturn, 1) := by decide +kernel
theorem dL_block_0 : decode mL_block.2.1 0 = .ok (.aload_n 0, 1) := by decide +kernel
theorem dL_block_1 : decode mL_block.2.1 1 = .ok (.invokevirtual 30, 3) := by decide +kernel
theorem dL_block_4 : decode mL_block.2.1 4 = .ok (.goto 6, 3) := by decide +kernel
theorem dL_block_7 : decode mL_block.2.1 7 = .ok (.astore_n 1, 1) := by decide +kernel
theorem dL_block_8 : decode mL_block.2.1 8 = .ok (.iconst 1, 1) := by decide +kernel
theorem dL_block_9 : decode mL_block.2.1 9 = .ok (.ireturn, 1) := by decide +kernel
theorem dL_block_10 : decode mL_block.2.1 10 = .ok (.iconst 0, 1) := by decide +kernel
theorem dL_block_11 : decode mL_block.2.1 11 = .ok (.ireturn, 1) := by decide +kernel
theorem dL_hash_0 : decode mL_hash.2.1 0 = .ok (.aload_n 0, 1) := by decide +kernel
theorem dL_hash_1 : decode mL_hash.2.1 1 = .ok (.iload_n 1, 1) := by decide +kernel
theorem dL_hash_2 : decode mL_hash.2.1 2 = .ok (.invokevirtual 33, 3) := by decide +kernel
theorem dL_hash_5 : decode mL_hash.2.1 5 = .ok (.goto 9, 3) := by decide +kernel
theorem dL_hash_8 : decode mL_hash.2.1 8 = .ok (.astore_n 2, 1) := by decide +kernel
theorem dL_hash_9 : decode mL_hash.2.1 9 = .ok (.iconst 1, 1) := by decide +kernel
theorem dL_hash_10 : decode mL_hash.2.1 10 = .ok (.ireturn, 1) := by decide +kernel
theorem dL_hash_11 : decode mL_hash.2.1 11 = .ok (.astore_n 2, 1) := by decide +kernel
theorem dL_hash_12 : decode mL_hash.2.1 12 = .ok (.iconst 2, 1) := by decide +kernel
theorem dL_hash_13 : decode mL_hash.2.1 13 = .ok (.ireturn, 1) := by decide +kernel
theorem dL_hash_14 : decode mL_hash.2.1 14 = .ok (.iconst 0, 1) := by decide +kernel
theorem dL_hash_15 : decode mL_hash.2.1 15 = .ok (.ireturn, 1) := by decide +kernel
theorem dL_seal_0 : decode mL_seal.2.1 0 = .ok (.aload_n 2, 1) := by decide +kernel
theorem dL_seal_1 : decode mL_seal.2.1 1 = .ok (.iconst 0, 1) := by decide +kernel
theorem dL_seal_2 : decode mL_seal.2.1 2 = .ok (.aload_n 0, 1) := by decide +kernel
theorem dL_seal_3 : decode mL_seal.2.1 3 = .ok (.iload_n 1, 1) := by decide +kernel
theorem dL_seal_4 : decode mL_seal.2.1 4 = .ok (.invokevirtual 37, 3) := by decide +kernel
theorem dL_seal_7 : decode mL_seal.2.1 7 = .ok (.i2l, 1) := by decide +kernel
theorem dL_seal_8 : decode mL_seal.2.1 8 = .ok (.lastore, 1) := by decide +kernel
theorem dL_seal_9 : decode mL_seal.2.1 9 = .ok (.goto 9, 3) := by decide +kernel
theorem dL_seal_12 : decode mL_seal.2.1 12 = .ok (.astore_n 3, 1) := by decide +kernel
theorem dL_seal_13 : decode mL_seal.2.1 13 = .ok (.iconst 1, 1) := by decide +kernel
theorem dL_seal_14 : decode mL_seal.2.1 14 = .ok (.ireturn, 1) := by decide +kernel
theorem dL_seal_15 : decode mL_seal.2.1 15 = .ok (.astore_n 3, 1) := by decide +kernel
theorem dL_seal_16 : decode mL_seal.2.1 16 = .ok (.iconst 2, 1) := by decide +kernel
theorem dL_seal_17 : decode mL_seal.2.1 17 = .ok (.ireturn, 1) := by decide +kernel
theorem dL_seal_18 : decode mL_seal.2.1 18 = .ok (.iconst 0, 1) := by decide +kernel
theorem dL_seal_19 : decode mL_seal.2.1 19 = .ok (.ireturn, 1) := by decide +kernel
theorem dL_open_0 : decode mL_open.2.1 0 = .ok (.aload_n 2, 1) := by decide +kernel
theorem dL_open_1 : decode mL_open.2.1 1 = .ok (.iconst 0, 1) := by decide +kernel
theorem dL_open_2 : decode mL_open.2.1 2 = .ok (.aload_n 0, 1) := by decide +kernel
theorem dL_open_3 : decode mL_open.2.1 3 = .ok (.iload_n 1, 1) := by decide +kernel
theorem dL_open_4 : decode mL_open.2.1 4 = .ok (.invokevirtual 40, 3) := by decide +kernel
theorem dL_open_7 : decode mL_open.2.1 7 = .ok (.i2l, 1) := by decide +kernel
theorem dL_open_8 : decode mL_open.2.1 8 = .ok (.lastore, 1) := by decide +kernel
theorem dL_open_9 : decode mL_open.2.1 9 = .ok (.goto 12, 3) := by decide +kernel
theorem dL_open_12 : decode mL_open.2.1 12 = .ok (.astore_n 3, 1) := by decide +kernel
theorem dL_open_13 : decode mL_open.2.1 13 = .ok (.iconst 1, 1) := by decide +kernel
theorem dL_open_14 : decode mL_open.2.1 14 = .ok (.ireturn, 1) := by decide +kernel
theorem dL_open_15 : decode mL_open.2.1 15 = .ok (.astore_n 3, 1) := by decide +kernel
theorem dL_open_16 : decode mL_open.2.1 16 = .ok (.iconst 2, 1) := by decide +kernel
theorem dL_open_17 : decode mL_open.2.1 17 = .ok (.ireturn, 1) := by decide +kernel
theorem dL_open_18 : decode mL_open.2.1 18 = .ok (.astore_n 3, 1) := by decide +kernel
theorem dL_open_19 : decode mL_open.2.1 19 = .ok (.iconst 3, 1) := by decide +kernel
theorem dL_open_20 : decode mL_open.2.1 20 = .ok (.ireturn, 1) := by decide +kernel
theorem dL_open_21 : decode mL_open.2.1 21 = .ok (.iconst 0, 1) := by decide +kernel
theorem dL_open_22 : decode mL_open.2.1 22 = .ok (.ireturn, 1) := by decide +kernel
theorem dL_at_0 : decode mL_at.2.1 0 = .ok (.aload_n 2, 1) := by decide +kernel
theorem dL_at_1 : decode mL_at.2.1 1 = .ok (.iconst 0, 1) := by decide +kernel
theorem dL_at_2 : decode mL_at.2.1 2 = .ok (.aload_n 0, 1) := by decide +kernel
theorem dL_at_3 : decode mL_at.2.1 3 = .ok (.iload_n 1, 1) := by decide +kernel
theorem dL_at_4 : decode mL_at.2.1 4 = .ok (.invokevirtual 45, 3) := by decide +kernel
theorem dL_at_7 : decode mL_at.2.1 7 = .ok (.i2l, 1) := by decide +kernel
theorem dL_at_8 : decode mL_at.2.1 8 = .ok (.lastore, 1) := by decide +kernel
theorem dL_at_9 : decode mL_at.2.1 9 = .ok (.goto 6, 3) := by decide +kernel
theorem dL_at_12 : decode mL_at.2.1 12 = .ok (.astore_n 3, 1) := by decide +kernel
theorem dL_at_13 : decode mL_at.2.1 13 = .ok (.iconst 1, 1) := by decide +kernel
theorem dL_at_14 : decode mL_at.2.1 14 = .ok (.ireturn, 1) := by decide +kernel
theorem dL_at_15 : decode mL_at.2.1 15 = .ok (.iconst 0, 1) := by decide +kernel
theorem dL_at_16 : decode mL_at.2.1 16 = .ok (.ireturn, 1) := by decide +kernel
theorem wxL_13 : Cond.classLink "TwoSealsLaw" 13 "java/lang/IllegalArgumentException" ∈ z_TB := z_in1 (i := 224) rfl (by decide +kernel)
theorem wxL_15 : Cond.classLink "TwoSealsLaw" 15 "java/lang/IllegalStateException" ∈ z_TB := z_in1 (i := 225) rfl (by decide +kernel)
theorem wxL_25 : Cond.classLink "TwoSealsLaw" 25 "java/lang/IndexOutOfBoundsException" ∈ z_TB := z_in2 (i := 97) rfl (by decide +kernel)
theorem wxL_43 : Cond.classLink "TwoSealsLaw" 43 "java/lang/UnsupportedOperationException" ∈ z_TB := z_in3 (i := 92) rfl (by decide +kernel)
def hhL_type : List (Nat × Nat × Nat × Nat) := [(0, 13, 16, 13), (0, 13, 20, 15)]
theorem whL_type : Cond.codeWith mL_type.1 mL_type.2.1 mL_type.2.2.1 mL_type.2.2.2 hhL_type ∈ z_TB := z_in1 (i := 223) rfl (by decide +kernel)
theorem zc_L_7 : z_cwV "TwoSealsLaw" 7 mS_type 3 := ⟨wcmS_type, wn_S, wl_L_7, wi_S_type, wv_S_S_type, by decide, by decide, by decide +kernel⟩
theorem zct_type_0 : z_ct "TwoSealsLaw" hhL_type 8 0 16 := ⟨"java/lang/IllegalArgumentException", [], (0, 13, 16, 13), [(0, 13, 20, 15)], rfl, rfl, fun _ h => absurd h List.not_mem_nil, by decide, by decide, wxL_13, rfl⟩
theorem zct_type_1 : z_ct "TwoSealsLaw" hhL_type 8 1 20 := ⟨"java/lang/IllegalStateException", [(0, 13, 16, 13)], (0, 13, 20, 15), [], rfl, rfl, List.forall_mem_cons.mpr ⟨⟨by decide, _, wxL_13, by decide⟩, fun _ h => absurd h List.not_mem_nil⟩, by decide, by decide, wxL_15, rfl⟩
def hhL_clear : List (Nat × Nat × Nat × Nat) := [(0, 9, 12, 13)]
theorem whL_clear : Cond.codeWith mL_clear.1 mL_clear.2.1 mL_clear.2.2.1 mL_clear.2.2.2 hhL_clear ∈ z_TB := z_in2 (i := 89) rfl (by decide +kernel)
theorem zc_L_17 : z_cwV "TwoSealsLaw" 17 mS_clear 1 := ⟨wcmS_clear, wn_S, wl_L_17, wi_S_clear, wv_S_S_clear, by decide, by decide, by decide +kernel⟩
theorem zct_clear_0 : z_ct "TwoSealsLaw" hhL_clear 4 0 12 := ⟨"java/lang/IllegalArgumentException", [], (0, 9, 12, 13), [], rfl, rfl, fun _ h => absurd h List.not_mem_nil, by decide, by decide, wxL_13, rfl⟩
def hhL_poke : List (Nat × Nat × Nat × Nat) := [(0, 7, 10, 13), (0, 7, 14, 25)]
theorem whL_poke : Cond.codeWith mL_poke.1 mL_poke.2.1 mL_poke.2.2.1 mL_poke.2.2.2 hhL_poke ∈ z_TB := z_in2 (i := 96) rfl (by decide +kernel)
theorem zc_L_21 : z_cwV "TwoSealsLaw" 21 mS_poke 3 := ⟨wcmS_poke, wn_S, wl_L_21, wi_S_poke, wv_S_S_poke, by decide, by decide, by decide +kernel⟩
theorem zct_poke_0 : z_ct "TwoSealsLaw" hhL_poke 4 0 10 := ⟨"java/lang/IllegalArgumentException", [], (0, 7, 10, 13), [(0, 7, 14, 25)], rfl, rfl, fun _ h => absurd h List.not_mem_nil, by decide, by decide, wxL_13, rfl⟩
theorem zct_poke_2 : z_ct "TwoSealsLaw" hhL_poke 4 2 14 := ⟨"java/lang/IndexOutOfBoundsException", [(0, 7, 10, 13)], (0, 7, 14, 25), [], rfl, rfl, List.forall_mem_cons.mpr ⟨⟨by decide, _, wxL_13, by decide⟩, fun _ h => absurd h List.not_mem_nil⟩, by decide, by decide, wxL_25, rfl⟩
def hhL_take : List (Nat × Nat × Nat × Nat) := [(0, 9, 12, 13), (0, 9, 15, 15)]
theorem whL_take : Cond.codeWith mL_take.1 mL_take.2.1 mL_take.2.2.1 mL_take.2.2.2 hhL_take ∈ z_TB := z_in2 (i := 125) rfl (by decide +kernel)
theorem zc_L_27 : z_cwV "TwoSealsLaw" 27 mS_take 1 := ⟨wcmS_take, wn_S, wl_L_27, wi_S_take, wv_S_S_take, by decide, by decide, by decide +kernel⟩
theorem zct_take_0 : z_ct "TwoSealsLaw" hhL_take 4 0 12 := ⟨"java/lang/IllegalArgumentException", [], (0, 9, 12, 13), [(0, 9, 15, 15)], rfl, rfl, fun _ h => absurd h List.not_mem_nil, by decide, by decide, wxL_13, rfl⟩
theorem zct_take_1 : z_ct "TwoSealsLaw" hhL_take 4 1 15 := ⟨"java/lang/IllegalStateException", [(0, 9, 12, 13)], (0, 9, 15, 15), [], rfl, rfl, List.forall_mem_cons.mpr ⟨⟨by decide, _, wxL_13, by decide⟩, fun _ h => absurd h List.not_mem_nil⟩, by decide, by decide, wxL_15, rfl⟩
def hhL_block : List (Nat × Nat × Nat × Nat) := [(0, 4, 7, 15)]
theorem whL_block : Cond.codeWith mL_block.1 mL_block.2.1 mL_block.2.2.1 mL_block.2.2.2 hhL_block ∈ z_TB := z_in2 (i := 140) rfl (by decide +kernel)
theorem zc_L_30 : z_cwV "TwoSealsLaw" 30 mS_block 0 := ⟨wcmS_block, wn_S, wl_L_30, wi_S_block, wv_S_S_block, by decide, by decide, by decide +kernel⟩
theorem zct_block_1 : z_ct "TwoSealsLaw" hhL_block 1 1 7 := ⟨"java/lang/IllegalStateException", [], (0, 4, 7, 15), [], rfl, rfl, fun _ h => absurd h List.not_mem_nil, by decide, by decide, wxL_15, rfl⟩
def hhL_hash : List (Nat × Nat × Nat × Nat) := [(0, 5, 8, 13), (0, 5, 11, 15)]
theorem whL_hash : Cond.codeWith mL_hash.1 mL_hash.2.1 mL_hash.2.2.1 mL_hash.2.2.2 hhL_hash ∈ z_TB := z_in2 (i := 177) rfl (by decide +kernel)
theorem zc_L_33 : z_cwV "TwoSealsLaw" 33 mS_hash 1 := ⟨wcmS_hash, wn_S, wl_L_33, wi_S_hash, wv_S_S_hash, by decide, by decide, by decide +kernel⟩
theorem zct_hash_0 : z_ct "TwoSealsLaw" hhL_hash 2 0 8 := ⟨"java/lang/IllegalArgumentException", [], (0, 5, 8, 13), [(0, 5, 11, 15)], rfl, rfl, fun _ h => absurd h List.not_mem_nil, by decide, by decide, wxL_13, rfl⟩
theorem zct_hash_1 : z_ct "TwoSealsLaw" hhL_hash 2 1 11 := ⟨"java/lang/IllegalStateException", [(0, 5, 8, 13)], (0, 5, 11, 15), [], rfl, rfl, List.forall_mem_cons.mpr ⟨⟨by decide, _, wxL_13, by decide⟩, fun _ h => absurd h List.not_mem_nil⟩, by decide, by decide, wxL_15, rfl⟩
def hhL_seal : List (Nat × Nat × Nat × Nat) := [(0, 9, 12, 13), (0, 9, 15, 15)]
theorem whL_seal : Cond.codeWith mL_seal.1 mL_seal.2.1 mL_seal.2.2.1 mL_seal.2.2.2 hhL_seal ∈ z_TB := z_in2 (i := 218) rfl (by decide +kernel)
theorem zc_L_37 : z_cwV "TwoSealsLaw" 37 mS_seal 1 := ⟨wcmS_seal, wn_S, wl_L_37, wi_S_seal, wv_S_S_seal, by decide, by decide, by decide +kernel⟩
theorem zct_seal_0 : z_ct "TwoSealsLaw" hhL_seal 4 0 12 := ⟨"java/lang/IllegalArgumentException", [], (0, 9, 12, 13), [(0, 9, 15, 15)], rfl, rfl, fun _ h => absurd h List.not_mem_nil, by decide, by decide, wxL_13, rfl⟩
theorem zct_seal_1 : z_ct "TwoSealsLaw" hhL_seal 4 1 15 := ⟨"java/lang/IllegalStateException", [(0, 9, 12, 13)], (0, 9, 15, 15), [], rfl, rfl, List.forall_mem_cons.mpr ⟨⟨by decide, _, wxL_13, by decide⟩, fun _ h => absurd h List.not_mem_nil⟩, by decide, by decide, wxL_15, rfl⟩
def hhL_open : List (Nat × Nat × Nat × Nat) := [(0, 9, 12, 13), (0, 9, 15, 15), (0, 9, 18, 43)]
theorem whL_open : Cond.codeWith mL_open.1 mL_open.2.1 mL_open.2.2.1 mL_open.2.2.2 hhL_open ∈ z_TB := z_in3 (i := 91) rfl (by decide +kernel)
theorem zc_L_40 : z_cwV "TwoSealsLaw" 40 mS_open 1 := ⟨wcmS_open, wn_S, wl_L_40, wi_S_open, wv_S_S_open, by decide, by decide, by decide +kernel⟩
theorem zct_open_0 : z_ct "TwoSealsLaw" hhL_open 4 0 12 := ⟨"java/lang/IllegalArgumentException", [], (0, 9, 12, 13), [(0, 9, 15, 15), (0, 9, 18, 43)], rfl, rfl, fun _ h => absurd h List.not_mem_nil, by decide, by decide, wxL_13, rfl⟩
theorem zct_open_1 : z_ct "TwoSealsLaw" hhL_open 4 1 15 := ⟨"java/lang/IllegalStateException", [(0, 9, 12, 13)], (0, 9, 15, 15), [(0, 9, 18, 43)], rfl, rfl, List.forall_mem_cons.mpr ⟨⟨by decide, _, wxL_13, by decide⟩, fun _ h => absurd h List.not_mem_nil⟩, by decide, by decide, wxL_15, rfl⟩
theorem zct_open_3 : z_ct "TwoSealsLaw" hhL_open 4 3 18 := ⟨"java/lang/UnsupportedOperationException", [(0, 9, 12, 13), (0, 9, 15, 15)], (0, 9, 18, 43), [], rfl, rfl, List.forall_mem_cons.mpr ⟨⟨by decide, _, wxL_13, by decide⟩, List.forall_mem_cons.mpr ⟨⟨by decide, _, wxL_15, by decide⟩, fun _ h => absurd h List.not_mem_nil⟩⟩, by decide, by decide, wxL_43, rfl⟩
def hhL_at : List (Nat × Nat × Nat × Nat) := [(0, 9, 12, 25)]
theorem whL_at : Cond.codeWith mL_at.1 mL_at.2.1 mL_at.2.2.1 mL_at.2.2.2 hhL_at ∈ z_TB := z_in3 (i := 134) rfl (by decide +kernel)
theorem zc_L_45 : z_cwV "TwoSealsLaw" 45 mS_at 1 := ⟨wcmS_at, wn_S, wl_L_45, wi_S_at, wv_S_S_at, by decide, by decide, by decide +kernel⟩
theorem zct_at_2 : z_ct "TwoSealsLaw" hhL_at 4 2 12 := ⟨"java/lang/IndexOutOfBoundsException", [], (0, 9, 12, 25), [], rfl, rfl, fun _ h => absurd h List.not_mem_nil, by decide, by decide, wxL_25, rfl⟩
def z_rw : Room := ⟨8, 3, 18, 280⟩
def zWP (A B : z_A) (n : Nat → Nat) (R : Nat → Nat → Nat) (m : Nat) (X : Nat → Nat) : z_A → z_A → Prop := fun A' B' => (∀ q, 39 ≤ q → A' q = A q) ∧ (∀ q, 39 ≤ q → q ≠ 54 → B' q = B q) ∧ zCS A' B' ∧ zCR A' n R m X
theorem zCS.mvB {A B B' : z_A} (h : zCS A B) (h20 : B' 20 = B 20) (h22 : B' 22 = B 22) : zCS A B' := by
  obtain ⟨h1, h2, h3, h4, h5, h6⟩ := h
  refine ⟨h1, h2, ?_, ?_, ?_, ?_⟩
  · unfold z_hw at h3 ⊢; rw [h20]; exact h3
  · unfold z_hw at h4 ⊢; rw [h22]; exact h4
  · unfold z_hk at h5 ⊢; rw [h20]; exact h5
  · unfold z_hk at h6 ⊢; rw [h22]; exact h6
section
variable {l : Launch} {g : z_G} {ad : Nat → Nat} {A B : z_A} {n : Nat → Nat} {R : Nat → Nat → Nat} {m : Nat} {X : Nat → Nat}
theorem w_type1a (hst : l.stackTraces = false) {x y : Int32} {v : Nat} (hx : x < 0 ∨ nI 4 ≤ x) (hcs : zCS A B) (hs : zCR A n R m X) (hv : zVS n R m X) : z_WMet l g ad mL_type hhL_type z_rw [.ref (ad 0), .int x, .long (lN v), .int y, .ref (ad 54)] A B (z_an 1 (zWP A B n R m X)) := by
  refine z_WMet.of (L := [(0, _), (1, _), (2, _), (4, _), (5, _)]) (by decide) (Nat.le_of_ble_eq_true rfl) z_fit_an rfl ?_
  intro Ex hEx
  refine z_aload (pc := 0) dL_type_0 rfl ?_
  refine z_iconst (pc := 2) dL_type_2 zi_0 ?_
  refine z_aload_n (pc := 3) dL_type_3 rfl rfl ?_
  refine z_iload_n (pc := 4) dL_type_4 rfl rfl ?_
  refine z_lload_n (pc := 5) dL_type_5 rfl rfl ?_
  refine z_iload (pc := 6) dL_type_6 rfl ?_
  refine z_callC (pc := 8) (c_type1a hst hx) (by decide) zo_0 rfl zc_L_7 rfl rfl (Nat.le_of_ble_eq_true rfl) (by decide) dL_type_8 whL_type (fun x9 A9 B9 h9 => ?_) (fun r A' B' hn9 hE => ?_)
  · obtain ⟨h1, rfl, rfl⟩ := h9
    cases h1
    refine ⟨16, zct_type_0, fun q => ?_⟩
    refine z_astore (L' := [(6, _), (0, _), (1, _), (2, _), (4, _), (5, _)]) (pc := 16) dL_type_16 (by decide) rfl ?_
    refine z_iconst (pc := 18) dL_type_18 zi_1 ?_
    exact z_reti (pc := 19) dL_type_19 (hEx _ _ _ (⟨rfl, fun _ _ => rfl, fun _ _ _ => rfl, hcs, hs⟩))
  · exact absurd hE.1.symm (hn9 _)
theorem w_type1b (hst : l.stackTraces = false) {r v : Nat} {y : Int32} (hr : r < 4) (hy : y < nI 1 ∨ nI 8 < y) (hcs : zCS A B) (hs : zCR A n R m X) (hv : zVS n R m X) : z_WMet l g ad mL_type hhL_type z_rw [.ref (ad 0), .int (nI r), .long (lN v), .int y, .ref (ad 54)] A B (z_an 1 (zWP A B n R m X)) := by
  refine z_WMet.of (L := [(0, _), (1, _), (2, _), (4, _), (5, _)]) (by decide) (Nat.le_of_ble_eq_true rfl) z_fit_an rfl ?_
  intro Ex hEx
  refine z_aload (pc := 0) dL_type_0 rfl ?_
  refine z_iconst (pc := 2) dL_type_2 zi_0 ?_
  refine z_aload_n (pc := 3) dL_type_3 rfl rfl ?_
  refine z_iload_n (pc := 4) dL_type_4 rfl rfl ?_
  refine z_lload_n (pc := 5) dL_type_5 rfl rfl ?_
  refine z_iload (pc := 6) dL_type_6 rfl ?_
  refine z_callC (pc := 8) (c_type1b hst hr hy) (by decide) zo_0 rfl zc_L_7 rfl rfl (Nat.le_of_ble_eq_true rfl) (by decide) dL_type_8 whL_type (fun x9 A9 B9 h9 => ?_) (fun r A' B' hn9 hE => ?_)
  · obtain ⟨h1, rfl, rfl⟩ := h9
    cases h1
    refine ⟨16, zct_type_0, fun q => ?_⟩
    refine z_astore (L' := [(6, _), (0, _), (1, _), (2, _), (4, _), (5, _)]) (pc := 16) dL_type_16 (by decide) rfl ?_
    refine z_iconst (pc := 18) dL_type_18 zi_1 ?_
    exact z_reti (pc := 19) dL_type_19 (hEx _ _ _ (⟨rfl, fun _ _ => rfl, fun _ _ _ => rfl, hcs, hs⟩))
  · exact absurd hE.1.symm (hn9 _)
theorem w_type2 (hst : l.stackTraces = false) {r v k : Nat} (hr : r < 4) (hk1 : 1 ≤ k) (hk8 : k ≤ 8) (hn : zmost r < n r + k) (hcs : zCS A B) (hs : zCR A n R m X) (hv : zVS n R m X) : z_WMet l g ad mL_type hhL_type z_rw [.ref (ad 0), .int (nI r), .long (lN v), .int (nI k), .ref (ad 54)] A B (z_an 2 (zWP A B n R m X)) := by
  refine z_WMet.of (L := [(0, _), (1, _), (2, _), (4, _), (5, _)]) (by decide) (Nat.le_of_ble_eq_true rfl) z_fit_an rfl ?_
  intro Ex hEx
  refine z_aload (pc := 0) dL_type_0 rfl ?_
  refine z_iconst (pc := 2) dL_type_2 zi_0 ?_
  refine z_aload_n (pc := 3) dL_type_3 rfl rfl ?_
  refine z_iload_n (pc := 4) dL_type_4 rfl rfl ?_
  refine z_lload_n (pc := 5) dL_type_5 rfl rfl ?_
  refine z_iload (pc := 6) dL_type_6 rfl ?_
  refine z_callC (pc := 8) (c_type2 hst hr hk1 hk8 hn hcs hs hv) (by decide) zo_0 rfl zc_L_7 rfl rfl (Nat.le_of_ble_eq_true rfl) (by decide) dL_type_8 whL_type (fun x9 A9 B9 h9 => ?_) (fun r A' B' hn9 hE => ?_)
  · obtain ⟨h1, rfl, rfl⟩ := h9
    cases h1
    refine ⟨20, zct_type_1, fun q => ?_⟩
    refine z_astore (L' := [(6, _), (0, _), (1, _), (2, _), (4, _), (5, _)]) (pc := 20) dL_type_20 (by decide) rfl ?_
    refine z_iconst (pc := 22) dL_type_22 zi_2 ?_
    exact z_reti (pc := 23) dL_type_23 (hEx _ _ _ (⟨rfl, fun _ _ => rfl, fun _ _ _ => rfl, hcs, hs⟩))
  · exact absurd hE.1.symm (hn9 _)
theorem w_type0 (hst : l.stackTraces = false) {r v k : Nat} (hr : r < 4) (hk1 : 1 ≤ k) (hk8 : k ≤ 8) (hn : n r + k ≤ zmost r) (hvl : v < 2 ^ 64) (hcs : zCS A B) (hs : zCR A n R m X) (hv : zVS n R m X) : z_WMet l g ad mL_type hhL_type z_rw [.ref (ad 0), .int (nI r), .long (lN v), .int (nI k), .ref (ad 54)] A B (z_an 0 (fun A' B' => zWP A B (va_up n r (n r + k)) (va_up R r (fun j => if j < n r then R r j else zty v k (j - n r))) m X A' B' ∧ B' 54 0 = n r + k)) := by
  refine z_WMet.of (L := [(0, _), (1, _), (2, _), (4, _), (5, _)]) (by decide) (Nat.le_of_ble_eq_true rfl) z_fit_an rfl ?_
  intro Ex hEx
  refine z_aload (pc := 0) dL_type_0 rfl ?_
  refine z_iconst (pc := 2) dL_type_2 zi_0 ?_
  refine z_aload_n (pc := 3) dL_type_3 rfl rfl ?_
  refine z_iload_n (pc := 4) dL_type_4 rfl rfl ?_
  refine z_lload_n (pc := 5) dL_type_5 rfl rfl ?_
  refine z_iload (pc := 6) dL_type_6 rfl ?_
  refine z_callC (pc := 8) (c_type0 hst hr hk1 hk8 hn hvl hcs hs hv) (by decide) zo_0 rfl zc_L_7 rfl rfl (Nat.le_of_ble_eq_true rfl) (by decide) dL_type_8 whL_type (fun x9 A9 B9 h9 => by cases h9.1) (fun r A' B' hn9 hE => ?_)
  obtain ⟨rfl, f1, f2, cs, cr⟩ := hE
  refine z_r1 ?_
  refine z_i2l (pc := 11) dL_type_11 (by have := zmost_le r; omega) ?_
  refine z_lastore (pc := 12) (k := 54) (by decide) rfl (by decide) (by decide) dL_type_12 ?_
  refine z_goto (pc := 13) (tgt := 24) dL_type_13 rfl ?_
  refine z_iconst (pc := 24) dL_type_24 zi_0 ?_
  exact z_reti (pc := 25) dL_type_25 (hEx _ _ _ (⟨rfl, ⟨f1, fun q hq h54 => by rw [z_set_ne h54]; exact f2 q hq, cs.mvB (z_set_ne (by decide)) (z_set_ne (by decide)), cr⟩, z_set_at⟩))
theorem w_clear0 (hst : l.stackTraces = false) {x : Int32} (hx : x < 0 ∨ nI 4 ≤ x) (hcs : zCS A B) (hs : zCR A n R m X) (hv : zVS n R m X) : z_WMet l g ad mL_clear hhL_clear z_rw [.ref (ad 0), .int x, .ref (ad 54)] A B (z_an 1 (zWP A B n R m X)) := by
  refine z_WMet.of (L := [(0, _), (1, _), (2, _)]) (by decide) (Nat.le_of_ble_eq_true rfl) z_fit_an rfl ?_
  intro Ex hEx
  refine z_aload_n (pc := 0) dL_clear_0 rfl rfl ?_
  refine z_iconst (pc := 1) dL_clear_1 zi_0 ?_
  refine z_aload_n (pc := 2) dL_clear_2 rfl rfl ?_
  refine z_iload_n (pc := 3) dL_clear_3 rfl rfl ?_
  refine z_callC (pc := 4) (c_clear0 hst hx) (by decide) zo_0 rfl zc_L_17 rfl rfl (Nat.le_of_ble_eq_true rfl) (by decide) dL_clear_4 whL_clear (fun x9 A9 B9 h9 => ?_) (fun r A' B' hn9 hE => ?_)
  · obtain ⟨h1, rfl, rfl⟩ := h9
    cases h1
    refine ⟨12, zct_clear_0, fun q => ?_⟩
    refine z_astore_n (L' := [(3, _), (0, _), (1, _), (2, _)]) (pc := 12) dL_clear_12 rfl (by decide) rfl ?_
    refine z_iconst (pc := 13) dL_clear_13 zi_1 ?_
    exact z_reti (pc := 14) dL_clear_14 (hEx _ _ _ (⟨rfl, fun _ _ => rfl, fun _ _ _ => rfl, hcs, hs⟩))
  · exact absurd hE.1.symm (hn9 _)
theorem w_clear1 (hst : l.stackTraces = false) {r : Nat} (hr : r < 4) (hcs : zCS A B) (hs : zCR A n R m X) (hv : zVS n R m X) : z_WMet l g ad mL_clear hhL_clear z_rw [.ref (ad 0), .int (nI r), .ref (ad 54)] A B (z_an 0 (fun A' B' => zWP A B (va_up n r 0) R m X A' B' ∧ B' 54 0 = n r)) := by
  refine z_WMet.of (L := [(0, _), (1, _), (2, _)]) (by decide) (Nat.le_of_ble_eq_true rfl) z_fit_an rfl ?_
  intro Ex hEx
  refine z_aload_n (pc := 0) dL_clear_0 rfl rfl ?_
  refine z_iconst (pc := 1) dL_clear_1 zi_0 ?_
  refine z_aload_n (pc := 2) dL_clear_2 rfl rfl ?_
  refine z_iload_n (pc := 3) dL_clear_3 rfl rfl ?_
  refine z_callC (pc := 4) (c_clear1 hst hr hcs hs hv) (by decide) zo_0 rfl zc_L_17 rfl rfl (Nat.le_of_ble_eq_true rfl) (by decide) dL_clear_4 whL_clear (fun x9 A9 B9 h9 => by cases h9.1) (fun r A' B' hn9 hE => ?_)
  obtain ⟨rfl, f1, f2, cs, cr⟩ := hE
  refine z_r1 ?_
  refine z_i2l (pc := 7) dL_clear_7 (by have := (hv.1 r hr).1; have := zmost_le r; omega) ?_
  refine z_lastore (pc := 8) (k := 54) (by decide) rfl (by decide) (by decide) dL_clear_8 ?_
  refine z_goto (pc := 9) (tgt := 15) dL_clear_9 rfl ?_
  refine z_iconst (pc := 15) dL_clear_15 zi_0 ?_
  exact z_reti (pc := 16) dL_clear_16 (hEx _ _ _ (⟨rfl, ⟨f1, fun q hq h54 => by rw [z_set_ne h54]; exact f2 q hq, cs.mvB (z_set_ne (by decide)) (z_set_ne (by decide)), cr⟩, z_set_at⟩))
theorem w_poke1a (hst : l.stackTraces = false) {x y v : Int32} (hx : x < 0 ∨ nI 4 ≤ x) (hcs : zCS A B) (hs : zCR A n R m X) (hv : zVS n R m X) : z_WMet l g ad mL_poke hhL_poke z_rw [.ref (ad 0), .int x, .int y, .int v] A B (z_an 1 (zWP A B n R m X)) := by
  refine z_WMet.of (L := [(0, _), (1, _), (2, _), (3, _)]) (by decide) (Nat.le_of_ble_eq_true rfl) z_fit_an rfl ?_
  intro Ex hEx
  refine z_aload_n (pc := 0) dL_poke_0 rfl rfl ?_
  refine z_iload_n (pc := 1) dL_poke_1 rfl rfl ?_
  refine z_iload_n (pc := 2) dL_poke_2 rfl rfl ?_
  refine z_iload_n (pc := 3) dL_poke_3 rfl rfl ?_
  refine z_callC (pc := 4) (c_poke1a hst hx) (by decide) zo_0 rfl zc_L_21 rfl rfl (Nat.le_of_ble_eq_true rfl) (by decide) dL_poke_4 whL_poke (fun x9 A9 B9 h9 => ?_) (fun r A' B' hn9 hE => ?_)
  · obtain ⟨h1, rfl, rfl⟩ := h9
    cases h1
    refine ⟨10, zct_poke_0, fun q => ?_⟩
    refine z_astore (L' := [(4, _), (0, _), (1, _), (2, _), (3, _)]) (pc := 10) dL_poke_10 (by decide) rfl ?_
    refine z_iconst (pc := 12) dL_poke_12 zi_1 ?_
    exact z_reti (pc := 13) dL_poke_13 (hEx _ _ _ (⟨rfl, fun _ _ => rfl, fun _ _ _ => rfl, hcs, hs⟩))
  · exact absurd hE.1.symm (hn9 _)
theorem w_poke1b (hst : l.stackTraces = false) {r : Nat} {y v : Int32} (hr : r < 4) (hx : v < 0 ∨ nI 255 < v) (hcs : zCS A B) (hs : zCR A n R m X) (hv : zVS n R m X) : z_WMet l g ad mL_poke hhL_poke z_rw [.ref (ad 0), .int (nI r), .int y, .int v] A B (z_an 1 (zWP A B n R m X)) := by
  refine z_WMet.of (L := [(0, _), (1, _), (2, _), (3, _)]) (by decide) (Nat.le_of_ble_eq_true rfl) z_fit_an rfl ?_
  intro Ex hEx
  refine z_aload_n (pc := 0) dL_poke_0 rfl rfl ?_
  refine z_iload_n (pc := 1) dL_poke_1 rfl rfl ?_
  refine z_iload_n (pc := 2) dL_poke_2 rfl rfl ?_
  refine z_iload_n (pc := 3) dL_poke_3 rfl rfl ?_
  refine z_callC (pc := 4) (c_poke1b hst hr hx) (by decide) zo_0 rfl zc_L_21 rfl rfl (Nat.le_of_ble_eq_true rfl) (by decide) dL_poke_4 whL_poke (fun x9 A9 B9 h9 => ?_) (fun r A' B' hn9 hE => ?_)
  · obtain ⟨h1, rfl, rfl⟩ := h9
    cases h1
    refine ⟨10, zct_poke_0, fun q => ?_⟩
    refine z_astore (L' := [(4, _), (0, _), (1, _), (2, _), (3, _)]) (pc := 10) dL_poke_10 (by decide) rfl ?_
    refine z_iconst (pc := 12) dL_poke_12 zi_1 ?_
    exact z_reti (pc := 13) dL_poke_13 (hEx _ _ _ (⟨rfl, fun _ _ => rfl, fun _ _ _ => rfl, hcs, hs⟩))
  · exact absurd hE.1.symm (hn9 _)
theorem w_poke2 (hst : l.stackTraces = false) {r v : Nat} {y : Int32} (hr : r < 4) (hv2 : v ≤ 255) (hy : y < 0 ∨ nI (n r) ≤ y) (hcs : zCS A B) (hs : zCR A n R m X) (hv : zVS n R m X) : z_WMet l g ad mL_poke hhL_poke z_rw [.ref (ad 0), .int (nI r), .int y, .int (nI v)] A B (z_an 2 (zWP A B n R m X)) := by
  refine z_WMet.of (L := [(0, _), (1, _), (2, _), (3, _)]) (by decide) (Nat.le_of_ble_eq_true rfl) z_fit_an rfl ?_
  intro Ex hEx
  refine z_aload_n (pc := 0) dL_poke_0 rfl rfl ?_
  refine z_iload_n (pc := 1) dL_poke_1 rfl rfl ?_
  refine z_iload_n (pc := 2) dL_poke_2 rfl rfl ?_
  refine z_iload_n (pc := 3) dL_poke_3 rfl rfl ?_
  refine z_callC (pc := 4) (c_poke2 hst hr hv2 hy hcs hs hv) (by decide) zo_0 rfl zc_L_21 rfl rfl (Nat.le_of_ble_eq_true rfl) (by decide) dL_poke_4 whL_poke (fun x9 A9 B9 h9 => ?_) (fun r A' B' hn9 hE => ?_)
  · obtain ⟨h1, rfl, rfl⟩ := h9
    cases h1
    refine ⟨14, zct_poke_2, fun q => ?_⟩
    refine z_astore (L' := [(4, _), (0, _), (1, _), (2, _), (3, _)]) (pc := 14) dL_poke_14 (by decide) rfl ?_
    refine z_iconst (pc := 16) dL_poke_16 zi_2 ?_
    exact z_reti (pc := 17) dL_poke_17 (hEx _ _ _ (⟨rfl, fun _ _ => rfl, fun _ _ _ => rfl, hcs, hs⟩))
  · exact absurd hE.1.symm (hn9 _)
theorem w_poke0 (hst : l.stackTraces = false) {r i v : Nat} (hr : r < 4) (hv2 : v ≤ 255) (hi : i < n r) (hcs : zCS A B) (hs : zCR A n R m X) (hv : zVS n R m X) : z_WMet l g ad mL_poke hhL_poke z_rw [.ref (ad 0), .int (nI r), .int (nI i), .int (nI v)] A B (z_an 0 (zWP A B n (va_up R r (va_up (R r) i v)) m X)) := by
  refine z_WMet.of (L := [(0, _), (1, _), (2, _), (3, _)]) (by decide) (Nat.le_of_ble_eq_true rfl) z_fit_an rfl ?_
  intro Ex hEx
  refine z_aload_n (pc := 0) dL_poke_0 rfl rfl ?_
  refine z_iload_n (pc := 1) dL_poke_1 rfl rfl ?_
  refine z_iload_n (pc := 2) dL_poke_2 rfl rfl ?_
  refine z_iload_n (pc := 3) dL_poke_3 rfl rfl ?_
  refine z_callC (pc := 4) (c_poke0 hst hr hv2 hi hcs hs hv) (by decide) zo_0 rfl zc_L_21 rfl rfl (Nat.le_of_ble_eq_true rfl) (by decide) dL_poke_4 whL_poke (fun x9 A9 B9 h9 => by cases h9.1) (fun r A' B' hn9 hE => ?_)
  obtain ⟨rfl, f1, f2, cs, cr⟩ := hE
  refine z_r0 ?_
  refine z_goto (pc := 7) (tgt := 18) dL_poke_7 rfl ?_
  refine z_iconst (pc := 18) dL_poke_18 zi_0 ?_
  exact z_reti (pc := 19) dL_poke_19 (hEx _ _ _ (⟨rfl, f1, fun q hq _ => f2 q hq, cs, cr⟩))
theorem w_take1 (hst : l.stackTraces = false) {x : Int32} (hx : x < 0 ∨ nI 4 ≤ x) (hcs : zCS A B) (hs : zCR A n R m X) (hv : zVS n R m X) : z_WMet l g ad mL_take hhL_take z_rw [.ref (ad 0), .int x, .ref (ad 54)] A B (z_an 1 (zWP A B n R m X)) := by
  refine z_WMet.of (L := [(0, _), (1, _), (2, _)]) (by decide) (Nat.le_of_ble_eq_true rfl) z_fit_an rfl ?_
  intro Ex hEx
  refine z_aload_n (pc := 0) dL_take_0 rfl rfl ?_
  refine z_iconst (pc := 1) dL_take_1 zi_0 ?_
  refine z_aload_n (pc := 2) dL_take_2 rfl rfl ?_
  refine z_iload_n (pc := 3) dL_take_3 rfl rfl ?_
  refine z_callC (pc := 4) (c_take1 hst hx) (by decide) zo_0 rfl zc_L_27 rfl rfl (Nat.le_of_ble_eq_true rfl) (by decide) dL_take_4 whL_take (fun x9 A9 B9 h9 => ?_) (fun r A' B' hn9 hE => ?_)
  · obtain ⟨h1, rfl, rfl⟩ := h9
    cases h1
    refine ⟨12, zct_take_0, fun q => ?_⟩
    refine z_astore_n (L' := [(3, _), (0, _), (1, _), (2, _)]) (pc := 12) dL_take_12 rfl (by decide) rfl ?_
    refine z_iconst (pc := 13) dL_take_13 zi_1 ?_
    exact z_reti (pc := 14) dL_take_14 (hEx _ _ _ (⟨rfl, fun _ _ => rfl, fun _ _ _ => rfl, hcs, hs⟩))
  · exact absurd hE.1.symm (hn9 _)
theorem w_take2 (hst : l.stackTraces = false) {r : Nat} (hr : r < 4) (hm : zmost r < m) (hcs : zCS A B) (hs : zCR A n R m X) (hv : zVS n R m X) : z_WMet l g ad mL_take hhL_take z_rw [.ref (ad 0), .int (nI r), .ref (ad 54)] A B (z_an 2 (zWP A B n R m X)) := by
  refine z_WMet.of (L := [(0, _), (1, _), (2, _)]) (by decide) (Nat.le_of_ble_eq_true rfl) z_fit_an rfl ?_
  intro Ex hEx
  refine z_aload_n (pc := 0) dL_take_0 rfl rfl ?_
  refine z_iconst (pc := 1) dL_take_1 zi_0 ?_
  refine z_aload_n (pc := 2) dL_take_2 rfl rfl ?_
  refine z_iload_n (pc := 3) dL_take_3 rfl rfl ?_
  refine z_callC (pc := 4) (c_take2 hst hr hm hcs hs hv) (by decide) zo_0 rfl zc_L_27 rfl rfl (Nat.le_of_ble_eq_true rfl) (by decide) dL_take_4 whL_take (fun x9 A9 B9 h9 => ?_) (fun r A' B' hn9 hE => ?_)
  · obtain ⟨h1, rfl, rfl⟩ := h9
    cases h1
    refine ⟨15, zct_take_1, fun q => ?_⟩
    refine z_astore_n (L' := [(3, _), (0, _), (1, _), (2, _)]) (pc := 15) dL_take_15 rfl (by decide) rfl ?_
    refine z_iconst (pc := 16) dL_take_16 zi_2 ?_
    exact z_reti (pc := 17) dL_take_17 (hEx _ _ _ (⟨rfl, fun _ _ => rfl, fun _ _ _ => rfl, hcs, hs⟩))
  · exact absurd hE.1.symm (hn9 _)
theorem w_take0 (hst : l.stackTraces = false) {r : Nat} (hr : r < 4) (hm : m ≤ zmost r) (hcs : zCS A B) (hs : zCR A n R m X) (hv : zVS n R m X) : z_WMet l g ad mL_take hhL_take z_rw [.ref (ad 0), .int (nI r), .ref (ad 54)] A B (z_an 0 (fun A' B' => zWP A B (va_up n r m) (va_up R r X) m X A' B' ∧ B' 54 0 = m)) := by
  refine z_WMet.of (L := [(0, _), (1, _), (2, _)]) (by decide) (Nat.le_of_ble_eq_true rfl) z_fit_an rfl ?_
  intro Ex hEx
  refine z_aload_n (pc := 0) dL_take_0 rfl rfl ?_
  refine z_iconst (pc := 1) dL_take_1 zi_0 ?_
  refine z_aload_n (pc := 2) dL_take_2 rfl rfl ?_
  refine z_iload_n (pc := 3) dL_take_3 rfl rfl ?_
  refine z_callC (pc := 4) (c_take0 hst hr hm hcs hs hv) (by decide) zo_0 rfl zc_L_27 rfl rfl (Nat.le_of_ble_eq_true rfl) (by decide) dL_take_4 whL_take (fun x9 A9 B9 h9 => by cases h9.1) (fun r A' B' hn9 hE => ?_)
  obtain ⟨rfl, f1, f2, cs, cr⟩ := hE
  refine z_r1 ?_
  refine z_i2l (pc := 7) dL_take_7 (by have := hv.2.1; omega) ?_
  refine z_lastore (pc := 8) (k := 54) (by decide) rfl (by decide) (by decide) dL_take_8 ?_
  refine z_goto (pc := 9) (tgt := 18) dL_take_9 rfl ?_
  refine z_iconst (pc := 18) dL_take_18 zi_0 ?_
  exact z_reti (pc := 19) dL_take_19 (hEx _ _ _ (⟨rfl, ⟨f1, fun q hq h54 => by rw [z_set_ne h54]; exact f2 q hq, cs.mvB (z_set_ne (by decide)) (z_set_ne (by decide)), cr⟩, z_set_at⟩))
theorem w_block1 (hst : l.stackTraces = false)  (hn : n 0 ≠ 16 ∨ n 3 ≠ 16) (hcs : zCS A B) (hs : zCR A n R m X) (hv : zVS n R m X) : z_WMet l g ad mL_block hhL_block z_rw [.ref (ad 0)] A B (z_an 1 (zWP A B n R m X)) := by
  refine z_WMet.of (L := [(0, _)]) (by decide) (Nat.le_of_ble_eq_true rfl) z_fit_an rfl ?_
  intro Ex hEx
  refine z_aload_n (pc := 0) dL_block_0 rfl rfl ?_
  refine z_callC (pc := 1) (c_block1 hst hn hcs hs hv) (by decide) zo_0 rfl zc_L_30 rfl rfl (Nat.le_of_ble_eq_true rfl) (by decide) dL_block_1 whL_block (fun x9 A9 B9 h9 => ?_) (fun r A' B' hn9 hE => ?_)
  · obtain ⟨h1, rfl, rfl⟩ := h9
    cases h1
    refine ⟨7, zct_block_1, fun q => ?_⟩
    refine z_astore_n (L' := [(1, _), (0, _)]) (pc := 7) dL_block_7 rfl (by decide) rfl ?_
    refine z_iconst (pc := 8) dL_block_8 zi_1 ?_
    exact z_reti (pc := 9) dL_block_9 (hEx _ _ _ (⟨rfl, fun _ _ => rfl, fun _ _ _ => rfl, hcs, hs⟩))
  · exact absurd hE.1.symm (hn9 _)
theorem w_block0 (hst : l.stackTraces = false)  (hn0 : n 0 = 16) (hn3 : n 3 = 16) (hcs : zCS A B) (hs : zCR A n R m X) (hv : zVS n R m X) : z_WMet l g ad mL_block hhL_block z_rw [.ref (ad 0)] A B (z_an 0 (zWP A B n R 16 (zE (R 0) (R 3)))) := by
  refine z_WMet.of (L := [(0, _)]) (by decide) (Nat.le_of_ble_eq_true rfl) z_fit_an rfl ?_
  intro Ex hEx
  refine z_aload_n (pc := 0) dL_block_0 rfl rfl ?_
  refine z_callC (pc := 1) (c_block0 hst hn0 hn3 hcs hs hv) (by decide) zo_0 rfl zc_L_30 rfl rfl (Nat.le_of_ble_eq_true rfl) (by decide) dL_block_1 whL_block (fun x9 A9 B9 h9 => by cases h9.1) (fun r A' B' hn9 hE => ?_)
  obtain ⟨rfl, f1, f2, cs, cr⟩ := hE
  refine z_r0 ?_
  refine z_goto (pc := 4) (tgt := 10) dL_block_4 rfl ?_
  refine z_iconst (pc := 10) dL_block_10 zi_0 ?_
  exact z_reti (pc := 11) dL_block_11 (hEx _ _ _ (⟨rfl, f1, fun q hq _ => f2 q hq, cs, cr⟩))
theorem w_hash1 (hst : l.stackTraces = false) {x : Int32} (hx : x < 0 ∨ nI 2 ≤ x) (hcs : zCS A B) (hs : zCR A n R m X) (hv : zVS n R m X) : z_WMet l g ad mL_hash hhL_hash z_rw [.ref (ad 0), .int x] A B (z_an 1 (zWP A B n R m X)) := by
  refine z_WMet.of (L := [(0, _), (1, _)]) (by decide) (Nat.le_of_ble_eq_true rfl) z_fit_an rfl ?_
  intro Ex hEx
  refine z_aload_n (pc := 0) dL_hash_0 rfl rfl ?_
  refine z_iload_n (pc := 1) dL_hash_1 rfl rfl ?_
  refine z_callC (pc := 2) (c_hash1 hst hx) (by decide) zo_0 rfl zc_L_33 rfl rfl (Nat.le_of_ble_eq_true rfl) (by decide) dL_hash_2 whL_hash (fun x9 A9 B9 h9 => ?_) (fun r A' B' hn9 hE => ?_)
  · obtain ⟨h1, rfl, rfl⟩ := h9
    cases h1
    refine ⟨8, zct_hash_0, fun q => ?_⟩
    refine z_astore_n (L' := [(2, _), (0, _), (1, _)]) (pc := 8) dL_hash_8 rfl (by decide) rfl ?_
    refine z_iconst (pc := 9) dL_hash_9 zi_1 ?_
    exact z_reti (pc := 10) dL_hash_10 (hEx _ _ _ (⟨rfl, fun _ _ => rfl, fun _ _ _ => rfl, hcs, hs⟩))
  · exact absurd hE.1.symm (hn9 _)
theorem w_hash2 (hst : l.stackTraces = false) {w : Nat} (hw : w < 2) (hn : n 0 ≠ 16) (hcs : zCS A B) (hs : zCR A n R m X) (hv : zVS n R m X) : z_WMet l g ad mL_hash hhL_hash z_rw [.ref (ad 0), .int (nI w)] A B (z_an 2 (zWP A B n R m X)) := by
  refine z_WMet.of (L := [(0, _), (1, _)]) (by decide) (Nat.le_of_ble_eq_true rfl) z_fit_an rfl ?_
  intro Ex hEx
  refine z_aload_n (pc := 0) dL_hash_0 rfl rfl ?_
  refine z_iload_n (pc := 1) dL_hash_1 rfl rfl ?_
  refine z_callC (pc := 2) (c_hash2 hst hw hn hcs hs hv) (by decide) zo_0 rfl zc_L_33 rfl rfl (Nat.le_of_ble_eq_true rfl) (by decide) dL_hash_2 whL_hash (fun x9 A9 B9 h9 => ?_) (fun r A' B' hn9 hE => ?_)
  · obtain ⟨h1, rfl, rfl⟩ := h9
    cases h1
    refine ⟨11, zct_hash_1, fun q => ?_⟩
    refine z_astore_n (L' := [(2, _), (0, _), (1, _)]) (pc := 11) dL_hash_11 rfl (by decide) rfl ?_
    refine z_iconst (pc := 12) dL_hash_12 zi_2 ?_
    exact z_reti (pc := 13) dL_hash_13 (hEx _ _ _ (⟨rfl, fun _ _ => rfl, fun _ _ _ => rfl, hcs, hs⟩))
  · exact absurd hE.1.symm (hn9 _)
theorem w_hash0_0 (hst : l.stackTraces = false)  (hn0 : n 0 = 16) (hcs : zCS A B) (hs : zCR A n R m X) (hv : zVS n R m X) : z_WMet l g ad mL_hash hhL_hash z_rw [.ref (ad 0), .int (nI 0)] A B (z_an 0 (zWP A B n R 16 (fun j => zby (zmw 0) (zrow 0 (zHw 0 (R 0)) (R 3) (n 3) 0) j))) := by
  refine z_WMet.of (L := [(0, _), (1, _)]) (by decide) (Nat.le_of_ble_eq_true rfl) z_fit_an rfl ?_
  intro Ex hEx
  refine z_aload_n (pc := 0) dL_hash_0 rfl rfl ?_
  refine z_iload_n (pc := 1) dL_hash_1 rfl rfl ?_
  refine z_callC (pc := 2) (c_hash0_0 hst hn0 hcs hs hv) (by decide) zo_0 rfl zc_L_33 rfl rfl (Nat.le_of_ble_eq_true rfl) (by decide) dL_hash_2 whL_hash (fun x9 A9 B9 h9 => by cases h9.1) (fun r A' B' hn9 hE => ?_)
  obtain ⟨rfl, f1, f2, cs, cr⟩ := hE
  refine z_r0 ?_
  refine z_goto (pc := 5) (tgt := 14) dL_hash_5 rfl ?_
  refine z_iconst (pc := 14) dL_hash_14 zi_0 ?_
  exact z_reti (pc := 15) dL_hash_15 (hEx _ _ _ (⟨rfl, f1, fun q hq _ => f2 q hq, cs, cr⟩))
theorem w_hash0_1 (hst : l.stackTraces = false)  (hn0 : n 0 = 16) (hcs : zCS A B) (hs : zCR A n R m X) (hv : zVS n R m X) : z_WMet l g ad mL_hash hhL_hash z_rw [.ref (ad 0), .int (nI 1)] A B (z_an 0 (zWP A B n R 16 (fun j => zby (zmw 1) (zrow 1 (zHw 1 (R 0)) (R 3) (n 3) 0) j))) := by
  refine z_WMet.of (L := [(0, _), (1, _)]) (by decide) (Nat.le_of_ble_eq_true rfl) z_fit_an rfl ?_
  intro Ex hEx
  refine z_aload_n (pc := 0) dL_hash_0 rfl rfl ?_
  refine z_iload_n (pc := 1) dL_hash_1 rfl rfl ?_
  refine z_callC (pc := 2) (c_hash0_1 hst hn0 hcs hs hv) (by decide) zo_0 rfl zc_L_33 rfl rfl (Nat.le_of_ble_eq_true rfl) (by decide) dL_hash_2 whL_hash (fun x9 A9 B9 h9 => by cases h9.1) (fun r A' B' hn9 hE => ?_)
  obtain ⟨rfl, f1, f2, cs, cr⟩ := hE
  refine z_r0 ?_
  refine z_goto (pc := 5) (tgt := 14) dL_hash_5 rfl ?_
  refine z_iconst (pc := 14) dL_hash_14 zi_0 ?_
  exact z_reti (pc := 15) dL_hash_15 (hEx _ _ _ (⟨rfl, f1, fun q hq _ => f2 q hq, cs, cr⟩))
theorem w_seal1 (hst : l.stackTraces = false) {x : Int32} (hx : x < 0 ∨ nI 2 ≤ x) (hcs : zCS A B) (hs : zCR A n R m X) (hv : zVS n R m X) : z_WMet l g ad mL_seal hhL_seal z_rw [.ref (ad 0), .int x, .ref (ad 54)] A B (z_an 1 (zWP A B n R m X)) := by
  refine z_WMet.of (L := [(0, _), (1, _), (2, _)]) (by decide) (Nat.le_of_ble_eq_true rfl) z_fit_an rfl ?_
  intro Ex hEx
  refine z_aload_n (pc := 0) dL_seal_0 rfl rfl ?_
  refine z_iconst (pc := 1) dL_seal_1 zi_0 ?_
  refine z_aload_n (pc := 2) dL_seal_2 rfl rfl ?_
  refine z_iload_n (pc := 3) dL_seal_3 rfl rfl ?_
  refine z_callC (pc := 4) (c_seal1 hst hx) (by decide) zo_0 rfl zc_L_37 rfl rfl (Nat.le_of_ble_eq_true rfl) (by decide) dL_seal_4 whL_seal (fun x9 A9 B9 h9 => ?_) (fun r A' B' hn9 hE => ?_)
  · obtain ⟨h1, rfl, rfl⟩ := h9
    cases h1
    refine ⟨12, zct_seal_0, fun q => ?_⟩
    refine z_astore_n (L' := [(3, _), (0, _), (1, _), (2, _)]) (pc := 12) dL_seal_12 rfl (by decide) rfl ?_
    refine z_iconst (pc := 13) dL_seal_13 zi_1 ?_
    exact z_reti (pc := 14) dL_seal_14 (hEx _ _ _ (⟨rfl, fun _ _ => rfl, fun _ _ _ => rfl, hcs, hs⟩))
  · exact absurd hE.1.symm (hn9 _)
theorem w_open1 (hst : l.stackTraces = false) {x : Int32} (hx : x < 0 ∨ nI 2 ≤ x) (hcs : zCS A B) (hs : zCR A n R m X) (hv : zVS n R m X) : z_WMet l g ad mL_open hhL_open z_rw [.ref (ad 0), .int x, .ref (ad 54)] A B (z_an 1 (zWP A B n R m X)) := by
  refine z_WMet.of (L := [(0, _), (1, _), (2, _)]) (by decide) (Nat.le_of_ble_eq_true rfl) z_fit_an rfl ?_
  intro Ex hEx
  refine z_aload_n (pc := 0) dL_open_0 rfl rfl ?_
  refine z_iconst (pc := 1) dL_open_1 zi_0 ?_
  refine z_aload_n (pc := 2) dL_open_2 rfl rfl ?_
  refine z_iload_n (pc := 3) dL_open_3 rfl rfl ?_
  refine z_callC (pc := 4) (c_open1 hst hx) (by decide) zo_0 rfl zc_L_40 rfl rfl (Nat.le_of_ble_eq_true rfl) (by decide) dL_open_4 whL_open (fun x9 A9 B9 h9 => ?_) (fun r A' B' hn9 hE => ?_)
  · obtain ⟨h1, rfl, rfl⟩ := h9
    cases h1
    refine ⟨12, zct_open_0, fun q => ?_⟩
    refine z_astore_n (L' := [(3, _), (0, _), (1, _), (2, _)]) (pc := 12) dL_open_12 rfl (by decide) rfl ?_
    refine z_iconst (pc := 13) dL_open_13 zi_1 ?_
    exact z_reti (pc := 14) dL_open_14 (hEx _ _ _ (⟨rfl, fun _ _ => rfl, fun _ _ _ => rfl, hcs, hs⟩))
  · exact absurd hE.1.symm (hn9 _)
theorem w_seal2_0 (hst : l.stackTraces = false)  (hn : ¬ zrdy 0 n ∨ 48 < n 3) (hcs : zCS A B) (hs : zCR A n R m X) (hv : zVS n R m X) : z_WMet l g ad mL_seal hhL_seal z_rw [.ref (ad 0), .int (nI 0), .ref (ad 54)] A B (z_an 2 (zWP A B n R m X)) := by
  refine z_WMet.of (L := [(0, _), (1, _), (2, _)]) (by decide) (Nat.le_of_ble_eq_true rfl) z_fit_an rfl ?_
  intro Ex hEx
  refine z_aload_n (pc := 0) dL_seal_0 rfl rfl ?_
  refine z_iconst (pc := 1) dL_seal_1 zi_0 ?_
  refine z_aload_n (pc := 2) dL_seal_2 rfl rfl ?_
  refine z_iload_n (pc := 3) dL_seal_3 rfl rfl ?_
  refine z_callC (pc := 4) (c_seal2_0 hst hn hcs hs hv) (by decide) zo_0 rfl zc_L_37 rfl rfl (Nat.le_of_ble_eq_true rfl) (by decide) dL_seal_4 whL_seal (fun x9 A9 B9 h9 => ?_) (fun r A' B' hn9 hE => ?_)
  · obtain ⟨h1, rfl, rfl⟩ := h9
    cases h1
    refine ⟨15, zct_seal_1, fun q => ?_⟩
    refine z_astore_n (L' := [(3, _), (0, _), (1, _), (2, _)]) (pc := 15) dL_seal_15 rfl (by decide) rfl ?_
    refine z_iconst (pc := 16) dL_seal_16 zi_2 ?_
    exact z_reti (pc := 17) dL_seal_17 (hEx _ _ _ (⟨rfl, fun _ _ => rfl, fun _ _ _ => rfl, hcs, hs⟩))
  · exact absurd hE.1.symm (hn9 _)
theorem w_seal0_0 (hst : l.stackTraces = false)  (hrd : zrdy 0 n) (hn : n 3 ≤ 48) (hcs : zCS A B) (hs : zCR A n R m X) (hv : zVS n R m X) : z_WMet l g ad mL_seal hhL_seal z_rw [.ref (ad 0), .int (nI 0), .ref (ad 54)] A B (z_an 0 (fun A' B' => zWP A B n R (n 3 + 16) (zseal 0 (R 0) (R 1) (n 1) (R 2) (n 2) (R 3) (n 3)) A' B' ∧ B' 54 0 = n 3 + 16)) := by
  refine z_WMet.of (L := [(0, _), (1, _), (2, _)]) (by decide) (Nat.le_of_ble_eq_true rfl) z_fit_an rfl ?_
  intro Ex hEx
  refine z_aload_n (pc := 0) dL_seal_0 rfl rfl ?_
  refine z_iconst (pc := 1) dL_seal_1 zi_0 ?_
  refine z_aload_n (pc := 2) dL_seal_2 rfl rfl ?_
  refine z_iload_n (pc := 3) dL_seal_3 rfl rfl ?_
  refine z_callC (pc := 4) (c_seal0_0 hst hrd hn hcs hs hv) (by decide) zo_0 rfl zc_L_37 rfl rfl (Nat.le_of_ble_eq_true rfl) (by decide) dL_seal_4 whL_seal (fun x9 A9 B9 h9 => by cases h9.1) (fun r A' B' hn9 hE => ?_)
  obtain ⟨rfl, f1, f2, cs, cr⟩ := hE
  refine z_r1 ?_
  refine z_i2l (pc := 7) dL_seal_7 (by omega) ?_
  refine z_lastore (pc := 8) (k := 54) (by decide) rfl (by decide) (by decide) dL_seal_8 ?_
  refine z_goto (pc := 9) (tgt := 18) dL_seal_9 rfl ?_
  refine z_iconst (pc := 18) dL_seal_18 zi_0 ?_
  exact z_reti (pc := 19) dL_seal_19 (hEx _ _ _ (⟨rfl, ⟨f1, fun q hq h54 => by rw [z_set_ne h54]; exact f2 q hq, cs.mvB (z_set_ne (by decide)) (z_set_ne (by decide)), cr⟩, z_set_at⟩))
theorem w_open2_0 (hst : l.stackTraces = false)  (hn : ¬ zrdy 0 n ∨ n 3 < 16) (hcs : zCS A B) (hs : zCR A n R m X) (hv : zVS n R m X) : z_WMet l g ad mL_open hhL_open z_rw [.ref (ad 0), .int (nI 0), .ref (ad 54)] A B (z_an 2 (zWP A B n R m X)) := by
  refine z_WMet.of (L := [(0, _), (1, _), (2, _)]) (by decide) (Nat.le_of_ble_eq_true rfl) z_fit_an rfl ?_
  intro Ex hEx
  refine z_aload_n (pc := 0) dL_open_0 rfl rfl ?_
  refine z_iconst (pc := 1) dL_open_1 zi_0 ?_
  refine z_aload_n (pc := 2) dL_open_2 rfl rfl ?_
  refine z_iload_n (pc := 3) dL_open_3 rfl rfl ?_
  refine z_callC (pc := 4) (c_open2_0 hst hn hcs hs hv) (by decide) zo_0 rfl zc_L_40 rfl rfl (Nat.le_of_ble_eq_true rfl) (by decide) dL_open_4 whL_open (fun x9 A9 B9 h9 => ?_) (fun r A' B' hn9 hE => ?_)
  · obtain ⟨h1, rfl, rfl⟩ := h9
    cases h1
    refine ⟨15, zct_open_1, fun q => ?_⟩
    refine z_astore_n (L' := [(3, _), (0, _), (1, _), (2, _)]) (pc := 15) dL_open_15 rfl (by decide) rfl ?_
    refine z_iconst (pc := 16) dL_open_16 zi_2 ?_
    exact z_reti (pc := 17) dL_open_17 (hEx _ _ _ (⟨rfl, fun _ _ => rfl, fun _ _ _ => rfl, hcs, hs⟩))
  · exact absurd hE.1.symm (hn9 _)
theorem w_open3_0 (hst : l.stackTraces = false)  (hrd : zrdy 0 n) (hn : 16 ≤ n 3) (hok : ¬ (∀ j, j < 16 → R 3 (n 3 - 16 + j) = zdue 0 (R 0) (R 1) (n 1) (R 2) (n 2) (R 3) (n 3 - 16) j)) (hcs : zCS A B) (hs : zCR A n R m X) (hv : zVS n R m X) : z_WMet l g ad mL_open hhL_open z_rw [.ref (ad 0), .int (nI 0), .ref (ad 54)] A B (z_an 3 (zWP A B n R m X)) := by
  refine z_WMet.of (L := [(0, _), (1, _), (2, _)]) (by decide) (Nat.le_of_ble_eq_true rfl) z_fit_an rfl ?_
  intro Ex hEx
  refine z_aload_n (pc := 0) dL_open_0 rfl rfl ?_
  refine z_iconst (pc := 1) dL_open_1 zi_0 ?_
  refine z_aload_n (pc := 2) dL_open_2 rfl rfl ?_
  refine z_iload_n (pc := 3) dL_open_3 rfl rfl ?_
  refine z_callC (pc := 4) (c_open3_0 hst hrd hn hok hcs hs hv) (by decide) zo_0 rfl zc_L_40 rfl rfl (Nat.le_of_ble_eq_true rfl) (by decide) dL_open_4 whL_open (fun x9 A9 B9 h9 => ?_) (fun r A' B' hn9 hE => ?_)
  · obtain ⟨h1, f1, f2, cs, cr⟩ := h9
    cases h1
    refine ⟨18, zct_open_3, fun q => ?_⟩
    refine z_astore_n (L' := [(3, _), (0, _), (1, _), (2, _)]) (pc := 18) dL_open_18 rfl (by decide) rfl ?_
    refine z_iconst (pc := 19) dL_open_19 zi_3 ?_
    exact z_reti (pc := 20) dL_open_20 (hEx _ _ _ (⟨rfl, f1, fun q hq _ => f2 q hq, cs, cr⟩))
  · exact absurd hE.1.symm (hn9 _)
theorem w_open0_0 (hst : l.stackTraces = false)  (hrd : zrdy 0 n) (hn : 16 ≤ n 3) (hok : ∀ j, j < 16 → R 3 (n 3 - 16 + j) = zdue 0 (R 0) (R 1) (n 1) (R 2) (n 2) (R 3) (n 3 - 16) j) (hcs : zCS A B) (hs : zCR A n R m X) (hv : zVS n R m X) : z_WMet l g ad mL_open hhL_open z_rw [.ref (ad 0), .int (nI 0), .ref (ad 54)] A B (z_an 0 (fun A' B' => zWP A B n R (n 3 - 16) (zopen 0 (R 0) (R 1) (n 1) (R 3) (n 3 - 16)) A' B' ∧ B' 54 0 = n 3 - 16)) := by
  refine z_WMet.of (L := [(0, _), (1, _), (2, _)]) (by decide) (Nat.le_of_ble_eq_true rfl) z_fit_an rfl ?_
  intro Ex hEx
  refine z_aload_n (pc := 0) dL_open_0 rfl rfl ?_
  refine z_iconst (pc := 1) dL_open_1 zi_0 ?_
  refine z_aload_n (pc := 2) dL_open_2 rfl rfl ?_
  refine z_iload_n (pc := 3) dL_open_3 rfl rfl ?_
  refine z_callC (pc := 4) (c_open0_0 hst hrd hn hok hcs hs hv) (by decide) zo_0 rfl zc_L_40 rfl rfl (Nat.le_of_ble_eq_true rfl) (by decide) dL_open_4 whL_open (fun x9 A9 B9 h9 => by cases h9.1) (fun r A' B' hn9 hE => ?_)
  obtain ⟨rfl, f1, f2, cs, cr⟩ := hE
  refine z_r1 ?_
  refine z_i2l (pc := 7) dL_open_7 (by have := (hv.1 3 (by decide)).1; have := zmost_le 3; omega) ?_
  refine z_lastore (pc := 8) (k := 54) (by decide) rfl (by decide) (by decide) dL_open_8 ?_
  refine z_goto (pc := 9) (tgt := 21) dL_open_9 rfl ?_
  refine z_iconst (pc := 21) dL_open_21 zi_0 ?_
  exact z_reti (pc := 22) dL_open_22 (hEx _ _ _ (⟨rfl, ⟨f1, fun q hq h54 => by rw [z_set_ne h54]; exact f2 q hq, cs.mvB (z_set_ne (by decide)) (z_set_ne (by decide)), cr⟩, z_set_at⟩))
theorem w_seal2_1 (hst : l.stackTraces = false)  (hn : ¬ zrdy 1 n ∨ 48 < n 3) (hcs : zCS A B) (hs : zCR A n R m X) (hv : zVS n R m X) : z_WMet l g ad mL_seal hhL_seal z_rw [.ref (ad 0), .int (nI 1), .ref (ad 54)] A B (z_an 2 (zWP A B n R m X)) := by
  refine z_WMet.of (L := [(0, _), (1, _), (2, _)]) (by decide) (Nat.le_of_ble_eq_true rfl) z_fit_an rfl ?_
  intro Ex hEx
  refine z_aload_n (pc := 0) dL_seal_0 rfl rfl ?_
  refine z_iconst (pc := 1) dL_seal_1 zi_0 ?_
  refine z_aload_n (pc := 2) dL_seal_2 rfl rfl ?_
  refine z_iload_n (pc := 3) dL_seal_3 rfl rfl ?_
  refine z_callC (pc := 4) (c_seal2_1 hst hn hcs hs hv) (by decide) zo_0 rfl zc_L_37 rfl rfl (Nat.le_of_ble_eq_true rfl) (by decide) dL_seal_4 whL_seal (fun x9 A9 B9 h9 => ?_) (fun r A' B' hn9 hE => ?_)
  · obtain ⟨h1, rfl, rfl⟩ := h9
    cases h1
    refine ⟨15, zct_seal_1, fun q => ?_⟩
    refine z_astore_n (L' := [(3, _), (0, _), (1, _), (2, _)]) (pc := 15) dL_seal_15 rfl (by decide) rfl ?_
    refine z_iconst (pc := 16) dL_seal_16 zi_2 ?_
    exact z_reti (pc := 17) dL_seal_17 (hEx _ _ _ (⟨rfl, fun _ _ => rfl, fun _ _ _ => rfl, hcs, hs⟩))
  · exact absurd hE.1.symm (hn9 _)
theorem w_seal0_1 (hst : l.stackTraces = false)  (hrd : zrdy 1 n) (hn : n 3 ≤ 48) (hcs : zCS A B) (hs : zCR A n R m X) (hv : zVS n R m X) : z_WMet l g ad mL_seal hhL_seal z_rw [.ref (ad 0), .int (nI 1), .ref (ad 54)] A B (z_an 0 (fun A' B' => zWP A B n R (n 3 + 16) (zseal 1 (R 0) (R 1) (n 1) (R 2) (n 2) (R 3) (n 3)) A' B' ∧ B' 54 0 = n 3 + 16)) := by
  refine z_WMet.of (L := [(0, _), (1, _), (2, _)]) (by decide) (Nat.le_of_ble_eq_true rfl) z_fit_an rfl ?_
  intro Ex hEx
  refine z_aload_n (pc := 0) dL_seal_0 rfl rfl ?_
  refine z_iconst (pc := 1) dL_seal_1 zi_0 ?_
  refine z_aload_n (pc := 2) dL_seal_2 rfl rfl ?_
  refine z_iload_n (pc := 3) dL_seal_3 rfl rfl ?_
  refine z_callC (pc := 4) (c_seal0_1 hst hrd hn hcs hs hv) (by decide) zo_0 rfl zc_L_37 rfl rfl (Nat.le_of_ble_eq_true rfl) (by decide) dL_seal_4 whL_seal (fun x9 A9 B9 h9 => by cases h9.1) (fun r A' B' hn9 hE => ?_)
  obtain ⟨rfl, f1, f2, cs, cr⟩ := hE
  refine z_r1 ?_
  refine z_i2l (pc := 7) dL_seal_7 (by omega) ?_
  refine z_lastore (pc := 8) (k := 54) (by decide) rfl (by decide) (by decide) dL_seal_8 ?_
  refine z_goto (pc := 9) (tgt := 18) dL_seal_9 rfl ?_
  refine z_iconst (pc := 18) dL_seal_18 zi_0 ?_
  exact z_reti (pc := 19) dL_seal_19 (hEx _ _ _ (⟨rfl, ⟨f1, fun q hq h54 => by rw [z_set_ne h54]; exact f2 q hq, cs.mvB (z_set_ne (by decide)) (z_set_ne (by decide)), cr⟩, z_set_at⟩))
theorem w_open2_1 (hst : l.stackTraces = false)  (hn : ¬ zrdy 1 n ∨ n 3 < 16) (hcs : zCS A B) (hs : zCR A n R m X) (hv : zVS n R m X) : z_WMet l g ad mL_open hhL_open z_rw [.ref (ad 0), .int (nI 1), .ref (ad 54)] A B (z_an 2 (zWP A B n R m X)) := by
  refine z_WMet.of (L := [(0, _), (1, _), (2, _)]) (by decide) (Nat.le_of_ble_eq_true rfl) z_fit_an rfl ?_
  intro Ex hEx
  refine z_aload_n (pc := 0) dL_open_0 rfl rfl ?_
  refine z_iconst (pc := 1) dL_open_1 zi_0 ?_
  refine z_aload_n (pc := 2) dL_open_2 rfl rfl ?_
  refine z_iload_n (pc := 3) dL_open_3 rfl rfl ?_
  refine z_callC (pc := 4) (c_open2_1 hst hn hcs hs hv) (by decide) zo_0 rfl zc_L_40 rfl rfl (Nat.le_of_ble_eq_true rfl) (by decide) dL_open_4 whL_open (fun x9 A9 B9 h9 => ?_) (fun r A' B' hn9 hE => ?_)
  · obtain ⟨h1, rfl, rfl⟩ := h9
    cases h1
    refine ⟨15, zct_open_1, fun q => ?_⟩
    refine z_astore_n (L' := [(3, _), (0, _), (1, _), (2, _)]) (pc := 15) dL_open_15 rfl (by decide) rfl ?_
    refine z_iconst (pc := 16) dL_open_16 zi_2 ?_
    exact z_reti (pc := 17) dL_open_17 (hEx _ _ _ (⟨rfl, fun _ _ => rfl, fun _ _ _ => rfl, hcs, hs⟩))
  · exact absurd hE.1.symm (hn9 _)
theorem w_open3_1 (hst : l.stackTraces = false)  (hrd : zrdy 1 n) (hn : 16 ≤ n 3) (hok : ¬ (∀ j, j < 16 → R 3 (n 3 - 16 + j) = zdue 1 (R 0) (R 1) (n 1) (R 2) (n 2) (R 3) (n 3 - 16) j)) (hcs : zCS A B) (hs : zCR A n R m X) (hv : zVS n R m X) : z_WMet l g ad mL_open hhL_open z_rw [.ref (ad 0), .int (nI 1), .ref (ad 54)] A B (z_an 3 (zWP A B n R m X)) := by
  refine z_WMet.of (L := [(0, _), (1, _), (2, _)]) (by decide) (Nat.le_of_ble_eq_true rfl) z_fit_an rfl ?_
  intro Ex hEx
  refine z_aload_n (pc := 0) dL_open_0 rfl rfl ?_
  refine z_iconst (pc := 1) dL_open_1 zi_0 ?_
  refine z_aload_n (pc := 2) dL_open_2 rfl rfl ?_
  refine z_iload_n (pc := 3) dL_open_3 rfl rfl ?_
  refine z_callC (pc := 4) (c_open3_1 hst hrd hn hok hcs hs hv) (by decide) zo_0 rfl zc_L_40 rfl rfl (Nat.le_of_ble_eq_true rfl) (by decide) dL_open_4 whL_open (fun x9 A9 B9 h9 => ?_) (fun r A' B' hn9 hE => ?_)
  · obtain ⟨h1, f1, f2, cs, cr⟩ := h9
    cases h1
    refine ⟨18, zct_open_3, fun q => ?_⟩
    refine z_astore_n (L' := [(3, _), (0, _), (1, _), (2, _)]) (pc := 18) dL_open_18 rfl (by decide) rfl ?_
    refine z_iconst (pc := 19) dL_open_19 zi_3 ?_
    exact z_reti (pc := 20) dL_open_20 (hEx _ _ _ (⟨rfl, f1, fun q hq _ => f2 q hq, cs, cr⟩))
  · exact absurd hE.1.symm (hn9 _)
theorem w_open0_1 (hst : l.stackTraces = false)  (hrd : zrdy 1 n) (hn : 16 ≤ n 3) (hok : ∀ j, j < 16 → R 3 (n 3 - 16 + j) = zdue 1 (R 0) (R 1) (n 1) (R 2) (n 2) (R 3) (n 3 - 16) j) (hcs : zCS A B) (hs : zCR A n R m X) (hv : zVS n R m X) : z_WMet l g ad mL_open hhL_open z_rw [.ref (ad 0), .int (nI 1), .ref (ad 54)] A B (z_an 0 (fun A' B' => zWP A B n R (n 3 - 16) (zopen 1 (R 0) (R 1) (n 1) (R 3) (n 3 - 16)) A' B' ∧ B' 54 0 = n 3 - 16)) := by
  refine z_WMet.of (L := [(0, _), (1, _), (2, _)]) (by decide) (Nat.le_of_ble_eq_true rfl) z_fit_an rfl ?_
  intro Ex hEx
  refine z_aload_n (pc := 0) dL_open_0 rfl rfl ?_
  refine z_iconst (pc := 1) dL_open_1 zi_0 ?_
  refine z_aload_n (pc := 2) dL_open_2 rfl rfl ?_
  refine z_iload_n (pc := 3) dL_open_3 rfl rfl ?_
  refine z_callC (pc := 4) (c_open0_1 hst hrd hn hok hcs hs hv) (by decide) zo_0 rfl zc_L_40 rfl rfl (Nat.le_of_ble_eq_true rfl) (by decide) dL_open_4 whL_open (fun x9 A9 B9 h9 => by cases h9.1) (fun r A' B' hn9 hE => ?_)
  obtain ⟨rfl, f1, f2, cs, cr⟩ := hE
  refine z_r1 ?_
  refine z_i2l (pc := 7) dL_open_7 (by have := (hv.1 3 (by decide)).1; have := zmost_le 3; omega) ?_
  refine z_lastore (pc := 8) (k := 54) (by decide) rfl (by decide) (by decide) dL_open_8 ?_
  refine z_goto (pc := 9) (tgt := 21) dL_open_9 rfl ?_
  refine z_iconst (pc := 21) dL_open_21 zi_0 ?_
  exact z_reti (pc := 22) dL_open_22 (hEx _ _ _ (⟨rfl, ⟨f1, fun q hq h54 => by rw [z_set_ne h54]; exact f2 q hq, cs.mvB (z_set_ne (by decide)) (z_set_ne (by decide)), cr⟩, z_set_at⟩))
theorem w_at0 (hst : l.stackTraces = false) {x : Int32} (hx : x < 0 ∨ nI m ≤ x) (hcs : zCS A B) (hs : zCR A n R m X) (hv : zVS n R m X) : z_WMet l g ad mL_at hhL_at z_rw [.ref (ad 0), .int x, .ref (ad 54)] A B (z_an 1 (zWP A B n R m X)) := by
  refine z_WMet.of (L := [(0, _), (1, _), (2, _)]) (by decide) (Nat.le_of_ble_eq_true rfl) z_fit_an rfl ?_
  intro Ex hEx
  refine z_aload_n (pc := 0) dL_at_0 rfl rfl ?_
  refine z_iconst (pc := 1) dL_at_1 zi_0 ?_
  refine z_aload_n (pc := 2) dL_at_2 rfl rfl ?_
  refine z_iload_n (pc := 3) dL_at_3 rfl rfl ?_
  refine z_callC (pc := 4) (c_at0 hst hx hcs hs hv) (by decide) zo_0 rfl zc_L_45 rfl rfl (Nat.le_of_ble_eq_true rfl) (by decide) dL_at_4 whL_at (fun x9 A9 B9 h9 => ?_) (fun r A' B' hn9 hE => ?_)
  · obtain ⟨h1, rfl, rfl⟩ := h9
    cases h1
    refine ⟨12, zct_at_2, fun q => ?_⟩
    refine z_astore_n (L' := [(3, _), (0, _), (1, _), (2, _)]) (pc := 12) dL_at_12 rfl (by decide) rfl ?_
    refine z_iconst (pc := 13) dL_at_13 zi_1 ?_
    exact z_reti (pc := 14) dL_at_14 (hEx _ _ _ (⟨rfl, fun _ _ => rfl, fun _ _ _ => rfl, hcs, hs⟩))
  · exact absurd hE.1.symm (hn9 _)
theorem w_at1 (hst : l.stackTraces = false) {i : Nat} (hi : i < m) (hcs : zCS A B) (hs : zCR A n R m X) (hv : zVS n R m X) : z_WMet l g ad mL_at hhL_at z_rw [.ref (ad 0), .int (nI i), .ref (ad 54)] A B (z_an 0 (fun A' B' => zWP A B n R m X A' B' ∧ B' 54 0 = X i)) := by
  refine z_WMet.of (L := [(0, _), (1, _), (2, _)]) (by decide) (Nat.le_of_ble_eq_true rfl) z_fit_an rfl ?_
  intro Ex hEx
  refine z_aload_n (pc := 0) dL_at_0 rfl rfl ?_
  refine z_iconst (pc := 1) dL_at_1 zi_0 ?_
  refine z_aload_n (pc := 2) dL_at_2 rfl rfl ?_
  refine z_iload_n (pc := 3) dL_at_3 rfl rfl ?_
  refine z_callC (pc := 4) (c_at1 hst hi hcs hs hv) (by decide) zo_0 rfl zc_L_45 rfl rfl (Nat.le_of_ble_eq_true rfl) (by decide) dL_at_4 whL_at (fun x9 A9 B9 h9 => by cases h9.1) (fun r A' B' hn9 hE => ?_)
  obtain ⟨rfl, f1, f2, cs, cr⟩ := hE
  refine z_r1 ?_
  refine z_i2l (pc := 7) dL_at_7 (by have := hv.2.2 i hi; omega) ?_
  refine z_lastore (pc := 8) (k := 54) (by decide) rfl (by decide) (by decide) dL_at_8 ?_
  refine z_goto (pc := 9) (tgt := 15) dL_at_9 rfl ?_
  refine z_iconst (pc := 15) dL_at_15 zi_0 ?_
  exact z_reti (pc := 16) dL_at_16 (hEx _ _ _ (⟨rfl, ⟨f1, fun q hq h54 => by rw [z_set_ne h54]; exact f2 q hq, cs.mvB (z_set_ne (by decide)) (z_set_ne (by decide)), cr⟩, z_set_at⟩))
end
