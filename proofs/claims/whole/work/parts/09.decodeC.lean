theorem dM_clear_0 : decode mM_clear.2.1 0 = .ok (.aload_n 0, 1) := by decide +kernel
theorem dM_clear_1 : decode mM_clear.2.1 1 = .ok (.iload_n 1, 1) := by decide +kernel
theorem dM_clear_2 : decode mM_clear.2.1 2 = .ok (.invokestatic 96, 3) := by decide +kernel
theorem dM_clear_5 : decode mM_clear.2.1 5 = .ok (.ifCond .eq 7, 3) := by decide +kernel
theorem dM_clear_8 : decode mM_clear.2.1 8 = .ok (.iconst 0, 1) := by decide +kernel
theorem dM_clear_9 : decode mM_clear.2.1 9 = .ok (.goto 4, 3) := by decide +kernel
theorem dM_clear_12 : decode mM_clear.2.1 12 = .ok (.iconst 1, 1) := by decide +kernel
theorem dM_clear_13 : decode mM_clear.2.1 13 = .ok (.putfield 59, 3) := by decide +kernel
theorem dM_clear_16 : decode mM_clear.2.1 16 = .ok (.aload_n 0, 1) := by decide +kernel
theorem dM_clear_17 : decode mM_clear.2.1 17 = .ok (.getfield 59, 3) := by decide +kernel
theorem dM_clear_20 : decode mM_clear.2.1 20 = .ok (.ifCond .le 5, 3) := by decide +kernel
theorem dM_clear_23 : decode mM_clear.2.1 23 = .ok (.iconst 0, 1) := by decide +kernel
theorem dM_clear_24 : decode mM_clear.2.1 24 = .ok (.ireturn, 1) := by decide +kernel
theorem dM_clear_25 : decode mM_clear.2.1 25 = .ok (.aload_n 0, 1) := by decide +kernel
theorem dM_clear_26 : decode mM_clear.2.1 26 = .ok (.getfield 13, 3) := by decide +kernel
theorem dM_clear_29 : decode mM_clear.2.1 29 = .ok (.iload_n 1, 1) := by decide +kernel
theorem dM_clear_30 : decode mM_clear.2.1 30 = .ok (.iaload, 1) := by decide +kernel
theorem dM_clear_31 : decode mM_clear.2.1 31 = .ok (.istore_n 2, 1) := by decide +kernel
theorem dM_clear_32 : decode mM_clear.2.1 32 = .ok (.aload_n 0, 1) := by decide +kernel
theorem dM_clear_33 : decode mM_clear.2.1 33 = .ok (.getfield 13, 3) := by decide +kernel
theorem dM_clear_36 : decode mM_clear.2.1 36 = .ok (.iload_n 1, 1) := by decide +kernel
theorem dM_clear_37 : decode mM_clear.2.1 37 = .ok (.iconst 0, 1) := by decide +kernel
theorem dM_clear_38 : decode mM_clear.2.1 38 = .ok (.iastore, 1) := by decide +kernel
theorem dM_clear_39 : decode mM_clear.2.1 39 = .ok (.iload_n 2, 1) := by decide +kernel
theorem dM_clear_40 : decode mM_clear.2.1 40 = .ok (.ireturn, 1) := by decide +kernel
theorem dM_poke_0 : decode mM_poke.2.1 0 = .ok (.aload_n 0, 1) := by decide +kernel
theorem dM_poke_1 : decode mM_poke.2.1 1 = .ok (.iload_n 1, 1) := by decide +kernel
theorem dM_poke_2 : decode mM_poke.2.1 2 = .ok (.invokestatic 96, 3) := by decide +kernel
theorem dM_poke_5 : decode mM_poke.2.1 5 = .ok (.ifCond .eq 14, 3) := by decide +kernel
theorem dM_poke_8 : decode mM_poke.2.1 8 = .ok (.iload_n 3, 1) := by decide +kernel
theorem dM_poke_9 : decode mM_poke.2.1 9 = .ok (.ifCond .lt 10, 3) := by decide +kernel
theorem dM_poke_12 : decode mM_poke.2.1 12 = .ok (.iload_n 3, 1) := by decide +kernel
theorem dM_poke_13 : decode mM_poke.2.1 13 = .ok (.sipush 255, 3) := by decide +kernel
theorem dM_poke_16 : decode mM_poke.2.1 16 = .ok (.if_icmp .le 7, 3) := by decide +kernel
theorem dM_poke_19 : decode mM_poke.2.1 19 = .ok (.iconst 1, 1) := by decide +kernel
theorem dM_poke_20 : decode mM_poke.2.1 20 = .ok (.goto 22, 3) := by decide +kernel
theorem dM_poke_23 : decode mM_poke.2.1 23 = .ok (.iload_n 2, 1) := by decide +kernel
theorem dM_poke_24 : decode mM_poke.2.1 24 = .ok (.ifCond .lt 13, 3) := by decide +kernel
theorem dM_poke_27 : decode mM_poke.2.1 27 = .ok (.iload_n 2, 1) := by decide +kernel
theorem dM_poke_28 : decode mM_poke.2.1 28 = .ok (.aload_n 0, 1) := by decide +kernel
theorem dM_poke_29 : decode mM_poke.2.1 29 = .ok (.getfield 13, 3) := by decide +kernel
theorem dM_poke_32 : decode mM_poke.2.1 32 = .ok (.iload_n 1, 1) := by decide +kernel
theorem dM_poke_33 : decode mM_poke.2.1 33 = .ok (.iaload, 1) := by decide +kernel
theorem dM_poke_34 : decode mM_poke.2.1 34 = .ok (.if_icmp .lt 7, 3) := by decide +kernel
theorem dM_poke_37 : decode mM_poke.2.1 37 = .ok (.iconst 2, 1) := by decide +kernel
theorem dM_poke_38 : decode mM_poke.2.1 38 = .ok (.goto 4, 3) := by decide +kernel
theorem dM_poke_41 : decode mM_poke.2.1 41 = .ok (.iconst 0, 1) := by decide +kernel
theorem dM_poke_42 : decode mM_poke.2.1 42 = .ok (.putfield 59, 3) := by decide +kernel
theorem dM_poke_45 : decode mM_poke.2.1 45 = .ok (.aload_n 0, 1) := by decide +kernel
theorem dM_poke_46 : decode mM_poke.2.1 46 = .ok (.getfield 59, 3) := by decide +kernel
theorem dM_poke_49 : decode mM_poke.2.1 49 = .ok (.ifCond .ne 15, 3) := by decide +kernel
theorem dM_poke_52 : decode mM_poke.2.1 52 = .ok (.aload_n 0, 1) := by decide +kernel
theorem dM_poke_53 : decode mM_poke.2.1 53 = .ok (.getfield 7, 3) := by decide +kernel
theorem dM_poke_56 : decode mM_poke.2.1 56 = .ok (.bipush 64, 2) := by decide +kernel
theorem dM_poke_58 : decode mM_poke.2.1 58 = .ok (.iload_n 1, 1) := by decide +kernel
theorem dM_poke_59 : decode mM_poke.2.1 59 = .ok (.imul, 1) := by decide +kernel
theorem dM_poke_60 : decode mM_poke.2.1 60 = .ok (.iload_n 2, 1) := by decide +kernel
theorem dM_poke_61 : decode mM_poke.2.1 61 = .ok (.iadd, 1) := by decide +kernel
theorem dM_poke_62 : decode mM_poke.2.1 62 = .ok (.iload_n 3, 1) := by decide +kernel
theorem dM_poke_63 : decode mM_poke.2.1 63 = .ok (.iastore, 1) := by decide +kernel
theorem dM_poke_64 : decode mM_poke.2.1 64 = .ok (.return_, 1) := by decide +kernel
theorem dM_take_0 : decode mM_take.2.1 0 = .ok (.aload_n 0, 1) := by decide +kernel
theorem dM_take_1 : decode mM_take.2.1 1 = .ok (.iload_n 1, 1) := by decide +kernel
theorem dM_take_2 : decode mM_take.2.1 2 = .ok (.invokestatic 96, 3) := by decide +kernel
theorem dM_take_5 : decode mM_take.2.1 5 = .ok (.ifCond .ne 7, 3) := by decide +kernel
theorem dM_take_8 : decode mM_take.2.1 8 = .ok (.iconst 1, 1) := by decide +kernel
theorem dM_take_9 : decode mM_take.2.1 9 = .ok (.goto 19, 3) := by decide +kernel
theorem dM_take_12 : decode mM_take.2.1 12 = .ok (.aload_n 0, 1) := by decide +kernel
theorem dM_take_13 : decode mM_take.2.1 13 = .ok (.getfield 105, 3) := by decide +kernel
theorem dM_take_16 : decode mM_take.2.1 16 = .ok (.iload_n 1, 1) := by decide +kernel
theorem dM_take_17 : decode mM_take.2.1 17 = .ok (.invokestatic 100, 3) := by decide +kernel
theorem dM_take_20 : decode mM_take.2.1 20 = .ok (.if_icmp .le 7, 3) := by decide +kernel
theorem dM_take_23 : decode mM_take.2.1 23 = .ok (.iconst 2, 1) := by decide +kernel
theorem dM_take_24 : decode mM_take.2.1 24 = .ok (.goto 4, 3) := by decide +kernel
theorem dM_take_27 : decode mM_take.2.1 27 = .ok (.iconst 0, 1) := by decide +kernel
theorem dM_take_28 : decode mM_take.2.1 28 = .ok (.putfield 59, 3) := by decide +kernel
theorem dM_take_31 : decode mM_take.2.1 31 = .ok (.aload_n 0, 1) := by decide +kernel
theorem dM_take_32 : decode mM_take.2.1 32 = .ok (.getfield 59, 3) := by decide +kernel
theorem dM_take_35 : decode mM_take.2.1 35 = .ok (.ifCond .le 5, 3) := by decide +kernel
theorem dM_take_38 : decode mM_take.2.1 38 = .ok (.iconst 0, 1) := by decide +kernel
theorem dM_take_39 : decode mM_take.2.1 39 = .ok (.ireturn, 1) := by decide +kernel
theorem dM_take_40 : decode mM_take.2.1 40 = .ok (.iconst 0, 1) := by decide +kernel
theorem dM_take_41 : decode mM_take.2.1 41 = .ok (.istore_n 2, 1) := by decide +kernel
theorem dM_take_42 : decode mM_take.2.1 42 = .ok (.iload_n 2, 1) := by decide +kernel
theorem dM_take_43 : decode mM_take.2.1 43 = .ok (.aload_n 0, 1) := by decide +kernel
theorem dM_take_44 : decode mM_take.2.1 44 = .ok (.getfield 105, 3) := by decide +kernel
theorem dM_take_47 : decode mM_take.2.1 47 = .ok (.if_icmp .ge 26, 3) := by decide +kernel
theorem dM_take_50 : decode mM_take.2.1 50 = .ok (.aload_n 0, 1) := by decide +kernel
theorem dM_take_51 : decode mM_take.2.1 51 = .ok (.getfield 7, 3) := by decide +kernel
theorem dM_take_54 : decode mM_take.2.1 54 = .ok (.bipush 64, 2) := by decide +kernel
theorem dM_take_56 : decode mM_take.2.1 56 = .ok (.iload_n 1, 1) := by decide +kernel
theorem dM_take_57 : decode mM_take.2.1 57 = .ok (.imul, 1) := by decide +kernel
theorem dM_take_58 : decode mM_take.2.1 58 = .ok (.iload_n 2, 1) := by decide +kernel
theorem dM_take_59 : decode mM_take.2.1 59 = .ok (.iadd, 1) := by decide +kernel
theorem dM_take_60 : decode mM_take.2.1 60 = .ok (.aload_n 0, 1) := by decide +kernel
theorem dM_take_61 : decode mM_take.2.1 61 = .ok (.getfield 16, 3) := by decide +kernel
theorem dM_take_64 : decode mM_take.2.1 64 = .ok (.iload_n 2, 1) := by decide +kernel
theorem dM_take_65 : decode mM_take.2.1 65 = .ok (.iaload, 1) := by decide +kernel
theorem dM_take_66 : decode mM_take.2.1 66 = .ok (.iastore, 1) := by decide +kernel
theorem dM_take_67 : decode mM_take.2.1 67 = .ok (.iinc 2 1, 3) := by decide +kernel
theorem dM_take_70 : decode mM_take.2.1 70 = .ok (.goto (-28), 3) := by decide +kernel
theorem dM_take_73 : decode mM_take.2.1 73 = .ok (.aload_n 0, 1) := by decide +kernel
theorem dM_take_74 : decode mM_take.2.1 74 = .ok (.getfield 13, 3) := by decide +kernel
theorem dM_take_77 : decode mM_take.2.1 77 = .ok (.iload_n 1, 1) := by decide +kernel
theorem dM_take_78 : decode mM_take.2.1 78 = .ok (.aload_n 0, 1) := by decide +kernel
theorem dM_take_79 : decode mM_take.2.1 79 = .ok (.getfield 105, 3) := by decide +kernel
theorem dM_take_82 : decode mM_take.2.1 82 = .ok (.iastore, 1) := by decide +kernel
theorem dM_take_83 : decode mM_take.2.1 83 = .ok (.aload_n 0, 1) := by decide +kernel
theorem dM_take_84 : decode mM_take.2.1 84 = .ok (.getfield 105, 3) := by decide +kernel
theorem dM_take_87 : decode mM_take.2.1 87 = .ok (.ireturn, 1) := by decide +kernel
theorem dM_useKey_0 : decode mM_useKey.2.1 0 = .ok (.iconst 0, 1) := by decide +kernel
theorem dM_useKey_1 : decode mM_useKey.2.1 1 = .ok (.istore_n 1, 1) := by decide +kernel
theorem dM_useKey_2 : decode mM_useKey.2.1 2 = .ok (.iload_n 1, 1) := by decide +kernel
theorem dM_useKey_3 : decode mM_useKey.2.1 3 = .ok (.bipush 16, 2) := by decide +kernel
theorem dM_useKey_5 : decode mM_useKey.2.1 5 = .ok (.if_icmp .ge 21, 3) := by decide +kernel
theorem dM_useKey_8 : decode mM_useKey.2.1 8 = .ok (.aload_n 0, 1) := by decide +kernel
theorem dM_useKey_9 : decode mM_useKey.2.1 9 = .ok (.getfield 31, 3) := by decide +kernel
theorem dM_useKey_12 : decode mM_useKey.2.1 12 = .ok (.iload_n 1, 1) := by decide +kernel
theorem dM_useKey_13 : decode mM_useKey.2.1 13 = .ok (.aload_n 0, 1) := by decide +kernel
theorem dM_useKey_14 : decode mM_useKey.2.1 14 = .ok (.getfield 7, 3) := by decide +kernel
theorem dM_useKey_17 : decode mM_useKey.2.1 17 = .ok (.iload_n 1, 1) := by decide +kernel
theorem dM_useKey_18 : decode mM_useKey.2.1 18 = .ok (.iaload, 1) := by decide +kernel
theorem dM_useKey_19 : decode mM_useKey.2.1 19 = .ok (.iastore, 1) := by decide +kernel
theorem dM_useKey_20 : decode mM_useKey.2.1 20 = .ok (.iinc 1 1, 3) := by decide +kernel
theorem dM_useKey_23 : decode mM_useKey.2.1 23 = .ok (.goto (-21), 3) := by decide +kernel
theorem dM_useKey_26 : decode mM_useKey.2.1 26 = .ok (.return_, 1) := by decide +kernel
theorem dM_keepBlock_0 : decode mM_keepBlock.2.1 0 = .ok (.iconst 0, 1) := by decide +kernel
theorem dM_keepBlock_1 : decode mM_keepBlock.2.1 1 = .ok (.istore_n 1, 1) := by decide +kernel
theorem dM_keepBlock_2 : decode mM_keepBlock.2.1 2 = .ok (.iload_n 1, 1) := by decide +kernel
theorem dM_keepBlock_3 : decode mM_keepBlock.2.1 3 = .ok (.bipush 16, 2) := by decide +kernel
theorem dM_keepBlock_5 : decode mM_keepBlock.2.1 5 = .ok (.if_icmp .ge 21, 3) := by decide +kernel
theorem dM_keepBlock_8 : decode mM_keepBlock.2.1 8 = .ok (.aload_n 0, 1) := by decide +kernel
theorem dM_keepBlock_9 : decode mM_keepBlock.2.1 9 = .ok (.getfield 16, 3) := by decide +kernel
theorem dM_keepBlock_12 : decode mM_keepBlock.2.1 12 = .ok (.iload_n 1, 1) := by decide +kernel
theorem dM_keepBlock_13 : decode mM_keepBlock.2.1 13 = .ok (.aload_n 0, 1) := by decide +kernel
theorem dM_keepBlock_14 : decode mM_keepBlock.2.1 14 = .ok (.getfield 34, 3) := by decide +kernel
theorem dM_keepBlock_17 : decode mM_keepBlock.2.1 17 = .ok (.iload_n 1, 1) := by decide +kernel
theorem dM_keepBlock_18 : decode mM_keepBlock.2.1 18 = .ok (.iaload, 1) := by decide +kernel
theorem dM_keepBlock_19 : decode mM_keepBlock.2.1 19 = .ok (.iastore, 1) := by decide +kernel
theorem dM_keepBlock_20 : decode mM_keepBlock.2.1 20 = .ok (.iinc 1 1, 3) := by decide +kernel
theorem dM_keepBlock_23 : decode mM_keepBlock.2.1 23 = .ok (.goto (-21), 3) := by decide +kernel
theorem dM_keepBlock_26 : decode mM_keepBlock.2.1 26 = .ok (.aload_n 0, 1) := by decide +kernel
theorem dM_keepBlock_27 : decode mM_keepBlock.2.1 27 = .ok (.bipush 16, 2) := by decide +kernel
theorem dM_keepBlock_29 : decode mM_keepBlock.2.1 29 = .ok (.putfield 105, 3) := by decide +kernel
theorem dM_keepBlock_32 : decode mM_keepBlock.2.1 32 = .ok (.return_, 1) := by decide +kernel
theorem dM_block_0 : decode mM_block.2.1 0 = .ok (.aload_n 0, 1) := by decide +kernel
theorem dM_block_1 : decode mM_block.2.1 1 = .ok (.aload_n 0, 1) := by decide +kernel
theorem dM_block_2 : decode mM_block.2.1 2 = .ok (.getfield 13, 3) := by decide +kernel
theorem dM_block_5 : decode mM_block.2.1 5 = .ok (.iconst 0, 1) := by decide +kernel
theorem dM_block_6 : decode mM_block.2.1 6 = .ok (.iaload, 1) := by decide +kernel
theorem dM_block_7 : decode mM_block.2.1 7 = .ok (.bipush 16, 2) := by decide +kernel
theorem dM_block_9 : decode mM_block.2.1 9 = .ok (.if_icmp .ne 14, 3) := by decide +kernel
theorem dM_block_12 : decode mM_block.2.1 12 = .ok (.aload_n 0, 1) := by decide +kernel
theorem dM_block_13 : decode mM_block.2.1 13 = .ok (.getfield 13, 3) := by decide +kernel
theorem dM_block_16 : decode mM_block.2.1 16 = .ok (.iconst 3, 1) := by decide +kernel
theorem dM_block_17 : decode mM_block.2.1 17 = .ok (.iaload, 1) := by decide +kernel
theorem dM_block_18 : decode mM_block.2.1 18 = .ok (.bipush 16, 2) := by decide +kernel
theorem dM_block_20 : decode mM_block.2.1 20 = .ok (.if_icmp .eq 7, 3) := by decide +kernel
theorem dM_block_23 : decode mM_block.2.1 23 = .ok (.iconst 1, 1) := by decide +kernel
theorem dM_block_24 : decode mM_block.2.1 24 = .ok (.goto 4, 3) := by decide +kernel
theorem dM_block_27 : decode mM_block.2.1 27 = .ok (.iconst 0, 1) := by decide +kernel
theorem dM_block_28 : decode mM_block.2.1 28 = .ok (.putfield 59, 3) := by decide +kernel
theorem dM_block_31 : decode mM_block.2.1 31 = .ok (.aload_n 0, 1) := by decide +kernel
theorem dM_block_32 : decode mM_block.2.1 32 = .ok (.getfield 59, 3) := by decide +kernel
theorem dM_block_35 : decode mM_block.2.1 35 = .ok (.ifCond .le 4, 3) := by decide +kernel
theorem dM_block_38 : decode mM_block.2.1 38 = .ok (.return_, 1) := by decide +kernel
theorem dM_block_39 : decode mM_block.2.1 39 = .ok (.aload_n 0, 1) := by decide +kernel
theorem dM_block_40 : decode mM_block.2.1 40 = .ok (.invokevirtual 108, 3) := by decide +kernel
theorem dM_block_43 : decode mM_block.2.1 43 = .ok (.iconst 0, 1) := by decide +kernel
theorem dM_block_44 : decode mM_block.2.1 44 = .ok (.istore_n 1, 1) := by decide +kernel
theorem dM_block_45 : decode mM_block.2.1 45 = .ok (.iload_n 1, 1) := by decide +kernel
theorem dM_block_46 : decode mM_block.2.1 46 = .ok (.bipush 16, 2) := by decide +kernel
theorem dM_block_48 : decode mM_block.2.1 48 = .ok (.if_icmp .ge 25, 3) := by decide +kernel
theorem dM_block_51 : decode mM_block.2.1 51 = .ok (.aload_n 0, 1) := by decide +kernel
theorem dM_block_52 : decode mM_block.2.1 52 = .ok (.getfield 34, 3) := by decide +kernel
theorem dM_block_55 : decode mM_block.2.1 55 = .ok (.iload_n 1, 1) := by decide +kernel
theorem dM_block_56 : decode mM_block.2.1 56 = .ok (.aload_n 0, 1) := by decide +kernel
theorem dM_block_57 : decode mM_block.2.1 57 = .ok (.getfield 7, 3) := by decide +kernel
theorem dM_block_60 : decode mM_block.2.1 60 = .ok (.sipush 192, 3) := by decide +kernel
theorem dM_block_63 : decode mM_block.2.1 63 = .ok (.iload_n 1, 1) := by decide +kernel
theorem dM_block_64 : decode mM_block.2.1 64 = .ok (.iadd, 1) := by decide +kernel
theorem dM_block_65 : decode mM_block.2.1 65 = .ok (.iaload, 1) := by decide +kernel
theorem dM_block_66 : decode mM_block.2.1 66 = .ok (.iastore, 1) := by decide +kernel
theorem dM_block_67 : decode mM_block.2.1 67 = .ok (.iinc 1 1, 3) := by decide +kernel
theorem dM_block_70 : decode mM_block.2.1 70 = .ok (.goto (-25), 3) := by decide +kernel
theorem dM_block_73 : decode mM_block.2.1 73 = .ok (.aload_n 0, 1) := by decide +kernel
theorem dM_block_74 : decode mM_block.2.1 74 = .ok (.invokevirtual 111, 3) := by decide +kernel
theorem dM_block_77 : decode mM_block.2.1 77 = .ok (.aload_n 0, 1) := by decide +kernel
theorem dM_block_78 : decode mM_block.2.1 78 = .ok (.invokevirtual 114, 3) := by decide +kernel
theorem dM_block_81 : decode mM_block.2.1 81 = .ok (.return_, 1) := by decide +kernel
theorem dM_hash_0 : decode mM_hash.2.1 0 = .ok (.aload_n 0, 1) := by decide +kernel
theorem dM_hash_1 : decode mM_hash.2.1 1 = .ok (.iload_n 1, 1) := by decide +kernel
theorem dM_hash_2 : decode mM_hash.2.1 2 = .ok (.ifCond .eq 12, 3) := by decide +kernel
theorem dM_hash_5 : decode mM_hash.2.1 5 = .ok (.iload_n 1, 1) := by decide +kernel
theorem dM_hash_6 : decode mM_hash.2.1 6 = .ok (.iconst 1, 1) := by decide +kernel
theorem dM_hash_7 : decode mM_hash.2.1 7 = .ok (.if_icmp .eq 7, 3) := by decide +kernel
theorem dM_hash_10 : decode mM_hash.2.1 10 = .ok (.iconst 1, 1) := by decide +kernel
theorem dM_hash_11 : decode mM_hash.2.1 11 = .ok (.goto 19, 3) := by decide +kernel
theorem dM_hash_14 : decode mM_hash.2.1 14 = .ok (.aload_n 0, 1) := by decide +kernel
theorem dM_hash_15 : decode mM_hash.2.1 15 = .ok (.getfield 13, 3) := by decide +kernel
theorem dM_hash_18 : decode mM_hash.2.1 18 = .ok (.iconst 0, 1) := by decide +kernel
theorem dM_hash_19 : decode mM_hash.2.1 19 = .ok (.iaload, 1) := by decide +kernel
theorem dM_hash_20 : decode mM_hash.2.1 20 = .ok (.bipush 16, 2) := by decide +kernel
theorem dM_hash_22 : decode mM_hash.2.1 22 = .ok (.if_icmp .eq 7, 3) := by decide +kernel
theorem dM_hash_25 : decode mM_hash.2.1 25 = .ok (.iconst 2, 1) := by decide +kernel
theorem dM_hash_26 : decode mM_hash.2.1 26 = .ok (.goto 4, 3) := by decide +kernel
theorem dM_hash_29 : decode mM_hash.2.1 29 = .ok (.iconst 0, 1) := by decide +kernel
theorem dM_hash_30 : decode mM_hash.2.1 30 = .ok (.putfield 59, 3) := by decide +kernel
theorem dM_hash_33 : decode mM_hash.2.1 33 = .ok (.aload_n 0, 1) := by decide +kernel
theorem dM_hash_34 : decode mM_hash.2.1 34 = .ok (.getfield 59, 3) := by decide +kernel
theorem dM_hash_37 : decode mM_hash.2.1 37 = .ok (.ifCond .le 4, 3) := by decide +kernel
theorem dM_hash_40 : decode mM_hash.2.1 40 = .ok (.return_, 1) := by decide +kernel
theorem dM_hash_41 : decode mM_hash.2.1 41 = .ok (.iconst 0, 1) := by decide +kernel
theorem dM_hash_42 : decode mM_hash.2.1 42 = .ok (.istore_n 2, 1) := by decide +kernel
theorem dM_hash_43 : decode mM_hash.2.1 43 = .ok (.iload_n 2, 1) := by decide +kernel
theorem dM_hash_44 : decode mM_hash.2.1 44 = .ok (.bipush 16, 2) := by decide +kernel
theorem dM_hash_46 : decode mM_hash.2.1 46 = .ok (.if_icmp .ge 21, 3) := by decide +kernel
theorem dM_hash_49 : decode mM_hash.2.1 49 = .ok (.aload_n 0, 1) := by decide +kernel
theorem dM_hash_50 : decode mM_hash.2.1 50 = .ok (.getfield 34, 3) := by decide +kernel
theorem dM_hash_53 : decode mM_hash.2.1 53 = .ok (.iload_n 2, 1) := by decide +kernel
theorem dM_hash_54 : decode mM_hash.2.1 54 = .ok (.aload_n 0, 1) := by decide +kernel
theorem dM_hash_55 : decode mM_hash.2.1 55 = .ok (.getfield 7, 3) := by decide +kernel
theorem dM_hash_58 : decode mM_hash.2.1 58 = .ok (.iload_n 2, 1) := by decide +kernel
theorem dM_hash_59 : decode mM_hash.2.1 59 = .ok (.iaload, 1) := by decide +kernel
theorem dM_hash_60 : decode mM_hash.2.1 60 = .ok (.iastore, 1) := by decide +kernel
theorem dM_hash_61 : decode mM_hash.2.1 61 = .ok (.iinc 2 1, 3) := by decide +kernel
theorem dM_hash_64 : decode mM_hash.2.1 64 = .ok (.goto (-21), 3) := by decide +kernel
theorem dM_hash_67 : decode mM_hash.2.1 67 = .ok (.aload_n 0, 1) := by decide +kernel
theorem dM_hash_68 : decode mM_hash.2.1 68 = .ok (.iload_n 1, 1) := by decide +kernel
theorem dM_hash_69 : decode mM_hash.2.1 69 = .ok (.invokevirtual 117, 3) := by decide +kernel
theorem dM_hash_72 : decode mM_hash.2.1 72 = .ok (.aload_n 0, 1) := by decide +kernel
theorem dM_hash_73 : decode mM_hash.2.1 73 = .ok (.iload_n 1, 1) := by decide +kernel
theorem dM_hash_74 : decode mM_hash.2.1 74 = .ok (.sipush 192, 3) := by decide +kernel
theorem dM_hash_77 : decode mM_hash.2.1 77 = .ok (.aload_n 0, 1) := by decide +kernel
theorem dM_hash_78 : decode mM_hash.2.1 78 = .ok (.getfield 13, 3) := by decide +kernel
theorem dM_hash_81 : decode mM_hash.2.1 81 = .ok (.iconst 3, 1) := by decide +kernel
theorem dM_hash_82 : decode mM_hash.2.1 82 = .ok (.iaload, 1) := by decide +kernel
theorem dM_hash_83 : decode mM_hash.2.1 83 = .ok (.invokevirtual 120, 3) := by decide +kernel
theorem dM_hash_86 : decode mM_hash.2.1 86 = .ok (.aload_n 0, 1) := by decide +kernel
theorem dM_hash_87 : decode mM_hash.2.1 87 = .ok (.iload_n 1, 1) := by decide +kernel
theorem dM_hash_88 : decode mM_hash.2.1 88 = .ok (.invokevirtual 124, 3) := by decide +kernel
theorem dM_hash_91 : decode mM_hash.2.1 91 = .ok (.aload_n 0, 1) := by decide +kernel
theorem dM_hash_92 : decode mM_hash.2.1 92 = .ok (.invokevirtual 114, 3) := by decide +kernel
theorem dM_hash_95 : decode mM_hash.2.1 95 = .ok (.return_, 1) := by decide +kernel
theorem dM_isReady_0 : decode mM_isReady.2.1 0 = .ok (.aload_n 0, 1) := by decide +kernel
theorem dM_isReady_1 : decode mM_isReady.2.1 1 = .ok (.getfield 13, 3) := by decide +kernel
theorem dM_isReady_4 : decode mM_isReady.2.1 4 = .ok (.iconst 0, 1) := by decide +kernel
theorem dM_isReady_5 : decode mM_isReady.2.1 5 = .ok (.iaload, 1) := by decide +kernel
theorem dM_isReady_6 : decode mM_isReady.2.1 6 = .ok (.bipush 16, 2) := by decide +kernel
theorem dM_isReady_8 : decode mM_isReady.2.1 8 = .ok (.if_icmp .ne 34, 3) := by decide +kernel
theorem dM_isReady_11 : decode mM_isReady.2.1 11 = .ok (.iload_n 1, 1) := by decide +kernel
theorem dM_isReady_12 : decode mM_isReady.2.1 12 = .ok (.ifCond .ne 15, 3) := by decide +kernel
theorem dM_isReady_15 : decode mM_isReady.2.1 15 = .ok (.aload_n 0, 1) := by decide +kernel
theorem dM_isReady_16 : decode mM_isReady.2.1 16 = .ok (.getfield 13, 3) := by decide +kernel
theorem dM_isReady_19 : decode mM_isReady.2.1 19 = .ok (.iconst 1, 1) := by decide +kernel
theorem dM_isReady_20 : decode mM_isReady.2.1 20 = .ok (.iaload, 1) := by decide +kernel
theorem dM_isReady_21 : decode mM_isReady.2.1 21 = .ok (.ifCond .le 21, 3) := by decide +kernel
theorem dM_isReady_24 : decode mM_isReady.2.1 24 = .ok (.goto 14, 3) := by decide +kernel
theorem dM_isReady_27 : decode mM_isReady.2.1 27 = .ok (.aload_n 0, 1) := by decide +kernel
theorem dM_isReady_28 : decode mM_isReady.2.1 28 = .ok (.getfield 13, 3) := by decide +kernel
theorem dM_isReady_31 : decode mM_isReady.2.1 31 = .ok (.iconst 1, 1) := by decide +kernel
theorem dM_isReady_32 : decode mM_isReady.2.1 32 = .ok (.iaload, 1) := by decide +kernel
theorem dM_isReady_33 : decode mM_isReady.2.1 33 = .ok (.bipush 12, 2) := by decide +kernel
theorem dM_isReady_35 : decode mM_isReady.2.1 35 = .ok (.if_icmp .ne 7, 3) := by decide +kernel
theorem dM_isReady_38 : decode mM_isReady.2.1 38 = .ok (.iconst 1, 1) := by decide +kernel
theorem dM_isReady_39 : decode mM_isReady.2.1 39 = .ok (.goto 4, 3) := by decide +kernel
theorem dM_isReady_42 : decode mM_isReady.2.1 42 = .ok (.iconst 0, 1) := by decide +kernel
theorem dM_isReady_43 : decode mM_isReady.2.1 43 = .ok (.ireturn, 1) := by decide +kernel
theorem dM_beginOutward_0 : decode mM_beginOutward.2.1 0 = .ok (.aload_n 0, 1) := by decide +kernel
theorem dM_beginOutward_1 : decode mM_beginOutward.2.1 1 = .ok (.invokevirtual 108, 3) := by decide +kernel
theorem dM_beginOutward_4 : decode mM_beginOutward.2.1 4 = .ok (.iconst 0, 1) := by decide +kernel
theorem dM_beginOutward_5 : decode mM_beginOutward.2.1 5 = .ok (.istore_n 1, 1) := by decide +kernel
theorem dM_beginOutward_6 : decode mM_beginOutward.2.1 6 = .ok (.iload_n 1, 1) := by decide +kernel
theorem dM_beginOutward_7 : decode mM_beginOutward.2.1 7 = .ok (.bipush 16, 2) := by decide +kernel
theorem dM_beginOutward_9 : decode mM_beginOutward.2.1 9 = .ok (.if_icmp .ge 16, 3) := by decide +kernel
theorem dM_beginOutward_12 : decode mM_beginOutward.2.1 12 = .ok (.aload_n 0, 1) := by decide +kernel
theorem dM_beginOutward_13 : decode mM_beginOutward.2.1 13 = .ok (.getfield 34, 3) := by decide +kernel
theorem dM_beginOutward_16 : decode mM_beginOutward.2.1 16 = .ok (.iload_n 1, 1) := by decide +kernel
theorem dM_beginOutward_17 : decode mM_beginOutward.2.1 17 = .ok (.iconst 0, 1) := by decide +kernel
theorem dM_beginOutward_18 : decode mM_beginOutward.2.1 18 = .ok (.iastore, 1) := by decide +kernel
theorem dM_beginOutward_19 : decode mM_beginOutward.2.1 19 = .ok (.iinc 1 1, 3) := by decide +kernel
theorem dM_beginOutward_22 : decode mM_beginOutward.2.1 22 = .ok (.goto (-16), 3) := by decide +kernel
theorem dM_beginOutward_25 : decode mM_beginOutward.2.1 25 = .ok (.aload_n 0, 1) := by decide +kernel
theorem dM_beginOutward_26 : decode mM_beginOutward.2.1 26 = .ok (.invokevirtual 111, 3) := by decide +kernel
theorem dM_beginOutward_29 : decode mM_beginOutward.2.1 29 = .ok (.aload_n 0, 1) := by decide +kernel
theorem dM_beginOutward_30 : decode mM_beginOutward.2.1 30 = .ok (.iconst 0, 1) := by decide +kernel
theorem dM_beginOutward_31 : decode mM_beginOutward.2.1 31 = .ok (.invokevirtual 117, 3) := by decide +kernel
theorem dM_beginOutward_34 : decode mM_beginOutward.2.1 34 = .ok (.return_, 1) := by decide +kernel
theorem dM_makeStart_0 : decode mM_makeStart.2.1 0 = .ok (.aload_n 0, 1) := by decide +kernel
theorem dM_makeStart_1 : decode mM_makeStart.2.1 1 = .ok (.getfield 13, 3) := by decide +kernel
theorem dM_makeStart_4 : decode mM_makeStart.2.1 4 = .ok (.iconst 1, 1) := by decide +kernel
theorem dM_makeStart_5 : decode mM_makeStart.2.1 5 = .ok (.iaload, 1) := by decide +kernel
theorem dM_makeStart_6 : decode mM_makeStart.2.1 6 = .ok (.bipush 12, 2) := by decide +kernel
theorem dM_makeStart_8 : decode mM_makeStart.2.1 8 = .ok (.if_icmp .ne 55, 3) := by decide +kernel
theorem dM_makeStart_11 : decode mM_makeStart.2.1 11 = .ok (.iconst 0, 1) := by decide +kernel
theorem dM_makeStart_12 : decode mM_makeStart.2.1 12 = .ok (.istore_n 1, 1) := by decide +kernel
theorem dM_makeStart_13 : decode mM_makeStart.2.1 13 = .ok (.iload_n 1, 1) := by decide +kernel
theorem dM_makeStart_14 : decode mM_makeStart.2.1 14 = .ok (.bipush 16, 2) := by decide +kernel
theorem dM_makeStart_16 : decode mM_makeStart.2.1 16 = .ok (.if_icmp .ge 44, 3) := by decide +kernel
theorem dM_makeStart_19 : decode mM_makeStart.2.1 19 = .ok (.aload_n 0, 1) := by decide +kernel
theorem dM_makeStart_20 : decode mM_makeStart.2.1 20 = .ok (.getfield 34, 3) := by decide +kernel
theorem dM_makeStart_23 : decode mM_makeStart.2.1 23 = .ok (.iload_n 1, 1) := by decide +kernel
theorem dM_makeStart_24 : decode mM_makeStart.2.1 24 = .ok (.iload_n 1, 1) := by decide +kernel
theorem dM_makeStart_25 : decode mM_makeStart.2.1 25 = .ok (.bipush 12, 2) := by decide +kernel
theorem dM_makeStart_27 : decode mM_makeStart.2.1 27 = .ok (.if_icmp .ge 15, 3) := by decide +kernel
theorem dM_makeStart_30 : decode mM_makeStart.2.1 30 = .ok (.aload_n 0, 1) := by decide +kernel
theorem dM_makeStart_31 : decode mM_makeStart.2.1 31 = .ok (.getfield 7, 3) := by decide +kernel
theorem dM_makeStart_34 : decode mM_makeStart.2.1 34 = .ok (.bipush 64, 2) := by decide +kernel
theorem dM_makeStart_36 : decode mM_makeStart.2.1 36 = .ok (.iload_n 1, 1) := by decide +kernel
theorem dM_makeStart_37 : decode mM_makeStart.2.1 37 = .ok (.iadd, 1) := by decide +kernel
theorem dM_makeStart_38 : decode mM_makeStart.2.1 38 = .ok (.iaload, 1) := by decide +kernel
theorem dM_makeStart_39 : decode mM_makeStart.2.1 39 = .ok (.goto 14, 3) := by decide +kernel
theorem dM_makeStart_42 : decode mM_makeStart.2.1 42 = .ok (.iload_n 1, 1) := by decide +kernel
theorem dM_makeStart_43 : decode mM_makeStart.2.1 43 = .ok (.bipush 15, 2) := by decide +kernel
theorem dM_makeStart_45 : decode mM_makeStart.2.1 45 = .ok (.if_icmp .ne 7, 3) := by decide +kernel
theorem dM_makeStart_48 : decode mM_makeStart.2.1 48 = .ok (.iconst 1, 1) := by decide +kernel
theorem dM_makeStart_49 : decode mM_makeStart.2.1 49 = .ok (.goto 4, 3) := by decide +kernel
theorem dM_makeStart_52 : decode mM_makeStart.2.1 52 = .ok (.iconst 0, 1) := by decide +kernel
theorem dM_makeStart_53 : decode mM_makeStart.2.1 53 = .ok (.iastore, 1) := by decide +kernel
theorem dM_makeStart_54 : decode mM_makeStart.2.1 54 = .ok (.iinc 1 1, 3) := by decide +kernel
theorem dM_makeStart_57 : decode mM_makeStart.2.1 57 = .ok (.goto (-44), 3) := by decide +kernel
theorem dM_makeStart_60 : decode mM_makeStart.2.1 60 = .ok (.goto 37, 3) := by decide +kernel
theorem dM_makeStart_63 : decode mM_makeStart.2.1 63 = .ok (.aload_n 0, 1) := by decide +kernel
theorem dM_makeStart_64 : decode mM_makeStart.2.1 64 = .ok (.invokevirtual 127, 3) := by decide +kernel
theorem dM_makeStart_67 : decode mM_makeStart.2.1 67 = .ok (.aload_n 0, 1) := by decide +kernel
theorem dM_makeStart_68 : decode mM_makeStart.2.1 68 = .ok (.iconst 0, 1) := by decide +kernel
theorem dM_makeStart_69 : decode mM_makeStart.2.1 69 = .ok (.bipush 64, 2) := by decide +kernel
theorem dM_makeStart_71 : decode mM_makeStart.2.1 71 = .ok (.aload_n 0, 1) := by decide +kernel
theorem dM_makeStart_72 : decode mM_makeStart.2.1 72 = .ok (.getfield 13, 3) := by decide +kernel
theorem dM_makeStart_75 : decode mM_makeStart.2.1 75 = .ok (.iconst 1, 1) := by decide +kernel
theorem dM_makeStart_76 : decode mM_makeStart.2.1 76 = .ok (.iaload, 1) := by decide +kernel
theorem dM_makeStart_77 : decode mM_makeStart.2.1 77 = .ok (.invokevirtual 120, 3) := by decide +kernel
theorem dM_makeStart_80 : decode mM_makeStart.2.1 80 = .ok (.aload_n 0, 1) := by decide +kernel
theorem dM_makeStart_81 : decode mM_makeStart.2.1 81 = .ok (.iconst 0, 1) := by decide +kernel
theorem dM_makeStart_82 : decode mM_makeStart.2.1 82 = .ok (.iconst 0, 1) := by decide +kernel
theorem dM_makeStart_83 : decode mM_makeStart.2.1 83 = .ok (.aload_n 0, 1) := by decide +kernel
theorem dM_makeStart_84 : decode mM_makeStart.2.1 84 = .ok (.getfield 13, 3) := by decide +kernel
theorem dM_makeStart_87 : decode mM_makeStart.2.1 87 = .ok (.iconst 1, 1) := by decide +kernel
theorem dM_makeStart_88 : decode mM_makeStart.2.1 88 = .ok (.iaload, 1) := by decide +kernel
theorem dM_makeStart_89 : decode mM_makeStart.2.1 89 = .ok (.invokevirtual 130, 3) := by decide +kernel
theorem dM_makeStart_92 : decode mM_makeStart.2.1 92 = .ok (.aload_n 0, 1) := by decide +kernel
theorem dM_makeStart_93 : decode mM_makeStart.2.1 93 = .ok (.iconst 0, 1) := by decide +kernel
theorem dM_makeStart_94 : decode mM_makeStart.2.1 94 = .ok (.invokevirtual 124, 3) := by decide +kernel
theorem dM_makeStart_97 : decode mM_makeStart.2.1 97 = .ok (.iconst 0, 1) := by decide +kernel
theorem dM_makeStart_98 : decode mM_makeStart.2.1 98 = .ok (.istore_n 1, 1) := by decide +kernel
theorem dM_makeStart_99 : decode mM_makeStart.2.1 99 = .ok (.iload_n 1, 1) := by decide +kernel
theorem dM_makeStart_100 : decode mM_makeStart.2.1 100 = .ok (.bipush 16, 2) := by decide +kernel
theorem dM_makeStart_102 : decode mM_makeStart.2.1 102 = .ok (.if_icmp .ge 21, 3) := by decide +kernel
theorem dM_makeStart_105 : decode mM_makeStart.2.1 105 = .ok (.aload_n 0, 1) := by decide +kernel
theorem dM_makeStart_106 : decode mM_makeStart.2.1 106 = .ok (.getfield 46, 3) := by decide +kernel
theorem dM_makeStart_109 : decode mM_makeStart.2.1 109 = .ok (.iload_n 1, 1) := by decide +kernel
theorem dM_makeStart_110 : decode mM_makeStart.2.1 110 = .ok (.aload_n 0, 1) := by decide +kernel
theorem dM_makeStart_111 : decode mM_makeStart.2.1 111 = .ok (.getfield 34, 3) := by decide +kernel
theorem dM_makeStart_114 : decode mM_makeStart.2.1 114 = .ok (.iload_n 1, 1) := by decide +kernel
theorem dM_makeStart_115 : decode mM_makeStart.2.1 115 = .ok (.iaload, 1) := by decide +kernel
theorem dM_makeStart_116 : decode mM_makeStart.2.1 116 = .ok (.iastore, 1) := by decide +kernel
theorem dM_makeStart_117 : decode mM_makeStart.2.1 117 = .ok (.iinc 1 1, 3) := by decide +kernel
theorem dM_makeStart_120 : decode mM_makeStart.2.1 120 = .ok (.goto (-21), 3) := by decide +kernel
theorem dM_makeStart_123 : decode mM_makeStart.2.1 123 = .ok (.return_, 1) := by decide +kernel
theorem dM_count_0 : decode mM_count.2.1 0 = .ok (.iconst 0, 1) := by decide +kernel
theorem dM_count_1 : decode mM_count.2.1 1 = .ok (.istore_n 3, 1) := by decide +kernel
theorem dM_count_2 : decode mM_count.2.1 2 = .ok (.iload_n 3, 1) := by decide +kernel
theorem dM_count_3 : decode mM_count.2.1 3 = .ok (.bipush 16, 2) := by decide +kernel
theorem dM_count_5 : decode mM_count.2.1 5 = .ok (.if_icmp .ge 21, 3) := by decide +kernel
theorem dM_count_8 : decode mM_count.2.1 8 = .ok (.aload_n 0, 1) := by decide +kernel
theorem dM_count_9 : decode mM_count.2.1 9 = .ok (.getfield 34, 3) := by decide +kernel
theorem dM_count_12 : decode mM_count.2.1 12 = .ok (.iload_n 3, 1) := by decide +kernel
theorem dM_count_13 : decode mM_count.2.1 13 = .ok (.aload_n 0, 1) := by decide +kernel
theorem dM_count_14 : decode mM_count.2.1 14 = .ok (.getfield 46, 3) := by decide +kernel
theorem dM_count_17 : decode mM_count.2.1 17 = .ok (.iload_n 3, 1) := by decide +kernel
theorem dM_count_18 : decode mM_count.2.1 18 = .ok (.iaload, 1) := by decide +kernel
theorem dM_count_19 : decode mM_count.2.1 19 = .ok (.iastore, 1) := by decide +kernel
theorem dM_count_20 : decode mM_count.2.1 20 = .ok (.iinc 3 1, 3) := by decide +kernel
theorem dM_count_23 : decode mM_count.2.1 23 = .ok (.goto (-21), 3) := by decide +kernel
theorem dM_count_26 : decode mM_count.2.1 26 = .ok (.iload_n 1, 1) := by decide +kernel
theorem dM_count_27 : decode mM_count.2.1 27 = .ok (.istore_n 3, 1) := by decide +kernel
theorem dM_count_28 : decode mM_count.2.1 28 = .ok (.iconst 0, 1) := by decide +kernel
theorem dM_count_29 : decode mM_count.2.1 29 = .ok (.istore 4, 2) := by decide +kernel
theorem dM_count_31 : decode mM_count.2.1 31 = .ok (.iload 4, 2) := by decide +kernel
theorem dM_count_33 : decode mM_count.2.1 33 = .ok (.iconst 4, 1) := by decide +kernel
theorem dM_count_34 : decode mM_count.2.1 34 = .ok (.if_icmp .ge 52, 3) := by decide +kernel
theorem dM_count_37 : decode mM_count.2.1 37 = .ok (.iload_n 2, 1) := by decide +kernel
theorem dM_count_38 : decode mM_count.2.1 38 = .ok (.ifCond .eq 11, 3) := by decide +kernel
theorem dM_count_41 : decode mM_count.2.1 41 = .ok (.bipush 15, 2) := by decide +kernel
theorem dM_count_43 : decode mM_count.2.1 43 = .ok (.iload 4, 2) := by decide +kernel
theorem dM_count_45 : decode mM_count.2.1 45 = .ok (.isub, 1) := by decide +kernel
theorem dM_count_46 : decode mM_count.2.1 46 = .ok (.goto 5, 3) := by decide +kernel
theorem dM_count_49 : decode mM_count.2.1 49 = .ok (.iload 4, 2) := by decide +kernel
theorem dM_count_51 : decode mM_count.2.1 51 = .ok (.istore 5, 2) := by decide +kernel
theorem dM_count_53 : decode mM_count.2.1 53 = .ok (.iload_n 3, 1) := by decide +kernel
theorem dM_count_54 : decode mM_count.2.1 54 = .ok (.aload_n 0, 1) := by decide +kernel
theorem dM_count_55 : decode mM_count.2.1 55 = .ok (.getfield 46, 3) := by decide +kernel
theorem dM_count_58 : decode mM_count.2.1 58 = .ok (.iload 5, 2) := by decide +kernel
theorem dM_count_60 : decode mM_count.2.1 60 = .ok (.iaload, 1) := by decide +kernel
theorem dM_count_61 : decode mM_count.2.1 61 = .ok (.iadd, 1) := by decide +kernel
theorem dM_count_62 : decode mM_count.2.1 62 = .ok (.istore_n 3, 1) := by decide +kernel
theorem dM_count_63 : decode mM_count.2.1 63 = .ok (.aload_n 0, 1) := by decide +kernel
theorem dM_count_64 : decode mM_count.2.1 64 = .ok (.getfield 34, 3) := by decide +kernel
theorem dM_count_67 : decode mM_count.2.1 67 = .ok (.iload 5, 2) := by decide +kernel
theorem dM_count_69 : decode mM_count.2.1 69 = .ok (.iload_n 3, 1) := by decide +kernel
theorem dM_count_70 : decode mM_count.2.1 70 = .ok (.sipush 255, 3) := by decide +kernel
theorem dM_count_73 : decode mM_count.2.1 73 = .ok (.iand, 1) := by decide +kernel
theorem dM_count_74 : decode mM_count.2.1 74 = .ok (.iastore, 1) := by decide +kernel
theorem dM_count_75 : decode mM_count.2.1 75 = .ok (.iload_n 3, 1) := by decide +kernel
theorem dM_count_76 : decode mM_count.2.1 76 = .ok (.bipush 8, 2) := by decide +kernel
theorem dM_count_78 : decode mM_count.2.1 78 = .ok (.ishr, 1) := by decide +kernel
theorem dM_count_79 : decode mM_count.2.1 79 = .ok (.istore_n 3, 1) := by decide +kernel
theorem dM_count_80 : decode mM_count.2.1 80 = .ok (.iinc 4 1, 3) := by decide +kernel
theorem dM_count_83 : decode mM_count.2.1 83 = .ok (.goto (-52), 3) := by decide +kernel
theorem dM_count_86 : decode mM_count.2.1 86 = .ok (.return_, 1) := by decide +kernel
theorem dM_cipher_0 : decode mM_cipher.2.1 0 = .ok (.iconst 0, 1) := by decide +kernel
theorem dM_cipher_1 : decode mM_cipher.2.1 1 = .ok (.istore_n 3, 1) := by decide +kernel
theorem dM_cipher_2 : decode mM_cipher.2.1 2 = .ok (.iload_n 3, 1) := by decide +kernel
theorem dM_cipher_3 : decode mM_cipher.2.1 3 = .ok (.iload_n 1, 1) := by decide +kernel
theorem dM_cipher_4 : decode mM_cipher.2.1 4 = .ok (.if_icmp .ge 91, 3) := by decide +kernel
theorem dM_cipher_7 : decode mM_cipher.2.1 7 = .ok (.aload_n 0, 1) := by decide +kernel
theorem dM_cipher_8 : decode mM_cipher.2.1 8 = .ok (.iload_n 2, 1) := by decide +kernel
theorem dM_cipher_9 : decode mM_cipher.2.1 9 = .ok (.ifCond .eq 12, 3) := by decide +kernel
theorem dM_cipher_12 : decode mM_cipher.2.1 12 = .ok (.iload_n 3, 1) := by decide +kernel
theorem dM_cipher_13 : decode mM_cipher.2.1 13 = .ok (.bipush 16, 2) := by decide +kernel
theorem dM_cipher_15 : decode mM_cipher.2.1 15 = .ok (.idiv, 1) := by decide +kernel
theorem dM_cipher_16 : decode mM_cipher.2.1 16 = .ok (.iconst 1, 1) := by decide +kernel
theorem dM_cipher_17 : decode mM_cipher.2.1 17 = .ok (.iadd, 1) := by decide +kernel
theorem dM_cipher_18 : decode mM_cipher.2.1 18 = .ok (.goto 7, 3) := by decide +kernel
theorem dM_cipher_21 : decode mM_cipher.2.1 21 = .ok (.iload_n 3, 1) := by decide +kernel
theorem dM_cipher_22 : decode mM_cipher.2.1 22 = .ok (.bipush 16, 2) := by decide +kernel
theorem dM_cipher_24 : decode mM_cipher.2.1 24 = .ok (.idiv, 1) := by decide +kernel
theorem dM_cipher_25 : decode mM_cipher.2.1 25 = .ok (.iload_n 2, 1) := by decide +kernel
theorem dM_cipher_26 : decode mM_cipher.2.1 26 = .ok (.invokevirtual 133, 3) := by decide +kernel
theorem dM_cipher_29 : decode mM_cipher.2.1 29 = .ok (.aload_n 0, 1) := by decide +kernel
theorem dM_cipher_30 : decode mM_cipher.2.1 30 = .ok (.invokevirtual 111, 3) := by decide +kernel
theorem dM_cipher_33 : decode mM_cipher.2.1 33 = .ok (.iload_n 3, 1) := by decide +kernel
theorem dM_cipher_34 : decode mM_cipher.2.1 34 = .ok (.istore 4, 2) := by decide +kernel
theorem dM_cipher_36 : decode mM_cipher.2.1 36 = .ok (.iload 4, 2) := by decide +kernel
theorem dM_cipher_38 : decode mM_cipher.2.1 38 = .ok (.iload_n 1, 1) := by decide +kernel
theorem dM_cipher_39 : decode mM_cipher.2.1 39 = .ok (.if_icmp .ge 50, 3) := by decide +kernel
theorem dM_cipher_42 : decode mM_cipher.2.1 42 = .ok (.iload 4, 2) := by decide +kernel
theorem dM_cipher_44 : decode mM_cipher.2.1 44 = .ok (.iload_n 3, 1) := by decide +kernel
theorem dM_cipher_45 : decode mM_cipher.2.1 45 = .ok (.bipush 16, 2) := by decide +kernel
theorem dM_cipher_47 : decode mM_cipher.2.1 47 = .ok (.iadd, 1) := by decide +kernel
theorem dM_cipher_48 : decode mM_cipher.2.1 48 = .ok (.if_icmp .ge 41, 3) := by decide +kernel
theorem dM_cipher_51 : decode mM_cipher.2.1 51 = .ok (.aload_n 0, 1) := by decide +kernel
theorem dM_cipher_52 : decode mM_cipher.2.1 52 = .ok (.getfield 7, 3) := by decide +kernel
theorem dM_cipher_55 : decode mM_cipher.2.1 55 = .ok (.sipush 256, 3) := by decide +kernel
theorem dM_cipher_58 : decode mM_cipher.2.1 58 = .ok (.iload 4, 2) := by decide +kernel
theorem dM_cipher_60 : decode mM_cipher.2.1 60 = .ok (.iadd, 1) := by decide +kernel
theorem dM_cipher_61 : decode mM_cipher.2.1 61 = .ok (.aload_n 0, 1) := by decide +kernel
theorem dM_cipher_62 : decode mM_cipher.2.1 62 = .ok (.getfield 7, 3) := by decide +kernel
theorem dM_cipher_65 : decode mM_cipher.2.1 65 = .ok (.sipush 192, 3) := by decide +kernel
theorem dM_cipher_68 : decode mM_cipher.2.1 68 = .ok (.iload 4, 2) := by decide +kernel
theorem dM_cipher_70 : decode mM_cipher.2.1 70 = .ok (.iadd, 1) := by decide +kernel
theorem dM_cipher_71 : decode mM_cipher.2.1 71 = .ok (.iaload, 1) := by decide +kernel
theorem dM_cipher_72 : decode mM_cipher.2.1 72 = .ok (.aload_n 0, 1) := by decide +kernel
theorem dM_cipher_73 : decode mM_cipher.2.1 73 = .ok (.getfield 34, 3) := by decide +kernel
theorem dM_cipher_76 : decode mM_cipher.2.1 76 = .ok (.iload 4, 2) := by decide +kernel
theorem dM_cipher_78 : decode mM_cipher.2.1 78 = .ok (.iload_n 3, 1) := by decide +kernel
theorem dM_cipher_79 : decode mM_cipher.2.1 79 = .ok (.isub, 1) := by decide +kernel
theorem dM_cipher_80 : decode mM_cipher.2.1 80 = .ok (.iaload, 1) := by decide +kernel
theorem dM_cipher_81 : decode mM_cipher.2.1 81 = .ok (.ixor, 1) := by decide +kernel
theorem dM_cipher_82 : decode mM_cipher.2.1 82 = .ok (.iastore, 1) := by decide +kernel
theorem dM_cipher_83 : decode mM_cipher.2.1 83 = .ok (.iinc 4 1, 3) := by decide +kernel
theorem dM_cipher_86 : decode mM_cipher.2.1 86 = .ok (.goto (-50), 3) := by decide +kernel
theorem dM_cipher_89 : decode mM_cipher.2.1 89 = .ok (.iinc 3 16, 3) := by decide +kernel
theorem dM_cipher_92 : decode mM_cipher.2.1 92 = .ok (.goto (-90), 3) := by decide +kernel
theorem dM_cipher_95 : decode mM_cipher.2.1 95 = .ok (.return_, 1) := by decide +kernel
theorem dM_sealOutward_0 : decode mM_sealOutward.2.1 0 = .ok (.aload_n 0, 1) := by decide +kernel
theorem dM_sealOutward_1 : decode mM_sealOutward.2.1 1 = .ok (.invokevirtual 127, 3) := by decide +kernel
theorem dM_sealOutward_4 : decode mM_sealOutward.2.1 4 = .ok (.aload_n 0, 1) := by decide +kernel
theorem dM_sealOutward_5 : decode mM_sealOutward.2.1 5 = .ok (.iconst 0, 1) := by decide +kernel
theorem dM_sealOutward_6 : decode mM_sealOutward.2.1 6 = .ok (.sipush 128, 3) := by decide +kernel
theorem dM_sealOutward_9 : decode mM_sealOutward.2.1 9 = .ok (.aload_n 0, 1) := by decide +kernel
theorem dM_sealOutward_10 : decode mM_sealOutward.2.1 10 = .ok (.getfield 13, 3) := by decide +kernel
theorem dM_sealOutward_13 : decode mM_sealOutward.2.1 13 = .ok (.iconst 2, 1) := by decide +kernel
theorem dM_sealOutward_14 : decode mM_sealOutward.2.1 14 = .ok (.iaload, 1) := by decide +kernel
theorem dM_sealOutward_15 : decode mM_sealOutward.2.1 15 = .ok (.invokevirtual 120, 3) := by decide +kernel
theorem dM_sealOutward_18 : decode mM_sealOutward.2.1 18 = .ok (.aload_n 0, 1) := by decide +kernel
theorem dM_sealOutward_19 : decode mM_sealOutward.2.1 19 = .ok (.iconst 0, 1) := by decide +kernel
theorem dM_sealOutward_20 : decode mM_sealOutward.2.1 20 = .ok (.iload_n 1, 1) := by decide +kernel
theorem dM_sealOutward_21 : decode mM_sealOutward.2.1 21 = .ok (.iload_n 2, 1) := by decide +kernel
theorem dM_sealOutward_22 : decode mM_sealOutward.2.1 22 = .ok (.invokevirtual 120, 3) := by decide +kernel
theorem dM_sealOutward_25 : decode mM_sealOutward.2.1 25 = .ok (.aload_n 0, 1) := by decide +kernel
theorem dM_sealOutward_26 : decode mM_sealOutward.2.1 26 = .ok (.iconst 0, 1) := by decide +kernel
theorem dM_sealOutward_27 : decode mM_sealOutward.2.1 27 = .ok (.aload_n 0, 1) := by decide +kernel
theorem dM_sealOutward_28 : decode mM_sealOutward.2.1 28 = .ok (.getfield 13, 3) := by decide +kernel
theorem dM_sealOutward_31 : decode mM_sealOutward.2.1 31 = .ok (.iconst 2, 1) := by decide +kernel
theorem dM_sealOutward_32 : decode mM_sealOutward.2.1 32 = .ok (.iaload, 1) := by decide +kernel
theorem dM_sealOutward_33 : decode mM_sealOutward.2.1 33 = .ok (.iload_n 2, 1) := by decide +kernel
theorem dM_sealOutward_34 : decode mM_sealOutward.2.1 34 = .ok (.invokevirtual 130, 3) := by decide +kernel
theorem dM_sealOutward_37 : decode mM_sealOutward.2.1 37 = .ok (.aload_n 0, 1) := by decide +kernel
theorem dM_sealOutward_38 : decode mM_sealOutward.2.1 38 = .ok (.iconst 0, 1) := by decide +kernel
theorem dM_sealOutward_39 : decode mM_sealOutward.2.1 39 = .ok (.invokevirtual 124, 3) := by decide +kernel
theorem dM_sealOutward_42 : decode mM_sealOutward.2.1 42 = .ok (.iconst 0, 1) := by decide +kernel
theorem dM_sealOutward_43 : decode mM_sealOutward.2.1 43 = .ok (.istore_n 3, 1) := by decide +kernel
theorem dM_sealOutward_44 : decode mM_sealOutward.2.1 44 = .ok (.iload_n 3, 1) := by decide +kernel
theorem dM_sealOutward_45 : decode mM_sealOutward.2.1 45 = .ok (.bipush 16, 2) := by decide +kernel
theorem dM_sealOutward_47 : decode mM_sealOutward.2.1 47 = .ok (.if_icmp .ge 33, 3) := by decide +kernel
theorem dM_sealOutward_50 : decode mM_sealOutward.2.1 50 = .ok (.aload_n 0, 1) := by decide +kernel
theorem dM_sealOutward_51 : decode mM_sealOutward.2.1 51 = .ok (.getfield 49, 3) := by decide +kernel
theorem dM_sealOutward_54 : decode mM_sealOutward.2.1 54 = .ok (.iload_n 3, 1) := by decide +kernel
theorem dM_sealOutward_55 : decode mM_sealOutward.2.1 55 = .ok (.aload_n 0, 1) := by decide +kernel
theorem dM_sealOutward_56 : decode mM_sealOutward.2.1 56 = .ok (.getfield 34, 3) := by decide +kernel
theorem dM_sealOutward_59 : decode mM_sealOutward.2.1 59 = .ok (.iload_n 3, 1) := by decide +kernel
theorem dM_sealOutward_60 : decode mM_sealOutward.2.1 60 = .ok (.iaload, 1) := by decide +kernel
theorem dM_sealOutward_61 : decode mM_sealOutward.2.1 61 = .ok (.iastore, 1) := by decide +kernel
theorem dM_sealOutward_62 : decode mM_sealOutward.2.1 62 = .ok (.aload_n 0, 1) := by decide +kernel
theorem dM_sealOutward_63 : decode mM_sealOutward.2.1 63 = .ok (.getfield 34, 3) := by decide +kernel
theorem dM_sealOutward_66 : decode mM_sealOutward.2.1 66 = .ok (.iload_n 3, 1) := by decide +kernel
theorem dM_sealOutward_67 : decode mM_sealOutward.2.1 67 = .ok (.aload_n 0, 1) := by decide +kernel
theorem dM_sealOutward_68 : decode mM_sealOutward.2.1 68 = .ok (.getfield 46, 3) := by decide +kernel
theorem dM_sealOutward_71 : decode mM_sealOutward.2.1 71 = .ok (.iload_n 3, 1) := by decide +kernel
theorem dM_sealOutward_72 : decode mM_sealOutward.2.1 72 = .ok (.iaload, 1) := by decide +kernel
theorem dM_sealOutward_73 : decode mM_sealOutward.2.1 73 = .ok (.iastore, 1) := by decide +kernel
theorem dM_sealOutward_74 : decode mM_sealOutward.2.1 74 = .ok (.iinc 3 1, 3) := by decide +kernel
theorem dM_sealOutward_77 : decode mM_sealOutward.2.1 77 = .ok (.goto (-33), 3) := by decide +kernel
theorem dM_sealOutward_80 : decode mM_sealOutward.2.1 80 = .ok (.aload_n 0, 1) := by decide +kernel
theorem dM_sealOutward_81 : decode mM_sealOutward.2.1 81 = .ok (.invokevirtual 111, 3) := by decide +kernel
theorem dM_sealOutward_84 : decode mM_sealOutward.2.1 84 = .ok (.iconst 0, 1) := by decide +kernel
theorem dM_sealOutward_85 : decode mM_sealOutward.2.1 85 = .ok (.istore_n 3, 1) := by decide +kernel
theorem dM_sealOutward_86 : decode mM_sealOutward.2.1 86 = .ok (.iload_n 3, 1) := by decide +kernel
theorem dM_sealOutward_87 : decode mM_sealOutward.2.1 87 = .ok (.bipush 16, 2) := by decide +kernel
theorem dM_sealOutward_89 : decode mM_sealOutward.2.1 89 = .ok (.if_icmp .ge 28, 3) := by decide +kernel
theorem dM_sealOutward_92 : decode mM_sealOutward.2.1 92 = .ok (.aload_n 0, 1) := by decide +kernel
theorem dM_sealOutward_93 : decode mM_sealOutward.2.1 93 = .ok (.getfield 49, 3) := by decide +kernel
theorem dM_sealOutward_96 : decode mM_sealOutward.2.1 96 = .ok (.iload_n 3, 1) := by decide +kernel
theorem dM_sealOutward_97 : decode mM_sealOutward.2.1 97 = .ok (.aload_n 0, 1) := by decide +kernel
theorem dM_sealOutward_98 : decode mM_sealOutward.2.1 98 = .ok (.getfield 49, 3) := by decide +kernel
theorem dM_sealOutward_101 : decode mM_sealOutward.2.1 101 = .ok (.iload_n 3, 1) := by decide +kernel
theorem dM_sealOutward_102 : decode mM_sealOutward.2.1 102 = .ok (.iaload, 1) := by decide +kernel
theorem dM_sealOutward_103 : decode mM_sealOutward.2.1 103 = .ok (.aload_n 0, 1) := by decide +kernel
theorem dM_sealOutward_104 : decode mM_sealOutward.2.1 104 = .ok (.getfield 34, 3) := by decide +kernel
theorem dM_sealOutward_107 : decode mM_sealOutward.2.1 107 = .ok (.iload_n 3, 1) := by decide +kernel
theorem dM_sealOutward_108 : decode mM_sealOutward.2.1 108 = .ok (.iaload, 1) := by decide +kernel
theorem dM_sealOutward_109 : decode mM_sealOutward.2.1 109 = .ok (.ixor, 1) := by decide +kernel
theorem dM_sealOutward_110 : decode mM_sealOutward.2.1 110 = .ok (.iastore, 1) := by decide +kernel
theorem dM_sealOutward_111 : decode mM_sealOutward.2.1 111 = .ok (.iinc 3 1, 3) := by decide +kernel
theorem dM_sealOutward_114 : decode mM_sealOutward.2.1 114 = .ok (.goto (-28), 3) := by decide +kernel
theorem dM_sealOutward_117 : decode mM_sealOutward.2.1 117 = .ok (.return_, 1) := by decide +kernel
theorem dM_derive_0 : decode mM_derive.2.1 0 = .ok (.iconst 0, 1) := by decide +kernel
theorem dM_derive_1 : decode mM_derive.2.1 1 = .ok (.istore_n 3, 1) := by decide +kernel
theorem dM_derive_2 : decode mM_derive.2.1 2 = .ok (.iload_n 3, 1) := by decide +kernel
theorem dM_derive_3 : decode mM_derive.2.1 3 = .ok (.bipush 16, 2) := by decide +kernel
theorem dM_derive_5 : decode mM_derive.2.1 5 = .ok (.if_icmp .ge 41, 3) := by decide +kernel
theorem dM_derive_8 : decode mM_derive.2.1 8 = .ok (.aload_n 0, 1) := by decide +kernel
theorem dM_derive_9 : decode mM_derive.2.1 9 = .ok (.getfield 34, 3) := by decide +kernel
theorem dM_derive_12 : decode mM_derive.2.1 12 = .ok (.iload_n 3, 1) := by decide +kernel
theorem dM_derive_13 : decode mM_derive.2.1 13 = .ok (.iload_n 3, 1) := by decide +kernel
theorem dM_derive_14 : decode mM_derive.2.1 14 = .ok (.ifCond .ne 7, 3) := by decide +kernel
theorem dM_derive_17 : decode mM_derive.2.1 17 = .ok (.iload_n 1, 1) := by decide +kernel
theorem dM_derive_18 : decode mM_derive.2.1 18 = .ok (.goto 21, 3) := by decide +kernel
theorem dM_derive_21 : decode mM_derive.2.1 21 = .ok (.iload_n 3, 1) := by decide +kernel
theorem dM_derive_22 : decode mM_derive.2.1 22 = .ok (.iconst 4, 1) := by decide +kernel
theorem dM_derive_23 : decode mM_derive.2.1 23 = .ok (.if_icmp .ge 7, 3) := by decide +kernel
theorem dM_derive_26 : decode mM_derive.2.1 26 = .ok (.iconst 0, 1) := by decide +kernel
theorem dM_derive_27 : decode mM_derive.2.1 27 = .ok (.goto 12, 3) := by decide +kernel
theorem dM_derive_30 : decode mM_derive.2.1 30 = .ok (.aload_n 0, 1) := by decide +kernel
theorem dM_derive_31 : decode mM_derive.2.1 31 = .ok (.getfield 7, 3) := by decide +kernel
theorem dM_derive_34 : decode mM_derive.2.1 34 = .ok (.bipush 60, 2) := by decide +kernel
theorem dM_derive_36 : decode mM_derive.2.1 36 = .ok (.iload_n 3, 1) := by decide +kernel
theorem dM_derive_37 : decode mM_derive.2.1 37 = .ok (.iadd, 1) := by decide +kernel
theorem dM_derive_38 : decode mM_derive.2.1 38 = .ok (.iaload, 1) := by decide +kernel
theorem dM_derive_39 : decode mM_derive.2.1 39 = .ok (.iastore, 1) := by decide +kernel
theorem dM_derive_40 : decode mM_derive.2.1 40 = .ok (.iinc 3 1, 3) := by decide +kernel
theorem dM_derive_43 : decode mM_derive.2.1 43 = .ok (.goto (-41), 3) := by decide +kernel
theorem dM_derive_46 : decode mM_derive.2.1 46 = .ok (.aload_n 0, 1) := by decide +kernel
theorem dM_derive_47 : decode mM_derive.2.1 47 = .ok (.invokevirtual 111, 3) := by decide +kernel
theorem dM_derive_50 : decode mM_derive.2.1 50 = .ok (.iconst 0, 1) := by decide +kernel
theorem dM_derive_51 : decode mM_derive.2.1 51 = .ok (.istore_n 3, 1) := by decide +kernel
theorem dM_derive_52 : decode mM_derive.2.1 52 = .ok (.iload_n 3, 1) := by decide +kernel
theorem dM_derive_53 : decode mM_derive.2.1 53 = .ok (.bipush 8, 2) := by decide +kernel
theorem dM_derive_55 : decode mM_derive.2.1 55 = .ok (.if_icmp .ge 27, 3) := by decide +kernel
theorem dM_derive_58 : decode mM_derive.2.1 58 = .ok (.aload_n 0, 1) := by decide +kernel
theorem dM_derive_59 : decode mM_derive.2.1 59 = .ok (.getfield 7, 3) := by decide +kernel
theorem dM_derive_62 : decode mM_derive.2.1 62 = .ok (.sipush 256, 3) := by decide +kernel
theorem dM_derive_65 : decode mM_derive.2.1 65 = .ok (.iload_n 2, 1) := by decide +kernel
theorem dM_derive_66 : decode mM_derive.2.1 66 = .ok (.iadd, 1) := by decide +kernel
theorem dM_derive_67 : decode mM_derive.2.1 67 = .ok (.iload_n 3, 1) := by decide +kernel
theorem dM_derive_68 : decode mM_derive.2.1 68 = .ok (.iadd, 1) := by decide +kernel
theorem dM_derive_69 : decode mM_derive.2.1 69 = .ok (.aload_n 0, 1) := by decide +kernel
theorem dM_derive_70 : decode mM_derive.2.1 70 = .ok (.getfield 34, 3) := by decide +kernel
theorem dM_derive_73 : decode mM_derive.2.1 73 = .ok (.iload_n 3, 1) := by decide +kernel
theorem dM_derive_74 : decode mM_derive.2.1 74 = .ok (.iaload, 1) := by decide +kernel
theorem dM_derive_75 : decode mM_derive.2.1 75 = .ok (.iastore, 1) := by decide +kernel
theorem dM_derive_76 : decode mM_derive.2.1 76 = .ok (.iinc 3 1, 3) := by decide +kernel
theorem dM_derive_79 : decode mM_derive.2.1 79 = .ok (.goto (-27), 3) := by decide +kernel
theorem dM_derive_82 : decode mM_derive.2.1 82 = .ok (.return_, 1) := by decide +kernel
theorem dM_deriveKeys_0 : decode mM_deriveKeys.2.1 0 = .ok (.aload_n 0, 1) := by decide +kernel
theorem dM_deriveKeys_1 : decode mM_deriveKeys.2.1 1 = .ok (.invokevirtual 108, 3) := by decide +kernel
theorem dM_deriveKeys_4 : decode mM_deriveKeys.2.1 4 = .ok (.iconst 0, 1) := by decide +kernel
theorem dM_deriveKeys_5 : decode mM_deriveKeys.2.1 5 = .ok (.istore_n 1, 1) := by decide +kernel
theorem dM_deriveKeys_6 : decode mM_deriveKeys.2.1 6 = .ok (.iload_n 1, 1) := by decide +kernel
theorem dM_deriveKeys_7 : decode mM_deriveKeys.2.1 7 = .ok (.iconst 4, 1) := by decide +kernel
theorem dM_deriveKeys_8 : decode mM_deriveKeys.2.1 8 = .ok (.if_icmp .ge 18, 3) := by decide +kernel
theorem dM_deriveKeys_11 : decode mM_deriveKeys.2.1 11 = .ok (.aload_n 0, 1) := by decide +kernel
theorem dM_deriveKeys_12 : decode mM_deriveKeys.2.1 12 = .ok (.iload_n 1, 1) := by decide +kernel
theorem dM_deriveKeys_13 : decode mM_deriveKeys.2.1 13 = .ok (.bipush 8, 2) := by decide +kernel
theorem dM_deriveKeys_15 : decode mM_deriveKeys.2.1 15 = .ok (.iload_n 1, 1) := by decide +kernel
theorem dM_deriveKeys_16 : decode mM_deriveKeys.2.1 16 = .ok (.imul, 1) := by decide +kernel
theorem dM_deriveKeys_17 : decode mM_deriveKeys.2.1 17 = .ok (.invokevirtual 137, 3) := by decide +kernel
theorem dM_deriveKeys_20 : decode mM_deriveKeys.2.1 20 = .ok (.iinc 1 1, 3) := by decide +kernel
theorem dM_deriveKeys_23 : decode mM_deriveKeys.2.1 23 = .ok (.goto (-17), 3) := by decide +kernel
theorem dM_deriveKeys_26 : decode mM_deriveKeys.2.1 26 = .ok (.iconst 0, 1) := by decide +kernel
theorem dM_deriveKeys_27 : decode mM_deriveKeys.2.1 27 = .ok (.istore_n 1, 1) := by decide +kernel
theorem dM_deriveKeys_28 : decode mM_deriveKeys.2.1 28 = .ok (.iload_n 1, 1) := by decide +kernel
theorem dM_deriveKeys_29 : decode mM_deriveKeys.2.1 29 = .ok (.bipush 16, 2) := by decide +kernel
theorem dM_deriveKeys_31 : decode mM_deriveKeys.2.1 31 = .ok (.if_icmp .ge 41, 3) := by decide +kernel
theorem dM_deriveKeys_34 : decode mM_deriveKeys.2.1 34 = .ok (.aload_n 0, 1) := by decide +kernel
theorem dM_deriveKeys_35 : decode mM_deriveKeys.2.1 35 = .ok (.getfield 46, 3) := by decide +kernel
theorem dM_deriveKeys_38 : decode mM_deriveKeys.2.1 38 = .ok (.iload_n 1, 1) := by decide +kernel
theorem dM_deriveKeys_39 : decode mM_deriveKeys.2.1 39 = .ok (.aload_n 0, 1) := by decide +kernel
theorem dM_deriveKeys_40 : decode mM_deriveKeys.2.1 40 = .ok (.getfield 7, 3) := by decide +kernel
theorem dM_deriveKeys_43 : decode mM_deriveKeys.2.1 43 = .ok (.sipush 256, 3) := by decide +kernel
theorem dM_deriveKeys_46 : decode mM_deriveKeys.2.1 46 = .ok (.iload_n 1, 1) := by decide +kernel
theorem dM_deriveKeys_47 : decode mM_deriveKeys.2.1 47 = .ok (.iadd, 1) := by decide +kernel
theorem dM_deriveKeys_48 : decode mM_deriveKeys.2.1 48 = .ok (.iaload, 1) := by decide +kernel
theorem dM_deriveKeys_49 : decode mM_deriveKeys.2.1 49 = .ok (.iastore, 1) := by decide +kernel
theorem dM_deriveKeys_50 : decode mM_deriveKeys.2.1 50 = .ok (.aload_n 0, 1) := by decide +kernel
theorem dM_deriveKeys_51 : decode mM_deriveKeys.2.1 51 = .ok (.getfield 31, 3) := by decide +kernel
theorem dM_deriveKeys_54 : decode mM_deriveKeys.2.1 54 = .ok (.iload_n 1, 1) := by decide +kernel
theorem dM_deriveKeys_55 : decode mM_deriveKeys.2.1 55 = .ok (.aload_n 0, 1) := by decide +kernel
theorem dM_deriveKeys_56 : decode mM_deriveKeys.2.1 56 = .ok (.getfield 7, 3) := by decide +kernel
theorem dM_deriveKeys_59 : decode mM_deriveKeys.2.1 59 = .ok (.sipush 272, 3) := by decide +kernel
theorem dM_deriveKeys_62 : decode mM_deriveKeys.2.1 62 = .ok (.iload_n 1, 1) := by decide +kernel
theorem dM_deriveKeys_63 : decode mM_deriveKeys.2.1 63 = .ok (.iadd, 1) := by decide +kernel
theorem dM_deriveKeys_64 : decode mM_deriveKeys.2.1 64 = .ok (.iaload, 1) := by decide +kernel
theorem dM_deriveKeys_65 : decode mM_deriveKeys.2.1 65 = .ok (.iastore, 1) := by decide +kernel
theorem dM_deriveKeys_66 : decode mM_deriveKeys.2.1 66 = .ok (.iinc 1 1, 3) := by decide +kernel
theorem dM_deriveKeys_69 : decode mM_deriveKeys.2.1 69 = .ok (.goto (-41), 3) := by decide +kernel
theorem dM_deriveKeys_72 : decode mM_deriveKeys.2.1 72 = .ok (.return_, 1) := by decide +kernel
theorem dM_sealInward_0 : decode mM_sealInward.2.1 0 = .ok (.iconst 0, 1) := by decide +kernel
theorem dM_sealInward_1 : decode mM_sealInward.2.1 1 = .ok (.istore_n 3, 1) := by decide +kernel
theorem dM_sealInward_2 : decode mM_sealInward.2.1 2 = .ok (.iload_n 3, 1) := by decide +kernel
theorem dM_sealInward_3 : decode mM_sealInward.2.1 3 = .ok (.bipush 16, 2) := by decide +kernel
theorem dM_sealInward_5 : decode mM_sealInward.2.1 5 = .ok (.if_icmp .ge 21, 3) := by decide +kernel
theorem dM_sealInward_8 : decode mM_sealInward.2.1 8 = .ok (.aload_n 0, 1) := by decide +kernel
theorem dM_sealInward_9 : decode mM_sealInward.2.1 9 = .ok (.getfield 34, 3) := by decide +kernel
theorem dM_sealInward_12 : decode mM_sealInward.2.1 12 = .ok (.iload_n 3, 1) := by decide +kernel
theorem dM_sealInward_13 : decode mM_sealInward.2.1 13 = .ok (.aload_n 0, 1) := by decide +kernel
theorem dM_sealInward_14 : decode mM_sealInward.2.1 14 = .ok (.getfield 46, 3) := by decide +kernel
theorem dM_sealInward_17 : decode mM_sealInward.2.1 17 = .ok (.iload_n 3, 1) := by decide +kernel
theorem dM_sealInward_18 : decode mM_sealInward.2.1 18 = .ok (.iaload, 1) := by decide +kernel
theorem dM_sealInward_19 : decode mM_sealInward.2.1 19 = .ok (.iastore, 1) := by decide +kernel
theorem dM_sealInward_20 : decode mM_sealInward.2.1 20 = .ok (.iinc 3 1, 3) := by decide +kernel
theorem dM_sealInward_23 : decode mM_sealInward.2.1 23 = .ok (.goto (-21), 3) := by decide +kernel
theorem dM_sealInward_26 : decode mM_sealInward.2.1 26 = .ok (.aload_n 0, 1) := by decide +kernel
theorem dM_sealInward_27 : decode mM_sealInward.2.1 27 = .ok (.iconst 1, 1) := by decide +kernel
theorem dM_sealInward_28 : decode mM_sealInward.2.1 28 = .ok (.invokevirtual 117, 3) := by decide +kernel
theorem dM_sealInward_31 : decode mM_sealInward.2.1 31 = .ok (.aload_n 0, 1) := by decide +kernel
theorem dM_sealInward_32 : decode mM_sealInward.2.1 32 = .ok (.iconst 1, 1) := by decide +kernel
theorem dM_sealInward_33 : decode mM_sealInward.2.1 33 = .ok (.sipush 128, 3) := by decide +kernel
theorem dM_sealInward_36 : decode mM_sealInward.2.1 36 = .ok (.aload_n 0, 1) := by decide +kernel
theorem dM_sealInward_37 : decode mM_sealInward.2.1 37 = .ok (.getfield 13, 3) := by decide +kernel
theorem dM_sealInward_40 : decode mM_sealInward.2.1 40 = .ok (.iconst 2, 1) := by decide +kernel
theorem dM_sealInward_41 : decode mM_sealInward.2.1 41 = .ok (.iaload, 1) := by decide +kernel
theorem dM_sealInward_42 : decode mM_sealInward.2.1 42 = .ok (.invokevirtual 120, 3) := by decide +kernel
theorem dM_sealInward_45 : decode mM_sealInward.2.1 45 = .ok (.aload_n 0, 1) := by decide +kernel
theorem dM_sealInward_46 : decode mM_sealInward.2.1 46 = .ok (.iconst 1, 1) := by decide +kernel
theorem dM_sealInward_47 : decode mM_sealInward.2.1 47 = .ok (.iload_n 1, 1) := by decide +kernel
theorem dM_sealInward_48 : decode mM_sealInward.2.1 48 = .ok (.iload_n 2, 1) := by decide +kernel
theorem dM_sealInward_49 : decode mM_sealInward.2.1 49 = .ok (.invokevirtual 120, 3) := by decide +kernel
theorem dM_sealInward_52 : decode mM_sealInward.2.1 52 = .ok (.aload_n 0, 1) := by decide +kernel
theorem dM_sealInward_53 : decode mM_sealInward.2.1 53 = .ok (.iconst 1, 1) := by decide +kernel
theorem dM_sealInward_54 : decode mM_sealInward.2.1 54 = .ok (.aload_n 0, 1) := by decide +kernel
theorem dM_sealInward_55 : decode mM_sealInward.2.1 55 = .ok (.getfield 13, 3) := by decide +kernel
theorem dM_sealInward_58 : decode mM_sealInward.2.1 58 = .ok (.iconst 2, 1) := by decide +kernel
theorem dM_sealInward_59 : decode mM_sealInward.2.1 59 = .ok (.iaload, 1) := by decide +kernel
theorem dM_sealInward_60 : decode mM_sealInward.2.1 60 = .ok (.iload_n 2, 1) := by decide +kernel
theorem dM_sealInward_61 : decode mM_sealInward.2.1 61 = .ok (.invokevirtual 130, 3) := by decide +kernel
theorem dM_sealInward_64 : decode mM_sealInward.2.1 64 = .ok (.aload_n 0, 1) := by decide +kernel
theorem dM_sealInward_65 : decode mM_sealInward.2.1 65 = .ok (.iconst 1, 1) := by decide +kernel
theorem dM_sealInward_66 : decode mM_sealInward.2.1 66 = .ok (.invokevirtual 124, 3) := by decide +kernel
theorem dM_sealInward_69 : decode mM_sealInward.2.1 69 = .ok (.iconst 0, 1) := by decide +kernel
theorem dM_sealInward_70 : decode mM_sealInward.2.1 70 = .ok (.istore_n 3, 1) := by decide +kernel
theorem dM_sealInward_71 : decode mM_sealInward.2.1 71 = .ok (.iload_n 3, 1) := by decide +kernel
theorem dM_sealInward_72 : decode mM_sealInward.2.1 72 = .ok (.bipush 12, 2) := by decide +kernel
theorem dM_sealInward_74 : decode mM_sealInward.2.1 74 = .ok (.if_icmp .ge 31, 3) := by decide +kernel
theorem dM_sealInward_77 : decode mM_sealInward.2.1 77 = .ok (.aload_n 0, 1) := by decide +kernel
theorem dM_sealInward_78 : decode mM_sealInward.2.1 78 = .ok (.getfield 34, 3) := by decide +kernel
theorem dM_sealInward_81 : decode mM_sealInward.2.1 81 = .ok (.iload_n 3, 1) := by decide +kernel
theorem dM_sealInward_82 : decode mM_sealInward.2.1 82 = .ok (.aload_n 0, 1) := by decide +kernel
theorem dM_sealInward_83 : decode mM_sealInward.2.1 83 = .ok (.getfield 34, 3) := by decide +kernel
theorem dM_sealInward_86 : decode mM_sealInward.2.1 86 = .ok (.iload_n 3, 1) := by decide +kernel
theorem dM_sealInward_87 : decode mM_sealInward.2.1 87 = .ok (.iaload, 1) := by decide +kernel
theorem dM_sealInward_88 : decode mM_sealInward.2.1 88 = .ok (.aload_n 0, 1) := by decide +kernel
theorem dM_sealInward_89 : decode mM_sealInward.2.1 89 = .ok (.getfield 7, 3) := by decide +kernel
theorem dM_sealInward_92 : decode mM_sealInward.2.1 92 = .ok (.bipush 64, 2) := by decide +kernel
theorem dM_sealInward_94 : decode mM_sealInward.2.1 94 = .ok (.iload_n 3, 1) := by decide +kernel
theorem dM_sealInward_95 : decode mM_sealInward.2.1 95 = .ok (.iadd, 1) := by decide +kernel
theorem dM_sealInward_96 : decode mM_sealInward.2.1 96 = .ok (.iaload, 1) := by decide +kernel
theorem dM_sealInward_97 : decode mM_sealInward.2.1 97 = .ok (.ixor, 1) := by decide +kernel
theorem dM_sealInward_98 : decode mM_sealInward.2.1 98 = .ok (.iastore, 1) := by decide +kernel
theorem dM_sealInward_99 : decode mM_sealInward.2.1 99 = .ok (.iinc 3 1, 3) := by decide +kernel
theorem dM_sealInward_102 : decode mM_sealInward.2.1 102 = .ok (.goto (-31), 3) := by decide +kernel
theorem dM_sealInward_105 : decode mM_sealInward.2.1 105 = .ok (.aload_n 0, 1) := by decide +kernel
theorem dM_sealInward_106 : decode mM_sealInward.2.1 106 = .ok (.getfield 34, 3) := by decide +kernel
theorem dM_sealInward_109 : decode mM_sealInward.2.1 109 = .ok (.bipush 15, 2) := by decide +kernel
theorem dM_sealInward_111 : decode mM_sealInward.2.1 111 = .ok (.aload_n 0, 1) := by decide +kernel
theorem dM_sealInward_112 : decode mM_sealInward.2.1 112 = .ok (.getfield 34, 3) := by decide +kernel
theorem dM_sealInward_115 : decode mM_sealInward.2.1 115 = .ok (.bipush 15, 2) := by decide +kernel
theorem dM_sealInward_117 : decode mM_sealInward.2.1 117 = .ok (.iaload, 1) := by decide +kernel
theorem dM_sealInward_118 : decode mM_sealInward.2.1 118 = .ok (.bipush 127, 2) := by decide +kernel
theorem dM_sealInward_120 : decode mM_sealInward.2.1 120 = .ok (.iand, 1) := by decide +kernel
theorem dM_sealInward_121 : decode mM_sealInward.2.1 121 = .ok (.iastore, 1) := by decide +kernel
theorem dM_sealInward_122 : decode mM_sealInward.2.1 122 = .ok (.aload_n 0, 1) := by decide +kernel
theorem dM_sealInward_123 : decode mM_sealInward.2.1 123 = .ok (.invokevirtual 111, 3) := by decide +kernel
theorem dM_sealInward_126 : decode mM_sealInward.2.1 126 = .ok (.iconst 0, 1) := by decide +kernel
theorem dM_sealInward_127 : decode mM_sealInward.2.1 127 = .ok (.istore_n 3, 1) := by decide +kernel
theorem dM_sealInward_128 : decode mM_sealInward.2.1 128 = .ok (.iload_n 3, 1) := by decide +kernel
theorem dM_sealInward_129 : decode mM_sealInward.2.1 129 = .ok (.bipush 16, 2) := by decide +kernel
theorem dM_sealInward_131 : decode mM_sealInward.2.1 131 = .ok (.if_icmp .ge 21, 3) := by decide +kernel
theorem dM_sealInward_134 : decode mM_sealInward.2.1 134 = .ok (.aload_n 0, 1) := by decide +kernel
theorem dM_sealInward_135 : decode mM_sealInward.2.1 135 = .ok (.getfield 49, 3) := by decide +kernel
theorem dM_sealInward_138 : decode mM_sealInward.2.1 138 = .ok (.iload_n 3, 1) := by decide +kernel
theorem dM_sealInward_139 : decode mM_sealInward.2.1 139 = .ok (.aload_n 0, 1) := by decide +kernel
theorem dM_sealInward_140 : decode mM_sealInward.2.1 140 = .ok (.getfield 34, 3) := by decide +kernel
theorem dM_sealInward_143 : decode mM_sealInward.2.1 143 = .ok (.iload_n 3, 1) := by decide +kernel
theorem dM_sealInward_144 : decode mM_sealInward.2.1 144 = .ok (.iaload, 1) := by decide +kernel
theorem dM_sealInward_145 : decode mM_sealInward.2.1 145 = .ok (.iastore, 1) := by decide +kernel
theorem dM_sealInward_146 : decode mM_sealInward.2.1 146 = .ok (.iinc 3 1, 3) := by decide +kernel
theorem dM_sealInward_149 : decode mM_sealInward.2.1 149 = .ok (.goto (-21), 3) := by decide +kernel
theorem dM_sealInward_152 : decode mM_sealInward.2.1 152 = .ok (.return_, 1) := by decide +kernel
theorem dM_startAtTag_0 : decode mM_startAtTag.2.1 0 = .ok (.iconst 0, 1) := by decide +kernel
theorem dM_startAtTag_1 : decode mM_startAtTag.2.1 1 = .ok (.istore_n 1, 1) := by decide +kernel
theorem dM_startAtTag_2 : decode mM_startAtTag.2.1 2 = .ok (.iload_n 1, 1) := by decide +kernel
theorem dM_startAtTag_3 : decode mM_startAtTag.2.1 3 = .ok (.bipush 16, 2) := by decide +kernel
theorem dM_startAtTag_5 : decode mM_startAtTag.2.1 5 = .ok (.if_icmp .ge 40, 3) := by decide +kernel
theorem dM_startAtTag_8 : decode mM_startAtTag.2.1 8 = .ok (.aload_n 0, 1) := by decide +kernel
theorem dM_startAtTag_9 : decode mM_startAtTag.2.1 9 = .ok (.getfield 46, 3) := by decide +kernel
theorem dM_startAtTag_12 : decode mM_startAtTag.2.1 12 = .ok (.iload_n 1, 1) := by decide +kernel
theorem dM_startAtTag_13 : decode mM_startAtTag.2.1 13 = .ok (.iload_n 1, 1) := by decide +kernel
theorem dM_startAtTag_14 : decode mM_startAtTag.2.1 14 = .ok (.bipush 15, 2) := by decide +kernel
theorem dM_startAtTag_16 : decode mM_startAtTag.2.1 16 = .ok (.if_icmp .ne 16, 3) := by decide +kernel
theorem dM_startAtTag_19 : decode mM_startAtTag.2.1 19 = .ok (.aload_n 0, 1) := by decide +kernel
theorem dM_startAtTag_20 : decode mM_startAtTag.2.1 20 = .ok (.getfield 49, 3) := by decide +kernel
theorem dM_startAtTag_23 : decode mM_startAtTag.2.1 23 = .ok (.iload_n 1, 1) := by decide +kernel
theorem dM_startAtTag_24 : decode mM_startAtTag.2.1 24 = .ok (.iaload, 1) := by decide +kernel
theorem dM_startAtTag_25 : decode mM_startAtTag.2.1 25 = .ok (.sipush 128, 3) := by decide +kernel
theorem dM_startAtTag_28 : decode mM_startAtTag.2.1 28 = .ok (.ior, 1) := by decide +kernel
theorem dM_startAtTag_29 : decode mM_startAtTag.2.1 29 = .ok (.goto 9, 3) := by decide +kernel
theorem dM_startAtTag_32 : decode mM_startAtTag.2.1 32 = .ok (.aload_n 0, 1) := by decide +kernel
theorem dM_startAtTag_33 : decode mM_startAtTag.2.1 33 = .ok (.getfield 49, 3) := by decide +kernel
theorem dM_startAtTag_36 : decode mM_startAtTag.2.1 36 = .ok (.iload_n 1, 1) := by decide +kernel
theorem dM_startAtTag_37 : decode mM_startAtTag.2.1 37 = .ok (.iaload, 1) := by decide +kernel
theorem dM_startAtTag_38 : decode mM_startAtTag.2.1 38 = .ok (.iastore, 1) := by decide +kernel
theorem dM_startAtTag_39 : decode mM_startAtTag.2.1 39 = .ok (.iinc 1 1, 3) := by decide +kernel
theorem dM_startAtTag_42 : decode mM_startAtTag.2.1 42 = .ok (.goto (-40), 3) := by decide +kernel
theorem dM_startAtTag_45 : decode mM_startAtTag.2.1 45 = .ok (.return_, 1) := by decide +kernel
theorem dM_seal_0 : decode mM_seal.2.1 0 = .ok (.aload_n 0, 1) := by decide +kernel
theorem dM_seal_1 : decode mM_seal.2.1 1 = .ok (.iload_n 1, 1) := by decide +kernel
theorem dM_seal_2 : decode mM_seal.2.1 2 = .ok (.ifCond .eq 12, 3) := by decide +kernel
theorem dM_seal_5 : decode mM_seal.2.1 5 = .ok (.iload_n 1, 1) := by decide +kernel
theorem dM_seal_6 : decode mM_seal.2.1 6 = .ok (.iconst 1, 1) := by decide +kernel
theorem dM_seal_7 : decode mM_seal.2.1 7 = .ok (.if_icmp .eq 7, 3) := by decide +kernel
theorem dM_seal_10 : decode mM_seal.2.1 10 = .ok (.iconst 1, 1) := by decide +kernel
theorem dM_seal_11 : decode mM_seal.2.1 11 = .ok (.goto 27, 3) := by decide +kernel
theorem dM_seal_14 : decode mM_seal.2.1 14 = .ok (.aload_n 0, 1) := by decide +kernel
theorem dM_seal_15 : decode mM_seal.2.1 15 = .ok (.iload_n 1, 1) := by decide +kernel
theorem dM_seal_16 : decode mM_seal.2.1 16 = .ok (.invokevirtual 141, 3) := by decide +kernel
theorem dM_seal_19 : decode mM_seal.2.1 19 = .ok (.ifCond .eq 14, 3) := by decide +kernel
theorem dM_seal_22 : decode mM_seal.2.1 22 = .ok (.aload_n 0, 1) := by decide +kernel
theorem dM_seal_23 : decode mM_seal.2.1 23 = .ok (.getfield 13, 3) := by decide +kernel
theorem dM_seal_26 : decode mM_seal.2.1 26 = .ok (.iconst 3, 1) := by decide +kernel
theorem dM_seal_27 : decode mM_seal.2.1 27 = .ok (.iaload, 1) := by decide +kernel
theorem dM_seal_28 : decode mM_seal.2.1 28 = .ok (.bipush 48, 2) := by decide +kernel
theorem dM_seal_30 : decode mM_seal.2.1 30 = .ok (.if_icmp .le 7, 3) := by decide +kernel
theorem dM_seal_33 : decode mM_seal.2.1 33 = .ok (.iconst 2, 1) := by decide +kernel
theorem dM_seal_34 : decode mM_seal.2.1 34 = .ok (.goto 4, 3) := by decide +kernel
theorem dM_seal_37 : decode mM_seal.2.1 37 = .ok (.iconst 0, 1) := by decide +kernel
theorem dM_seal_38 : decode mM_seal.2.1 38 = .ok (.putfield 59, 3) := by decide +kernel
theorem dM_seal_41 : decode mM_seal.2.1 41 = .ok (.aload_n 0, 1) := by decide +kernel
theorem dM_seal_42 : decode mM_seal.2.1 42 = .ok (.getfield 59, 3) := by decide +kernel
theorem dM_seal_45 : decode mM_seal.2.1 45 = .ok (.ifCond .le 5, 3) := by decide +kernel
theorem dM_seal_48 : decode mM_seal.2.1 48 = .ok (.iconst 0, 1) := by decide +kernel
theorem dM_seal_49 : decode mM_seal.2.1 49 = .ok (.ireturn, 1) := by decide +kernel
theorem dM_seal_50 : decode mM_seal.2.1 50 = .ok (.aload_n 0, 1) := by decide +kernel
theorem dM_seal_51 : decode mM_seal.2.1 51 = .ok (.getfield 13, 3) := by decide +kernel
theorem dM_seal_54 : decode mM_seal.2.1 54 = .ok (.iconst 3, 1) := by decide +kernel
theorem dM_seal_55 : decode mM_seal.2.1 55 = .ok (.iaload, 1) := by decide +kernel
theorem dM_seal_56 : decode mM_seal.2.1 56 = .ok (.istore_n 2, 1) := by decide +kernel
theorem dM_seal_57 : decode mM_seal.2.1 57 = .ok (.iload_n 1, 1) := by decide +kernel
theorem dM_seal_58 : decode mM_seal.2.1 58 = .ok (.ifCond .ne 28, 3) := by decide +kernel
theorem dM_seal_61 : decode mM_seal.2.1 61 = .ok (.aload_n 0, 1) := by decide +kernel
theorem dM_seal_62 : decode mM_seal.2.1 62 = .ok (.invokevirtual 144, 3) := by decide +kernel
theorem dM_seal_65 : decode mM_seal.2.1 65 = .ok (.aload_n 0, 1) := by decide +kernel
theorem dM_seal_66 : decode mM_seal.2.1 66 = .ok (.invokevirtual 108, 3) := by decide +kernel
theorem dM_seal_69 : decode mM_seal.2.1 69 = .ok (.aload_n 0, 1) := by decide +kernel
theorem dM_seal_70 : decode mM_seal.2.1 70 = .ok (.iload_n 2, 1) := by decide +kernel
theorem dM_seal_71 : decode mM_seal.2.1 71 = .ok (.iconst 1, 1) := by decide +kernel
theorem dM_seal_72 : decode mM_seal.2.1 72 = .ok (.invokevirtual 147, 3) := by decide +kernel
theorem dM_seal_75 : decode mM_seal.2.1 75 = .ok (.aload_n 0, 1) := by decide +kernel
theorem dM_seal_76 : decode mM_seal.2.1 76 = .ok (.sipush 256, 3) := by decide +kernel
theorem dM_seal_79 : decode mM_seal.2.1 79 = .ok (.iload_n 2, 1) := by decide +kernel
theorem dM_seal_80 : decode mM_seal.2.1 80 = .ok (.invokevirtual 150, 3) := by decide +kernel
theorem dM_seal_83 : decode mM_seal.2.1 83 = .ok (.goto 25, 3) := by decide +kernel
theorem dM_seal_86 : decode mM_seal.2.1 86 = .ok (.aload_n 0, 1) := by decide +kernel
theorem dM_seal_87 : decode mM_seal.2.1 87 = .ok (.invokevirtual 153, 3) := by decide +kernel
theorem dM_seal_90 : decode mM_seal.2.1 90 = .ok (.aload_n 0, 1) := by decide +kernel
theorem dM_seal_91 : decode mM_seal.2.1 91 = .ok (.sipush 192, 3) := by decide +kernel
theorem dM_seal_94 : decode mM_seal.2.1 94 = .ok (.iload_n 2, 1) := by decide +kernel
theorem dM_seal_95 : decode mM_seal.2.1 95 = .ok (.invokevirtual 156, 3) := by decide +kernel
theorem dM_seal_98 : decode mM_seal.2.1 98 = .ok (.aload_n 0, 1) := by decide +kernel
theorem dM_seal_99 : decode mM_seal.2.1 99 = .ok (.invokevirtual 159, 3) := by decide +kernel
theorem dM_seal_102 : decode mM_seal.2.1 102 = .ok (.aload_n 0, 1) := by decide +kernel
theorem dM_seal_103 : decode mM_seal.2.1 103 = .ok (.iload_n 2, 1) := by decide +kernel
theorem dM_seal_104 : decode mM_seal.2.1 104 = .ok (.iconst 0, 1) := by decide +kernel
theorem dM_seal_105 : decode mM_seal.2.1 105 = .ok (.invokevirtual 147, 3) := by decide +kernel
theorem dM_seal_108 : decode mM_seal.2.1 108 = .ok (.iconst 0, 1) := by decide +kernel
theorem dM_seal_109 : decode mM_seal.2.1 109 = .ok (.istore_n 3, 1) := by decide +kernel
theorem dM_seal_110 : decode mM_seal.2.1 110 = .ok (.iload_n 3, 1) := by decide +kernel
theorem dM_seal_111 : decode mM_seal.2.1 111 = .ok (.iload_n 2, 1) := by decide +kernel
theorem dM_seal_112 : decode mM_seal.2.1 112 = .ok (.if_icmp .ge 25, 3) := by decide +kernel
theorem dM_seal_115 : decode mM_seal.2.1 115 = .ok (.aload_n 0, 1) := by decide +kernel
theorem dM_seal_116 : decode mM_seal.2.1 116 = .ok (.getfield 16, 3) := by decide +kernel
theorem dM_seal_119 : decode mM_seal.2.1 119 = .ok (.iload_n 3, 1) := by decide +kernel
theorem dM_seal_120 : decode mM_seal.2.1 120 = .ok (.aload_n 0, 1) := by decide +kernel
theorem dM_seal_121 : decode mM_seal.2.1 121 = .ok (.getfield 7, 3) := by decide +kernel
theorem dM_seal_124 : decode mM_seal.2.1 124 = .ok (.sipush 256, 3) := by decide +kernel
theorem dM_seal_127 : decode mM_seal.2.1 127 = .ok (.iload_n 3, 1) := by decide +kernel
theorem dM_seal_128 : decode mM_seal.2.1 128 = .ok (.iadd, 1) := by decide +kernel
theorem dM_seal_129 : decode mM_seal.2.1 129 = .ok (.iaload, 1) := by decide +kernel
theorem dM_seal_130 : decode mM_seal.2.1 130 = .ok (.iastore, 1) := by decide +kernel
theorem dM_seal_131 : decode mM_seal.2.1 131 = .ok (.iinc 3 1, 3) := by decide +kernel
theorem dM_seal_134 : decode mM_seal.2.1 134 = .ok (.goto (-24), 3) := by decide +kernel
theorem dM_seal_137 : decode mM_seal.2.1 137 = .ok (.iconst 0, 1) := by decide +kernel
theorem dM_seal_138 : decode mM_seal.2.1 138 = .ok (.istore_n 3, 1) := by decide +kernel
theorem dM_seal_139 : decode mM_seal.2.1 139 = .ok (.iload_n 3, 1) := by decide +kernel
theorem dM_seal_140 : decode mM_seal.2.1 140 = .ok (.bipush 16, 2) := by decide +kernel
theorem dM_seal_142 : decode mM_seal.2.1 142 = .ok (.if_icmp .ge 23, 3) := by decide +kernel
theorem dM_seal_145 : decode mM_seal.2.1 145 = .ok (.aload_n 0, 1) := by decide +kernel
theorem dM_seal_146 : decode mM_seal.2.1 146 = .ok (.getfield 16, 3) := by decide +kernel
theorem dM_seal_149 : decode mM_seal.2.1 149 = .ok (.iload_n 2, 1) := by decide +kernel
theorem dM_seal_150 : decode mM_seal.2.1 150 = .ok (.iload_n 3, 1) := by decide +kernel
theorem dM_seal_151 : decode mM_seal.2.1 151 = .ok (.iadd, 1) := by decide +kernel
theorem dM_seal_152 : decode mM_seal.2.1 152 = .ok (.aload_n 0, 1) := by decide +kernel
theorem dM_seal_153 : decode mM_seal.2.1 153 = .ok (.getfield 49, 3) := by decide +kernel
theorem dM_seal_156 : decode mM_seal.2.1 156 = .ok (.iload_n 3, 1) := by decide +kernel
theorem dM_seal_157 : decode mM_seal.2.1 157 = .ok (.iaload, 1) := by decide +kernel
theorem dM_seal_158 : decode mM_seal.2.1 158 = .ok (.iastore, 1) := by decide +kernel
theorem dM_seal_159 : decode mM_seal.2.1 159 = .ok (.iinc 3 1, 3) := by decide +kernel
theorem dM_seal_162 : decode mM_seal.2.1 162 = .ok (.goto (-23), 3) := by decide +kernel
theorem dM_seal_165 : decode mM_seal.2.1 165 = .ok (.aload_n 0, 1) := by decide +kernel
theorem dM_seal_166 : decode mM_seal.2.1 166 = .ok (.iload_n 2, 1) := by decide +kernel
theorem dM_seal_167 : decode mM_seal.2.1 167 = .ok (.bipush 16, 2) := by decide +kernel
theorem dM_seal_169 : decode mM_seal.2.1 169 = .ok (.iadd, 1) := by decide +kernel
theorem dM_seal_170 : decode mM_seal.2.1 170 = .ok (.putfield 105, 3) := by decide +kernel
theorem dM_seal_173 : decode mM_seal.2.1 173 = .ok (.aload_n 0, 1) := by decide +kernel
theorem dM_seal_174 : decode mM_seal.2.1 174 = .ok (.getfield 105, 3) := by decide +kernel
theorem dM_seal_177 : decode mM_seal.2.1 177 = .ok (.ireturn, 1) := by decide +kernel
theorem dM_open_0 : decode mM_open.2.1 0 = .ok (.aload_n 0, 1) := by decide +kernel
theorem dM_open_1 : decode mM_open.2.1 1 = .ok (.iload_n 1, 1) := by decide +kernel
theorem dM_open_2 : decode mM_open.2.1 2 = .ok (.ifCond .eq 12, 3) := by decide +kernel
theorem dM_open_5 : decode mM_open.2.1 5 = .ok (.iload_n 1, 1) := by decide +kernel
theorem dM_open_6 : decode mM_open.2.1 6 = .ok (.iconst 1, 1) := by decide +kernel
theorem dM_open_7 : decode mM_open.2.1 7 = .ok (.if_icmp .eq 7, 3) := by decide +kernel
theorem dM_open_10 : decode mM_open.2.1 10 = .ok (.iconst 1, 1) := by decide +kernel
theorem dM_open_11 : decode mM_open.2.1 11 = .ok (.goto 27, 3) := by decide +kernel
theorem dM_open_14 : decode mM_open.2.1 14 = .ok (.aload_n 0, 1) := by decide +kernel
theorem dM_open_15 : decode mM_open.2.1 15 = .ok (.iload_n 1, 1) := by decide +kernel
theorem dM_open_16 : decode mM_open.2.1 16 = .ok (.invokevirtual 141, 3) := by decide +kernel
theorem dM_open_19 : decode mM_open.2.1 19 = .ok (.ifCond .eq 14, 3) := by decide +kernel
theorem dM_open_22 : decode mM_open.2.1 22 = .ok (.aload_n 0, 1) := by decide +kernel
theorem dM_open_23 : decode mM_open.2.1 23 = .ok (.getfield 13, 3) := by decide +kernel
theorem dM_open_26 : decode mM_open.2.1 26 = .ok (.iconst 3, 1) := by decide +kernel
theorem dM_open_27 : decode mM_open.2.1 27 = .ok (.iaload, 1) := by decide +kernel
theorem dM_open_28 : decode mM_open.2.1 28 = .ok (.bipush 16, 2) := by decide +kernel
theorem dM_open_30 : decode mM_open.2.1 30 = .ok (.if_icmp .ge 7, 3) := by decide +kernel
theorem dM_open_33 : decode mM_open.2.1 33 = .ok (.iconst 2, 1) := by decide +kernel
theorem dM_open_34 : decode mM_open.2.1 34 = .ok (.goto 4, 3) := by decide +kernel
theorem dM_open_37 : decode mM_open.2.1 37 = .ok (.iconst 0, 1) := by decide +kernel
theorem dM_open_38 : decode mM_open.2.1 38 = .ok (.putfield 59, 3) := by decide +kernel
theorem dM_open_41 : decode mM_open.2.1 41 = .ok (.aload_n 0, 1) := by decide +kernel
theorem dM_open_42 : decode mM_open.2.1 42 = .ok (.getfield 59, 3) := by decide +kernel
theorem dM_open_45 : decode mM_open.2.1 45 = .ok (.ifCond .le 5, 3) := by decide +kernel
theorem dM_open_48 : decode mM_open.2.1 48 = .ok (.iconst 0, 1) := by decide +kernel
theorem dM_open_49 : decode mM_open.2.1 49 = .ok (.ireturn, 1) := by decide +kernel
theorem dM_open_50 : decode mM_open.2.1 50 = .ok (.aload_n 0, 1) := by decide +kernel
theorem dM_open_51 : decode mM_open.2.1 51 = .ok (.getfield 13, 3) := by decide +kernel
theorem dM_open_54 : decode mM_open.2.1 54 = .ok (.iconst 3, 1) := by decide +kernel
theorem dM_open_55 : decode mM_open.2.1 55 = .ok (.iaload, 1) := by decide +kernel
theorem dM_open_56 : decode mM_open.2.1 56 = .ok (.bipush 16, 2) := by decide +kernel
theorem dM_open_58 : decode mM_open.2.1 58 = .ok (.isub, 1) := by decide +kernel
theorem dM_open_59 : decode mM_open.2.1 59 = .ok (.istore_n 2, 1) := by decide +kernel
theorem dM_open_60 : decode mM_open.2.1 60 = .ok (.iload_n 1, 1) := by decide +kernel
theorem dM_open_61 : decode mM_open.2.1 61 = .ok (.ifCond .ne 28, 3) := by decide +kernel
theorem dM_open_64 : decode mM_open.2.1 64 = .ok (.aload_n 0, 1) := by decide +kernel
theorem dM_open_65 : decode mM_open.2.1 65 = .ok (.invokevirtual 144, 3) := by decide +kernel
theorem dM_open_68 : decode mM_open.2.1 68 = .ok (.aload_n 0, 1) := by decide +kernel
theorem dM_open_69 : decode mM_open.2.1 69 = .ok (.invokevirtual 108, 3) := by decide +kernel
theorem dM_open_72 : decode mM_open.2.1 72 = .ok (.aload_n 0, 1) := by decide +kernel
theorem dM_open_73 : decode mM_open.2.1 73 = .ok (.sipush 192, 3) := by decide +kernel
theorem dM_open_76 : decode mM_open.2.1 76 = .ok (.iload_n 2, 1) := by decide +kernel
theorem dM_open_77 : decode mM_open.2.1 77 = .ok (.invokevirtual 150, 3) := by decide +kernel
theorem dM_open_80 : decode mM_open.2.1 80 = .ok (.aload_n 0, 1) := by decide +kernel
theorem dM_open_81 : decode mM_open.2.1 81 = .ok (.iload_n 2, 1) := by decide +kernel
theorem dM_open_82 : decode mM_open.2.1 82 = .ok (.iconst 1, 1) := by decide +kernel
theorem dM_open_83 : decode mM_open.2.1 83 = .ok (.invokevirtual 147, 3) := by decide +kernel
theorem dM_open_86 : decode mM_open.2.1 86 = .ok (.goto 12, 3) := by decide +kernel
theorem dM_open_89 : decode mM_open.2.1 89 = .ok (.aload_n 0, 1) := by decide +kernel
theorem dM_open_90 : decode mM_open.2.1 90 = .ok (.invokevirtual 153, 3) := by decide +kernel
theorem dM_open_93 : decode mM_open.2.1 93 = .ok (.aload_n 0, 1) := by decide +kernel
theorem dM_open_94 : decode mM_open.2.1 94 = .ok (.iload_n 2, 1) := by decide +kernel
theorem dM_open_95 : decode mM_open.2.1 95 = .ok (.invokevirtual 162, 3) := by decide +kernel
theorem dM_open_98 : decode mM_open.2.1 98 = .ok (.iconst 0, 1) := by decide +kernel
theorem dM_open_99 : decode mM_open.2.1 99 = .ok (.istore_n 3, 1) := by decide +kernel
theorem dM_open_100 : decode mM_open.2.1 100 = .ok (.iload_n 3, 1) := by decide +kernel
theorem dM_open_101 : decode mM_open.2.1 101 = .ok (.bipush 16, 2) := by decide +kernel
theorem dM_open_103 : decode mM_open.2.1 103 = .ok (.if_icmp .ge 42, 3) := by decide +kernel
theorem dM_open_106 : decode mM_open.2.1 106 = .ok (.aload_n 0, 1) := by decide +kernel
theorem dM_open_107 : decode mM_open.2.1 107 = .ok (.aload_n 0, 1) := by decide +kernel
theorem dM_open_108 : decode mM_open.2.1 108 = .ok (.getfield 49, 3) := by decide +kernel
theorem dM_open_111 : decode mM_open.2.1 111 = .ok (.iload_n 3, 1) := by decide +kernel
theorem dM_open_112 : decode mM_open.2.1 112 = .ok (.iaload, 1) := by decide +kernel
theorem dM_open_113 : decode mM_open.2.1 113 = .ok (.aload_n 0, 1) := by decide +kernel
theorem dM_open_114 : decode mM_open.2.1 114 = .ok (.getfield 7, 3) := by decide +kernel
theorem dM_open_117 : decode mM_open.2.1 117 = .ok (.sipush 192, 3) := by decide +kernel
theorem dM_open_120 : decode mM_open.2.1 120 = .ok (.iload_n 2, 1) := by decide +kernel
theorem dM_open_121 : decode mM_open.2.1 121 = .ok (.iadd, 1) := by decide +kernel
theorem dM_open_122 : decode mM_open.2.1 122 = .ok (.iload_n 3, 1) := by decide +kernel
theorem dM_open_123 : decode mM_open.2.1 123 = .ok (.iadd, 1) := by decide +kernel
theorem dM_open_124 : decode mM_open.2.1 124 = .ok (.iaload, 1) := by decide +kernel
theorem dM_open_125 : decode mM_open.2.1 125 = .ok (.if_icmp .eq 7, 3) := by decide +kernel
theorem dM_open_128 : decode mM_open.2.1 128 = .ok (.iconst 3, 1) := by decide +kernel
theorem dM_open_129 : decode mM_open.2.1 129 = .ok (.goto 7, 3) := by decide +kernel
theorem dM_open_132 : decode mM_open.2.1 132 = .ok (.aload_n 0, 1) := by decide +kernel
theorem dM_open_133 : decode mM_open.2.1 133 = .ok (.getfield 59, 3) := by decide +kernel
theorem dM_open_136 : decode mM_open.2.1 136 = .ok (.putfield 59, 3) := by decide +kernel
theorem dM_open_139 : decode mM_open.2.1 139 = .ok (.iinc 3 1, 3) := by decide +kernel
theorem dM_open_142 : decode mM_open.2.1 142 = .ok (.goto (-42), 3) := by decide +kernel
theorem dM_open_145 : decode mM_open.2.1 145 = .ok (.aload_n 0, 1) := by decide +kernel
theorem dM_open_146 : decode mM_open.2.1 146 = .ok (.getfield 59, 3) := by decide +kernel
theorem dM_open_149 : decode mM_open.2.1 149 = .ok (.ifCond .le 5, 3) := by decide +kernel
theorem dM_open_152 : decode mM_open.2.1 152 = .ok (.iconst 0, 1) := by decide +kernel
theorem dM_open_153 : decode mM_open.2.1 153 = .ok (.ireturn, 1) := by decide +kernel
theorem dM_open_154 : decode mM_open.2.1 154 = .ok (.iconst 0, 1) := by decide +kernel
theorem dM_open_155 : decode mM_open.2.1 155 = .ok (.istore_n 3, 1) := by decide +kernel
theorem dM_open_156 : decode mM_open.2.1 156 = .ok (.iload_n 3, 1) := by decide +kernel
theorem dM_open_157 : decode mM_open.2.1 157 = .ok (.iload_n 2, 1) := by decide +kernel
theorem dM_open_158 : decode mM_open.2.1 158 = .ok (.if_icmp .ge 25, 3) := by decide +kernel
theorem dM_open_161 : decode mM_open.2.1 161 = .ok (.aload_n 0, 1) := by decide +kernel
theorem dM_open_162 : decode mM_open.2.1 162 = .ok (.getfield 16, 3) := by decide +kernel
theorem dM_open_165 : decode mM_open.2.1 165 = .ok (.iload_n 3, 1) := by decide +kernel
theorem dM_open_166 : decode mM_open.2.1 166 = .ok (.aload_n 0, 1) := by decide +kernel
theorem dM_open_167 : decode mM_open.2.1 167 = .ok (.getfield 7, 3) := by decide +kernel
theorem dM_open_170 : decode mM_open.2.1 170 = .ok (.sipush 256, 3) := by decide +kernel
theorem dM_open_173 : decode mM_open.2.1 173 = .ok (.iload_n 3, 1) := by decide +kernel
theorem dM_open_174 : decode mM_open.2.1 174 = .ok (.iadd, 1) := by decide +kernel
theorem dM_open_175 : decode mM_open.2.1 175 = .ok (.iaload, 1) := by decide +kernel
theorem dM_open_176 : decode mM_open.2.1 176 = .ok (.iastore, 1) := by decide +kernel
theorem dM_open_177 : decode mM_open.2.1 177 = .ok (.iinc 3 1, 3) := by decide +kernel
theorem dM_open_180 : decode mM_open.2.1 180 = .ok (.goto (-24), 3) := by decide +kernel
theorem dM_open_183 : decode mM_open.2.1 183 = .ok (.aload_n 0, 1) := by decide +kernel
theorem dM_open_184 : decode mM_open.2.1 184 = .ok (.iload_n 2, 1) := by decide +kernel
theorem dM_open_185 : decode mM_open.2.1 185 = .ok (.putfield 105, 3) := by decide +kernel
theorem dM_open_188 : decode mM_open.2.1 188 = .ok (.aload_n 0, 1) := by decide +kernel
theorem dM_open_189 : decode mM_open.2.1 189 = .ok (.getfield 105, 3) := by decide +kernel
theorem dM_open_192 : decode mM_open.2.1 192 = .ok (.ireturn, 1) := by decide +kernel
theorem dM_openInward_0 : decode mM_openInward.2.1 0 = .ok (.iconst 0, 1) := by decide +kernel
theorem dM_openInward_1 : decode mM_openInward.2.1 1 = .ok (.istore_n 2, 1) := by decide +kernel
theorem dM_openInward_2 : decode mM_openInward.2.1 2 = .ok (.iload_n 2, 1) := by decide +kernel
theorem dM_openInward_3 : decode mM_openInward.2.1 3 = .ok (.bipush 16, 2) := by decide +kernel
theorem dM_openInward_5 : decode mM_openInward.2.1 5 = .ok (.if_icmp .ge 64, 3) := by decide +kernel
theorem dM_openInward_8 : decode mM_openInward.2.1 8 = .ok (.aload_n 0, 1) := by decide +kernel
theorem dM_openInward_9 : decode mM_openInward.2.1 9 = .ok (.getfield 49, 3) := by decide +kernel
theorem dM_openInward_12 : decode mM_openInward.2.1 12 = .ok (.iload_n 2, 1) := by decide +kernel
theorem dM_openInward_13 : decode mM_openInward.2.1 13 = .ok (.aload_n 0, 1) := by decide +kernel
theorem dM_openInward_14 : decode mM_openInward.2.1 14 = .ok (.getfield 46, 3) := by decide +kernel
theorem dM_openInward_17 : decode mM_openInward.2.1 17 = .ok (.iload_n 2, 1) := by decide +kernel
theorem dM_openInward_18 : decode mM_openInward.2.1 18 = .ok (.iaload, 1) := by decide +kernel
theorem dM_openInward_19 : decode mM_openInward.2.1 19 = .ok (.iastore, 1) := by decide +kernel
theorem dM_openInward_20 : decode mM_openInward.2.1 20 = .ok (.aload_n 0, 1) := by decide +kernel
theorem dM_openInward_21 : decode mM_openInward.2.1 21 = .ok (.getfield 46, 3) := by decide +kernel
theorem dM_openInward_24 : decode mM_openInward.2.1 24 = .ok (.iload_n 2, 1) := by decide +kernel
theorem dM_openInward_25 : decode mM_openInward.2.1 25 = .ok (.iload_n 2, 1) := by decide +kernel
theorem dM_openInward_26 : decode mM_openInward.2.1 26 = .ok (.bipush 15, 2) := by decide +kernel
theorem dM_openInward_28 : decode mM_openInward.2.1 28 = .ok (.if_icmp .ne 22, 3) := by decide +kernel
theorem dM_openInward_31 : decode mM_openInward.2.1 31 = .ok (.aload_n 0, 1) := by decide +kernel
theorem dM_openInward_32 : decode mM_openInward.2.1 32 = .ok (.getfield 7, 3) := by decide +kernel
theorem dM_openInward_35 : decode mM_openInward.2.1 35 = .ok (.sipush 192, 3) := by decide +kernel
theorem dM_openInward_38 : decode mM_openInward.2.1 38 = .ok (.iload_n 1, 1) := by decide +kernel
theorem dM_openInward_39 : decode mM_openInward.2.1 39 = .ok (.iadd, 1) := by decide +kernel
theorem dM_openInward_40 : decode mM_openInward.2.1 40 = .ok (.iload_n 2, 1) := by decide +kernel
theorem dM_openInward_41 : decode mM_openInward.2.1 41 = .ok (.iadd, 1) := by decide +kernel
theorem dM_openInward_42 : decode mM_openInward.2.1 42 = .ok (.iaload, 1) := by decide +kernel
theorem dM_openInward_43 : decode mM_openInward.2.1 43 = .ok (.sipush 128, 3) := by decide +kernel
theorem dM_openInward_46 : decode mM_openInward.2.1 46 = .ok (.ior, 1) := by decide +kernel
theorem dM_openInward_47 : decode mM_openInward.2.1 47 = .ok (.goto 15, 3) := by decide +kernel
theorem dM_openInward_50 : decode mM_openInward.2.1 50 = .ok (.aload_n 0, 1) := by decide +kernel
theorem dM_openInward_51 : decode mM_openInward.2.1 51 = .ok (.getfield 7, 3) := by decide +kernel
theorem dM_openInward_54 : decode mM_openInward.2.1 54 = .ok (.sipush 192, 3) := by decide +kernel
theorem dM_openInward_57 : decode mM_openInward.2.1 57 = .ok (.iload_n 1, 1) := by decide +kernel
theorem dM_openInward_58 : decode mM_openInward.2.1 58 = .ok (.iadd, 1) := by decide +kernel
theorem dM_openInward_59 : decode mM_openInward.2.1 59 = .ok (.iload_n 2, 1) := by decide +kernel
theorem dM_openInward_60 : decode mM_openInward.2.1 60 = .ok (.iadd, 1) := by decide +kernel
theorem dM_openInward_61 : decode mM_openInward.2.1 61 = .ok (.iaload, 1) := by decide +kernel
theorem dM_openInward_62 : decode mM_openInward.2.1 62 = .ok (.iastore, 1) := by decide +kernel
theorem dM_openInward_63 : decode mM_openInward.2.1 63 = .ok (.iinc 2 1, 3) := by decide +kernel
theorem dM_openInward_66 : decode mM_openInward.2.1 66 = .ok (.goto (-64), 3) := by decide +kernel
theorem dM_openInward_69 : decode mM_openInward.2.1 69 = .ok (.aload_n 0, 1) := by decide +kernel
theorem dM_openInward_70 : decode mM_openInward.2.1 70 = .ok (.iload_n 1, 1) := by decide +kernel
theorem dM_openInward_71 : decode mM_openInward.2.1 71 = .ok (.iconst 0, 1) := by decide +kernel
theorem dM_openInward_72 : decode mM_openInward.2.1 72 = .ok (.invokevirtual 147, 3) := by decide +kernel
theorem dM_openInward_75 : decode mM_openInward.2.1 75 = .ok (.iconst 0, 1) := by decide +kernel
theorem dM_openInward_76 : decode mM_openInward.2.1 76 = .ok (.istore_n 2, 1) := by decide +kernel
theorem dM_openInward_77 : decode mM_openInward.2.1 77 = .ok (.iload_n 2, 1) := by decide +kernel
theorem dM_openInward_78 : decode mM_openInward.2.1 78 = .ok (.bipush 16, 2) := by decide +kernel
theorem dM_openInward_80 : decode mM_openInward.2.1 80 = .ok (.if_icmp .ge 21, 3) := by decide +kernel
theorem dM_openInward_83 : decode mM_openInward.2.1 83 = .ok (.aload_n 0, 1) := by decide +kernel
theorem dM_openInward_84 : decode mM_openInward.2.1 84 = .ok (.getfield 46, 3) := by decide +kernel
theorem dM_openInward_87 : decode mM_openInward.2.1 87 = .ok (.iload_n 2, 1) := by decide +kernel
theorem dM_openInward_88 : decode mM_openInward.2.1 88 = .ok (.aload_n 0, 1) := by decide +kernel
theorem dM_openInward_89 : decode mM_openInward.2.1 89 = .ok (.getfield 49, 3) := by decide +kernel
theorem dM_openInward_92 : decode mM_openInward.2.1 92 = .ok (.iload_n 2, 1) := by decide +kernel
theorem dM_openInward_93 : decode mM_openInward.2.1 93 = .ok (.iaload, 1) := by decide +kernel
theorem dM_openInward_94 : decode mM_openInward.2.1 94 = .ok (.iastore, 1) := by decide +kernel
theorem dM_openInward_95 : decode mM_openInward.2.1 95 = .ok (.iinc 2 1, 3) := by decide +kernel
theorem dM_openInward_98 : decode mM_openInward.2.1 98 = .ok (.goto (-21), 3) := by decide +kernel
theorem dM_openInward_101 : decode mM_openInward.2.1 101 = .ok (.aload_n 0, 1) := by decide +kernel
theorem dM_openInward_102 : decode mM_openInward.2.1 102 = .ok (.sipush 256, 3) := by decide +kernel
theorem dM_openInward_105 : decode mM_openInward.2.1 105 = .ok (.iload_n 1, 1) := by decide +kernel
theorem dM_openInward_106 : decode mM_openInward.2.1 106 = .ok (.invokevirtual 156, 3) := by decide +kernel
theorem dM_openInward_109 : decode mM_openInward.2.1 109 = .ok (.return_, 1) := by decide +kernel
theorem dM_size_0 : decode mM_size.2.1 0 = .ok (.aload_n 0, 1) := by decide +kernel
theorem dM_size_1 : decode mM_size.2.1 1 = .ok (.iconst 0, 1) := by decide +kernel
theorem dM_size_2 : decode mM_size.2.1 2 = .ok (.putfield 59, 3) := by decide +kernel
theorem dM_size_5 : decode mM_size.2.1 5 = .ok (.aload_n 0, 1) := by decide +kernel
theorem dM_size_6 : decode mM_size.2.1 6 = .ok (.getfield 105, 3) := by decide +kernel
theorem dM_size_9 : decode mM_size.2.1 9 = .ok (.ireturn, 1) := by decide +kernel
theorem dM_at_0 : decode mM_at.2.1 0 = .ok (.aload_n 0, 1) := by decide +kernel
theorem dM_at_1 : decode mM_at.2.1 1 = .ok (.iload_n 1, 1) := by decide +kernel
theorem dM_at_2 : decode mM_at.2.1 2 = .ok (.ifCond .lt 15, 3) := by decide +kernel
theorem dM_at_5 : decode mM_at.2.1 5 = .ok (.iload_n 1, 1) := by decide +kernel
theorem dM_at_6 : decode mM_at.2.1 6 = .ok (.aload_n 0, 1) := by decide +kernel
theorem dM_at_7 : decode mM_at.2.1 7 = .ok (.getfield 105, 3) := by decide +kernel
theorem dM_at_10 : decode mM_at.2.1 10 = .ok (.if_icmp .ge 7, 3) := by decide +kernel
theorem dM_at_13 : decode mM_at.2.1 13 = .ok (.iconst 0, 1) := by decide +kernel
theorem dM_at_14 : decode mM_at.2.1 14 = .ok (.goto 4, 3) := by decide +kernel
theorem dM_at_17 : decode mM_at.2.1 17 = .ok (.iconst 1, 1) := by decide +kernel
theorem dM_at_18 : decode mM_at.2.1 18 = .ok (.putfield 59, 3) := by decide +kernel
theorem dM_at_21 : decode mM_at.2.1 21 = .ok (.aload_n 0, 1) := by decide +kernel
theorem dM_at_22 : decode mM_at.2.1 22 = .ok (.getfield 59, 3) := by decide +kernel
theorem dM_at_25 : decode mM_at.2.1 25 = .ok (.ifCond .le 7, 3) := by decide +kernel
theorem dM_at_28 : decode mM_at.2.1 28 = .ok (.iconst 0, 1) := by decide +kernel
theorem dM_at_29 : decode mM_at.2.1 29 = .ok (.goto 9, 3) := by decide +kernel
theorem dM_at_32 : decode mM_at.2.1 32 = .ok (.aload_n 0, 1) := by decide +kernel
theorem dM_at_33 : decode mM_at.2.1 33 = .ok (.getfield 16, 3) := by decide +kernel
theorem dM_at_36 : decode mM_at.2.1 36 = .ok (.iload_n 1, 1) := by decide +kernel
theorem dM_at_37 : decode mM_at.2.1 37 = .ok (.iaload, 1) := by decide +kernel
theorem dM_at_38 : decode mM_at.2.1 38 = .ok (.ireturn, 1) := by decide +kernel
