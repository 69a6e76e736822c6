section
-- ===== PART A: goes FIRST, ahead of the names: the tables' words, and 'selects' of the private methods out of them =====
/-- a private method of a class that the tables say can be made, by its rows of tables_1 -/
def lw_okq (q : MethodName × Nat) : Prop := (q.1.cls ≠ "java/lang/invoke/MethodHandle" ∧ q.1.cls ≠ "java/lang/invoke/VarHandle") ∧ Cond.instantiable q.1.cls q.2 ∈ tables_1 ∧ Cond.privateMethod q.1 ∈ tables_1 ∧ Cond.instanceMethod q.1 ∈ tables_1
theorem lw_p0 : lw_okq (⟨"java/lang/Throwable", "fillInStackTrace", "(I)Ljava/lang/Throwable;"⟩, 6) := ⟨⟨by decide +kernel, by decide +kernel⟩, List.mem_of_getElem? (i := 273) (by decide +kernel), List.mem_of_getElem? (i := 271) (by decide +kernel), List.mem_of_getElem? (i := 272) (by decide +kernel)⟩
theorem lw_p1 : lw_okq (⟨"TwoSeals$Cipher", "makeBoxedWord", "(II)V"⟩, 4) := ⟨⟨by decide +kernel, by decide +kernel⟩, List.mem_of_getElem? (i := 49) (by decide +kernel), List.mem_of_getElem? (i := 392) (by decide +kernel), List.mem_of_getElem? (i := 393) (by decide +kernel)⟩
theorem lw_p2 : lw_okq (⟨"TwoSeals$Cipher", "makeWord", "(I)V"⟩, 4) := ⟨⟨by decide +kernel, by decide +kernel⟩, List.mem_of_getElem? (i := 49) (by decide +kernel), List.mem_of_getElem? (i := 396) (by decide +kernel), List.mem_of_getElem? (i := 397) (by decide +kernel)⟩
theorem lw_p3 : lw_okq (⟨"TwoSeals$Cipher", "addWords", "(I)V"⟩, 4) := ⟨⟨by decide +kernel, by decide +kernel⟩, List.mem_of_getElem? (i := 49) (by decide +kernel), List.mem_of_getElem? (i := 404) (by decide +kernel), List.mem_of_getElem? (i := 405) (by decide +kernel)⟩
theorem lw_p4 : lw_okq (⟨"TwoSeals$Cipher", "boxAndMove", "()V"⟩, 4) := ⟨⟨by decide +kernel, by decide +kernel⟩, List.mem_of_getElem? (i := 49) (by decide +kernel), List.mem_of_getElem? (i := 408) (by decide +kernel), List.mem_of_getElem? (i := 409) (by decide +kernel)⟩
theorem lw_p5 : lw_okq (⟨"TwoSeals$Cipher", "mix", "()V"⟩, 4) := ⟨⟨by decide +kernel, by decide +kernel⟩, List.mem_of_getElem? (i := 49) (by decide +kernel), List.mem_of_getElem? (i := 412) (by decide +kernel), List.mem_of_getElem? (i := 413) (by decide +kernel)⟩
theorem lw_p6 : lw_okq (⟨"TwoSeals$Hasher", "readHalf", "([III)J"⟩, 9) := ⟨⟨by decide +kernel, by decide +kernel⟩, List.mem_of_getElem? (i := 84) (by decide +kernel), List.mem_of_getElem? (i := 432) (by decide +kernel), List.mem_of_getElem? (i := 433) (by decide +kernel)⟩
theorem lw_p7 : lw_okq (⟨"TwoSeals$Hasher", "putBesidesIntoKey", "()V"⟩, 9) := ⟨⟨by decide +kernel, by decide +kernel⟩, List.mem_of_getElem? (i := 84) (by decide +kernel), List.mem_of_getElem? (i := 436) (by decide +kernel), List.mem_of_getElem? (i := 437) (by decide +kernel)⟩
theorem lw_p8 : lw_okq (⟨"TwoSeals$Hasher", "multiplySumByKey", "()V"⟩, 9) := ⟨⟨by decide +kernel, by decide +kernel⟩, List.mem_of_getElem? (i := 84) (by decide +kernel), List.mem_of_getElem? (i := 441) (by decide +kernel), List.mem_of_getElem? (i := 442) (by decide +kernel)⟩
theorem lw_p9 : lw_okq (⟨"TwoSeals$Hasher", "writeHalf", "(J[II)V"⟩, 9) := ⟨⟨by decide +kernel, by decide +kernel⟩, List.mem_of_getElem? (i := 84) (by decide +kernel), List.mem_of_getElem? (i := 453) (by decide +kernel), List.mem_of_getElem? (i := 454) (by decide +kernel)⟩
theorem lw_p10 : lw_okq (⟨"TwoSeals", "requireKeyAndNonce", "(I)V"⟩, 6) := ⟨⟨by decide +kernel, by decide +kernel⟩, List.mem_of_getElem? (i := 18) (by decide +kernel), List.mem_of_getElem? (i := 464) (by decide +kernel), List.mem_of_getElem? (i := 465) (by decide +kernel)⟩
theorem lw_p11 : lw_okq (⟨"TwoSeals$WayOne", "derive", "(ILTwoSeals$Row;[II)V"⟩, 8) := ⟨⟨by decide +kernel, by decide +kernel⟩, List.mem_of_getElem? (i := 182) (by decide +kernel), List.mem_of_getElem? (i := 486) (by decide +kernel), List.mem_of_getElem? (i := 487) (by decide +kernel)⟩
theorem lw_p12 : lw_okq (⟨"TwoSeals$Hasher", "putLength", "(IJ)V"⟩, 9) := ⟨⟨by decide +kernel, by decide +kernel⟩, List.mem_of_getElem? (i := 84) (by decide +kernel), List.mem_of_getElem? (i := 505) (by decide +kernel), List.mem_of_getElem? (i := 506) (by decide +kernel)⟩
theorem lw_p13 : lw_okq (⟨"TwoSeals$WayOne", "makeDue", "([LTwoSeals$Row;[II)V"⟩, 8) := ⟨⟨by decide +kernel, by decide +kernel⟩, List.mem_of_getElem? (i := 182) (by decide +kernel), List.mem_of_getElem? (i := 517) (by decide +kernel), List.mem_of_getElem? (i := 518) (by decide +kernel)⟩
theorem lw_p14 : lw_okq (⟨"TwoSeals$WayZero", "makeDue", "(LTwoSeals$Row;[II)V"⟩, 8) := ⟨⟨by decide +kernel, by decide +kernel⟩, List.mem_of_getElem? (i := 122) (by decide +kernel), List.mem_of_getElem? (i := 560) (by decide +kernel), List.mem_of_getElem? (i := 561) (by decide +kernel)⟩
theorem lw_p15 : lw_okq (⟨"TwoSealsModel", "useKey", "()V"⟩, 16) := ⟨⟨by decide +kernel, by decide +kernel⟩, List.mem_of_getElem? (i := 621) (by decide +kernel), List.mem_of_getElem? (i := 716) (by decide +kernel), List.mem_of_getElem? (i := 717) (by decide +kernel)⟩
def lw_privs_1 : List (MethodName × Nat) := [(⟨"java/lang/Throwable", "fillInStackTrace", "(I)Ljava/lang/Throwable;"⟩, 6), (⟨"TwoSeals$Cipher", "makeBoxedWord", "(II)V"⟩, 4), (⟨"TwoSeals$Cipher", "makeWord", "(I)V"⟩, 4), (⟨"TwoSeals$Cipher", "addWords", "(I)V"⟩, 4), (⟨"TwoSeals$Cipher", "boxAndMove", "()V"⟩, 4), (⟨"TwoSeals$Cipher", "mix", "()V"⟩, 4), (⟨"TwoSeals$Hasher", "readHalf", "([III)J"⟩, 9), (⟨"TwoSeals$Hasher", "putBesidesIntoKey", "()V"⟩, 9), (⟨"TwoSeals$Hasher", "multiplySumByKey", "()V"⟩, 9), (⟨"TwoSeals$Hasher", "writeHalf", "(J[II)V"⟩, 9), (⟨"TwoSeals", "requireKeyAndNonce", "(I)V"⟩, 6), (⟨"TwoSeals$WayOne", "derive", "(ILTwoSeals$Row;[II)V"⟩, 8), (⟨"TwoSeals$Hasher", "putLength", "(IJ)V"⟩, 9), (⟨"TwoSeals$WayOne", "makeDue", "([LTwoSeals$Row;[II)V"⟩, 8), (⟨"TwoSeals$WayZero", "makeDue", "(LTwoSeals$Row;[II)V"⟩, 8), (⟨"TwoSealsModel", "useKey", "()V"⟩, 16)]
theorem lw_r1 : ∀ q ∈ lw_privs_1, lw_okq q := List.forall_mem_cons.mpr ⟨lw_p0, List.forall_mem_cons.mpr ⟨lw_p1, List.forall_mem_cons.mpr ⟨lw_p2, List.forall_mem_cons.mpr ⟨lw_p3, List.forall_mem_cons.mpr ⟨lw_p4, List.forall_mem_cons.mpr ⟨lw_p5, List.forall_mem_cons.mpr ⟨lw_p6, List.forall_mem_cons.mpr ⟨lw_p7, List.forall_mem_cons.mpr ⟨lw_p8, List.forall_mem_cons.mpr ⟨lw_p9, List.forall_mem_cons.mpr ⟨lw_p10, List.forall_mem_cons.mpr ⟨lw_p11, List.forall_mem_cons.mpr ⟨lw_p12, List.forall_mem_cons.mpr ⟨lw_p13, List.forall_mem_cons.mpr ⟨lw_p14, List.forall_mem_cons.mpr ⟨lw_p15, fun _ h => absurd h List.not_mem_nil⟩⟩⟩⟩⟩⟩⟩⟩⟩⟩⟩⟩⟩⟩⟩⟩
theorem lw_p16 : lw_okq (⟨"TwoSealsModel", "encipher", "()V"⟩, 16) := ⟨⟨by decide +kernel, by decide +kernel⟩, List.mem_of_getElem? (i := 621) (by decide +kernel), List.mem_of_getElem? (i := 720) (by decide +kernel), List.mem_of_getElem? (i := 721) (by decide +kernel)⟩
theorem lw_p17 : lw_okq (⟨"TwoSealsModel", "expand", "()V"⟩, 16) := ⟨⟨by decide +kernel, by decide +kernel⟩, List.mem_of_getElem? (i := 621) (by decide +kernel), List.mem_of_getElem? (i := 724) (by decide +kernel), List.mem_of_getElem? (i := 725) (by decide +kernel)⟩
theorem lw_p18 : lw_okq (⟨"TwoSealsModel", "addWords", "(I)V"⟩, 16) := ⟨⟨by decide +kernel, by decide +kernel⟩, List.mem_of_getElem? (i := 621) (by decide +kernel), List.mem_of_getElem? (i := 728) (by decide +kernel), List.mem_of_getElem? (i := 729) (by decide +kernel)⟩
theorem lw_p19 : lw_okq (⟨"TwoSealsModel", "mixed", "(II)I"⟩, 16) := ⟨⟨by decide +kernel, by decide +kernel⟩, List.mem_of_getElem? (i := 621) (by decide +kernel), List.mem_of_getElem? (i := 732) (by decide +kernel), List.mem_of_getElem? (i := 733) (by decide +kernel)⟩
theorem lw_p20 : lw_okq (⟨"TwoSealsModel", "keepBlock", "()V"⟩, 16) := ⟨⟨by decide +kernel, by decide +kernel⟩, List.mem_of_getElem? (i := 621) (by decide +kernel), List.mem_of_getElem? (i := 736) (by decide +kernel), List.mem_of_getElem? (i := 737) (by decide +kernel)⟩
theorem lw_p21 : lw_okq (⟨"TwoSealsModel", "beginHash", "(I)V"⟩, 16) := ⟨⟨by decide +kernel, by decide +kernel⟩, List.mem_of_getElem? (i := 621) (by decide +kernel), List.mem_of_getElem? (i := 744) (by decide +kernel), List.mem_of_getElem? (i := 745) (by decide +kernel)⟩
theorem lw_p22 : lw_okq (⟨"TwoSealsModel", "clearProduct", "()V"⟩, 16) := ⟨⟨by decide +kernel, by decide +kernel⟩, List.mem_of_getElem? (i := 621) (by decide +kernel), List.mem_of_getElem? (i := 751) (by decide +kernel), List.mem_of_getElem? (i := 752) (by decide +kernel)⟩
theorem lw_p23 : lw_okq (⟨"TwoSealsModel", "addShifted", "(I)V"⟩, 16) := ⟨⟨by decide +kernel, by decide +kernel⟩, List.mem_of_getElem? (i := 621) (by decide +kernel), List.mem_of_getElem? (i := 755) (by decide +kernel), List.mem_of_getElem? (i := 756) (by decide +kernel)⟩
theorem lw_p24 : lw_okq (⟨"TwoSealsModel", "reduce", "(I)V"⟩, 16) := ⟨⟨by decide +kernel, by decide +kernel⟩, List.mem_of_getElem? (i := 621) (by decide +kernel), List.mem_of_getElem? (i := 759) (by decide +kernel), List.mem_of_getElem? (i := 760) (by decide +kernel)⟩
theorem lw_p25 : lw_okq (⟨"TwoSealsModel", "feedRow", "(III)V"⟩, 16) := ⟨⟨by decide +kernel, by decide +kernel⟩, List.mem_of_getElem? (i := 621) (by decide +kernel), List.mem_of_getElem? (i := 763) (by decide +kernel), List.mem_of_getElem? (i := 764) (by decide +kernel)⟩
theorem lw_p26 : lw_okq (⟨"TwoSealsModel", "feed", "(I)V"⟩, 16) := ⟨⟨by decide +kernel, by decide +kernel⟩, List.mem_of_getElem? (i := 621) (by decide +kernel), List.mem_of_getElem? (i := 767) (by decide +kernel), List.mem_of_getElem? (i := 768) (by decide +kernel)⟩
theorem lw_p27 : lw_okq (⟨"TwoSealsModel", "multiply", "(I)V"⟩, 16) := ⟨⟨by decide +kernel, by decide +kernel⟩, List.mem_of_getElem? (i := 621) (by decide +kernel), List.mem_of_getElem? (i := 771) (by decide +kernel), List.mem_of_getElem? (i := 772) (by decide +kernel)⟩
theorem lw_p28 : lw_okq (⟨"TwoSealsModel", "endHash", "(I)V"⟩, 16) := ⟨⟨by decide +kernel, by decide +kernel⟩, List.mem_of_getElem? (i := 621) (by decide +kernel), List.mem_of_getElem? (i := 775) (by decide +kernel), List.mem_of_getElem? (i := 776) (by decide +kernel)⟩
theorem lw_p29 : lw_okq (⟨"TwoSealsModel", "isReady", "(I)Z"⟩, 16) := ⟨⟨by decide +kernel, by decide +kernel⟩, List.mem_of_getElem? (i := 621) (by decide +kernel), List.mem_of_getElem? (i := 783) (by decide +kernel), List.mem_of_getElem? (i := 784) (by decide +kernel)⟩
theorem lw_p30 : lw_okq (⟨"TwoSealsModel", "makeStart", "()V"⟩, 16) := ⟨⟨by decide +kernel, by decide +kernel⟩, List.mem_of_getElem? (i := 621) (by decide +kernel), List.mem_of_getElem? (i := 787) (by decide +kernel), List.mem_of_getElem? (i := 788) (by decide +kernel)⟩
theorem lw_p31 : lw_okq (⟨"TwoSealsModel", "beginOutward", "()V"⟩, 16) := ⟨⟨by decide +kernel, by decide +kernel⟩, List.mem_of_getElem? (i := 621) (by decide +kernel), List.mem_of_getElem? (i := 791) (by decide +kernel), List.mem_of_getElem? (i := 792) (by decide +kernel)⟩
def lw_privs_2 : List (MethodName × Nat) := [(⟨"TwoSealsModel", "encipher", "()V"⟩, 16), (⟨"TwoSealsModel", "expand", "()V"⟩, 16), (⟨"TwoSealsModel", "addWords", "(I)V"⟩, 16), (⟨"TwoSealsModel", "mixed", "(II)I"⟩, 16), (⟨"TwoSealsModel", "keepBlock", "()V"⟩, 16), (⟨"TwoSealsModel", "beginHash", "(I)V"⟩, 16), (⟨"TwoSealsModel", "clearProduct", "()V"⟩, 16), (⟨"TwoSealsModel", "addShifted", "(I)V"⟩, 16), (⟨"TwoSealsModel", "reduce", "(I)V"⟩, 16), (⟨"TwoSealsModel", "feedRow", "(III)V"⟩, 16), (⟨"TwoSealsModel", "feed", "(I)V"⟩, 16), (⟨"TwoSealsModel", "multiply", "(I)V"⟩, 16), (⟨"TwoSealsModel", "endHash", "(I)V"⟩, 16), (⟨"TwoSealsModel", "isReady", "(I)Z"⟩, 16), (⟨"TwoSealsModel", "makeStart", "()V"⟩, 16), (⟨"TwoSealsModel", "beginOutward", "()V"⟩, 16)]
theorem lw_r2 : ∀ q ∈ lw_privs_2, lw_okq q := List.forall_mem_cons.mpr ⟨lw_p16, List.forall_mem_cons.mpr ⟨lw_p17, List.forall_mem_cons.mpr ⟨lw_p18, List.forall_mem_cons.mpr ⟨lw_p19, List.forall_mem_cons.mpr ⟨lw_p20, List.forall_mem_cons.mpr ⟨lw_p21, List.forall_mem_cons.mpr ⟨lw_p22, List.forall_mem_cons.mpr ⟨lw_p23, List.forall_mem_cons.mpr ⟨lw_p24, List.forall_mem_cons.mpr ⟨lw_p25, List.forall_mem_cons.mpr ⟨lw_p26, List.forall_mem_cons.mpr ⟨lw_p27, List.forall_mem_cons.mpr ⟨lw_p28, List.forall_mem_cons.mpr ⟨lw_p29, List.forall_mem_cons.mpr ⟨lw_p30, List.forall_mem_cons.mpr ⟨lw_p31, fun _ h => absurd h List.not_mem_nil⟩⟩⟩⟩⟩⟩⟩⟩⟩⟩⟩⟩⟩⟩⟩⟩
theorem lw_p32 : lw_okq (⟨"TwoSealsModel", "feedLengths", "(III)V"⟩, 16) := ⟨⟨by decide +kernel, by decide +kernel⟩, List.mem_of_getElem? (i := 621) (by decide +kernel), List.mem_of_getElem? (i := 795) (by decide +kernel), List.mem_of_getElem? (i := 796) (by decide +kernel)⟩
theorem lw_p33 : lw_okq (⟨"TwoSealsModel", "cipher", "(IZ)V"⟩, 16) := ⟨⟨by decide +kernel, by decide +kernel⟩, List.mem_of_getElem? (i := 621) (by decide +kernel), List.mem_of_getElem? (i := 799) (by decide +kernel), List.mem_of_getElem? (i := 800) (by decide +kernel)⟩
theorem lw_p34 : lw_okq (⟨"TwoSealsModel", "count", "(IZ)V"⟩, 16) := ⟨⟨by decide +kernel, by decide +kernel⟩, List.mem_of_getElem? (i := 621) (by decide +kernel), List.mem_of_getElem? (i := 803) (by decide +kernel), List.mem_of_getElem? (i := 804) (by decide +kernel)⟩
theorem lw_p35 : lw_okq (⟨"TwoSealsModel", "sealOutward", "(II)V"⟩, 16) := ⟨⟨by decide +kernel, by decide +kernel⟩, List.mem_of_getElem? (i := 621) (by decide +kernel), List.mem_of_getElem? (i := 807) (by decide +kernel), List.mem_of_getElem? (i := 808) (by decide +kernel)⟩
theorem lw_p36 : lw_okq (⟨"TwoSealsModel", "deriveKeys", "()V"⟩, 16) := ⟨⟨by decide +kernel, by decide +kernel⟩, List.mem_of_getElem? (i := 621) (by decide +kernel), List.mem_of_getElem? (i := 811) (by decide +kernel), List.mem_of_getElem? (i := 812) (by decide +kernel)⟩
theorem lw_p37 : lw_okq (⟨"TwoSealsModel", "derive", "(II)V"⟩, 16) := ⟨⟨by decide +kernel, by decide +kernel⟩, List.mem_of_getElem? (i := 621) (by decide +kernel), List.mem_of_getElem? (i := 815) (by decide +kernel), List.mem_of_getElem? (i := 816) (by decide +kernel)⟩
theorem lw_p38 : lw_okq (⟨"TwoSealsModel", "sealInward", "(II)V"⟩, 16) := ⟨⟨by decide +kernel, by decide +kernel⟩, List.mem_of_getElem? (i := 621) (by decide +kernel), List.mem_of_getElem? (i := 819) (by decide +kernel), List.mem_of_getElem? (i := 820) (by decide +kernel)⟩
theorem lw_p39 : lw_okq (⟨"TwoSealsModel", "startAtTag", "()V"⟩, 16) := ⟨⟨by decide +kernel, by decide +kernel⟩, List.mem_of_getElem? (i := 621) (by decide +kernel), List.mem_of_getElem? (i := 823) (by decide +kernel), List.mem_of_getElem? (i := 824) (by decide +kernel)⟩
theorem lw_p40 : lw_okq (⟨"TwoSealsModel", "openInward", "(I)V"⟩, 16) := ⟨⟨by decide +kernel, by decide +kernel⟩, List.mem_of_getElem? (i := 621) (by decide +kernel), List.mem_of_getElem? (i := 831) (by decide +kernel), List.mem_of_getElem? (i := 832) (by decide +kernel)⟩
def lw_privs_3 : List (MethodName × Nat) := [(⟨"TwoSealsModel", "feedLengths", "(III)V"⟩, 16), (⟨"TwoSealsModel", "cipher", "(IZ)V"⟩, 16), (⟨"TwoSealsModel", "count", "(IZ)V"⟩, 16), (⟨"TwoSealsModel", "sealOutward", "(II)V"⟩, 16), (⟨"TwoSealsModel", "deriveKeys", "()V"⟩, 16), (⟨"TwoSealsModel", "derive", "(II)V"⟩, 16), (⟨"TwoSealsModel", "sealInward", "(II)V"⟩, 16), (⟨"TwoSealsModel", "startAtTag", "()V"⟩, 16), (⟨"TwoSealsModel", "openInward", "(I)V"⟩, 16)]
theorem lw_r3 : ∀ q ∈ lw_privs_3, lw_okq q := List.forall_mem_cons.mpr ⟨lw_p32, List.forall_mem_cons.mpr ⟨lw_p33, List.forall_mem_cons.mpr ⟨lw_p34, List.forall_mem_cons.mpr ⟨lw_p35, List.forall_mem_cons.mpr ⟨lw_p36, List.forall_mem_cons.mpr ⟨lw_p37, List.forall_mem_cons.mpr ⟨lw_p38, List.forall_mem_cons.mpr ⟨lw_p39, List.forall_mem_cons.mpr ⟨lw_p40, fun _ h => absurd h List.not_mem_nil⟩⟩⟩⟩⟩⟩⟩⟩⟩
def lw_privs : List (MethodName × Nat) := lw_privs_1 ++ (lw_privs_2 ++ (lw_privs_3))
def lw_tbl : List Cond := k2_sels lw_privs ++ tables_1
theorem lw_privs_ok : ∀ q ∈ lw_privs, lw_okq q := by
  show ∀ q ∈ lw_privs_1 ++ (lw_privs_2 ++ (lw_privs_3)), lw_okq q
  exact List.forall_mem_append.mpr ⟨lw_r1, List.forall_mem_append.mpr ⟨lw_r2, lw_r3⟩⟩
end
section
section VXA
/-! The laws vx_back, vx_callV, vx_callS, vx_callSW, vx_throw0, vx_throwS follow proofs of the library, with one case more: JvmDerived/Free/Laws.lean (Back.of_free), Shelf42/LK1.lean (callV, callS), Shelf/KitTraced.lean (throwNew0V, throwNewS). -/
/-- where a method has thrown q: the class by its name, the cell, what was written, the world -/
def vx_T (XC : String → State → State → Prop) (st : State) (q : Addr) (t : State) (mc ms : Nat) (free : Addr → Prop) : Prop :=
  ∃ (E : String) (ce : Cell) (L : List Loc), XC E st t ∧ t.heap[q]? = some ce ∧ ce.vm = .none ∧ st.vm.findClass E = some ce.cls ∧ st.WarmedH t.vm ∧ st.sameButNew ({ t with vm := st.vm } : State) L mc ms ∧ ∀ z ∈ L, free z.base
def vx_Q (Qc : Array Value → State → Outcome → State → Prop) (XC : String → State → State → Prop) (mc ms : Nat) (free : Addr → Prop) : Array Value → State → Outcome → State → Prop := fun a st o t =>
  (Qc a st o t ∧ ∃ L, FrameEnd st o t L mc ms ∧ ∀ q ∈ L, free q.base) ∨ ∃ q, o = .threw q ∧ vx_T XC st q t mc ms free
/-- a callee that returns or throws -/
def vx_Met (l : Launch) (y : MethodName) (ws : List Cond) (rm : Room) (Pc : Array Value → State → Prop) (Qc : Array Value → State → Outcome → State → Prop) (XC : String → State → State → Prop) (mc ms : Nat) (free : Addr → Prop) : Prop :=
  MetFree l y (headSpec ws rm) Pc (fun _ _ _ _ _ => True) (vx_Q Qc XC mc ms free)
def vx_Post (XC : String → State → State → Prop) (mc ms : Nat) (free : Addr → Prop) : Pt → Array Value → Addr → Pt → Prop := fun A a q B =>
  ∃ (g : JFrame) (mk : MethodId) (t : State) (L : List Loc) (E : String) (ce : Cell), B.U.heap = t.heap ∧ B.U.vm = t.vm ∧ XC E (A.U.calling g mk a) t ∧ t.heap[q]? = some ce ∧ ce.vm = .none ∧ A.U.vm.findClass E = some ce.cls ∧ B.locs = A.locs ++ L ∧ (∀ z ∈ L, free z.base) ∧ B.cells = A.cells + mc ∧ B.slots = A.slots + ms
def vx_Back (l : Launch) (R : Room) (p : Program) (e : Env) (below : List Frame) (s : State) (sargs : Array Value) (y : MethodName) (len W9 : Nat)
    (Pre : Pt → Array Value → Prop) (Post : Pt → Array Value → Option Value → Pt → Prop) (PostX : Pt → Array Value → Addr → Pt → Prop) : Prop :=
  ∀ (m : MethodId) (meth : Method) (c : Code) (A : Pt) (g : JFrame) (ig : Instr) (mk : MethodId) (a : Array Value),
    Stand p l e R s m sargs below meth c A.U A.locs A.cells A.slots → g.method = m → g.locals.size = c.maxLocals → decode c.code g.pc = .ok (ig, len) →
    2 * g.monitorRoom + (g.stack.map fun v => v.category).sum ≤ W9 → A.U.methodNamed? y = some mk → Pre A a →
    (∃ (v : Option Value) (B : Pt), Stand p l e R s m sargs below meth c B.U B.locs B.cells B.slots ∧ Post A a v B ∧
      Steps p.tables e below (doInvoke e (A.U.setTop g) [] mk a).1 (B.U.setTop { g with pc := g.pc + len, stack := v.toList ++ g.stack })) ∨
    (∃ (q : Addr) (B : Pt), Stand p l e R s m sargs below meth c B.U B.locs B.cells B.slots ∧ PostX A a q B ∧
      Steps p.tables e below (doInvoke e (A.U.setTop g) [] mk a).1 ((B.U.setTop g).pushFrame (.throwing q)))
section Payer
variable {l : Launch} {R : Room} {p : Program} {e : Env} {below : List Frame} {s : State} {sargs : Array Value} {y : MethodName} {len W9 : Nat}
theorem vx_back {ws : List Cond} {rm : Room} {Pc : Array Value → State → Prop} {Qc : Array Value → State → Outcome → State → Prop} {XC : String → State → State → Prop} {mc ms : Nat} {free : Addr → Prop} {bytes : ByteArray} {maxL : Nat} {ret : Option FieldType}
    (hM : vx_Met l y ws rm Pc Qc XC mc ms free) (hblind : FrameBlind Pc) (hrc : rm.cells = mc) (hrs : rm.slots = ms)
    (hframes : rm.frames + 1 ≤ R.frames) (hlocals : W9 + (maxL + 11) + rm.locals ≤ R.locals)
    (hws : ∀ w ∈ ws, ∀ a' U, s.WarmedH U.vm → w.before a' U = true) (hcode : Cond.code y bytes maxL ret ∈ ws) (hinit : ∀ a' U, s.WarmedH U.vm → (Cond.initialized y.cls).before a' U = true) :
    vx_Back l R p e below s sargs y len W9 (PreOf R mc ms Pc) (PostOf Qc mc ms free) (vx_Post XC mc ms free) := by
  intro m meth c A g ig mk a X hg hsize hdg hW hn hp
  have h1 : (headSpec ws rm).pre.before a A.U = true := atoms_intro fun w hw => hws w hw _ _ X.warmed
  have h2 : (Cond.code y bytes maxL ret).before a A.U = true := hws _ hcode _ _ X.warmed
  have h3 : (Cond.initialized y.cls).before a A.U = true := hinit _ _ X.warmed
  have h4 : A.cells + (headSpec ws rm).room.cells ≤ R.cells := by rw [show (headSpec ws rm).room.cells = mc from hrc]; exact hp.1
  have h5 : A.slots + (headSpec ws rm).room.slots ≤ R.slots := by rw [show (headSpec ws rm).room.slots = ms from hrs]; exact hp.2.1
  have hPc : Pc a (A.U.calling g mk a) := hblind _ _ _ _ hp.2.2
  obtain ⟨U, Ls, c0, s0⟩ := A
  dsimp only [Pt.U, Pt.locs, Pt.cells, Pt.slots] at h1 h2 h3 h4 h5 X hn hPc ⊢
  obtain ⟨methY, cY, hmY, hcY, -, hlY, -, -, -, -⟩ := Cond.code_spec hn h2
  obtain ⟨kY, hkY, -⟩ := className_of_methodNamed hn
  have hinitY : kY.init = .initialized := Cond.initialized_spec (findClass_of_methodNamed hn) hkY h3
  have h : At U g.method c below := by rw [hg]; exact X.here
  have hlocals9 : W9 + (maxL + 11) + (headSpec ws rm).room.locals ≤ R.locals := hlocals
  have happ : (headSpec ws rm).appliesLoose y e.platform (U.calling g mk a) = true :=
    Spec.appliesLoose_calling (g := g) h hdg hn hkY hinitY
      (X.room_calling (g := g) (R' := (headSpec ws rm).room) hsize hmY hcY hframes (by rw [hlY]; omega) h4 h5) h1
  obtain ⟨mid, hmid⟩ := h.above
  have hfr : (U.setTop g).frames = (.java g :: mid) ++ below := by rw [State.frames_setTop' g h.top, hmid]; rfl
  obtain ⟨o, s₂, hsteps, -, hend, hq⟩ := Steps.callFree hM p X.admits X.cas X.clock (acts := []) hfr happ hPc trivial
  have hq' : vx_Q Qc XC mc ms free a (U.calling g mk a) o s₂ := hq
  rw [State.frames_setTop' g h.top] at hend
  obtain ⟨g₀, hg0⟩ := Option.isSome_iff_exists.mp h.top
  obtain ⟨r, hr⟩ := State.topJava?_eq_some.mp hg0
  have hr' : (({ U with heap := s₂.heap, slotsUsed := s₂.slotsUsed } : State).setVm s₂.vm).frames = .java g₀ :: r := hr
  rcases hq' with ⟨hqc, L, hfe, hL⟩ | ⟨q, rfl, E, ce, L, hx, hce, hcv, hcl, hW₂, hsm, hL⟩
  · obtain ⟨⟨v, rfl⟩, hW₂, e2, q2, q3, q4, q5, q6⟩ := id hfe
    have e3 : s₂ = ({ (U.calling g mk a).setFrames s₂.frames with heap := s₂.heap, slotsUsed := s₂.slotsUsed } : State).setVm s₂.vm := by
      have : s₂ = ({ s₂ with vm := (U.calling g mk a).vm } : State).setVm s₂.vm := rfl
      rw [e2] at this
      exact this
    obtain ⟨c₂, i₂, len₂, hc₂, hd₂, hf₂⟩ := hend
    have hW' : U.WarmedH s₂.vm := hW₂
    have hcc : c₂ = c := by
      have h1 : s₂.code? g.method = U.code? g.method := by
        rw [State.code?_eq, State.code?_eq, hW'.alike.method?]
      exact Option.some.inj (hc₂.symm.trans (h1.trans h.code))
    subst hcc
    have hlen : len₂ = len := by rw [hdg] at hd₂; cases hd₂; rfl
    subst hlen
    have hs₂ : s₂ = (({ U with heap := s₂.heap, slotsUsed := s₂.slotsUsed } : State).setVm s₂.vm).setTop { g with pc := g.pc + len₂, stack := v.toList ++ g.stack } := by
      refine e3.trans ?_
      rw [hf₂, State.calling_eq h.top, State.setFrames_setFrames, State.setTop_of_frames _ hr', hr]
      rfl
    have hsame : U.sameButNew ({ U with heap := s₂.heap, slotsUsed := s₂.slotsUsed } : State) L mc ms := by
      refine ⟨?_, q2, q3, q4, q5, q6⟩
      obtain ⟨t, ht, -⟩ := State.frames_cons hr
      show ({ U with heap := s₂.heap, slotsUsed := s₂.slotsUsed } : State) = { U.setFrames U.frames with heap := s₂.heap, slotsUsed := s₂.slotsUsed }
      rw [State.setFrames_self ht]
    subst hg
    refine Or.inl ⟨v, ⟨(({ U with heap := s₂.heap, slotsUsed := s₂.slotsUsed } : State).setVm s₂.vm), Ls ++ L, c0 + mc, s0 + ms⟩,
      ⟨X.admits, X.cas, X.clock, X.frames, X.room, X.hears, X.method, X.code, (X.here.setHeapUsed s₂.heap s₂.slotsUsed).setVm hW'.alike, X.tail, State.WarmedH.trans X.warmed hW', X.limits, X.bytes, X.same.trans (hsame.setVm s.vm)⟩,
      ⟨g, mk, s₂, L, rfl, rfl, hqc, rfl, hL, rfl, rfl⟩, ?_⟩
    show Steps p.tables e below _ ((({ U with heap := s₂.heap, slotsUsed := s₂.slotsUsed } : State).setVm s₂.vm).setTop { g with pc := g.pc + len₂, stack := v.toList ++ g.stack })
    rw [← hs₂]
    exact hsteps
  · obtain ⟨e2, q2, q3, q4, q5, q6⟩ := id hsm
    have e3 : s₂ = ({ (U.calling g mk a).setFrames s₂.frames with heap := s₂.heap, slotsUsed := s₂.slotsUsed } : State).setVm s₂.vm := by
      have : s₂ = ({ s₂ with vm := (U.calling g mk a).vm } : State).setVm s₂.vm := rfl
      rw [e2] at this
      exact this
    have hf₂ : s₂.frames = .throwing q :: .java g :: U.frames.tail := hend
    have hW' : U.WarmedH s₂.vm := hW₂
    have hs₂ : s₂ = ((({ U with heap := s₂.heap, slotsUsed := s₂.slotsUsed } : State).setVm s₂.vm).setTop g).pushFrame (.throwing q) := by
      refine e3.trans ?_
      rw [hf₂, State.calling_eq h.top, State.setFrames_setFrames, State.pushFrame, State.frames_setTop _ hr', State.setTop_of_frames _ hr', State.setFrames_setFrames, hr]
      rfl
    have hsame : U.sameButNew ({ U with heap := s₂.heap, slotsUsed := s₂.slotsUsed } : State) L mc ms := by
      refine ⟨?_, q2, q3, q4, q5, q6⟩
      obtain ⟨t, ht, -⟩ := State.frames_cons hr
      show ({ U with heap := s₂.heap, slotsUsed := s₂.slotsUsed } : State) = { U.setFrames U.frames with heap := s₂.heap, slotsUsed := s₂.slotsUsed }
      rw [State.setFrames_self ht]
    subst hg
    refine Or.inr ⟨q, ⟨(({ U with heap := s₂.heap, slotsUsed := s₂.slotsUsed } : State).setVm s₂.vm), Ls ++ L, c0 + mc, s0 + ms⟩,
      ⟨X.admits, X.cas, X.clock, X.frames, X.room, X.hears, X.method, X.code, (X.here.setHeapUsed s₂.heap s₂.slotsUsed).setVm hW'.alike, X.tail, State.WarmedH.trans X.warmed hW', X.limits, X.bytes, X.same.trans (hsame.setVm s.vm)⟩,
      ⟨g, mk, s₂, L, E, ce, rfl, rfl, hx, hce, hcv, hcl, rfl, hL, rfl, rfl⟩, ?_⟩
    show Steps p.tables e below _ (((({ U with heap := s₂.heap, slotsUsed := s₂.slotsUsed } : State).setVm s₂.vm).setTop g).pushFrame (.throwing q))
    rw [← hs₂]
    exact hsteps
end Payer
section Calls
variable {p : Program} {l : Launch} {e : Env} {R : Room} {s : State} {m : MethodId} {args : Array Value} {below : List Frame} {meth : Method} {c : Code} {T : State} {locs : List Loc} {cells slots : Nat}
theorem vx_callV (X : Stand p l e R s m args below meth c T locs cells slots) (hexec : p.tables.exec = Jvm.exec) {own C : String} {index : Nat} {y : MethodName} {bytes : ByteArray} {maxL : Nat} {ret : Option FieldType}
    (hown : s.vm.findClass own = some m.cls) (hlink : (Cond.methodLink own index y).before args s = true) (hinst : (Cond.instanceMethod y).before args s = true) (hsel : (Cond.selects C y y).before args s = true)
    (hcode : (Cond.code y bytes maxL ret).before args s = true) (hy : y.cls ≠ "java/lang/invoke/MethodHandle" ∧ y.cls ≠ "java/lang/invoke/VarHandle")
    {W9 : Nat} {Pre : Pt → Array Value → Prop} {Post : Pt → Array Value → Option Value → Pt → Prop} {PostX : Pt → Array Value → Addr → Pt → Prop} (hK : vx_Back l R p e below s args y 3 W9 Pre Post PostX)
    {b : Addr} {cellB : Cell} (hcell : T.heap[b]? = some cellB) (hobj : cellB.vm.isStatics = false) (hcls : s.vm.findClass C = some cellB.cls)
    {g : JFrame} (hg : g.method = m) (hsize : g.locals.size = c.maxLocals) {argsL rest : List Value} (hlen : ∀ sig, parseMethodDescriptor y.desc = some sig → argsL.length = sig.parameters.length)
    (hstack : g.stack = argsL.reverse ++ .ref b :: rest) (hW : 2 * g.monitorRoom + (rest.map fun v => v.category).sum ≤ W9) (hdg : decode c.code g.pc = .ok (.invokevirtual index, 3))
    (hpre : ∀ vm₁, s.WarmedH vm₁ → Pre ⟨T.setVm vm₁, locs, cells, slots⟩ (Value.ref b :: argsL).toArray) :
    (∃ (v : Option Value) (vm₁ : Vm) (B : Pt), s.WarmedH vm₁ ∧ Stand p l e R s m args below meth c B.U B.locs B.cells B.slots ∧ Post ⟨T.setVm vm₁, locs, cells, slots⟩ (Value.ref b :: argsL).toArray v B ∧
      ∀ target, Steps p.tables e below (B.U.setTop { g with pc := g.pc + 3, stack := v.toList ++ rest }) target → Steps p.tables e below (T.setTop g) target) ∨
    (∃ (q : Addr) (vm₁ : Vm) (B : Pt), s.WarmedH vm₁ ∧ Stand p l e R s m args below meth c B.U B.locs B.cells B.slots ∧ PostX ⟨T.setVm vm₁, locs, cells, slots⟩ (Value.ref b :: argsL).toArray q B ∧
      Steps p.tables e below (T.setTop g) ((B.U.setTop { g with stack := rest }).pushFrame (.throwing q))) := by
  obtain ⟨mk, methM, hnamed, hmethM, hstM, habM⟩ := Cond.instanceMethod_spec hinst
  obtain ⟨methM', cM, hmethM', -, -, -, -, -, -, hsigM⟩ := Cond.code_spec hnamed hcode
  cases hmethM.symm.trans hmethM'
  obtain ⟨c2, r2, m2, q1, q2, q3, q4, kP, hkP, hkPi⟩ := Cond.selects_spec hsel
  cases hcls.symm.trans q1
  cases (State.methodFound?_of_named hnamed hy).symm.trans q2
  cases hnamed.symm.trans q3
  have hselP : selectMethod e.platform s.vm cellB.cls mk = .method mk := by rw [Launch.admits_selectMethod X.admits]; exact q4
  obtain ⟨vm₁, X₁, hstep₁⟩ := X.invokevirtual hexec hown hlink hnamed hmethM hstM hkP hkPi hy (a := b) (cell := cellB) hcell
    (fun z h => by rw [h] at hobj; cases hobj) hselP hmethM habM hkP hkPi (g := g) hg (argsL := argsL) (rest := rest) (hlen _ hsigM) hstack hdg
  rcases hK m meth c ⟨T.setVm vm₁, locs, cells, slots⟩ { g with stack := rest } (.invokevirtual index) mk (Value.ref b :: argsL).toArray X₁ hg hsize hdg hW (X₁.named hnamed) (hpre vm₁ X₁.warmed) with ⟨v, B, X', hpost, hsteps⟩ | ⟨q, B, X', hpost, hsteps⟩
  · exact Or.inl ⟨v, vm₁, B, X₁.warmed, X', hpost, fun target h => hstep₁ _ fun acts => by rw [doInvoke_state]; exact hsteps.trans h⟩
  · exact Or.inr ⟨q, vm₁, B, X₁.warmed, X', hpost, hstep₁ _ fun acts => by rw [doInvoke_state]; exact hsteps⟩
theorem vx_callS (X : Stand p l e R s m args below meth c T locs cells slots) (hexec : p.tables.exec = Jvm.exec) {own : String} {index : Nat} {y : MethodName} {bytes : ByteArray} {maxL : Nat} {ret : Option FieldType}
    (hown : s.vm.findClass own = some m.cls) (hlink : (Cond.methodLink own index y).before args s = true) (hstat : (Cond.static y).before args s = true) (hinit : (Cond.initialized y.cls).before args s = true)
    (hcode : (Cond.code y bytes maxL ret).before args s = true) (hy : y.cls ≠ "java/lang/invoke/MethodHandle" ∧ y.cls ≠ "java/lang/invoke/VarHandle")
    {W9 : Nat} {Pre : Pt → Array Value → Prop} {Post : Pt → Array Value → Option Value → Pt → Prop} {PostX : Pt → Array Value → Addr → Pt → Prop} (hK : vx_Back l R p e below s args y 3 W9 Pre Post PostX)
    {g : JFrame} (hg : g.method = m) (hsize : g.locals.size = c.maxLocals) {argsL rest : List Value} (hlen : ∀ sig, parseMethodDescriptor y.desc = some sig → argsL.length = sig.parameters.length)
    (hstack : g.stack = argsL.reverse ++ rest) (hW : 2 * g.monitorRoom + (rest.map fun v => v.category).sum ≤ W9) (hdg : decode c.code g.pc = .ok (.invokestatic index, 3))
    (hpre : ∀ vm₁, s.WarmedH vm₁ → Pre ⟨T.setVm vm₁, locs, cells, slots⟩ argsL.toArray) :
    (∃ (v : Option Value) (vm₁ : Vm) (B : Pt), s.WarmedH vm₁ ∧ Stand p l e R s m args below meth c B.U B.locs B.cells B.slots ∧ Post ⟨T.setVm vm₁, locs, cells, slots⟩ argsL.toArray v B ∧
      ∀ target, Steps p.tables e below (B.U.setTop { g with pc := g.pc + 3, stack := v.toList ++ rest }) target → Steps p.tables e below (T.setTop g) target) ∨
    (∃ (q : Addr) (vm₁ : Vm) (B : Pt), s.WarmedH vm₁ ∧ Stand p l e R s m args below meth c B.U B.locs B.cells B.slots ∧ PostX ⟨T.setVm vm₁, locs, cells, slots⟩ argsL.toArray q B ∧
      Steps p.tables e below (T.setTop g) ((B.U.setTop { g with stack := rest }).pushFrame (.throwing q))) := by
  obtain ⟨mk, hnamed⟩ := Cond.code_named hcode
  obtain ⟨methM, cM, hmethM, -, -, -, -, -, -, hsigM⟩ := Cond.code_spec hnamed hcode
  have hstatic : methM.isStatic = true := Cond.static_spec hnamed hmethM hstat
  obtain ⟨kP, hkP, -⟩ := className_of_methodNamed hnamed
  have hinitP : kP.init = .initialized := Cond.initialized_spec (findClass_of_methodNamed hnamed) hkP hinit
  obtain ⟨vm₁, X₁, hstep₁⟩ := X.invokestatic hexec hown hlink hnamed hmethM hstatic hkP hinitP hy (g := g) hg (argsL := argsL) (rest := rest) (hlen _ hsigM) hstack hdg
  rcases hK m meth c ⟨T.setVm vm₁, locs, cells, slots⟩ { g with stack := rest } (.invokestatic index) mk argsL.toArray X₁ hg hsize hdg hW (X₁.named hnamed) (hpre vm₁ X₁.warmed) with ⟨v, B, X', hpost, hsteps⟩ | ⟨q, B, X', hpost, hsteps⟩
  · exact Or.inl ⟨v, vm₁, B, X₁.warmed, X', hpost, fun target h => hstep₁ _ fun acts => by rw [doInvoke_state]; exact hsteps.trans h⟩
  · exact Or.inr ⟨q, vm₁, B, X₁.warmed, X', hpost, hstep₁ _ fun acts => by rw [doInvoke_state]; exact hsteps⟩
end Calls
theorem vx_cls {s : State} {T : State} {vm₁ : Vm} {E : String} {k : ClassId} (hW : s.WarmedH vm₁) (h : (T.setVm vm₁).vm.findClass E = some k) : s.vm.findClass E = some k := by
  have h1 : vm₁.findClass E = some k := h
  rw [hW.alike.findClass] at h1
  exact h1
/-- the method's frame g, with q thrown over it -/
def vx_W (p : Program) (l : Launch) (e : Env) (R : Room) (s : State) (m : MethodId) (args : Array Value) (below : List Frame) (meth : Method) (c : Code) (H : Heap) (locs : List Loc) (cells slots : Nat) (Q : State → Prop) (g : JFrame) (q : Addr) : Prop :=
  ∀ T : State, T.heap = H → Stand p l e R s m args below meth c T locs cells slots → ∃ t, Steps p.tables e below ((T.setTop g).pushFrame (.throwing q)) t ∧ Q t
def vx_Run (p : Program) (l : Launch) (e : Env) (R : Room) (s : State) (m : MethodId) (args : Array Value) (below : List Frame) (meth : Method) (c : Code) (H : Heap) (locs : List Loc) (cells slots mc ms : Nat) (g : JFrame) (rest : List Value) (Qa : State → Outcome → State → Prop) (XC : String → State → State → Prop) (free : Addr → Prop) : Prop :=
  ∀ T : State, T.heap = H → Stand p l e R s m args below meth c T locs cells slots →
    (∃ (v : Option Value) (st₀ t T' : State) (L : List Loc), st₀.heap = H ∧ Stand p l e R s m args below meth c T' (locs ++ L) (cells + mc) (slots + ms) ∧ (∀ q ∈ L, free q.base) ∧ T'.heap = t.heap ∧ T'.vm = t.vm ∧ Qa st₀ (.returned v) t ∧
      Goes p e below T g T' { g with pc := g.pc + 3, stack := v.toList ++ rest }) ∨
    (∃ (q : Addr) (st₀ t T' : State) (L : List Loc) (E : String) (ce : Cell), st₀.heap = H ∧ Stand p l e R s m args below meth c T' (locs ++ L) (cells + mc) (slots + ms) ∧ (∀ z ∈ L, free z.base) ∧ T'.heap = t.heap ∧ T'.vm = t.vm ∧ XC E st₀ t ∧ t.heap[q]? = some ce ∧ ce.vm = .none ∧ s.vm.findClass E = some ce.cls ∧
      Steps p.tables e below (T.setTop g) ((T'.setTop { g with stack := rest }).pushFrame (.throwing q)))
def vx_X {S : Type} (px : S → Prop) (B : String → S → State → Prop) (A : Nat → Prop) : String → State → State → Prop := fun E st t => ∃ u : S, px u ∧ B E u t ∧ va_F A st t
section Runs
variable {p : Program} {l : Launch} {e : Env} {R : Room} {s : State} {m : MethodId} {args : Array Value} {below : List Frame} {meth : Method} {c : Code} {H : Heap} {locs : List Loc} {cells slots : Nat}
variable {y : MethodName} {bytes cc : ByteArray} {maxL nL mc ms n index : Nat} {ret : Option FieldType} {ws : List Cond} {rm : Room} {Pc : Array Value → State → Prop} {Qc : Array Value → State → Outcome → State → Prop} {XC : String → State → State → Prop} {free : Addr → Prop} {Ts : List Cond} {own C : String} {b : Addr} {As rest : List Value} {g : JFrame}
theorem vx_callBack (cb : CallB R s args own index y bytes maxL ret ws rm mc ms n) (hM : vx_Met l y ws rm Pc Qc XC mc ms free) (hbl : FrameBlind Pc) : vx_Back l R p e below s args y 3 8 (PreOf R mc ms Pc) (PostOf Qc mc ms free) (vx_Post XC mc ms free) := by
  obtain ⟨hrc, hrs, hfr, hlo, hws, hcw, -, hini, -⟩ := cb
  exact vx_back (bytes := bytes) (maxL := maxL) (ret := ret) hM hbl hrc hrs hfr hlo hws hcw (fun a' U hW => word_at hW (Or.inl (by first | rfl | simp [Cond.onTables, Cond.keeps, Cond.steady])) hini)
theorem vx_runV (S : CallFix p m c cc nL s args Ts own) (hM : vx_Met l y ws rm Pc Qc XC mc ms free) (cw : CallW R s args own C index y bytes maxL ret ws rm mc ms n) (hp : PreV s H C b Pc As)
    (hg : g.method = m) (hn : As.length = n) (hsize : g.locals.size = nL) (hstack : g.stack = As.reverse ++ .ref b :: rest) (hW : 2 * g.monitorRoom + (rest.map fun v => v.category).sum ≤ 8) (hdg : decode cc g.pc = .ok (.invokevirtual index, 3)) (hf : cells + mc ≤ R.cells ∧ slots + ms ≤ R.slots) :
    vx_Run p l e R s m args below meth c H locs cells slots mc ms g rest (Qc (Value.ref b :: As).toArray) XC free := by
  have hK : vx_Back l R p e below s args y 3 8 (PreOf R mc ms Pc) (PostOf Qc mc ms free) (vx_Post XC mc ms free) := vx_callBack cw.1 hM hp.1
  obtain ⟨⟨-, -, -, -, -, -, hcode, -, hy, hlen, hl⟩, hin, hse⟩ := cw
  obtain ⟨hx, hb, hml, ho, -⟩ := S
  obtain ⟨-, ⟨cellB, hcB, hoB, hclB⟩, hPc⟩ := hp
  intro T hT X
  rcases vx_callV X hx (C := C) (bytes := bytes) (maxL := maxL) (ret := ret) ho hl hin hse hcode hy hK (by rw [hT]; exact hcB) hoB hclB hg (hsize.trans hml.symm) (argsL := As) (rest := rest) (fun sig h => hn.trans (hlen sig h)) hstack hW (by rw [hb]; exact hdg)
    (fun vm₁ hW₁ => ⟨hf.1, hf.2, hPc (T.setVm vm₁) hT hW₁⟩) with ⟨v, vm₁, ⟨U', l2, c2, s2⟩, hW₁, X', ⟨g', mk, t, L, e1, e2, hq, h1, hL, h2, h3⟩, st⟩ | ⟨q, vm₁, ⟨U', l2, c2, s2⟩, hW₁, X', ⟨g', mk, t, L, E, ce, e1, e2, hq, hce, hcv, hcl, h1, hL, h2, h3⟩, st⟩
  · dsimp only [Pt.U, Pt.locs, Pt.cells, Pt.slots] at X' e1 e2 h1 h2 h3 st
    subst h1; subst h2; subst h3
    exact Or.inl ⟨v, (T.setVm vm₁).calling g' mk (Value.ref b :: As).toArray, t, U', L, hT, X', hL, e1, e2, hq, st⟩
  · dsimp only [Pt.U, Pt.locs, Pt.cells, Pt.slots] at X' e1 e2 h1 h2 h3 st hcl
    subst h1; subst h2; subst h3
    exact Or.inr ⟨q, (T.setVm vm₁).calling g' mk (Value.ref b :: As).toArray, t, U', L, E, ce, hT, X', hL, e1, e2, hq, hce, hcv, vx_cls hW₁ hcl, st⟩
theorem vx_runS (S : CallFix p m c cc nL s args Ts own) (hM : vx_Met l y ws rm Pc Qc XC mc ms free) (cw : CallB R s args own index y bytes maxL ret ws rm mc ms n ∧ (Cond.static y).before args s = true) (hp : PreS s H Pc As)
    (hg : g.method = m) (hn : As.length = n) (hsize : g.locals.size = nL) (hstack : g.stack = As.reverse ++ rest) (hW : 2 * g.monitorRoom + (rest.map fun v => v.category).sum ≤ 8) (hdg : decode cc g.pc = .ok (.invokestatic index, 3)) (hf : cells + mc ≤ R.cells ∧ slots + ms ≤ R.slots) :
    vx_Run p l e R s m args below meth c H locs cells slots mc ms g rest (Qc As.toArray) XC free := by
  have hK : vx_Back l R p e below s args y 3 8 (PreOf R mc ms Pc) (PostOf Qc mc ms free) (vx_Post XC mc ms free) := vx_callBack cw.1 hM hp.1
  obtain ⟨⟨-, -, -, -, -, -, hcode, hini, hy, hlen, hl⟩, hstt⟩ := cw
  obtain ⟨hx, hb, hml, ho, -⟩ := S
  intro T hT X
  rcases vx_callS X hx (bytes := bytes) (maxL := maxL) (ret := ret) ho hl hstt hini hcode hy hK hg (hsize.trans hml.symm) (argsL := As) (rest := rest) (fun sig h => hn.trans (hlen sig h)) hstack hW (by rw [hb]; exact hdg)
    (fun vm₁ hW₁ => ⟨hf.1, hf.2, hp.2 (T.setVm vm₁) hT hW₁⟩) with ⟨v, vm₁, ⟨U', l2, c2, s2⟩, hW₁, X', ⟨g', mk, t, L, e1, e2, hq, h1, hL, h2, h3⟩, st⟩ | ⟨q, vm₁, ⟨U', l2, c2, s2⟩, hW₁, X', ⟨g', mk, t, L, E, ce, e1, e2, hq, hce, hcv, hcl, h1, hL, h2, h3⟩, st⟩
  · dsimp only [Pt.U, Pt.locs, Pt.cells, Pt.slots] at X' e1 e2 h1 h2 h3 st
    subst h1; subst h2; subst h3
    exact Or.inl ⟨v, (T.setVm vm₁).calling g' mk As.toArray, t, U', L, hT, X', hL, e1, e2, hq, st⟩
  · dsimp only [Pt.U, Pt.locs, Pt.cells, Pt.slots] at X' e1 e2 h1 h2 h3 st hcl
    subst h1; subst h2; subst h3
    exact Or.inr ⟨q, (T.setVm vm₁).calling g' mk As.toArray, t, U', L, E, ce, hT, X', hL, e1, e2, hq, hce, hcv, vx_cls hW₁ hcl, st⟩
end Runs
section Rows
variable {p : Program} {l : Launch} {e : Env} {R : Room} {s : State} {m : MethodId} {args : Array Value} {below : List Frame} {meth : Method} {c : Code} {H : Heap} {locs : List Loc} {cells slots : Nat} {Q : State → Prop}
variable {mc ms : Nat} {free : Addr → Prop} {A0 A1 : Nat → Prop} {H0 : Heap} {a : Array Value} {pc : Nat} {ls : Array Slot} {st0 rest : List Value}
theorem vx_keep {st₀ t T' : State} {L : List Loc} (h0 : st₀.heap = H) (e1 : T'.heap = t.heap) (hS : va_S A0 H0 H locs) (hA : ∀ q, q < H.size → A1 q → A0 q) (hf : ∀ q, free q → A0 q) (hL : ∀ q ∈ L, free q.base) (hF : va_F A1 st₀ t) :
    H.size ≤ T'.heap.size ∧ (∀ q : Nat, q < H.size → ¬ A1 q → T'.heap[q]? = H[q]?) ∧ va_S A0 H0 T'.heap (locs ++ L) := by
  obtain ⟨hz, hk⟩ := hF
  rw [h0] at hz hk
  exact ⟨by rw [e1]; exact hz, fun q h1 h2 => by rw [e1]; exact hk q h1 h2,
    ⟨Nat.le_trans hS.1 (by rw [e1]; exact hz), fun q h1 h2 => by rw [e1, hk q (Nat.lt_of_lt_of_le h1 hS.1) (fun z => h2 (hA q (Nat.lt_of_lt_of_le h1 hS.1) z))]; exact hS.2.1 q h1 h2, fun q hq => by
      rcases List.mem_append.mp hq with h | h
      · exact hS.2.2 q h
      · exact hf _ (hL q h)⟩⟩
theorem vx_calli {S SX : Type} {post : Int32 → S → Prop} {px : SX → Prop} {B : S → State → Prop} {BX : String → SX → State → Prop} {AX : Nat → Prop} (hr : vx_Run p l e R s m args below meth c H locs cells slots mc ms (F0 m pc ls st0) rest (va_Qi post B A1 a) (vx_X px BX AX) free) (hS : va_S A0 H0 H locs) (hA : ∀ q, q < H.size → A1 q → A0 q) (hf : ∀ q, free q → A0 q) (hAX : ∀ q, q < H.size → AX q → A0 q)
    (kx : ∀ (E : String) (ce : Cell) (q9 : Addr) (u : SX) (t : State) (H1 : Heap) (locs1 : List Loc), t.heap = H1 → s.vm.Alike t.vm → px u → BX E u t → H.size ≤ H1.size → (∀ q : Nat, q < H.size → ¬ AX q → H1[q]? = H[q]?) → va_S A0 H0 H1 locs1 → H1[q9]? = some ce → ce.vm = .none → s.vm.findClass E = some ce.cls → vx_W p l e R s m args below meth c H1 locs1 (cells + mc) (slots + ms) Q (F0 m pc ls rest) q9)
    (kk : ∀ (r : Int32) (u : S) (t : State) (H1 : Heap) (locs1 : List Loc), t.heap = H1 → s.vm.Alike t.vm → post r u → B u t → H.size ≤ H1.size → (∀ q : Nat, q < H.size → ¬ A1 q → H1[q]? = H[q]?) → va_S A0 H0 H1 locs1 → W p l e R s m args below meth c H1 locs1 (cells + mc) (slots + ms) Q (F0 m (pc + 3) ls (.int r :: rest))) : W p l e R s m args below meth c H locs cells slots Q (F0 m pc ls st0) := by
  intro T hT X
  rcases hr T hT X with ⟨v, st₀, t, T', L, h0, X', hL, e1, e2, ⟨⟨r, u, hv, hp, hb⟩, hF⟩, st⟩ | ⟨q, st₀, t, T', L, E, ce, h0, X', hL, e1, e2, ⟨u, hp, hb, hF⟩, hce, hcv, hcl, st⟩
  · cases hv
    obtain ⟨k1, k2, k3⟩ := vx_keep h0 e1 hS hA hf hL hF
    obtain ⟨t2, a1, b1⟩ := kk r u t T'.heap (locs ++ L) e1.symm (by rw [← e2]; exact X'.warmed.alike) hp hb k1 k2 k3 T' rfl X'
    exact ⟨t2, st t2 a1, b1⟩
  · obtain ⟨k1, k2, k3⟩ := vx_keep h0 e1 hS hAX hf hL hF
    obtain ⟨t2, a1, b1⟩ := kx E ce q u t T'.heap (locs ++ L) e1.symm (by rw [← e2]; exact X'.warmed.alike) hp hb k1 k2 k3 (by rw [e1]; exact hce) hcv hcl T' rfl X'
    exact ⟨t2, st.trans a1, b1⟩
theorem vx_calll {S SX : Type} {post : Int64 → S → Prop} {px : SX → Prop} {B : S → State → Prop} {BX : String → SX → State → Prop} {AX : Nat → Prop} (hr : vx_Run p l e R s m args below meth c H locs cells slots mc ms (F0 m pc ls st0) rest (va_Ql post B A1 a) (vx_X px BX AX) free) (hS : va_S A0 H0 H locs) (hA : ∀ q, q < H.size → A1 q → A0 q) (hf : ∀ q, free q → A0 q) (hAX : ∀ q, q < H.size → AX q → A0 q)
    (kx : ∀ (E : String) (ce : Cell) (q9 : Addr) (u : SX) (t : State) (H1 : Heap) (locs1 : List Loc), t.heap = H1 → s.vm.Alike t.vm → px u → BX E u t → H.size ≤ H1.size → (∀ q : Nat, q < H.size → ¬ AX q → H1[q]? = H[q]?) → va_S A0 H0 H1 locs1 → H1[q9]? = some ce → ce.vm = .none → s.vm.findClass E = some ce.cls → vx_W p l e R s m args below meth c H1 locs1 (cells + mc) (slots + ms) Q (F0 m pc ls rest) q9)
    (kk : ∀ (r : Int64) (u : S) (t : State) (H1 : Heap) (locs1 : List Loc), t.heap = H1 → s.vm.Alike t.vm → post r u → B u t → H.size ≤ H1.size → (∀ q : Nat, q < H.size → ¬ A1 q → H1[q]? = H[q]?) → va_S A0 H0 H1 locs1 → W p l e R s m args below meth c H1 locs1 (cells + mc) (slots + ms) Q (F0 m (pc + 3) ls (.long r :: rest))) : W p l e R s m args below meth c H locs cells slots Q (F0 m pc ls st0) := by
  intro T hT X
  rcases hr T hT X with ⟨v, st₀, t, T', L, h0, X', hL, e1, e2, ⟨⟨r, u, hv, hp, hb⟩, hF⟩, st⟩ | ⟨q, st₀, t, T', L, E, ce, h0, X', hL, e1, e2, ⟨u, hp, hb, hF⟩, hce, hcv, hcl, st⟩
  · cases hv
    obtain ⟨k1, k2, k3⟩ := vx_keep h0 e1 hS hA hf hL hF
    obtain ⟨t2, a1, b1⟩ := kk r u t T'.heap (locs ++ L) e1.symm (by rw [← e2]; exact X'.warmed.alike) hp hb k1 k2 k3 T' rfl X'
    exact ⟨t2, st t2 a1, b1⟩
  · obtain ⟨k1, k2, k3⟩ := vx_keep h0 e1 hS hAX hf hL hF
    obtain ⟨t2, a1, b1⟩ := kx E ce q u t T'.heap (locs ++ L) e1.symm (by rw [← e2]; exact X'.warmed.alike) hp hb k1 k2 k3 (by rw [e1]; exact hce) hcv hcl T' rfl X'
    exact ⟨t2, st.trans a1, b1⟩
theorem vx_callf {S SX : Type} {post : UInt32 → S → Prop} {px : SX → Prop} {B : S → State → Prop} {BX : String → SX → State → Prop} {AX : Nat → Prop} (hr : vx_Run p l e R s m args below meth c H locs cells slots mc ms (F0 m pc ls st0) rest (va_Qf post B A1 a) (vx_X px BX AX) free) (hS : va_S A0 H0 H locs) (hA : ∀ q, q < H.size → A1 q → A0 q) (hf : ∀ q, free q → A0 q) (hAX : ∀ q, q < H.size → AX q → A0 q)
    (kx : ∀ (E : String) (ce : Cell) (q9 : Addr) (u : SX) (t : State) (H1 : Heap) (locs1 : List Loc), t.heap = H1 → s.vm.Alike t.vm → px u → BX E u t → H.size ≤ H1.size → (∀ q : Nat, q < H.size → ¬ AX q → H1[q]? = H[q]?) → va_S A0 H0 H1 locs1 → H1[q9]? = some ce → ce.vm = .none → s.vm.findClass E = some ce.cls → vx_W p l e R s m args below meth c H1 locs1 (cells + mc) (slots + ms) Q (F0 m pc ls rest) q9)
    (kk : ∀ (r : UInt32) (u : S) (t : State) (H1 : Heap) (locs1 : List Loc), t.heap = H1 → s.vm.Alike t.vm → post r u → B u t → H.size ≤ H1.size → (∀ q : Nat, q < H.size → ¬ A1 q → H1[q]? = H[q]?) → va_S A0 H0 H1 locs1 → W p l e R s m args below meth c H1 locs1 (cells + mc) (slots + ms) Q (F0 m (pc + 3) ls (.float r :: rest))) : W p l e R s m args below meth c H locs cells slots Q (F0 m pc ls st0) := by
  intro T hT X
  rcases hr T hT X with ⟨v, st₀, t, T', L, h0, X', hL, e1, e2, ⟨⟨r, u, hv, hp, hb⟩, hF⟩, st⟩ | ⟨q, st₀, t, T', L, E, ce, h0, X', hL, e1, e2, ⟨u, hp, hb, hF⟩, hce, hcv, hcl, st⟩
  · cases hv
    obtain ⟨k1, k2, k3⟩ := vx_keep h0 e1 hS hA hf hL hF
    obtain ⟨t2, a1, b1⟩ := kk r u t T'.heap (locs ++ L) e1.symm (by rw [← e2]; exact X'.warmed.alike) hp hb k1 k2 k3 T' rfl X'
    exact ⟨t2, st t2 a1, b1⟩
  · obtain ⟨k1, k2, k3⟩ := vx_keep h0 e1 hS hAX hf hL hF
    obtain ⟨t2, a1, b1⟩ := kx E ce q u t T'.heap (locs ++ L) e1.symm (by rw [← e2]; exact X'.warmed.alike) hp hb k1 k2 k3 (by rw [e1]; exact hce) hcv hcl T' rfl X'
    exact ⟨t2, st.trans a1, b1⟩
theorem vx_calld {S SX : Type} {post : UInt64 → S → Prop} {px : SX → Prop} {B : S → State → Prop} {BX : String → SX → State → Prop} {AX : Nat → Prop} (hr : vx_Run p l e R s m args below meth c H locs cells slots mc ms (F0 m pc ls st0) rest (va_Qd post B A1 a) (vx_X px BX AX) free) (hS : va_S A0 H0 H locs) (hA : ∀ q, q < H.size → A1 q → A0 q) (hf : ∀ q, free q → A0 q) (hAX : ∀ q, q < H.size → AX q → A0 q)
    (kx : ∀ (E : String) (ce : Cell) (q9 : Addr) (u : SX) (t : State) (H1 : Heap) (locs1 : List Loc), t.heap = H1 → s.vm.Alike t.vm → px u → BX E u t → H.size ≤ H1.size → (∀ q : Nat, q < H.size → ¬ AX q → H1[q]? = H[q]?) → va_S A0 H0 H1 locs1 → H1[q9]? = some ce → ce.vm = .none → s.vm.findClass E = some ce.cls → vx_W p l e R s m args below meth c H1 locs1 (cells + mc) (slots + ms) Q (F0 m pc ls rest) q9)
    (kk : ∀ (r : UInt64) (u : S) (t : State) (H1 : Heap) (locs1 : List Loc), t.heap = H1 → s.vm.Alike t.vm → post r u → B u t → H.size ≤ H1.size → (∀ q : Nat, q < H.size → ¬ A1 q → H1[q]? = H[q]?) → va_S A0 H0 H1 locs1 → W p l e R s m args below meth c H1 locs1 (cells + mc) (slots + ms) Q (F0 m (pc + 3) ls (.double r :: rest))) : W p l e R s m args below meth c H locs cells slots Q (F0 m pc ls st0) := by
  intro T hT X
  rcases hr T hT X with ⟨v, st₀, t, T', L, h0, X', hL, e1, e2, ⟨⟨r, u, hv, hp, hb⟩, hF⟩, st⟩ | ⟨q, st₀, t, T', L, E, ce, h0, X', hL, e1, e2, ⟨u, hp, hb, hF⟩, hce, hcv, hcl, st⟩
  · cases hv
    obtain ⟨k1, k2, k3⟩ := vx_keep h0 e1 hS hA hf hL hF
    obtain ⟨t2, a1, b1⟩ := kk r u t T'.heap (locs ++ L) e1.symm (by rw [← e2]; exact X'.warmed.alike) hp hb k1 k2 k3 T' rfl X'
    exact ⟨t2, st t2 a1, b1⟩
  · obtain ⟨k1, k2, k3⟩ := vx_keep h0 e1 hS hAX hf hL hF
    obtain ⟨t2, a1, b1⟩ := kx E ce q u t T'.heap (locs ++ L) e1.symm (by rw [← e2]; exact X'.warmed.alike) hp hb k1 k2 k3 (by rw [e1]; exact hce) hcv hcl T' rfl X'
    exact ⟨t2, st.trans a1, b1⟩
theorem vx_callv {S SX : Type} {post : S → Prop} {px : SX → Prop} {B : S → State → Prop} {BX : String → SX → State → Prop} {AX : Nat → Prop} (hr : vx_Run p l e R s m args below meth c H locs cells slots mc ms (F0 m pc ls st0) rest (va_Qv post B A1 a) (vx_X px BX AX) free) (hS : va_S A0 H0 H locs) (hA : ∀ q, q < H.size → A1 q → A0 q) (hf : ∀ q, free q → A0 q) (hAX : ∀ q, q < H.size → AX q → A0 q)
    (kx : ∀ (E : String) (ce : Cell) (q9 : Addr) (u : SX) (t : State) (H1 : Heap) (locs1 : List Loc), t.heap = H1 → s.vm.Alike t.vm → px u → BX E u t → H.size ≤ H1.size → (∀ q : Nat, q < H.size → ¬ AX q → H1[q]? = H[q]?) → va_S A0 H0 H1 locs1 → H1[q9]? = some ce → ce.vm = .none → s.vm.findClass E = some ce.cls → vx_W p l e R s m args below meth c H1 locs1 (cells + mc) (slots + ms) Q (F0 m pc ls rest) q9)
    (kk : ∀ (u : S) (t : State) (H1 : Heap) (locs1 : List Loc), t.heap = H1 → s.vm.Alike t.vm → post u → B u t → H.size ≤ H1.size → (∀ q : Nat, q < H.size → ¬ A1 q → H1[q]? = H[q]?) → va_S A0 H0 H1 locs1 → W p l e R s m args below meth c H1 locs1 (cells + mc) (slots + ms) Q (F0 m (pc + 3) ls (rest))) : W p l e R s m args below meth c H locs cells slots Q (F0 m pc ls st0) := by
  intro T hT X
  rcases hr T hT X with ⟨v, st₀, t, T', L, h0, X', hL, e1, e2, ⟨⟨u, hv, hp, hb⟩, hF⟩, st⟩ | ⟨q, st₀, t, T', L, E, ce, h0, X', hL, e1, e2, ⟨u, hp, hb, hF⟩, hce, hcv, hcl, st⟩
  · cases hv
    obtain ⟨k1, k2, k3⟩ := vx_keep h0 e1 hS hA hf hL hF
    obtain ⟨t2, a1, b1⟩ := kk u t T'.heap (locs ++ L) e1.symm (by rw [← e2]; exact X'.warmed.alike) hp hb k1 k2 k3 T' rfl X'
    exact ⟨t2, st t2 a1, b1⟩
  · obtain ⟨k1, k2, k3⟩ := vx_keep h0 e1 hS hAX hf hL hF
    obtain ⟨t2, a1, b1⟩ := kx E ce q u t T'.heap (locs ++ L) e1.symm (by rw [← e2]; exact X'.warmed.alike) hp hb k1 k2 k3 (by rw [e1]; exact hce) hcv hcl T' rfl X'
    exact ⟨t2, st.trans a1, b1⟩
/-- caught by the row x of this method's table; the rows ahead don't take it -/
theorem vx_catch {own name : String} {E : String} {ce : Cell} {q : Addr} (hown : s.vm.findClass own = some m.cls) (pre : List ExceptionTableEntry) (x : ExceptionTableEntry) (suf : List ExceptionTableEntry) (hsplit : c.exceptionTable.toList = pre ++ x :: suf)
    (hpass : ∀ z ∈ pre, covers z pc = false ∨ (z.catchType ≠ 0 ∧ ∃ nm : String, (Cond.classLink own z.catchType nm).before args s = true ∧ va_Nc E nm s)) (hx : covers x pc = true) (h0 : x.catchType ≠ 0)
    (hlink : (Cond.classLink own x.catchType name).before args s = true) (hcast : (Cond.castable E name).before args s = true) (hcell : H[q]? = some ce) (hv : ce.vm = .none) (hcl : s.vm.findClass E = some ce.cls)
    (kk : W p l e R s m args below meth c H locs cells slots Q (F0 m x.handlerPc ls [.ref q])) : vx_W p l e R s m args below meth c H locs cells slots Q (F0 m pc ls rest) q := by
  intro T hT X
  have hpl : e.platform.magicAccessors = ({} : Platform).magicAccessors := by rw [X.admits.platform]
  obtain ⟨c3, c4, hc3, hc4, hasg⟩ := Cond.castable_spec hcast
  cases Option.some.inj (hc3.symm.trans hcl)
  obtain ⟨c5, hc5, hcl5⟩ := Cond.classLink_spec hown hlink e.platform hpl
  cases Option.some.inj (hc4.symm.trans hc5)
  obtain ⟨vm', X', st⟩ := X.thenCaughtThrough q (g := F0 m pc ls rest) rfl (Steps.refl _) (by rw [hT]; exact hcell) (by rw [hv]; rfl) (by obtain ⟨k9, h9, -⟩ := Vm.findClass_spec hcl; exact ⟨k9, h9⟩) pre x suf hsplit
    (fun z hz => by
      rcases hpass z hz with h | ⟨hz0, nm, hl1, hn1⟩
      · exact Or.inl h
      · obtain ⟨c6, hc6, hcl6⟩ := Cond.classLink_spec hown hl1 e.platform hpl
        obtain ⟨a8, b8, h1, h2, h3⟩ := hn1
        cases Option.some.inj (h1.symm.trans hcl)
        cases Option.some.inj (h2.symm.trans hc6)
        exact Or.inr ⟨hz0, _, hcl6, h3⟩) hx (Or.inr ⟨h0, c4, hcl5, hasg⟩)
  obtain ⟨t, a1, b1⟩ := kk (T.setVm vm') hT X'
  exact ⟨t, st.trans a1, b1⟩
end Rows
section Ends
variable {p : Program} {l : Launch} {e : Env} {R : Room} {s : State} {m : MethodId} {args : Array Value} {below : List Frame} {meth : Method} {c : Code} {H : Heap} {locs : List Loc} {cells slots : Nat} {Q : State → Prop}
variable {mc ms : Nat} {free : Addr → Prop} {A0 A1 : Nat → Prop} {H0 : Heap} {a : Array Value} {ls : Array Slot} {st0 rest : List Value}
variable {Qc : Array Value → State → Outcome → State → Prop} {XC : String → State → State → Prop}
/-- what a body that may throw owes at its end -/
def vx_MQ (below : List Frame) (Qc : Array Value → State → Outcome → State → Prop) (XC : String → State → State → Prop) (a : Array Value) (s : State) (mc ms : Nat) (free : Addr → Prop) : State → Prop := fun t =>
  ∃ o, t.status = .running ∧ Ended t below o ∧ vx_Q Qc XC mc ms free a s o t
theorem vx_ret {g : JFrame} {mc ms : Nat} (k : W p l e R s m args below meth c H locs cells slots (MQ below Qc args s mc ms free) g) : W p l e R s m args below meth c H locs cells slots (vx_MQ below Qc XC args s mc ms free) g := by
  intro T hT X
  obtain ⟨t, a1, o, b1, b2, b3, b4⟩ := k T hT X
  exact ⟨t, a1, o, b1, b2, Or.inl ⟨b3, b4⟩⟩
/-- not caught here: it goes on to the caller -/
theorem vx_widen {g : JFrame} {q : Addr} {k n : Nat} (h1 : cells ≤ k) (h2 : slots ≤ n) (kk : vx_W p l e R s m args below meth c H locs k n Q g q) : vx_W p l e R s m args below meth c H locs cells slots Q g q := fun T hT X => kk T hT (stand_widen X h1 h2)
theorem vx_out {pc : Nat} {E : String} {ce : Cell} {q : Addr} {mc ms : Nat} (hout : ∀ x ∈ c.exceptionTable.toList, covers x pc = false) (hlocks : meth.locks = false) (hcell : H[q]? = some ce) (hv : ce.vm = .none) (hcl : s.vm.findClass E = some ce.cls)
    (hx : ∀ t : State, t.heap = H → s.vm.Alike t.vm → XC E s t) (hf : ∀ z ∈ locs, free z.base) (hc : cells ≤ mc) (hs : slots ≤ ms) :
    vx_W p l e R s m args below meth c H locs cells slots (vx_MQ below Qc XC args s mc ms free) (F0 m pc ls rest) q := by
  intro T hT X
  obtain ⟨st1, hrun, hend, hW, hsm⟩ := X.leaveThrown q (g := F0 m pc ls rest) rfl rfl rfl hout hlocks
  have hcell9 : (T.setFrames (.throwing q :: below)).heap[q]? = some ce := by
    show T.heap[q]? = some ce
    rw [hT]; exact hcell
  exact ⟨_, st1, .threw q, hrun, hend, Or.inr ⟨q, rfl, E, ce, locs, hx _ hT hW.alike, hcell9, hv, hcl, hW, hsm.mono hc hs, hf⟩⟩
theorem vx_frame {U : State} {k n : Nat} (h : s.sameButNew ({ U with vm := s.vm } : State) locs k n) : s.heap.size ≤ U.heap.size ∧ ∀ q : Nat, q < s.heap.size → (∀ z ∈ locs, z.base ≠ q) → U.heap[q]? = s.heap[q]? := by
  obtain ⟨-, h2, -, -, -, h6⟩ := h
  refine ⟨h2, fun q hq hz => ?_⟩
  obtain ⟨c9, e1, e2, e3, e4⟩ := h6 q _ (Array.getElem?_eq_getElem hq)
  have hs : c9.slots = (s.heap[q]).slots := Array.ext_getElem? fun i => e4 i fun hm => hz _ hm rfl
  have h9 : c9 = s.heap[q] := by
    rw [hs] at e2
    exact e2
  have e5 : U.heap[q]? = some c9 := e1
  rw [e5, h9, Array.getElem?_eq_getElem hq]
/-- the words of a throw but the four that speak of the heap -/
def vx_no (w : Cond) : Bool := decide (w ≠ .isRef (.static Bundle.tN "UNASSIGNED_STACK" Bundle.steD)) && decide (w ≠ .isRef (.static Bundle.tN "SUPPRESSED_SENTINEL" Bundle.listD)) && decide (w ≠ .laysStatic Bundle.tN "UNASSIGNED_STACK" Bundle.steD) && decide (w ≠ .laysStatic Bundle.tN "SUPPRESSED_SENTINEL" Bundle.listD)
def vx_at0 (own : String) (ic : Nat) (X : String) (names : List String) : List Cond := (Bundle.ownAtoms0 own ic X names).filter vx_no
def vx_atS (own : String) (ic : Nat) (X : String) (names : List String) : List Cond := (Bundle.ownAtoms own ic X names).filter vx_no
/-- a word that the tables alone decide, or a good one -/
def vx_ot (w : Cond) : Bool := w.onTables || goodWord w
theorem vx_ot_at {args a' : Array Value} {s U : State} {w : Cond} (hW : s.WarmedH U.vm) (hvm : s.vm = U.vm) (hg : vx_ot w = true) (h : w.before args s = true) : w.before a' U = true := by
  simp only [vx_ot, Bool.or_eq_true] at hg
  rcases hg with hg | hg
  · exact va_tabs hg hvm h
  · exact word_at hW (good_of_word hg) h
/-- a list's words: the good ones out of the method's own list, the others by premises of their own -/
theorem vx_hat {args : Array Value} {s : State} {L B : List Cond} (h1 : ∀ w ∈ L.filter goodWord, w.before args s = true) (h2 : ∀ w ∈ L.filter (fun w => !goodWord w), w ∈ B) (h3 : ∀ w ∈ B, w.before args s = true) : ∀ w ∈ L, w.before args s = true := by
  intro w hw
  by_cases g : goodWord w = true
  · exact h1 w (List.mem_filter.mpr ⟨hw, g⟩)
  · refine h3 w (h2 w (List.mem_filter.mpr ⟨hw, ?_⟩))
    show (!goodWord w) = true
    cases hgw : goodWord w
    · rfl
    · exact absurd hgw g
theorem vx_c {args : Array Value} {s : State} {w : Cond} {B : List Cond} (h : w.before args s = true) (t : ∀ w ∈ B, w.before args s = true) : ∀ w' ∈ w :: B, w'.before args s = true := fun w' h' => (List.mem_cons.mp h').elim (fun e => by rw [e]; exact h) (t w')
theorem vx_n {args : Array Value} {s : State} : ∀ w ∈ ([] : List Cond), w.before args s = true := fun _ h => nomatch h
theorem vx_own {args : Array Value} {s : State} {L : List Cond} (h1 : ∀ w ∈ L.filter vx_no, w.before args s = true)
    (hU : (Cond.isRef (.static Bundle.tN "UNASSIGNED_STACK" Bundle.steD)).before args s = true) (hN : (Cond.isRef (.static Bundle.tN "SUPPRESSED_SENTINEL" Bundle.listD)).before args s = true)
    (lU : (Cond.laysStatic Bundle.tN "UNASSIGNED_STACK" Bundle.steD).before args s = true) (lN : (Cond.laysStatic Bundle.tN "SUPPRESSED_SENTINEL" Bundle.listD).before args s = true) : ∀ w ∈ L, w.before args s = true := by
  intro w hw
  by_cases e1 : w = .isRef (.static Bundle.tN "UNASSIGNED_STACK" Bundle.steD)
  · rw [e1]; exact hU
  · by_cases e2 : w = .isRef (.static Bundle.tN "SUPPRESSED_SENTINEL" Bundle.listD)
    · rw [e2]; exact hN
    · by_cases e3 : w = .laysStatic Bundle.tN "UNASSIGNED_STACK" Bundle.steD
      · rw [e3]; exact lU
      · by_cases e4 : w = .laysStatic Bundle.tN "SUPPRESSED_SENTINEL" Bundle.listD
        · rw [e4]; exact lN
        · exact h1 w (List.mem_filter.mpr ⟨hw, by unfold vx_no; rw [decide_eq_true e1, decide_eq_true e2, decide_eq_true e3, decide_eq_true e4]; rfl⟩)
/-- where a static field lies, its class's statics cell in H -/
def vx_L (C n d : String) (A : Nat → Prop) (U : State) (H : Heap) : Prop := ∃ (c : ClassId) (k : Class) (i : Nat) (f : Field) (a : Nat) (cell : Cell), U.vm.findClass C = some c ∧ U.fieldFound? C n d = some (c, k, i, f) ∧ f.isStatic = true ∧ k.statics = some a ∧ H[a]? = some cell ∧ cell.vm.isStatics = true ∧ cell.cls = c ∧ f.slot < cell.slots.size ∧ k.staticTypes[f.slot]? = some f.type ∧ ¬ A a
theorem vx_L.moved {C n d : String} {A : Nat → Prop} {u U : State} {H : Heap} (hvm : u.vm.Alike U.vm) (h : vx_L C n d A u H) : vx_L C n d A U H := by
  obtain ⟨c, k, i, f, a, cell, h1, h2, h3, h4, h5, h6, h7, h8, h9, h10⟩ := h
  obtain ⟨k', hi', he⟩ := State.fieldFound?_setVm hvm h2
  exact ⟨c, k', i, f, a, cell, by rw [hvm.findClass]; exact h1, hi', h3, by rw [he]; exact h4, h5, h6, h7, h8, by rw [he]; exact h9, h10⟩
theorem vx_L.kept {C n d : String} {A : Nat → Prop} {U : State} {H H1 : Heap} (h : vx_L C n d A U H) (hq : ∀ a : Nat, a < H.size → ¬ A a → H1[a]? = H[a]?) : vx_L C n d A U H1 := by
  obtain ⟨c, k, i, f, a, cell, h1, h2, h3, h4, h5, h6, h7, h8, h9, h10⟩ := h
  exact ⟨c, k, i, f, a, cell, h1, h2, h3, h4, by rw [hq a (Array.getElem?_eq_some_iff.mp h5).1 h10]; exact h5, h6, h7, h8, h9, h10⟩
theorem vx_L.narrow {C n d : String} {A B : Nat → Prop} {U : State} {H : Heap} (h : vx_L C n d A U H) (hAB : ∀ q, B q → A q) : vx_L C n d B U H := by
  obtain ⟨c, k, i, f, a, cell, h1, h2, h3, h4, h5, h6, h7, h8, h9, h10⟩ := h
  exact ⟨c, k, i, f, a, cell, h1, h2, h3, h4, h5, h6, h7, h8, h9, fun z => h10 (hAB _ z)⟩
theorem vx_L.word {C n d : String} {A : Nat → Prop} {s : State} {args : Array Value} (h : vx_L C n d A s s.heap) : (Cond.laysStatic C n d).before args s = true := by
  obtain ⟨c, k, i, f, a, cell, h1, h2, h3, h4, h5, h6, h7, h8, h9, -⟩ := h
  show (Cond.laysStatic C n d).holds args s none s [] = true
  exact Cond.laysStatic_of h1 h2 h3 h4 h5 h6 h7 h8 h9
/-- .. and what it holds: null or some reference -/
def vx_Zq (C n d : String) (A : Nat → Prop) (U : State) (H : Heap) : Prop := va_Zq C n d A U H ∧ vx_L C n d A U H
theorem vx_Zq.moved {C n d : String} {A : Nat → Prop} {u U : State} {H : Heap} (hvm : u.vm.Alike U.vm) (h : vx_Zq C n d A u H) : vx_Zq C n d A U H := ⟨va_Zq.moved hvm h.1, vx_L.moved hvm h.2⟩
theorem vx_Zq.kept {C n d : String} {A : Nat → Prop} {U : State} {H H1 : Heap} (h : vx_Zq C n d A U H) (hq : ∀ a : Nat, a < H.size → ¬ A a → H1[a]? = H[a]?) : vx_Zq C n d A U H1 := ⟨va_Zq.kept h.1 hq, vx_L.kept h.2 hq⟩
theorem vx_Zq.narrow {C n d : String} {A B : Nat → Prop} {U : State} {H : Heap} (h : vx_Zq C n d A U H) (hAB : ∀ q, B q → A q) : vx_Zq C n d B U H := ⟨va_Zq.narrow h.1 hAB, vx_L.narrow h.2 hAB⟩
theorem vx_Zqof {args : Array Value} {s : State} {C n d : String} {A : Nat → Prop} (hl : (Cond.laysStatic C n d).before args s = true) (hini : (Cond.initialized C).before args s = true) (h : (Cond.isRef (.static C n d)).before args s = true) (hA : ∀ a : Nat, a < s.heap.size → ¬ A a) : vx_Zq C n d A s s.heap := by
  refine ⟨va_Zqof hl hini h hA, ?_⟩
  obtain ⟨c, k, i, f, a, cell, h1, h2, h3, h4, h5, h6, h7, h8, h9⟩ := Cond.laysStatic_spec hl
  exact ⟨c, k, i, f, a, cell, h1, h2, h3, h4, h5, h6, h7, h8, h9, hA a (Array.getElem?_eq_some_iff.mp h5).1⟩
theorem vx_isRef {C n d : String} {v : Value} {A : Nat → Prop} {s : State} {args : Array Value} (h : va_Z C n d v A s s.heap) (hv : v.isRef = true) : (Cond.isRef (.static C n d)).before args s = true := by
  obtain ⟨cf, kf, fi, f, a, cell, h1, h2, h3, h4, h5, h6, h7, -⟩ := h
  have he : (Term.static C n d).eval args s none [] s = some v := by
    simp [Term.eval, State.fieldNamed?, h1, h2, h4, h5, h6, h7]
  simp only [Cond.before, Cond.holds, Cond.value, he]
  cases v <;> simp_all [Value.isRef]
theorem vx_isRefq {C n d : String} {A : Nat → Prop} {s : State} {args : Array Value} (h : va_Zq C n d A s s.heap) : (Cond.isRef (.static C n d)).before args s = true := by
  rcases h with h | ⟨t, h⟩
  · exact vx_isRef h rfl
  · exact vx_isRef h rfl
/-- the same frame, seen from here: as if the method were called anew in this heap -/
theorem vx_rebase {T : State} (X : Stand p l e R s m args below meth c T locs cells slots) {R' : Room} (hf : R'.frames ≤ R.frames) (hl : R'.locals ≤ R.locals) (hc : cells + R'.cells ≤ R.cells) (hs : slots + R'.slots ≤ R.slots) :
    Stand p l e R' ((T.setVm s.vm).setFrames (.invoking m args :: below)) m args below meth c T [] 0 0 := by
  have htop : (T.setVm s.vm).topJava?.isSome := X.here.top
  have hF : ((T.setVm s.vm).setFrames (.invoking m args :: below)).frames = .invoking m args :: below := State.frames_setFrames _ (State.cur_lt_of_top htop)
  obtain ⟨g₀, hg0⟩ := Option.isSome_iff_exists.mp htop
  obtain ⟨r, hr⟩ := State.topJava?_eq_some.mp hg0
  have hl9 : e.platform.stackLimits (T.setVm s.vm).me = e.platform.stackLimits s.me := X.limits
  have hb9 : (T.setVm s.vm).me.stackBytes = s.me.stackBytes := X.bytes
  refine ⟨X.admits, X.cas, X.clock, hF, ?_, X.hears, X.method, X.code, X.here, X.tail, X.warmed, ?_, ?_, ?_⟩
  · have h := X.room
    have hU : ((T.setVm s.vm).setFrames (.invoking m args :: below)).localsInUse = s.localsInUse := by
      rw [State.localsInUse_invoking hF (meth := meth) (c := c) X.method X.code, State.localsInUse_invoking X.frames X.method X.code]
    simp only [State.hasRoom, Bool.and_eq_true, decide_eq_true_eq] at h ⊢
    obtain ⟨⟨⟨⟨h1, h2, h3, h4, h5, h6⟩, h7⟩, h8⟩, h9⟩ := h
    rw [X.frames, List.length_cons] at h2 h3
    have q1 := X.heapSize
    have q2 := X.used
    simp only [hF, hU, List.length_cons, State.stackLimits_setFrames, State.stackBytes_setFrames, hl9, hb9]
    refine ⟨⟨⟨⟨by omega, by omega, by omega, by omega, by omega, h6⟩, ?_⟩, ?_⟩, X.book⟩
    · show T.heap.size + R'.cells ≤ e.platform.maxCells
      omega
    · show T.slotsUsed + R'.slots ≤ e.platform.maxSlots
      omega
  · rw [State.stackLimits_setFrames]; rfl
  · rw [State.stackBytes_setFrames]; rfl
  · refine ⟨?_, Nat.le_refl _, Nat.le_refl _, ?_, ?_, fun a c9 h9 => ⟨c9, h9, rfl, rfl, fun _ _ => rfl⟩⟩
    · obtain ⟨t, ht, -⟩ := State.frames_cons hr
      show T.setVm s.vm = { ((T.setVm s.vm).setFrames (.invoking m args :: below)).setFrames (T.setVm s.vm).frames with heap := T.heap, slotsUsed := T.slotsUsed }
      rw [State.setFrames_setFrames, State.setFrames_self ht]
      rfl
    · show T.slotsUsed = T.slotsUsed + ((T.heap.toList.drop T.heap.size).map (·.slots.size)).sum
      rw [List.drop_eq_nil_of_le (Nat.le_of_eq Array.length_toList)]
      rfl
    · show ((T.heap.toList.drop T.heap.size).map (·.slots.size)).sum ≤ 0
      rw [List.drop_eq_nil_of_le (Nat.le_of_eq Array.length_toList)]
      exact Nat.le_refl _
/-- 'throw new E()': new; dup; invokespecial; athrow -/
theorem vx_throw0 {cc : ByteArray} {pc : Nat} (hexec : p.tables.exec = Jvm.exec) (hb : c.code = cc) (hl : l.stackTraces = false) {own cls : String} {names : List String} {ik ic mc ms : Nat} {A : Nat → Prop}
    (hown : s.vm.findClass own = some m.cls) (hcls : Bundle.fit cls = true) (hnames : ∀ n ∈ names, Bundle.fit n = true)
    (hk : (Cond.classLink own ik cls).before args s = true) (hini : (Cond.initialized cls).before args s = true) (hat : ∀ w ∈ vx_at0 own ic cls names, w.before args s = true)
    (hgood : ∀ w ∈ Cond.classLink own ik cls :: Cond.initialized cls :: vx_at0 own ic cls names, vx_ot w = true)
    (hU : vx_Zq Bundle.tN "UNASSIGNED_STACK" Bundle.steD A s s.heap) (hN : vx_Zq Bundle.tN "SUPPRESSED_SENTINEL" Bundle.listD A s s.heap) (hS : va_S A s.heap H locs) (hsize : ls.size = c.maxLocals)
    (d0 : decode cc pc = .ok (.new ik, 3)) (d3 : decode cc (pc + 3) = .ok (.dup, 1)) (d4 : decode cc (pc + 4) = .ok (.invokespecial ic, 3)) (d7 : decode cc (pc + 7) = .ok (.athrow, 1))
    (hout : ∀ x ∈ c.exceptionTable.toList, covers x (pc + 7) = false)
    (hRframes : names.length + 3 < R.frames) (hRlocals : (rest.map fun v => v.category).sum + (13 * (names.length + 1) + 42) ≤ R.locals) (hRcells : cells + 1 ≤ R.cells) (hRslots : slots + 6 ≤ R.slots) (hlocks : meth.locks = false)
    (hx : ∀ t : State, s.vm.Alike t.vm → H.size ≤ t.heap.size → (∀ q : Nat, q < H.size → t.heap[q]? = H[q]?) → XC cls s t)
    (hf : ∀ z ∈ locs, free z.base) (hc : cells + 1 ≤ mc) (hs : slots + 6 ≤ ms) :
    W p l e R s m args below meth c H locs cells slots (vx_MQ below Qc XC args s mc ms free) (F0 m pc ls rest) := by
  intro T hT X
  have htr : e.platform.stackTraces = false := (show e.platform.stackTraces = l.stackTraces by rw [X.admits.platform]).trans hl
  have Y := vx_rebase X (R' := { frames := R.frames, locals := R.locals, cells := 1, slots := 6 }) (Nat.le_refl _) (Nat.le_refl _) hRcells hRslots
  obtain ⟨s', hA⟩ : ∃ z, z = (T.setVm s.vm).setFrames (.invoking m args :: below) := ⟨_, rfl⟩
  rw [← hA] at Y
  have hvm : s'.vm = s.vm := by rw [hA]; rfl
  have hhp : s'.heap = H := by rw [hA]; exact hT
  have hW0 : s.WarmedH s'.vm := by rw [hvm]; exact State.WarmedH.refl s
  have hat' : ∀ w ∈ vx_at0 own ic cls names, w.before args s' = true := fun w hw => vx_ot_at hW0 hvm.symm (hgood w (List.mem_cons_of_mem _ (List.mem_cons_of_mem _ hw))) (hat w hw)
  have hk' : (Cond.classLink own ik cls).before args s' = true := vx_ot_at hW0 hvm.symm (hgood _ List.mem_cons_self) hk
  have hini' : (Cond.initialized cls).before args s' = true := vx_ot_at hW0 hvm.symm (hgood _ (List.mem_cons_of_mem _ List.mem_cons_self)) hini
  have hU' : vx_Zq Bundle.tN "UNASSIGNED_STACK" Bundle.steD A s' s'.heap := by rw [hhp]; exact vx_Zq.moved hW0.alike (hU.kept hS.2.1)
  have hN' : vx_Zq Bundle.tN "SUPPRESSED_SENTINEL" Bundle.listD A s' s'.heap := by rw [hhp]; exact vx_Zq.moved hW0.alike (hN.kept hS.2.1)
  have h : ∀ w ∈ Bundle.ownAtoms0 own ic cls names, w.before args s' = true := vx_own hat' (vx_isRefq hU'.1) (vx_isRefq hN'.1) hU'.2.word hN'.2.word
  have hown' : s'.vm.findClass own = some m.cls := by rw [hvm]; exact hown
  have hins : (Cond.instantiable cls 6).before args s' = true := h _ (by simp [Bundle.ownAtoms0])
  obtain ⟨vm₁, cX, kX, hfX, hkX, -, -, X₁, st1⟩ := Y.newCold hexec (own := own) (C := cls) (index := ik) (n := 6) hown' hk' hins hini'
    (g := F0 m pc ls rest) rfl (by rw [hb]; exact d0) (Nat.le_refl _) (Nat.le_refl _)
  generalize hT1 : (T.setVm vm₁).pushCell { cls := cX, slots := kX.instanceTypes.map defaultValue, vm := .none } = T1 at X₁ st1
  have hcat : (Value.ref T.heap.size).category = 1 := rfl
  have hcellA : T1.heap[T.heap.size]? = some (freshCell cX kX) := by rw [← hT1]; exact State.heap_pushCell_size _ _
  have d3' : decode c.code (pc + 3) = .ok (.dup, 1) := by rw [hb]; exact d3
  obtain ⟨U, hsteps, hrun, hend, hW, hsame, ce, hce, hO⟩ := X₁.ctorThrow0 hexec htr (own := own) (cls := cls) (names := names) (ic := ic) hown' hcls hnames h (fun x hx => nomatch hx) hfX hkX hcellA (by rw [hhp, hT]; exact Nat.le_refl _)
    (g := { method := m, pc := pc + 4, locals := ls, stack := .ref T.heap.size :: .ref T.heap.size :: rest, locked := none }) rfl hsize rfl rfl (rest := rest) rfl
    (by rw [hb]; exact d4) (by rw [hb]; exact d7) hout hRframes (by simp only [List.map_cons, List.sum_cons, hcat]; omega) hlocks
  obtain ⟨f1, f2⟩ := vx_frame hsame
  rw [hhp] at f1 f2
  have hWs : s.WarmedH U.vm := State.WarmedH.trans hW0 hW
  have hcl : s.vm.findClass cls = some ce.cls := by
    have h9 := hO.cls
    rw [hvm] at h9
    exact h9
  have hall : s.sameButNew ({ U with vm := s.vm } : State) locs mc ms := by
    subst hA
    obtain ⟨e1, e2⟩ := hsame
    rw [State.setFrames_setFrames] at e1
    have h2 : (T.setVm s.vm).sameButNew ({ U with vm := s.vm } : State) [] (0 + 1) (0 + 6) := ⟨e1, e2⟩
    have h3 := X.same.trans h2
    rw [List.append_nil] at h3
    exact h3.mono hc hs
  refine ⟨U, ?_, .threw T.heap.size, hrun, hend, Or.inr ⟨T.heap.size, rfl, cls, ce, locs, hx U hWs.alike f1 (fun q hq => f2 q hq (fun z hz => nomatch hz)), hce, hO.vm, hcl, hWs, hall, hf⟩⟩
  refine st1 _ ?_
  show Steps p.tables e below (T1.setTop { method := m, pc := pc + 3, locals := ls, stack := .ref T.heap.size :: rest, locked := none }) _
  jvm_step X₁.here [X₁.here.top, hexec, d3', Value.category]
  exact hsteps
/-- 'throw new E("text")': new; dup; ldc; invokespecial; athrow -/
theorem vx_throwS {cc : ByteArray} {pc : Nat} (hexec : p.tables.exec = Jvm.exec) (hb : c.code = cc) (hl : l.stackTraces = false) {own cls text : String} {names : List String} {ik is ic mc ms sa : Nat} {A : Nat → Prop}
    (hown : s.vm.findClass own = some m.cls) (hcls : Bundle.fit cls = true) (hnames : ∀ n ∈ names, Bundle.fit n = true)
    (hk : (Cond.classLink own ik cls).before args s = true) (hini : (Cond.initialized cls).before args s = true) (hstr : vk_R own is text sa s) (hat : ∀ w ∈ vx_atS own ic cls names, w.before args s = true)
    (hgood : ∀ w ∈ Cond.classLink own ik cls :: Cond.initialized cls :: vx_atS own ic cls names, vx_ot w = true)
    (hU : vx_Zq Bundle.tN "UNASSIGNED_STACK" Bundle.steD A s s.heap) (hN : vx_Zq Bundle.tN "SUPPRESSED_SENTINEL" Bundle.listD A s s.heap) (hS : va_S A s.heap H locs) (hsize : ls.size = c.maxLocals)
    (d0 : decode cc pc = .ok (.new ik, 3)) (d3 : decode cc (pc + 3) = .ok (.dup, 1)) (d4 : decode cc (pc + 4) = .ok (.ldc is, 2)) (d6 : decode cc (pc + 6) = .ok (.invokespecial ic, 3)) (d9 : decode cc (pc + 9) = .ok (.athrow, 1))
    (hout : ∀ x ∈ c.exceptionTable.toList, covers x (pc + 9) = false)
    (hRframes : names.length + 3 < R.frames) (hRlocals : (rest.map fun v => v.category).sum + (13 * (names.length + 1) + 43) ≤ R.locals) (hRcells : cells + 1 ≤ R.cells) (hRslots : slots + 6 ≤ R.slots) (hlocks : meth.locks = false)
    (hx : ∀ t : State, s.vm.Alike t.vm → H.size ≤ t.heap.size → (∀ q : Nat, q < H.size → t.heap[q]? = H[q]?) → XC cls s t)
    (hf : ∀ z ∈ locs, free z.base) (hc : cells + 1 ≤ mc) (hs : slots + 6 ≤ ms) :
    W p l e R s m args below meth c H locs cells slots (vx_MQ below Qc XC args s mc ms free) (F0 m pc ls rest) := by
  intro T hT X
  have htr : e.platform.stackTraces = false := (show e.platform.stackTraces = l.stackTraces by rw [X.admits.platform]).trans hl
  have Y := vx_rebase X (R' := { frames := R.frames, locals := R.locals, cells := 1, slots := 6 }) (Nat.le_refl _) (Nat.le_refl _) hRcells hRslots
  obtain ⟨s', hA⟩ : ∃ z, z = (T.setVm s.vm).setFrames (.invoking m args :: below) := ⟨_, rfl⟩
  rw [← hA] at Y
  have hvm : s'.vm = s.vm := by rw [hA]; rfl
  have hhp : s'.heap = H := by rw [hA]; exact hT
  have hW0 : s.WarmedH s'.vm := by rw [hvm]; exact State.WarmedH.refl s
  have hat' : ∀ w ∈ vx_atS own ic cls names, w.before args s' = true := fun w hw => vx_ot_at hW0 hvm.symm (hgood w (List.mem_cons_of_mem _ (List.mem_cons_of_mem _ hw))) (hat w hw)
  have hk' : (Cond.classLink own ik cls).before args s' = true := vx_ot_at hW0 hvm.symm (hgood _ List.mem_cons_self) hk
  have hini' : (Cond.initialized cls).before args s' = true := vx_ot_at hW0 hvm.symm (hgood _ (List.mem_cons_of_mem _ List.mem_cons_self)) hini
  have hU' : vx_Zq Bundle.tN "UNASSIGNED_STACK" Bundle.steD A s' s'.heap := by rw [hhp]; exact vx_Zq.moved hW0.alike (hU.kept hS.2.1)
  have hN' : vx_Zq Bundle.tN "SUPPRESSED_SENTINEL" Bundle.listD A s' s'.heap := by rw [hhp]; exact vx_Zq.moved hW0.alike (hN.kept hS.2.1)
  have h : ∀ w ∈ Bundle.ownAtoms own ic cls names, w.before args s' = true := vx_own hat' (vx_isRefq hU'.1) (vx_isRefq hN'.1) hU'.2.word hN'.2.word
  have hown' : s'.vm.findClass own = some m.cls := by rw [hvm]; exact hown
  have hins : (Cond.instantiable cls 6).before args s' = true := h _ (by simp [Bundle.ownAtoms])
  obtain ⟨vm₁, cX, kX, hfX, hkX, -, -, X₁, st1⟩ := Y.newCold hexec (own := own) (C := cls) (index := ik) (n := 6) hown' hk' hins hini'
    (g := F0 m pc ls rest) rfl (by rw [hb]; exact d0) (Nat.le_refl _) (Nat.le_refl _)
  generalize hT1 : (T.setVm vm₁).pushCell { cls := cX, slots := kX.instanceTypes.map defaultValue, vm := .none } = T1 at X₁ st1
  have hcat : (Value.ref T.heap.size).category = 1 := rfl
  have hcellA : T1.heap[T.heap.size]? = some (freshCell cX kX) := by rw [← hT1]; exact State.heap_pushCell_size _ _
  have d3' : decode c.code (pc + 3) = .ok (.dup, 1) := by rw [hb]; exact d3
  have d4' : decode c.code (pc + 4) = .ok (.ldc is, 2) := by rw [hb]; exact d4
  have hstr' : vk_R own is text sa s' := vk_R.warm hW0 hstr
  obtain ⟨U, hsteps, hrun, hend, hW, hsame, ce, hce, hO⟩ := X₁.ctorThrowS hexec htr (own := own) (cls := cls) (names := names) (ic := ic) hown' hcls hnames h (fun x hx => nomatch hx) hfX hkX hcellA (by rw [hhp, hT]; exact Nat.le_refl _) (msg := .ref sa) rfl
    (g := { method := m, pc := pc + 6, locals := ls, stack := .ref sa :: .ref T.heap.size :: .ref T.heap.size :: rest, locked := none }) rfl hsize rfl rfl (rest := rest) rfl
    (by rw [hb]; exact d6) (by rw [hb]; exact d9) hout hRframes (by simp only [List.map_cons, List.sum_cons, hcat]; omega) hlocks
  obtain ⟨f1, f2⟩ := vx_frame hsame
  rw [hhp] at f1 f2
  have hWs : s.WarmedH U.vm := State.WarmedH.trans hW0 hW
  have hcl : s.vm.findClass cls = some ce.cls := by
    have h9 := hO.cls
    rw [hvm] at h9
    exact h9
  have hall : s.sameButNew ({ U with vm := s.vm } : State) locs mc ms := by
    subst hA
    obtain ⟨e1, e2⟩ := hsame
    rw [State.setFrames_setFrames] at e1
    have h2 : (T.setVm s.vm).sameButNew ({ U with vm := s.vm } : State) [] (0 + 1) (0 + 6) := ⟨e1, e2⟩
    have h3 := X.same.trans h2
    rw [List.append_nil] at h3
    exact h3.mono hc hs
  refine ⟨U, ?_, .threw T.heap.size, hrun, hend, Or.inr ⟨T.heap.size, rfl, cls, ce, locs, hx U hWs.alike f1 (fun q hq => f2 q hq (fun z hz => nomatch hz)), hce, hO.vm, hcl, hWs, hall, hf⟩⟩
  refine st1 _ ?_
  show Steps p.tables e below (T1.setTop { method := m, pc := pc + 3, locals := ls, stack := .ref T.heap.size :: rest, locked := none }) _
  jvm_step X₁.here [X₁.here.top, hexec, d3', Value.category]
  exact X₁.ldcString hexec (own := own) (text := text) (index := is) (a := sa) hown' hstr'.1 hstr'.2
    (g := { method := m, pc := pc + 4, locals := ls, stack := .ref T.heap.size :: .ref T.heap.size :: rest, locked := none }) rfl d4' _ hsteps
/-- 'throw new E("text")', the text by a wide index -/
theorem vx_throwSW {cc : ByteArray} {pc : Nat} (hexec : p.tables.exec = Jvm.exec) (hb : c.code = cc) (hl : l.stackTraces = false) {own cls text : String} {names : List String} {ik is ic mc ms sa : Nat} {A : Nat → Prop}
    (hown : s.vm.findClass own = some m.cls) (hcls : Bundle.fit cls = true) (hnames : ∀ n ∈ names, Bundle.fit n = true)
    (hk : (Cond.classLink own ik cls).before args s = true) (hini : (Cond.initialized cls).before args s = true) (hstr : vk_R own is text sa s) (hat : ∀ w ∈ vx_atS own ic cls names, w.before args s = true)
    (hgood : ∀ w ∈ Cond.classLink own ik cls :: Cond.initialized cls :: vx_atS own ic cls names, vx_ot w = true)
    (hU : vx_Zq Bundle.tN "UNASSIGNED_STACK" Bundle.steD A s s.heap) (hN : vx_Zq Bundle.tN "SUPPRESSED_SENTINEL" Bundle.listD A s s.heap) (hS : va_S A s.heap H locs) (hsize : ls.size = c.maxLocals)
    (d0 : decode cc pc = .ok (.new ik, 3)) (d3 : decode cc (pc + 3) = .ok (.dup, 1)) (d4 : decode cc (pc + 4) = .ok (.ldc_w is, 3)) (d7 : decode cc (pc + 7) = .ok (.invokespecial ic, 3)) (d10 : decode cc (pc + 10) = .ok (.athrow, 1))
    (hout : ∀ x ∈ c.exceptionTable.toList, covers x (pc + 10) = false)
    (hRframes : names.length + 3 < R.frames) (hRlocals : (rest.map fun v => v.category).sum + (13 * (names.length + 1) + 43) ≤ R.locals) (hRcells : cells + 1 ≤ R.cells) (hRslots : slots + 6 ≤ R.slots) (hlocks : meth.locks = false)
    (hx : ∀ t : State, s.vm.Alike t.vm → H.size ≤ t.heap.size → (∀ q : Nat, q < H.size → t.heap[q]? = H[q]?) → XC cls s t)
    (hf : ∀ z ∈ locs, free z.base) (hc : cells + 1 ≤ mc) (hs : slots + 6 ≤ ms) :
    W p l e R s m args below meth c H locs cells slots (vx_MQ below Qc XC args s mc ms free) (F0 m pc ls rest) := by
  intro T hT X
  have htr : e.platform.stackTraces = false := (show e.platform.stackTraces = l.stackTraces by rw [X.admits.platform]).trans hl
  have Y := vx_rebase X (R' := { frames := R.frames, locals := R.locals, cells := 1, slots := 6 }) (Nat.le_refl _) (Nat.le_refl _) hRcells hRslots
  obtain ⟨s', hA⟩ : ∃ z, z = (T.setVm s.vm).setFrames (.invoking m args :: below) := ⟨_, rfl⟩
  rw [← hA] at Y
  have hvm : s'.vm = s.vm := by rw [hA]; rfl
  have hhp : s'.heap = H := by rw [hA]; exact hT
  have hW0 : s.WarmedH s'.vm := by rw [hvm]; exact State.WarmedH.refl s
  have hat' : ∀ w ∈ vx_atS own ic cls names, w.before args s' = true := fun w hw => vx_ot_at hW0 hvm.symm (hgood w (List.mem_cons_of_mem _ (List.mem_cons_of_mem _ hw))) (hat w hw)
  have hk' : (Cond.classLink own ik cls).before args s' = true := vx_ot_at hW0 hvm.symm (hgood _ List.mem_cons_self) hk
  have hini' : (Cond.initialized cls).before args s' = true := vx_ot_at hW0 hvm.symm (hgood _ (List.mem_cons_of_mem _ List.mem_cons_self)) hini
  have hU' : vx_Zq Bundle.tN "UNASSIGNED_STACK" Bundle.steD A s' s'.heap := by rw [hhp]; exact vx_Zq.moved hW0.alike (hU.kept hS.2.1)
  have hN' : vx_Zq Bundle.tN "SUPPRESSED_SENTINEL" Bundle.listD A s' s'.heap := by rw [hhp]; exact vx_Zq.moved hW0.alike (hN.kept hS.2.1)
  have h : ∀ w ∈ Bundle.ownAtoms own ic cls names, w.before args s' = true := vx_own hat' (vx_isRefq hU'.1) (vx_isRefq hN'.1) hU'.2.word hN'.2.word
  have hown' : s'.vm.findClass own = some m.cls := by rw [hvm]; exact hown
  have hins : (Cond.instantiable cls 6).before args s' = true := h _ (by simp [Bundle.ownAtoms])
  obtain ⟨vm₁, cX, kX, hfX, hkX, -, -, X₁, st1⟩ := Y.newCold hexec (own := own) (C := cls) (index := ik) (n := 6) hown' hk' hins hini'
    (g := F0 m pc ls rest) rfl (by rw [hb]; exact d0) (Nat.le_refl _) (Nat.le_refl _)
  generalize hT1 : (T.setVm vm₁).pushCell { cls := cX, slots := kX.instanceTypes.map defaultValue, vm := .none } = T1 at X₁ st1
  have hcat : (Value.ref T.heap.size).category = 1 := rfl
  have hcellA : T1.heap[T.heap.size]? = some (freshCell cX kX) := by rw [← hT1]; exact State.heap_pushCell_size _ _
  have d3' : decode c.code (pc + 3) = .ok (.dup, 1) := by rw [hb]; exact d3
  have d4' : decode c.code (pc + 4) = .ok (.ldc_w is, 3) := by rw [hb]; exact d4
  have hstr' : vk_R own is text sa s' := vk_R.warm hW0 hstr
  obtain ⟨U, hsteps, hrun, hend, hW, hsame, ce, hce, hO⟩ := X₁.ctorThrowS hexec htr (own := own) (cls := cls) (names := names) (ic := ic) hown' hcls hnames h (fun x hx => nomatch hx) hfX hkX hcellA (by rw [hhp, hT]; exact Nat.le_refl _) (msg := .ref sa) rfl
    (g := { method := m, pc := pc + 7, locals := ls, stack := .ref sa :: .ref T.heap.size :: .ref T.heap.size :: rest, locked := none }) rfl hsize rfl rfl (rest := rest) rfl
    (by rw [hb]; exact d7) (by rw [hb]; exact d10) hout hRframes (by simp only [List.map_cons, List.sum_cons, hcat]; omega) hlocks
  obtain ⟨f1, f2⟩ := vx_frame hsame
  rw [hhp] at f1 f2
  have hWs : s.WarmedH U.vm := State.WarmedH.trans hW0 hW
  have hcl : s.vm.findClass cls = some ce.cls := by
    have h9 := hO.cls
    rw [hvm] at h9
    exact h9
  have hall : s.sameButNew ({ U with vm := s.vm } : State) locs mc ms := by
    subst hA
    obtain ⟨e1, e2⟩ := hsame
    rw [State.setFrames_setFrames] at e1
    have h2 : (T.setVm s.vm).sameButNew ({ U with vm := s.vm } : State) [] (0 + 1) (0 + 6) := ⟨e1, e2⟩
    have h3 := X.same.trans h2
    rw [List.append_nil] at h3
    exact h3.mono hc hs
  refine ⟨U, ?_, .threw T.heap.size, hrun, hend, Or.inr ⟨T.heap.size, rfl, cls, ce, locs, hx U hWs.alike f1 (fun q hq => f2 q hq (fun z hz => nomatch hz)), hce, hO.vm, hcl, hWs, hall, hf⟩⟩
  refine st1 _ ?_
  show Steps p.tables e below (T1.setTop { method := m, pc := pc + 3, locals := ls, stack := .ref T.heap.size :: rest, locked := none }) _
  jvm_step X₁.here [X₁.here.top, hexec, d3', Value.category]
  exact X₁.ldcStringW hexec (own := own) (text := text) (index := is) (a := sa) hown' hstr'.1 hstr'.2
    (g := { method := m, pc := pc + 4, locals := ls, stack := .ref T.heap.size :: .ref T.heap.size :: rest, locked := none }) rfl d4' _ hsteps
end Ends
section Bodies
variable {l : Launch}
theorem vx_ofW {y : MethodName} {ws ws' : List Cond} {rm : Room} {Pc : Array Value → State → Prop} {Qc : Array Value → State → Outcome → State → Prop} {XC : String → State → State → Prop} {mc ms : Nat} {free : Addr → Prop} {cc : ByteArray} {maxL : Nat} {ret : Option FieldType}
    (hy : plainName y.cls = true) (hw : ws = Cond.code y cc maxL ret :: ws')
    (body : ∀ p e s m args below meth c s₁, BodyLoose p l y (headSpec ws rm) cc maxL ret e s m args below meth c s₁ → c.maxLocals = maxL → (∀ x ∈ c.exceptionTable.toList, False) → Pc args s →
      W p l e (headSpec ws rm).room s m args below meth c s.heap [] 0 0 (vx_MQ below Qc XC args s mc ms free) (entryFrame m args maxL)) : vx_Met l y ws rm Pc Qc XC mc ms free := by
  refine MetFree.of_bodyS (code := cc) (maxLocals := maxL) (ret := ret) hy ?_ ?_
  · intro args s m h hn
    obtain ⟨meth, c, h1, h2, h3, h4, h5, h6, -, -⟩ := Cond.code_spec hn (atoms_spec (ws := ws) h _ (by rw [hw]; exact List.mem_cons_self))
    exact ⟨meth, c, h1, h2, h3, h4, h5, h6⟩
  · intro p e s m args below meth c s₁ B hml hP _
    have hh0 : s₁.heap = s.heap := by rw [B.state]; rfl
    have ht : ∀ x ∈ c.exceptionTable.toList, False := by
      obtain ⟨meth9, c9, h1, h2, -, -, -, -, h7, -⟩ := Cond.code_spec B.named (atoms_spec (ws := ws) B.pre _ (by rw [hw]; exact List.mem_cons_self))
      cases Option.some.inj (h1.symm.trans B.method)
      cases Option.some.inj (h2.symm.trans (Stand.of_body B).code)
      intro x hx
      rw [Array.isEmpty_iff.mp h7] at hx
      cases hx
    obtain ⟨t, a1, o, b1, b2, b3⟩ := body p e s m args below meth c s₁ B hml ht hP s₁ hh0 (Stand.of_body B)
    exact ⟨t, o, a1, b1, b2, b3⟩
/-- the table of a body with handlers -/
theorem vx_table {p : Program} {x y : MethodName} {S : Spec} {cc bytes : ByteArray} {maxL maxL' : Nat} {ret ret' : Option FieldType} {e : Env} {s s₁ : State} {m : MethodId} {args : Array Value} {below : List Frame} {meth : Method} {c : Code} {hh : List (Nat × Nat × Nat × Nat)}
    (B : BodyLoose p l y S cc maxL ret e s m args below meth c s₁) (h : (Cond.codeWith y bytes maxL' ret' hh).before args s = true) : c.exceptionTable.toList = tableOf hh := by
  obtain ⟨m9, meth9, c9, hn9, h1, h2, -, -, h6, -⟩ := Cond.codeWith_spec h
  cases Option.some.inj (hn9.symm.trans B.named)
  cases Option.some.inj (h1.symm.trans B.method)
  cases Option.some.inj (h2.symm.trans (Stand.of_body B).code)
  rw [← h6, table_eq]
end Bodies
end VXA
/-! ===== END ===== -/
/-! ===== BEGIN a static call of a method with an exception table ===== -/
section VXS
variable {p : Program} {l : Launch} {e : Env} {R : Room} {s : State} {m : MethodId} {args : Array Value} {below : List Frame} {meth : Method} {c : Code} {T : State} {H : Heap} {locs : List Loc} {cells slots : Nat}
abbrev vx_CSW (R : Room) (s : State) (args : Array Value) (own : String) (index : Nat) (y : MethodName) (bytes : ByteArray) (maxL : Nat) (ret : Option FieldType) (hh : List (Nat × Nat × Nat × Nat)) (ws : List Cond) (rm : Room) (mc ms n : Nat) : Prop :=
  (rm.cells = mc ∧ rm.slots = ms ∧ rm.frames + 1 ≤ R.frames ∧ 8 + (maxL + 11) + rm.locals ≤ R.locals ∧ (∀ w ∈ ws, ∀ (a' : Array Value) (U : State), s.WarmedH U.vm → w.before a' U = true) ∧ Cond.codeWith y bytes maxL ret hh ∈ ws) ∧
  (Cond.codeWith y bytes maxL ret hh).before args s = true ∧ (Cond.initialized y.cls).before args s = true ∧ (y.cls ≠ "java/lang/invoke/MethodHandle" ∧ y.cls ≠ "java/lang/invoke/VarHandle") ∧
  (∀ sig, parseMethodDescriptor y.desc = some sig → n = sig.parameters.length) ∧ (Cond.methodLink own index y).before args s = true ∧ (Cond.static y).before args s = true
theorem vx_cwSW {own : String} {index maxL mc ms : Nat} {y : MethodName} {bytes : ByteArray} {ret : Option FieldType} {hh : List (Nat × Nat × Nat × Nat)} {Ts ws ws' : List Cond} {rm : Room} (n : Nat) (ht : ∀ w ∈ Ts, w.before args s = true) (hT : GoodIn Ts (va_wsS own index y ws)) (hw : ws = Cond.codeWith y bytes maxL ret hh :: ws') (hrc : rm.cells = mc) (hrs : rm.slots = ms)
    (hd : y.cls ≠ "java/lang/invoke/MethodHandle" ∧ y.cls ≠ "java/lang/invoke/VarHandle" ∧ (parseMethodDescriptor y.desc).map (fun d => d.parameters.length) = some n) (hR : rm.frames + 1 ≤ R.frames ∧ 8 + (maxL + 11) + rm.locals ≤ R.locals) :
    vx_CSW R s args own index y bytes maxL ret hh ws rm mc ms n := by
  have ok : ∀ w ∈ va_wsS own index y ws, w.before args s = true := fun w h => ht w (hT w h).1
  have hG : GoodIn Ts ws := fun w h => hT w (by unfold va_wsS; exact List.mem_append_right _ h)
  have hc : Cond.codeWith y bytes maxL ret hh ∈ ws := by rw [hw]; exact List.mem_cons_self
  refine ⟨⟨hrc, hrs, hR.1, hR.2, pay_in ht hG, hc⟩, ht _ (hG _ hc).1, ok _ (by simp [va_wsS]), ⟨hd.1, hd.2.1⟩, fun sig h => ?_, ok _ (by simp [va_wsS]), ok _ (by simp [va_wsS])⟩
  have h2 := hd.2.2
  rw [h] at h2
  exact (Option.some.inj h2).symm
theorem vx_callSW (X : Stand p l e R s m args below meth c T locs cells slots) (hexec : p.tables.exec = Jvm.exec) {own : String} {index : Nat} {y : MethodName} {bytes : ByteArray} {maxL : Nat} {ret : Option FieldType} {hh : List (Nat × Nat × Nat × Nat)}
    (hown : s.vm.findClass own = some m.cls) (hlink : (Cond.methodLink own index y).before args s = true) (hstat : (Cond.static y).before args s = true) (hinit : (Cond.initialized y.cls).before args s = true)
    (hcode : (Cond.codeWith y bytes maxL ret hh).before args s = true) (hy : y.cls ≠ "java/lang/invoke/MethodHandle" ∧ y.cls ≠ "java/lang/invoke/VarHandle")
    {W9 : Nat} {Pre : Pt → Array Value → Prop} {Post : Pt → Array Value → Option Value → Pt → Prop} (hK : Back l R p e below s args y 3 W9 Pre Post)
    {g : JFrame} (hg : g.method = m) (hsize : g.locals.size = c.maxLocals) {argsL rest : List Value} (hlen : ∀ sig, parseMethodDescriptor y.desc = some sig → argsL.length = sig.parameters.length)
    (hstack : g.stack = argsL.reverse ++ rest) (hW : 2 * g.monitorRoom + (rest.map fun v => v.category).sum ≤ W9) (hdg : decode c.code g.pc = .ok (.invokestatic index, 3))
    (hpre : ∀ vm₁, s.WarmedH vm₁ → Pre ⟨T.setVm vm₁, locs, cells, slots⟩ argsL.toArray) :
    ∃ (v : Option Value) (vm₁ : Vm) (B : Pt), s.WarmedH vm₁ ∧ Stand p l e R s m args below meth c B.U B.locs B.cells B.slots ∧ Post ⟨T.setVm vm₁, locs, cells, slots⟩ argsL.toArray v B ∧
      ∀ target, Steps p.tables e below (B.U.setTop { g with pc := g.pc + 3, stack := v.toList ++ rest }) target → Steps p.tables e below (T.setTop g) target := by
  obtain ⟨mk, methM, cM, hnamed, hmethM, -, -, -, -, -, -, hsigM⟩ := Cond.codeWith_spec hcode
  have hstatic : methM.isStatic = true := Cond.static_spec hnamed hmethM hstat
  obtain ⟨kP, hkP, -⟩ := className_of_methodNamed hnamed
  have hinitP : kP.init = .initialized := Cond.initialized_spec (findClass_of_methodNamed hnamed) hkP hinit
  obtain ⟨vm₁, X₁, hstep₁⟩ := X.invokestatic hexec hown hlink hnamed hmethM hstatic hkP hinitP hy (g := g) hg (argsL := argsL) (rest := rest) (hlen _ hsigM) hstack hdg
  obtain ⟨v, B, X', hpost, hsteps⟩ := hK m meth c ⟨T.setVm vm₁, locs, cells, slots⟩ { g with stack := rest } (.invokestatic index) mk argsL.toArray X₁ hg hsize hdg hW (X₁.named hnamed) (hpre vm₁ X₁.warmed)
  exact ⟨v, vm₁, B, X₁.warmed, X', hpost, fun target h => hstep₁ _ fun acts => by rw [doInvoke_state]; exact hsteps.trans h⟩
theorem vx_runSW {y : MethodName} {bytes cc : ByteArray} {maxL nL mc ms n index : Nat} {ret : Option FieldType} {hh : List (Nat × Nat × Nat × Nat)} {ws : List Cond} {rm : Room} {Pc : Array Value → State → Prop} {Qc : Array Value → State → Outcome → State → Prop} {free : Addr → Prop} {Ts : List Cond} {own : String} {As rest : List Value} {g : JFrame}
    (S : CallFix p m c cc nL s args Ts own) (hM : Met l y ws rm Pc Qc mc ms free) (cw : vx_CSW R s args own index y bytes maxL ret hh ws rm mc ms n) (hp : PreS s H Pc As)
    (hg : g.method = m) (hn : As.length = n) (hsize : g.locals.size = nL) (hstack : g.stack = As.reverse ++ rest) (hW : 2 * g.monitorRoom + (rest.map fun v => v.category).sum ≤ 8) (hdg : decode cc g.pc = .ok (.invokestatic index, 3)) (hf : cells + mc ≤ R.cells ∧ slots + ms ≤ R.slots) :
    va_Run p l e R s m args below meth c H locs cells slots mc ms g rest (Qc As.toArray) (free) := by
  obtain ⟨⟨hrc, hrs, hfr, hlo, hws, hcw⟩, hcode, hini, hy, hlen, hl, hstt⟩ := cw
  have hK : Back l R p e below s args y 3 8 (PreOf R mc ms Pc) (PostOf Qc mc ms free) := va_backW (hh := hh) (bytes := bytes) (maxL := maxL) (ret := ret) hM hp.1 hrc hrs hfr hlo hws hcw (fun a' U hW => word_at hW (Or.inl (by first | rfl | simp [Cond.onTables, Cond.keeps, Cond.steady])) hini)
  obtain ⟨hx, hb, hml, ho, -⟩ := S
  intro T hT X
  obtain ⟨v, vm₁, ⟨U', l2, c2, s2⟩, hW₁, X', ⟨g', mk, t, L, e1, e2, hq, h1, hL, h2, h3⟩, st⟩ := vx_callSW X hx (hh := hh) (bytes := bytes) (maxL := maxL) (ret := ret) ho hl hstt hini hcode hy hK hg (hsize.trans hml.symm) (argsL := As) (rest := rest) (fun sig h => hn.trans (hlen sig h)) hstack hW (by rw [hb]; exact hdg)
    (fun vm₁ hW₁ => ⟨hf.1, hf.2, hp.2 (T.setVm vm₁) hT hW₁⟩)
  dsimp only [Pt.U, Pt.locs, Pt.cells, Pt.slots] at X' e1 e2 h1 h2 h3 st
  subst h1; subst h2; subst h3
  exact ⟨v, (T.setVm vm₁).calling g' mk As.toArray, t, U', L, hT, X', hL, e1, e2, hq, st⟩
/-- not caught here, past rows that name other classes: it goes on to the caller -/
theorem vx_outP {p : Program} {l : Launch} {e : Env} {R : Room} {s : State} {m : MethodId} {args : Array Value} {below : List Frame} {meth : Method} {c : Code} {H : Heap} {locs : List Loc} {cells slots : Nat} {free : Addr → Prop} {ls : Array Slot} {rest : List Value} {Qc : Array Value → State → Outcome → State → Prop} {XC : String → State → State → Prop}
    {pc : Nat} {own E : String} {ce : Cell} {q : Addr} {mc ms : Nat} (hown : s.vm.findClass own = some m.cls) (hlocks : meth.locks = false)
    (hpass : ∀ z ∈ c.exceptionTable.toList, covers z pc = false ∨ (z.catchType ≠ 0 ∧ ∃ nm : String, (Cond.classLink own z.catchType nm).before args s = true ∧ va_Nc E nm s)) (hcell : H[q]? = some ce) (hv : ce.vm = .none) (hcl : s.vm.findClass E = some ce.cls)
    (hx : ∀ t : State, t.heap = H → s.vm.Alike t.vm → XC E s t) (hf : ∀ z ∈ locs, free z.base) (hc : cells ≤ mc) (hs : slots ≤ ms) :
    vx_W p l e R s m args below meth c H locs cells slots (vx_MQ below Qc XC args s mc ms free) (F0 m pc ls rest) q := by
  intro T hT X
  have hpl : e.platform.magicAccessors = ({} : Platform).magicAccessors := by rw [X.admits.platform]
  obtain ⟨vm', hW', X', st⟩ := X.outThrough hlocks q (g := F0 m pc ls rest) rfl rfl rfl (cell := ce) (by rw [hT]; exact hcell) (by rw [hv]; rfl)
    (by obtain ⟨k9, h9, -⟩ := Vm.findClass_spec hcl; exact ⟨k9, h9⟩) (fun z hz => by
      rcases hpass z hz with h | ⟨hz0, nm, hl1, hn1⟩
      · exact Or.inl h
      · obtain ⟨c6, hc6, hcl6⟩ := Cond.classLink_spec hown hl1 e.platform hpl
        obtain ⟨a8, b8, h1, h2, h3⟩ := hn1
        cases Option.some.inj (h1.symm.trans hcl)
        cases Option.some.inj (h2.symm.trans hc6)
        exact Or.inr ⟨hz0, _, hcl6, h3⟩)
  obtain ⟨g₀, hfr⟩ := X'.frames_eq
  have hcell9 : ((T.setVm vm').setFrames (.throwing q :: below)).heap[q]? = some ce := by
    show T.heap[q]? = some ce
    rw [hT]; exact hcell
  have hend : Ended ((T.setVm vm').setFrames (.throwing q :: below)) below (.threw q) := State.frames_setFrames _ (State.cur_lt_of_frames hfr)
  refine ⟨(T.setVm vm').setFrames (.throwing q :: below), ?_, .threw q, X'.here.running, hend, Or.inr ⟨q, rfl, E, ce, locs, hx _ hT (X'.ends _).1.alike, hcell9, hv, hcl, (X'.ends _).1, (X'.ends _).2.mono hc hs, hf⟩⟩
  rw [X.pushThrowing_eq]
  exact st
/-- a thing of a world lies in the heap -/
theorem vx_lt {D : va_G} {cl : List vw_C} {ws : va_W} {H1 : Heap} (h : va_P D cl ws H1) {k : Nat} {q : Nat × va_E} (hk : ws[k]? = some q) : q.1 < H1.size := (h k q hk).lt
end VXS
/-! ===== END ===== -/
/-! ===== BEGIN methods with a table of their own: called by a name, returning or throwing ===== -/
section VXH
/-! vx_backW, vx_callVX, vx_callSX, vx_callVW, vx_runVW, vx_runVX, vx_runSX, vx_ofWH follow the same proofs as their sisters above (Free/Laws.lean, Shelf42/LK1.lean); vx_outP calls Shelf42/NT130.lean (outThrough). -/
section
variable {l : Launch} {R : Room} {p : Program} {e : Env} {below : List Frame} {s : State} {sargs : Array Value} {y : MethodName} {len W9 : Nat}
theorem vx_backW {ws : List Cond} {rm : Room} {Pc : Array Value → State → Prop} {Qc : Array Value → State → Outcome → State → Prop} {XC : String → State → State → Prop} {mc ms : Nat} {free : Addr → Prop} {bytes : ByteArray} {maxL : Nat} {ret : Option FieldType} {hh : List (Nat × Nat × Nat × Nat)}
    (hM : vx_Met l y ws rm Pc Qc XC mc ms free) (hblind : FrameBlind Pc) (hrc : rm.cells = mc) (hrs : rm.slots = ms)
    (hframes : rm.frames + 1 ≤ R.frames) (hlocals : W9 + (maxL + 11) + rm.locals ≤ R.locals)
    (hws : ∀ w ∈ ws, ∀ a' U, s.WarmedH U.vm → w.before a' U = true) (hcode : Cond.codeWith y bytes maxL ret hh ∈ ws) (hinit : ∀ a' U, s.WarmedH U.vm → (Cond.initialized y.cls).before a' U = true) :
    vx_Back l R p e below s sargs y len W9 (PreOf R mc ms Pc) (PostOf Qc mc ms free) (vx_Post XC mc ms free) := by
  intro m meth c A g ig mk a X hg hsize hdg hW hn hp
  have h1 : (headSpec ws rm).pre.before a A.U = true := atoms_intro fun w hw => hws w hw _ _ X.warmed
  have h2 : (Cond.codeWith y bytes maxL ret hh).before a A.U = true := hws _ hcode _ _ X.warmed
  have h3 : (Cond.initialized y.cls).before a A.U = true := hinit _ _ X.warmed
  have h4 : A.cells + (headSpec ws rm).room.cells ≤ R.cells := by rw [show (headSpec ws rm).room.cells = mc from hrc]; exact hp.1
  have h5 : A.slots + (headSpec ws rm).room.slots ≤ R.slots := by rw [show (headSpec ws rm).room.slots = ms from hrs]; exact hp.2.1
  have hPc : Pc a (A.U.calling g mk a) := hblind _ _ _ _ hp.2.2
  obtain ⟨U, Ls, c0, s0⟩ := A
  dsimp only [Pt.U, Pt.locs, Pt.cells, Pt.slots] at h1 h2 h3 h4 h5 X hn hPc ⊢
  obtain ⟨m9, methY, cY, hn9, hmY, hcY, -, hlY, -⟩ := Cond.codeWith_spec h2
  cases Option.some.inj (hn9.symm.trans hn)
  obtain ⟨kY, hkY, -⟩ := className_of_methodNamed hn
  have hinitY : kY.init = .initialized := Cond.initialized_spec (findClass_of_methodNamed hn) hkY h3
  have h : At U g.method c below := by rw [hg]; exact X.here
  have hlocals9 : W9 + (maxL + 11) + (headSpec ws rm).room.locals ≤ R.locals := hlocals
  have happ : (headSpec ws rm).appliesLoose y e.platform (U.calling g mk a) = true :=
    Spec.appliesLoose_calling (g := g) h hdg hn hkY hinitY
      (X.room_calling (g := g) (R' := (headSpec ws rm).room) hsize hmY hcY hframes (by rw [hlY]; omega) h4 h5) h1
  obtain ⟨mid, hmid⟩ := h.above
  have hfr : (U.setTop g).frames = (.java g :: mid) ++ below := by rw [State.frames_setTop' g h.top, hmid]; rfl
  obtain ⟨o, s₂, hsteps, -, hend, hq⟩ := Steps.callFree hM p X.admits X.cas X.clock (acts := []) hfr happ hPc trivial
  have hq' : vx_Q Qc XC mc ms free a (U.calling g mk a) o s₂ := hq
  rw [State.frames_setTop' g h.top] at hend
  obtain ⟨g₀, hg0⟩ := Option.isSome_iff_exists.mp h.top
  obtain ⟨r, hr⟩ := State.topJava?_eq_some.mp hg0
  have hr' : (({ U with heap := s₂.heap, slotsUsed := s₂.slotsUsed } : State).setVm s₂.vm).frames = .java g₀ :: r := hr
  rcases hq' with ⟨hqc, L, hfe, hL⟩ | ⟨q, rfl, E, ce, L, hx, hce, hcv, hcl, hW₂, hsm, hL⟩
  · obtain ⟨⟨v, rfl⟩, hW₂, e2, q2, q3, q4, q5, q6⟩ := id hfe
    have e3 : s₂ = ({ (U.calling g mk a).setFrames s₂.frames with heap := s₂.heap, slotsUsed := s₂.slotsUsed } : State).setVm s₂.vm := by
      have : s₂ = ({ s₂ with vm := (U.calling g mk a).vm } : State).setVm s₂.vm := rfl
      rw [e2] at this
      exact this
    obtain ⟨c₂, i₂, len₂, hc₂, hd₂, hf₂⟩ := hend
    have hW' : U.WarmedH s₂.vm := hW₂
    have hcc : c₂ = c := by
      have h1 : s₂.code? g.method = U.code? g.method := by
        rw [State.code?_eq, State.code?_eq, hW'.alike.method?]
      exact Option.some.inj (hc₂.symm.trans (h1.trans h.code))
    subst hcc
    have hlen : len₂ = len := by rw [hdg] at hd₂; cases hd₂; rfl
    subst hlen
    have hs₂ : s₂ = (({ U with heap := s₂.heap, slotsUsed := s₂.slotsUsed } : State).setVm s₂.vm).setTop { g with pc := g.pc + len₂, stack := v.toList ++ g.stack } := by
      refine e3.trans ?_
      rw [hf₂, State.calling_eq h.top, State.setFrames_setFrames, State.setTop_of_frames _ hr', hr]
      rfl
    have hsame : U.sameButNew ({ U with heap := s₂.heap, slotsUsed := s₂.slotsUsed } : State) L mc ms := by
      refine ⟨?_, q2, q3, q4, q5, q6⟩
      obtain ⟨t, ht, -⟩ := State.frames_cons hr
      show ({ U with heap := s₂.heap, slotsUsed := s₂.slotsUsed } : State) = { U.setFrames U.frames with heap := s₂.heap, slotsUsed := s₂.slotsUsed }
      rw [State.setFrames_self ht]
    subst hg
    refine Or.inl ⟨v, ⟨(({ U with heap := s₂.heap, slotsUsed := s₂.slotsUsed } : State).setVm s₂.vm), Ls ++ L, c0 + mc, s0 + ms⟩,
      ⟨X.admits, X.cas, X.clock, X.frames, X.room, X.hears, X.method, X.code, (X.here.setHeapUsed s₂.heap s₂.slotsUsed).setVm hW'.alike, X.tail, State.WarmedH.trans X.warmed hW', X.limits, X.bytes, X.same.trans (hsame.setVm s.vm)⟩,
      ⟨g, mk, s₂, L, rfl, rfl, hqc, rfl, hL, rfl, rfl⟩, ?_⟩
    show Steps p.tables e below _ ((({ U with heap := s₂.heap, slotsUsed := s₂.slotsUsed } : State).setVm s₂.vm).setTop { g with pc := g.pc + len₂, stack := v.toList ++ g.stack })
    rw [← hs₂]
    exact hsteps
  · obtain ⟨e2, q2, q3, q4, q5, q6⟩ := id hsm
    have e3 : s₂ = ({ (U.calling g mk a).setFrames s₂.frames with heap := s₂.heap, slotsUsed := s₂.slotsUsed } : State).setVm s₂.vm := by
      have : s₂ = ({ s₂ with vm := (U.calling g mk a).vm } : State).setVm s₂.vm := rfl
      rw [e2] at this
      exact this
    have hf₂ : s₂.frames = .throwing q :: .java g :: U.frames.tail := hend
    have hW' : U.WarmedH s₂.vm := hW₂
    have hs₂ : s₂ = ((({ U with heap := s₂.heap, slotsUsed := s₂.slotsUsed } : State).setVm s₂.vm).setTop g).pushFrame (.throwing q) := by
      refine e3.trans ?_
      rw [hf₂, State.calling_eq h.top, State.setFrames_setFrames, State.pushFrame, State.frames_setTop _ hr', State.setTop_of_frames _ hr', State.setFrames_setFrames, hr]
      rfl
    have hsame : U.sameButNew ({ U with heap := s₂.heap, slotsUsed := s₂.slotsUsed } : State) L mc ms := by
      refine ⟨?_, q2, q3, q4, q5, q6⟩
      obtain ⟨t, ht, -⟩ := State.frames_cons hr
      show ({ U with heap := s₂.heap, slotsUsed := s₂.slotsUsed } : State) = { U.setFrames U.frames with heap := s₂.heap, slotsUsed := s₂.slotsUsed }
      rw [State.setFrames_self ht]
    subst hg
    refine Or.inr ⟨q, ⟨(({ U with heap := s₂.heap, slotsUsed := s₂.slotsUsed } : State).setVm s₂.vm), Ls ++ L, c0 + mc, s0 + ms⟩,
      ⟨X.admits, X.cas, X.clock, X.frames, X.room, X.hears, X.method, X.code, (X.here.setHeapUsed s₂.heap s₂.slotsUsed).setVm hW'.alike, X.tail, State.WarmedH.trans X.warmed hW', X.limits, X.bytes, X.same.trans (hsame.setVm s.vm)⟩,
      ⟨g, mk, s₂, L, E, ce, rfl, rfl, hx, hce, hcv, hcl, rfl, hL, rfl, rfl⟩, ?_⟩
    show Steps p.tables e below _ (((({ U with heap := s₂.heap, slotsUsed := s₂.slotsUsed } : State).setVm s₂.vm).setTop g).pushFrame (.throwing q))
    rw [← hs₂]
    exact hsteps
end
variable {p : Program} {l : Launch} {e : Env} {R : Room} {s : State} {m : MethodId} {args : Array Value} {below : List Frame} {meth : Method} {c : Code} {T : State} {H : Heap} {locs : List Loc} {cells slots : Nat}
theorem vx_callVX (X : Stand p l e R s m args below meth c T locs cells slots) (hexec : p.tables.exec = Jvm.exec) {own C : String} {index : Nat} {y : MethodName} {bytes : ByteArray} {maxL : Nat} {ret : Option FieldType} {hh : List (Nat × Nat × Nat × Nat)}
    (hown : s.vm.findClass own = some m.cls) (hlink : (Cond.methodLink own index y).before args s = true) (hinst : (Cond.instanceMethod y).before args s = true) (hsel : (Cond.selects C y y).before args s = true)
    (hcode : (Cond.codeWith y bytes maxL ret hh).before args s = true) (hy : y.cls ≠ "java/lang/invoke/MethodHandle" ∧ y.cls ≠ "java/lang/invoke/VarHandle")
    {W9 : Nat} {Pre : Pt → Array Value → Prop} {Post : Pt → Array Value → Option Value → Pt → Prop} {PostX : Pt → Array Value → Addr → Pt → Prop} (hK : vx_Back l R p e below s args y 3 W9 Pre Post PostX)
    {b : Addr} {cellB : Cell} (hcell : T.heap[b]? = some cellB) (hobj : cellB.vm.isStatics = false) (hcls : s.vm.findClass C = some cellB.cls)
    {g : JFrame} (hg : g.method = m) (hsize : g.locals.size = c.maxLocals) {argsL rest : List Value} (hlen : ∀ sig, parseMethodDescriptor y.desc = some sig → argsL.length = sig.parameters.length)
    (hstack : g.stack = argsL.reverse ++ .ref b :: rest) (hW : 2 * g.monitorRoom + (rest.map fun v => v.category).sum ≤ W9) (hdg : decode c.code g.pc = .ok (.invokevirtual index, 3))
    (hpre : ∀ vm₁, s.WarmedH vm₁ → Pre ⟨T.setVm vm₁, locs, cells, slots⟩ (Value.ref b :: argsL).toArray) :
    (∃ (v : Option Value) (vm₁ : Vm) (B : Pt), s.WarmedH vm₁ ∧ Stand p l e R s m args below meth c B.U B.locs B.cells B.slots ∧ Post ⟨T.setVm vm₁, locs, cells, slots⟩ (Value.ref b :: argsL).toArray v B ∧
      ∀ target, Steps p.tables e below (B.U.setTop { g with pc := g.pc + 3, stack := v.toList ++ rest }) target → Steps p.tables e below (T.setTop g) target) ∨
    (∃ (q : Addr) (vm₁ : Vm) (B : Pt), s.WarmedH vm₁ ∧ Stand p l e R s m args below meth c B.U B.locs B.cells B.slots ∧ PostX ⟨T.setVm vm₁, locs, cells, slots⟩ (Value.ref b :: argsL).toArray q B ∧
      Steps p.tables e below (T.setTop g) ((B.U.setTop { g with stack := rest }).pushFrame (.throwing q))) := by
  obtain ⟨mk, methM, hnamed, hmethM, hstM, habM⟩ := Cond.instanceMethod_spec hinst
  obtain ⟨m8, methM', cM, hn8, hmethM', -, -, -, -, -, -, hsigM⟩ := Cond.codeWith_spec hcode
  cases Option.some.inj (hn8.symm.trans hnamed)
  cases hmethM.symm.trans hmethM'
  obtain ⟨c2, r2, m2, q1, q2, q3, q4, kP, hkP, hkPi⟩ := Cond.selects_spec hsel
  cases hcls.symm.trans q1
  cases (State.methodFound?_of_named hnamed hy).symm.trans q2
  cases hnamed.symm.trans q3
  have hselP : selectMethod e.platform s.vm cellB.cls mk = .method mk := by rw [Launch.admits_selectMethod X.admits]; exact q4
  obtain ⟨vm₁, X₁, hstep₁⟩ := X.invokevirtual hexec hown hlink hnamed hmethM hstM hkP hkPi hy (a := b) (cell := cellB) hcell
    (fun z h => by rw [h] at hobj; cases hobj) hselP hmethM habM hkP hkPi (g := g) hg (argsL := argsL) (rest := rest) (hlen _ hsigM) hstack hdg
  rcases hK m meth c ⟨T.setVm vm₁, locs, cells, slots⟩ { g with stack := rest } (.invokevirtual index) mk (Value.ref b :: argsL).toArray X₁ hg hsize hdg hW (X₁.named hnamed) (hpre vm₁ X₁.warmed) with ⟨v, B, X', hpost, hsteps⟩ | ⟨q, B, X', hpost, hsteps⟩
  · exact Or.inl ⟨v, vm₁, B, X₁.warmed, X', hpost, fun target h => hstep₁ _ fun acts => by rw [doInvoke_state]; exact hsteps.trans h⟩
  · exact Or.inr ⟨q, vm₁, B, X₁.warmed, X', hpost, hstep₁ _ fun acts => by rw [doInvoke_state]; exact hsteps⟩
theorem vx_callSX (X : Stand p l e R s m args below meth c T locs cells slots) (hexec : p.tables.exec = Jvm.exec) {own : String} {index : Nat} {y : MethodName} {bytes : ByteArray} {maxL : Nat} {ret : Option FieldType} {hh : List (Nat × Nat × Nat × Nat)}
    (hown : s.vm.findClass own = some m.cls) (hlink : (Cond.methodLink own index y).before args s = true) (hstat : (Cond.static y).before args s = true) (hinit : (Cond.initialized y.cls).before args s = true)
    (hcode : (Cond.codeWith y bytes maxL ret hh).before args s = true) (hy : y.cls ≠ "java/lang/invoke/MethodHandle" ∧ y.cls ≠ "java/lang/invoke/VarHandle")
    {W9 : Nat} {Pre : Pt → Array Value → Prop} {Post : Pt → Array Value → Option Value → Pt → Prop} {PostX : Pt → Array Value → Addr → Pt → Prop} (hK : vx_Back l R p e below s args y 3 W9 Pre Post PostX)
    {g : JFrame} (hg : g.method = m) (hsize : g.locals.size = c.maxLocals) {argsL rest : List Value} (hlen : ∀ sig, parseMethodDescriptor y.desc = some sig → argsL.length = sig.parameters.length)
    (hstack : g.stack = argsL.reverse ++ rest) (hW : 2 * g.monitorRoom + (rest.map fun v => v.category).sum ≤ W9) (hdg : decode c.code g.pc = .ok (.invokestatic index, 3))
    (hpre : ∀ vm₁, s.WarmedH vm₁ → Pre ⟨T.setVm vm₁, locs, cells, slots⟩ argsL.toArray) :
    (∃ (v : Option Value) (vm₁ : Vm) (B : Pt), s.WarmedH vm₁ ∧ Stand p l e R s m args below meth c B.U B.locs B.cells B.slots ∧ Post ⟨T.setVm vm₁, locs, cells, slots⟩ argsL.toArray v B ∧
      ∀ target, Steps p.tables e below (B.U.setTop { g with pc := g.pc + 3, stack := v.toList ++ rest }) target → Steps p.tables e below (T.setTop g) target) ∨
    (∃ (q : Addr) (vm₁ : Vm) (B : Pt), s.WarmedH vm₁ ∧ Stand p l e R s m args below meth c B.U B.locs B.cells B.slots ∧ PostX ⟨T.setVm vm₁, locs, cells, slots⟩ argsL.toArray q B ∧
      Steps p.tables e below (T.setTop g) ((B.U.setTop { g with stack := rest }).pushFrame (.throwing q))) := by
  obtain ⟨mk, methM, cM, hnamed, hmethM, -, -, -, -, -, -, hsigM⟩ := Cond.codeWith_spec hcode
  have hstatic : methM.isStatic = true := Cond.static_spec hnamed hmethM hstat
  obtain ⟨kP, hkP, -⟩ := className_of_methodNamed hnamed
  have hinitP : kP.init = .initialized := Cond.initialized_spec (findClass_of_methodNamed hnamed) hkP hinit
  obtain ⟨vm₁, X₁, hstep₁⟩ := X.invokestatic hexec hown hlink hnamed hmethM hstatic hkP hinitP hy (g := g) hg (argsL := argsL) (rest := rest) (hlen _ hsigM) hstack hdg
  rcases hK m meth c ⟨T.setVm vm₁, locs, cells, slots⟩ { g with stack := rest } (.invokestatic index) mk argsL.toArray X₁ hg hsize hdg hW (X₁.named hnamed) (hpre vm₁ X₁.warmed) with ⟨v, B, X', hpost, hsteps⟩ | ⟨q, B, X', hpost, hsteps⟩
  · exact Or.inl ⟨v, vm₁, B, X₁.warmed, X', hpost, fun target h => hstep₁ _ fun acts => by rw [doInvoke_state]; exact hsteps.trans h⟩
  · exact Or.inr ⟨q, vm₁, B, X₁.warmed, X', hpost, hstep₁ _ fun acts => by rw [doInvoke_state]; exact hsteps⟩
theorem vx_callVW (X : Stand p l e R s m args below meth c T locs cells slots) (hexec : p.tables.exec = Jvm.exec) {own C : String} {index : Nat} {y : MethodName} {bytes : ByteArray} {maxL : Nat} {ret : Option FieldType} {hh : List (Nat × Nat × Nat × Nat)}
    (hown : s.vm.findClass own = some m.cls) (hlink : (Cond.methodLink own index y).before args s = true) (hinst : (Cond.instanceMethod y).before args s = true) (hsel : (Cond.selects C y y).before args s = true)
    (hcode : (Cond.codeWith y bytes maxL ret hh).before args s = true) (hy : y.cls ≠ "java/lang/invoke/MethodHandle" ∧ y.cls ≠ "java/lang/invoke/VarHandle")
    {W9 : Nat} {Pre : Pt → Array Value → Prop} {Post : Pt → Array Value → Option Value → Pt → Prop} (hK : Back l R p e below s args y 3 W9 Pre Post)
    {b : Addr} {cellB : Cell} (hcell : T.heap[b]? = some cellB) (hobj : cellB.vm.isStatics = false) (hcls : s.vm.findClass C = some cellB.cls)
    {g : JFrame} (hg : g.method = m) (hsize : g.locals.size = c.maxLocals) {argsL rest : List Value} (hlen : ∀ sig, parseMethodDescriptor y.desc = some sig → argsL.length = sig.parameters.length)
    (hstack : g.stack = argsL.reverse ++ .ref b :: rest) (hW : 2 * g.monitorRoom + (rest.map fun v => v.category).sum ≤ W9) (hdg : decode c.code g.pc = .ok (.invokevirtual index, 3))
    (hpre : ∀ vm₁, s.WarmedH vm₁ → Pre ⟨T.setVm vm₁, locs, cells, slots⟩ (Value.ref b :: argsL).toArray) :
    ∃ (v : Option Value) (vm₁ : Vm) (B : Pt), s.WarmedH vm₁ ∧ Stand p l e R s m args below meth c B.U B.locs B.cells B.slots ∧ Post ⟨T.setVm vm₁, locs, cells, slots⟩ (Value.ref b :: argsL).toArray v B ∧
      ∀ target, Steps p.tables e below (B.U.setTop { g with pc := g.pc + 3, stack := v.toList ++ rest }) target → Steps p.tables e below (T.setTop g) target := by
  obtain ⟨mk, methM, hnamed, hmethM, hstM, habM⟩ := Cond.instanceMethod_spec hinst
  obtain ⟨m8, methM', cM, hn8, hmethM', -, -, -, -, -, -, hsigM⟩ := Cond.codeWith_spec hcode
  cases Option.some.inj (hn8.symm.trans hnamed)
  cases hmethM.symm.trans hmethM'
  obtain ⟨c2, r2, m2, q1, q2, q3, q4, kP, hkP, hkPi⟩ := Cond.selects_spec hsel
  cases hcls.symm.trans q1
  cases (State.methodFound?_of_named hnamed hy).symm.trans q2
  cases hnamed.symm.trans q3
  have hselP : selectMethod e.platform s.vm cellB.cls mk = .method mk := by rw [Launch.admits_selectMethod X.admits]; exact q4
  obtain ⟨vm₁, X₁, hstep₁⟩ := X.invokevirtual hexec hown hlink hnamed hmethM hstM hkP hkPi hy (a := b) (cell := cellB) hcell
    (fun z h => by rw [h] at hobj; cases hobj) hselP hmethM habM hkP hkPi (g := g) hg (argsL := argsL) (rest := rest) (hlen _ hsigM) hstack hdg
  obtain ⟨v, B, X', hpost, hsteps⟩ := hK m meth c ⟨T.setVm vm₁, locs, cells, slots⟩ { g with stack := rest } (.invokevirtual index) mk (Value.ref b :: argsL).toArray X₁ hg hsize hdg hW (X₁.named hnamed) (hpre vm₁ X₁.warmed)
  exact ⟨v, vm₁, B, X₁.warmed, X', hpost, fun target h => hstep₁ _ fun acts => by rw [doInvoke_state]; exact hsteps.trans h⟩
abbrev vx_CVW (R : Room) (s : State) (args : Array Value) (own C : String) (index : Nat) (y : MethodName) (bytes : ByteArray) (maxL : Nat) (ret : Option FieldType) (hh : List (Nat × Nat × Nat × Nat)) (ws : List Cond) (rm : Room) (mc ms n : Nat) : Prop :=
  (rm.cells = mc ∧ rm.slots = ms ∧ rm.frames + 1 ≤ R.frames ∧ 8 + (maxL + 11) + rm.locals ≤ R.locals ∧ (∀ w ∈ ws, ∀ (a' : Array Value) (U : State), s.WarmedH U.vm → w.before a' U = true) ∧ Cond.codeWith y bytes maxL ret hh ∈ ws) ∧
  (Cond.codeWith y bytes maxL ret hh).before args s = true ∧ (Cond.initialized y.cls).before args s = true ∧ (y.cls ≠ "java/lang/invoke/MethodHandle" ∧ y.cls ≠ "java/lang/invoke/VarHandle") ∧
  (∀ sig, parseMethodDescriptor y.desc = some sig → n = sig.parameters.length) ∧ (Cond.methodLink own index y).before args s = true ∧ (Cond.instanceMethod y).before args s = true ∧ (Cond.selects C y y).before args s = true
theorem vx_cwVW {own C : String} {index maxL mc ms : Nat} {y : MethodName} {bytes : ByteArray} {ret : Option FieldType} {hh : List (Nat × Nat × Nat × Nat)} {Ts ws ws' : List Cond} {rm : Room} (n : Nat) (ht : ∀ w ∈ Ts, w.before args s = true) (hT : GoodIn Ts (wsV own index C y ws)) (hw : ws = Cond.codeWith y bytes maxL ret hh :: ws') (hrc : rm.cells = mc) (hrs : rm.slots = ms)
    (hd : y.cls = C ∧ y.cls ≠ "java/lang/invoke/MethodHandle" ∧ y.cls ≠ "java/lang/invoke/VarHandle" ∧ (parseMethodDescriptor y.desc).map (fun d => d.parameters.length) = some n) (hR : rm.frames + 1 ≤ R.frames ∧ 8 + (maxL + 11) + rm.locals ≤ R.locals) :
    vx_CVW R s args own C index y bytes maxL ret hh ws rm mc ms n := by
  obtain ⟨hC, hd⟩ := hd
  subst hC
  have ok : ∀ w ∈ wsV own index y.cls y ws, w.before args s = true := fun w h => ht w (hT w h).1
  have hG : GoodIn Ts ws := fun w h => hT w (by unfold wsV; exact List.mem_append_right _ h)
  have hc : Cond.codeWith y bytes maxL ret hh ∈ ws := by rw [hw]; exact List.mem_cons_self
  refine ⟨⟨hrc, hrs, hR.1, hR.2, pay_in ht hG, hc⟩, ht _ (hG _ hc).1, ok _ (by simp [wsV]), ⟨hd.1, hd.2.1⟩, fun sig h => ?_, ok _ (by simp [wsV]), ok _ (by simp [wsV]), ok _ (by simp [wsV])⟩
  have h2 := hd.2.2
  rw [h] at h2
  exact (Option.some.inj h2).symm
theorem vx_runVW {y : MethodName} {bytes cc : ByteArray} {maxL nL mc ms n index : Nat} {ret : Option FieldType} {hh : List (Nat × Nat × Nat × Nat)} {ws : List Cond} {rm : Room} {Pc : Array Value → State → Prop} {Qc : Array Value → State → Outcome → State → Prop} {free : Addr → Prop} {Ts : List Cond} {own C : String} {b : Addr} {As rest : List Value} {g : JFrame}
    (S : CallFix p m c cc nL s args Ts own) (hM : Met l y ws rm Pc Qc mc ms free) (cw : vx_CVW R s args own C index y bytes maxL ret hh ws rm mc ms n) (hp : PreV s H C b Pc As)
    (hg : g.method = m) (hn : As.length = n) (hsize : g.locals.size = nL) (hstack : g.stack = As.reverse ++ .ref b :: rest) (hW : 2 * g.monitorRoom + (rest.map fun v => v.category).sum ≤ 8) (hdg : decode cc g.pc = .ok (.invokevirtual index, 3)) (hf : cells + mc ≤ R.cells ∧ slots + ms ≤ R.slots) :
    va_Run p l e R s m args below meth c H locs cells slots mc ms g rest (Qc (Value.ref b :: As).toArray) free := by
  obtain ⟨⟨hrc, hrs, hfr, hlo, hws, hcw⟩, hcode, hini, hy, hlen, hl, hin, hse⟩ := cw
  have hK : Back l R p e below s args y 3 8 (PreOf R mc ms Pc) (PostOf Qc mc ms free) := va_backW (hh := hh) (bytes := bytes) (maxL := maxL) (ret := ret) hM hp.1 hrc hrs hfr hlo hws hcw (fun a' U hW => word_at hW (Or.inl (by first | rfl | simp [Cond.onTables, Cond.keeps, Cond.steady])) hini)
  obtain ⟨hx, hb, hml, ho, -⟩ := S
  obtain ⟨-, ⟨cellB, hcB, hoB, hclB⟩, hPc⟩ := hp
  intro T hT X
  obtain ⟨v, vm₁, ⟨U', l2, c2, s2⟩, hW₁, X', ⟨g', mk, t, L, e1, e2, hq, h1, hL, h2, h3⟩, st⟩ := vx_callVW X hx (C := C) (hh := hh) (bytes := bytes) (maxL := maxL) (ret := ret) ho hl hin hse hcode hy hK (by rw [hT]; exact hcB) hoB hclB hg (hsize.trans hml.symm) (argsL := As) (rest := rest) (fun sig h => hn.trans (hlen sig h)) hstack hW (by rw [hb]; exact hdg)
    (fun vm₁ hW₁ => ⟨hf.1, hf.2, hPc (T.setVm vm₁) hT hW₁⟩)
  dsimp only [Pt.U, Pt.locs, Pt.cells, Pt.slots] at X' e1 e2 h1 h2 h3 st
  subst h1; subst h2; subst h3
  exact ⟨v, (T.setVm vm₁).calling g' mk (Value.ref b :: As).toArray, t, U', L, hT, X', hL, e1, e2, hq, st⟩
section
variable {y : MethodName} {bytes cc : ByteArray} {maxL nL mc ms n index : Nat} {ret : Option FieldType} {ws : List Cond} {rm : Room} {Pc : Array Value → State → Prop} {Qc : Array Value → State → Outcome → State → Prop} {XC : String → State → State → Prop} {free : Addr → Prop} {Ts : List Cond} {own C : String} {b : Addr} {As rest : List Value} {g : JFrame}
theorem vx_runVX {hh : List (Nat × Nat × Nat × Nat)} (S : CallFix p m c cc nL s args Ts own) (hM : vx_Met l y ws rm Pc Qc XC mc ms free) (cw : vx_CVW R s args own C index y bytes maxL ret hh ws rm mc ms n) (hp : PreV s H C b Pc As)
    (hg : g.method = m) (hn : As.length = n) (hsize : g.locals.size = nL) (hstack : g.stack = As.reverse ++ .ref b :: rest) (hW : 2 * g.monitorRoom + (rest.map fun v => v.category).sum ≤ 8) (hdg : decode cc g.pc = .ok (.invokevirtual index, 3)) (hf : cells + mc ≤ R.cells ∧ slots + ms ≤ R.slots) :
    vx_Run p l e R s m args below meth c H locs cells slots mc ms g rest (Qc (Value.ref b :: As).toArray) XC free := by
  obtain ⟨⟨hrc, hrs, hfr, hlo, hws, hcw⟩, hcode, hini, hy, hlen, hl, hin, hse⟩ := cw
  have hK : vx_Back l R p e below s args y 3 8 (PreOf R mc ms Pc) (PostOf Qc mc ms free) (vx_Post XC mc ms free) := vx_backW (hh := hh) (bytes := bytes) (maxL := maxL) (ret := ret) hM hp.1 hrc hrs hfr hlo hws hcw (fun a' U hW => word_at hW (Or.inl (by first | rfl | simp [Cond.onTables, Cond.keeps, Cond.steady])) hini)
  obtain ⟨hx, hb, hml, ho, -⟩ := S
  obtain ⟨-, ⟨cellB, hcB, hoB, hclB⟩, hPc⟩ := hp
  intro T hT X
  rcases vx_callVX X hx (C := C) (hh := hh) (bytes := bytes) (maxL := maxL) (ret := ret) ho hl hin hse hcode hy hK (by rw [hT]; exact hcB) hoB hclB hg (hsize.trans hml.symm) (argsL := As) (rest := rest) (fun sig h => hn.trans (hlen sig h)) hstack hW (by rw [hb]; exact hdg)
    (fun vm₁ hW₁ => ⟨hf.1, hf.2, hPc (T.setVm vm₁) hT hW₁⟩) with ⟨v, vm₁, ⟨U', l2, c2, s2⟩, hW₁, X', ⟨g', mk, t, L, e1, e2, hq, h1, hL, h2, h3⟩, st⟩ | ⟨q, vm₁, ⟨U', l2, c2, s2⟩, hW₁, X', ⟨g', mk, t, L, E, ce, e1, e2, hq, hce, hcv, hcl, h1, hL, h2, h3⟩, st⟩
  · dsimp only [Pt.U, Pt.locs, Pt.cells, Pt.slots] at X' e1 e2 h1 h2 h3 st
    subst h1; subst h2; subst h3
    exact Or.inl ⟨v, (T.setVm vm₁).calling g' mk (Value.ref b :: As).toArray, t, U', L, hT, X', hL, e1, e2, hq, st⟩
  · dsimp only [Pt.U, Pt.locs, Pt.cells, Pt.slots] at X' e1 e2 h1 h2 h3 st hcl
    subst h1; subst h2; subst h3
    exact Or.inr ⟨q, (T.setVm vm₁).calling g' mk (Value.ref b :: As).toArray, t, U', L, E, ce, hT, X', hL, e1, e2, hq, hce, hcv, vx_cls hW₁ hcl, st⟩
theorem vx_runSX {hh : List (Nat × Nat × Nat × Nat)} (S : CallFix p m c cc nL s args Ts own) (hM : vx_Met l y ws rm Pc Qc XC mc ms free) (cw : vx_CSW R s args own index y bytes maxL ret hh ws rm mc ms n) (hp : PreS s H Pc As)
    (hg : g.method = m) (hn : As.length = n) (hsize : g.locals.size = nL) (hstack : g.stack = As.reverse ++ rest) (hW : 2 * g.monitorRoom + (rest.map fun v => v.category).sum ≤ 8) (hdg : decode cc g.pc = .ok (.invokestatic index, 3)) (hf : cells + mc ≤ R.cells ∧ slots + ms ≤ R.slots) :
    vx_Run p l e R s m args below meth c H locs cells slots mc ms g rest (Qc As.toArray) XC free := by
  obtain ⟨⟨hrc, hrs, hfr, hlo, hws, hcw⟩, hcode, hini, hy, hlen, hl, hstt⟩ := cw
  have hK : vx_Back l R p e below s args y 3 8 (PreOf R mc ms Pc) (PostOf Qc mc ms free) (vx_Post XC mc ms free) := vx_backW (hh := hh) (bytes := bytes) (maxL := maxL) (ret := ret) hM hp.1 hrc hrs hfr hlo hws hcw (fun a' U hW => word_at hW (Or.inl (by first | rfl | simp [Cond.onTables, Cond.keeps, Cond.steady])) hini)
  obtain ⟨hx, hb, hml, ho, -⟩ := S
  intro T hT X
  rcases vx_callSX X hx (hh := hh) (bytes := bytes) (maxL := maxL) (ret := ret) ho hl hstt hini hcode hy hK hg (hsize.trans hml.symm) (argsL := As) (rest := rest) (fun sig h => hn.trans (hlen sig h)) hstack hW (by rw [hb]; exact hdg)
    (fun vm₁ hW₁ => ⟨hf.1, hf.2, hp.2 (T.setVm vm₁) hT hW₁⟩) with ⟨v, vm₁, ⟨U', l2, c2, s2⟩, hW₁, X', ⟨g', mk, t, L, e1, e2, hq, h1, hL, h2, h3⟩, st⟩ | ⟨q, vm₁, ⟨U', l2, c2, s2⟩, hW₁, X', ⟨g', mk, t, L, E, ce, e1, e2, hq, hce, hcv, hcl, h1, hL, h2, h3⟩, st⟩
  · dsimp only [Pt.U, Pt.locs, Pt.cells, Pt.slots] at X' e1 e2 h1 h2 h3 st
    subst h1; subst h2; subst h3
    exact Or.inl ⟨v, (T.setVm vm₁).calling g' mk As.toArray, t, U', L, hT, X', hL, e1, e2, hq, st⟩
  · dsimp only [Pt.U, Pt.locs, Pt.cells, Pt.slots] at X' e1 e2 h1 h2 h3 st hcl
    subst h1; subst h2; subst h3
    exact Or.inr ⟨q, (T.setVm vm₁).calling g' mk As.toArray, t, U', L, E, ce, hT, X', hL, e1, e2, hq, hce, hcv, vx_cls hW₁ hcl, st⟩
end
end VXH
theorem vx_ofWH {l : Launch} {y : MethodName} {ws ws' : List Cond} {rm : Room} {Pc : Array Value → State → Prop} {Qc : Array Value → State → Outcome → State → Prop} {XC : String → State → State → Prop} {mc ms : Nat} {free : Addr → Prop} {cc : ByteArray} {maxL : Nat} {ret : Option FieldType} {hh : List (Nat × Nat × Nat × Nat)}
    (hy : plainName y.cls = true) (hw : ws = Cond.codeWith y cc maxL ret hh :: ws')
    (body : ∀ p e s m args below meth c s₁, BodyLoose p l y (headSpec ws rm) cc maxL ret e s m args below meth c s₁ → c.maxLocals = maxL → Pc args s →
      W p l e (headSpec ws rm).room s m args below meth c s.heap [] 0 0 (vx_MQ below Qc XC args s mc ms free) (entryFrame m args maxL)) : vx_Met l y ws rm Pc Qc XC mc ms free := by
  refine MetFree.of_bodyS (code := cc) (maxLocals := maxL) (ret := ret) hy ?_ ?_
  · intro args s m h hn
    obtain ⟨m9, meth, c, hn9, h1, h2, h3, h4, -, h5, h6, -⟩ := Cond.codeWith_spec (atoms_spec (ws := ws) h _ (by rw [hw]; exact List.mem_cons_self))
    cases hn.symm.trans hn9
    exact ⟨meth, c, h1, h2, h3, h4, h5, h6⟩
  · intro p e s m args below meth c s₁ B hml hP _
    have hh0 : s₁.heap = s.heap := by rw [B.state]; rfl
    obtain ⟨t, a1, o, b1, b2, b3⟩ := body p e s m args below meth c s₁ B hml hP s₁ hh0 (Stand.of_body B)
    exact ⟨t, o, a1, b1, b2, b3⟩
/-! ===== END ===== -/
end
section
theorem nx_and (a b : Nat) : nI a &&& nI b = nI (a &&& b) := by
  apply Int32.toBitVec_inj.1
  show BitVec.ofNat 32 a &&& BitVec.ofNat 32 b = BitVec.ofNat 32 (a &&& b)
  apply BitVec.eq_of_getLsbD_eq
  intro i hi
  simp [hi]
theorem nx_xor (a b : Nat) : nI a ^^^ nI b = nI (a ^^^ b) := by
  apply Int32.toBitVec_inj.1
  show BitVec.ofNat 32 a ^^^ BitVec.ofNat 32 b = BitVec.ofNat 32 (a ^^^ b)
  apply BitVec.eq_of_getLsbD_eq
  intro i hi
  simp [hi]
theorem wb_tb (n : Nat) : (lN n).toBitVec = BitVec.ofNat 64 n := rfl
theorem wb_inj {a b : Int64} (h : a.toBitVec = b.toBitVec) : a = b := Int64.toBitVec_inj.mp h
theorem wb_tn {n : Nat} (h : n < 2 ^ 64) : (lN n).toBitVec.toNat = n := by rw [wb_tb, BitVec.toNat_ofNat, Nat.mod_eq_of_lt h]
theorem wb_of (x : Int64) : ∃ n, n < 2 ^ 64 ∧ x = lN n := ⟨x.toBitVec.toNat, x.toBitVec.isLt, wb_inj (by rw [wb_tb]; simp)⟩
theorem wb_of32 (x : Int32) : ∃ n, n < 2 ^ 32 ∧ x = nI n := ⟨x.toBitVec.toNat, x.toBitVec.isLt, Int32.toBitVec_inj.mp (by show _ = BitVec.ofNat 32 _; simp)⟩
theorem wb_c : ∀ k, k < 64 → ((nI k).toInt64 &&& 63) = lN k := by decide +kernel
theorem wb_cu : ∀ k, k < 64 → ((nI k).toInt64.toUInt64 &&& Int64.toUInt64 63) = UInt64.ofNat k := by decide +kernel
theorem wb_sm : ∀ k, k < 64 → (BitVec.ofNat 64 k).smod 64 = BitVec.ofNat 64 k := by decide +kernel
theorem wb_pw {a b : Nat} (h : a ≤ b) : 2 ^ b = 2 ^ a * 2 ^ (b - a) := by rw [← Nat.pow_add]; congr 1; omega
theorem wb_lt2 {a b : Nat} (h : a < b) : 2 ^ a < 2 ^ b := Nat.pow_lt_pow_right (by decide) h
theorem wb_mod (n : Nat) : lN n = lN (n % 2 ^ 64) := wb_inj (by rw [wb_tb, wb_tb]; apply BitVec.eq_of_toNat_eq; rw [BitVec.toNat_ofNat, BitVec.toNat_ofNat, Nat.mod_mod])
theorem wb_shr {n k : Nat} (hn : n < 2 ^ 64) (hk : k < 64) : ((lN n).toUInt64 >>> ((nI k).toInt64.toUInt64 &&& Int64.toUInt64 63)).toInt64 = lN (n / 2 ^ k) := by
  rw [wb_cu k hk]
  apply wb_inj
  apply BitVec.eq_of_toNat_eq
  show ((lN n).toUInt64 >>> UInt64.ofNat k).toNat = (BitVec.ofNat 64 _).toNat
  have h1 : (UInt64.ofNat k).toNat = k := by
    show (BitVec.ofNat 64 k).toNat = k
    rw [BitVec.toNat_ofNat, Nat.mod_eq_of_lt (by omega)]
  have h2 : (lN n).toUInt64.toNat = n := wb_tn hn
  rw [UInt64.toNat_shiftRight, h1, h2, Nat.mod_eq_of_lt hk, Nat.shiftRight_eq_div_pow, BitVec.toNat_ofNat, Nat.mod_eq_of_lt (Nat.lt_of_le_of_lt (Nat.div_le_self _ _) hn)]
theorem wb_shl (n : Nat) {k : Nat} (hk : k < 64) : lN n <<< ((nI k).toInt64 &&& 63) = lN (n * 2 ^ k) := by
  rw [wb_c k hk]
  apply wb_inj
  rw [Int64.toBitVec_shiftLeft, wb_tb, wb_tb, wb_tb, wb_sm k hk]
  apply BitVec.eq_of_toNat_eq
  rw [BitVec.shiftLeft_eq', BitVec.toNat_shiftLeft, BitVec.toNat_ofNat, BitVec.toNat_ofNat, BitVec.toNat_ofNat, Nat.mod_eq_of_lt (show k < 2 ^ 64 by omega), Nat.shiftLeft_eq, Nat.mul_mod, Nat.mod_mod, ← Nat.mul_mod]
theorem wb_and {a b : Nat} (ha : a < 2 ^ 64) (hb : b < 2 ^ 64) : lN a &&& lN b = lN (a &&& b) := by
  apply wb_inj
  rw [Int64.toBitVec_and, wb_tb, wb_tb, wb_tb]
  apply BitVec.eq_of_toNat_eq
  rw [BitVec.toNat_and, BitVec.toNat_ofNat, BitVec.toNat_ofNat, BitVec.toNat_ofNat, Nat.mod_eq_of_lt ha, Nat.mod_eq_of_lt hb, Nat.mod_eq_of_lt (Nat.and_lt_two_pow _ hb)]
theorem wb_or {a b : Nat} (ha : a < 2 ^ 64) (hb : b < 2 ^ 64) : lN a ||| lN b = lN (a ||| b) := by
  apply wb_inj
  rw [Int64.toBitVec_or, wb_tb, wb_tb, wb_tb]
  apply BitVec.eq_of_toNat_eq
  rw [BitVec.toNat_or, BitVec.toNat_ofNat, BitVec.toNat_ofNat, BitVec.toNat_ofNat, Nat.mod_eq_of_lt ha, Nat.mod_eq_of_lt hb, Nat.mod_eq_of_lt (Nat.or_lt_two_pow ha hb)]
theorem wb_mask {n k : Nat} (hn : n < 2 ^ 64) (hk : k < 64) : lN n &&& lN (2 ^ k - 1) = lN (n % 2 ^ k) := by
  rw [wb_and hn (by have := wb_lt2 hk; omega), Nat.and_two_pow_sub_one_eq_mod]
theorem wb_a1 {n : Nat} (hn : n < 2 ^ 64) : lN n &&& 1 = lN (n % 2) := wb_mask (k := 1) hn (by decide)
theorem wb_bit {n k : Nat} (hn : n < 2 ^ 64) (hk : k < 64) : ((lN n).toUInt64 >>> ((nI k).toInt64.toUInt64 &&& Int64.toUInt64 63)).toInt64 &&& 1 = lN (n / 2 ^ k % 2) := by
  rw [wb_shr hn hk, wb_a1 (Nat.lt_of_le_of_lt (Nat.div_le_self _ _) hn)]
theorem lN_bv (n : Nat) : (lN n).toBitVec = BitVec.ofNat 64 n := rfl
theorem lN_nat {n : Nat} (h : n < 2 ^ 64) : (lN n).toBitVec.toNat = n := by rw [lN_bv, BitVec.toNat_ofNat]; exact Nat.mod_eq_of_lt h
theorem lN_xor (a b : Nat) : lN a ^^^ lN b = lN (a ^^^ b) := by
  apply Int64.toBitVec_inj.mp; rw [Int64.toBitVec_xor, lN_bv, lN_bv, lN_bv]; apply BitVec.eq_of_getLsbD_eq; intro i hi; simp [BitVec.getLsbD_ofNat, Nat.testBit_xor, hi]
theorem lN_ti {m : Nat} (h : m < 2 ^ 64) : (lN m).toInt = if m < 2 ^ 63 then (m : Int) else (m : Int) - 2 ^ 64 := by
  have c := BitVec.toInt_eq_toNat_cond (lN m).toBitVec
  rw [lN_nat h] at c
  show (lN m).toBitVec.toInt = _
  rw [c]
  split <;> split <;> omega
theorem z_nior (a b : Nat) : nI a ||| nI b = nI (a ||| b) := by
  apply Int32.toBitVec_inj.1
  show BitVec.ofNat 32 a ||| BitVec.ofNat 32 b = BitVec.ofNat 32 (a ||| b)
  apply BitVec.eq_of_getLsbD_eq
  intro i hi
  simp [hi]
theorem z_land_ (a b : Nat) : lN a &&& lN b = lN (a &&& b) := by
  apply Int64.toBitVec_inj.mp; rw [Int64.toBitVec_and, lN_bv, lN_bv, lN_bv]; apply BitVec.eq_of_getLsbD_eq; intro i hi; simp [BitVec.getLsbD_ofNat, Nat.testBit_and, hi]
theorem z_lor_ (a b : Nat) : lN a ||| lN b = lN (a ||| b) := by
  apply Int64.toBitVec_inj.mp; rw [Int64.toBitVec_or, lN_bv, lN_bv, lN_bv]; apply BitVec.eq_of_getLsbD_eq; intro i hi; simp [BitVec.getLsbD_ofNat, Nat.testBit_or, hi]
theorem z_sl : ∀ n, n < 32 → ((nI n &&& 31).toBitVec.smod 32).toNat = n := by decide +kernel
theorem z_su : ∀ n, n < 32 → (((nI n).toUInt32 &&& Int32.toUInt32 31).toBitVec % 32).toNat = n := by decide +kernel
theorem z_shl_ (a : Nat) {b : Nat} (hb : b < 32) : nI a <<< (nI b &&& 31) = nI (a * 2 ^ b) := by
  apply Int32.toBitVec_inj.mp
  apply BitVec.eq_of_toNat_eq
  rw [pk_shl _ _ b (z_sl b hb)]
  show (BitVec.ofNat 32 a).toNat * 2 ^ b % 2 ^ 32 = (BitVec.ofNat 32 (a * 2 ^ b)).toNat
  rw [BitVec.toNat_ofNat, BitVec.toNat_ofNat, Nat.mod_mul_mod]
theorem z_shr_ {a b : Nat} (ha : a < 2 ^ 31) (hb : b < 32) : nI a >>> (nI b &&& 31) = nI (a / 2 ^ b) := pk_shrN ha _ b (z_sl b hb)
theorem z_ushr_ {a b : Nat} (ha : a < 2 ^ 32) (hb : b < 32) : ((nI a).toUInt32 >>> ((nI b).toUInt32 &&& Int32.toUInt32 31)).toInt32 = nI (a / 2 ^ b) := pk_ushrN ha _ b (z_su b hb)
theorem z_nmod (n : Nat) : nI n = nI (n % 2 ^ 32) := Int32.toBitVec_inj.mp (by show BitVec.ofNat 32 n = BitVec.ofNat 32 (n % 2 ^ 32); apply BitVec.eq_of_toNat_eq; rw [BitVec.toNat_ofNat, BitVec.toNat_ofNat, Nat.mod_mod])
theorem z_lsm : ∀ n, n < 64 → (((nI n).toInt64 &&& 63).toBitVec.smod 64).toNat = n := by decide +kernel
/-- '>>' of a long: the low byte of what comes out -/
theorem z_lsar (n : Nat) {b : Nat} (hb : b ≤ 56) : ∃ m, lN n >>> ((nI b).toInt64 &&& 63) = lN m ∧ m % 256 = n / 2 ^ b % 256 := by
  refine ⟨(lN n >>> ((nI b).toInt64 &&& 63)).toBitVec.toNat, ?_, ?_⟩
  · apply wb_inj
    rw [wb_tb, BitVec.ofNat_toNat, BitVec.setWidth_eq]
  · have e : (lN n >>> ((nI b).toInt64 &&& 63)).toBitVec = (BitVec.ofNat 64 n).sshiftRight b := by
      have := z_lsm b (by omega)
      show (BitVec.ofNat 64 n).sshiftRight ((((nI b).toInt64 &&& 63).toBitVec.smod 64).toNat) = _
      rw [this]
    rw [e]
    apply Nat.eq_of_testBit_eq
    intro i
    rw [show (256 : Nat) = 2 ^ 8 from rfl, Nat.testBit_mod_two_pow, Nat.testBit_mod_two_pow, Nat.testBit_div_two_pow]
    by_cases hi : i < 8
    · have h1 : ((BitVec.ofNat 64 n).sshiftRight b).toNat.testBit i = ((BitVec.ofNat 64 n).sshiftRight b).getLsbD i := rfl
      have h2 : b + i < 64 := by omega
      have h3 : ¬ 64 ≤ i := by omega
      rw [h1, BitVec.getLsbD_sshiftRight, if_pos h2, BitVec.getLsbD_ofNat]
      simp [hi, h2, h3, Nat.add_comm]
    · simp [hi]
theorem z_iff_eq {a : Nat} (ha : a < 2 ^ 31) : nI a = 0 ↔ a = 0 := by rw [← nI_0]; exact nI_eq ha (by decide)
theorem z_iff_lt {a : Nat} (ha : a < 2 ^ 31) : nI a < 0 ↔ a < 0 := by rw [← nI_0]; exact nI_ltI ha (by decide)
theorem z_iff_ge {a : Nat} (ha : a < 2 ^ 31) : 0 ≤ nI a ↔ 0 ≤ a := by rw [← nI_0]; exact nI_leI (by decide) ha
theorem z_iff_gt {a : Nat} (ha : a < 2 ^ 31) : 0 < nI a ↔ 0 < a := by rw [← nI_0]; exact nI_ltI (by decide) ha
theorem z_iff_le {a : Nat} (ha : a < 2 ^ 31) : nI a ≤ 0 ↔ a ≤ 0 := by rw [← nI_0]; exact nI_leI ha (by decide)
theorem z_and255 (a : Nat) : a &&& 255 = a % 256 := Nat.and_two_pow_sub_one_eq_mod a 8
theorem z_and127 (a : Nat) : a &&& 127 = a % 128 := Nat.and_two_pow_sub_one_eq_mod a 7
theorem z_and1 (a : Nat) : a &&& 1 = a % 2 := Nat.and_two_pow_sub_one_eq_mod a 1
theorem z_xor8 {a b : Nat} (ha : a < 256) (hb : b < 256) : a ^^^ b < 256 := Nat.xor_lt_two_pow (n := 8) ha hb
theorem z_or8 {a b : Nat} (ha : a < 256) (hb : b < 256) : a ||| b < 256 := Nat.or_lt_two_pow (n := 8) ha hb
theorem z_and8 {a b : Nat} (hb : b < 256) : a &&& b < 256 := Nat.and_lt_two_pow (n := 8) a hb
end
section
/-! names, by program: the words that every method's list holds; class tables; methods; links; decode rows -/
def z_TB : List Cond := lw_tbl.filter goodWord
theorem z_in {w : Cond} (h : w ∈ tables_1) (hg : goodWord w = true) : w ∈ z_TB := List.mem_filter.mpr ⟨List.mem_append_right _ h, hg⟩
theorem z_in1 {w : Cond} {i : Nat} (h : tables_1_1[i]? = some w) (hg : goodWord w = true) : w ∈ z_TB := z_in (List.mem_append_left _ (List.mem_of_getElem? h)) hg
theorem z_in2 {w : Cond} {i : Nat} (h : tables_1_2[i]? = some w) (hg : goodWord w = true) : w ∈ z_TB := z_in (List.mem_append_right _ (List.mem_append_left _ (List.mem_of_getElem? h))) hg
theorem z_in3 {w : Cond} {i : Nat} (h : tables_1_3[i]? = some w) (hg : goodWord w = true) : w ∈ z_TB := z_in (List.mem_append_right _ (List.mem_append_right _ (List.mem_append_left _ (List.mem_of_getElem? h)))) hg
theorem z_in4 {w : Cond} {i : Nat} (h : tables_1_4[i]? = some w) (hg : goodWord w = true) : w ∈ z_TB := z_in (List.mem_append_right _ (List.mem_append_right _ (List.mem_append_right _ (List.mem_of_getElem? h)))) hg
def zTC : u_T := fun k => match k with
  | 0 => ("TwoSeals$Cipher", "box", "[I", true)
  | 1 => ("TwoSeals$Cipher", "words", "[I", true)
  | 2 => ("TwoSeals$Cipher", "state", "[I", true)
  | _ => ("TwoSeals$Cipher", "moved", "[I", true)
def ztC : Nat → FieldType := fun k => match k with
  | 0 => (.array .int)
  | 1 => (.array .int)
  | 2 => (.array .int)
  | _ => (.array .int)
theorem ztC_ok : ∀ k, k < 4 → parseFieldDescriptor (zTC k).2.2.1 = some (ztC k) := by decide +kernel
theorem znC : ∀ a, a < 4 → ∀ b, b < 4 → a ≠ b → (zTC a).2.1 ≠ (zTC b).2.1 := by decide +kernel
theorem zuC : ∀ w ∈ u_ws "TwoSeals$Cipher" zTC 4, w ∈ z_TB := by decide +kernel
def zTH : u_T := fun k => match k with
  | 0 => ("TwoSeals$Hasher", "outward", "Z", true)
  | 1 => ("TwoSeals$Hasher", "mirror", "I", true)
  | 2 => ("TwoSeals$Hasher", "overflowHigh", "J", true)
  | 3 => ("TwoSeals$Hasher", "overflowLow", "J", true)
  | 4 => ("TwoSeals$Hasher", "lengths", "[I", true)
  | 5 => ("TwoSeals$Hasher", "keyHigh", "J", false)
  | 6 => ("TwoSeals$Hasher", "keyLow", "J", false)
  | 7 => ("TwoSeals$Hasher", "sumHigh", "J", false)
  | _ => ("TwoSeals$Hasher", "sumLow", "J", false)
def ztH : Nat → FieldType := fun k => match k with
  | 0 => .boolean
  | 1 => .int
  | 2 => .long
  | 3 => .long
  | 4 => (.array .int)
  | 5 => .long
  | 6 => .long
  | 7 => .long
  | _ => .long
theorem ztH_ok : ∀ k, k < 9 → parseFieldDescriptor (zTH k).2.2.1 = some (ztH k) := by decide +kernel
theorem znH : ∀ a, a < 9 → ∀ b, b < 9 → a ≠ b → (zTH a).2.1 ≠ (zTH b).2.1 := by decide +kernel
theorem zuH : ∀ w ∈ u_ws "TwoSeals$Hasher" zTH 9, w ∈ z_TB := by decide +kernel
def zTR : u_T := fun k => match k with
  | 0 => ("TwoSeals$Row", "bytes", "[I", true)
  | _ => ("TwoSeals$Row", "length", "I", false)
def ztR : Nat → FieldType := fun k => match k with
  | 0 => (.array .int)
  | _ => .int
theorem ztR_ok : ∀ k, k < 2 → parseFieldDescriptor (zTR k).2.2.1 = some (ztR k) := by decide +kernel
theorem znR : ∀ a, a < 2 → ∀ b, b < 2 → a ≠ b → (zTR a).2.1 ≠ (zTR b).2.1 := by decide +kernel
theorem zuR : ∀ w ∈ u_ws "TwoSeals$Row" zTR 2, w ∈ z_TB := by decide +kernel
def zTO : u_T := fun k => match k with
  | 0 => ("TwoSeals$Way", "cipher", "LTwoSeals$Cipher;", true)
  | 1 => ("TwoSeals$Way", "hasher", "LTwoSeals$Hasher;", true)
  | 2 => ("TwoSeals$Way", "hashKey", "[I", true)
  | 3 => ("TwoSeals$Way", "start", "[I", true)
  | 4 => ("TwoSeals$Way", "counted", "[I", true)
  | 5 => ("TwoSeals$Way", "enciphered", "[I", true)
  | 6 => ("TwoSeals$Way", "due", "[I", true)
  | _ => ("TwoSeals$WayOne", "textKey", "[I", true)
def ztO : Nat → FieldType := fun k => match k with
  | 0 => (.object "TwoSeals$Cipher")
  | 1 => (.object "TwoSeals$Hasher")
  | 2 => (.array .int)
  | 3 => (.array .int)
  | 4 => (.array .int)
  | 5 => (.array .int)
  | 6 => (.array .int)
  | _ => (.array .int)
theorem ztO_ok : ∀ k, k < 8 → parseFieldDescriptor (zTO k).2.2.1 = some (ztO k) := by decide +kernel
theorem znO : ∀ a, a < 8 → ∀ b, b < 8 → a ≠ b → (zTO a).2.1 ≠ (zTO b).2.1 := by decide +kernel
theorem zuO : ∀ w ∈ u_ws "TwoSeals$WayOne" zTO 8, w ∈ z_TB := by decide +kernel
def zTZ : u_T := fun k => match k with
  | 0 => ("TwoSeals$Way", "cipher", "LTwoSeals$Cipher;", true)
  | 1 => ("TwoSeals$Way", "hasher", "LTwoSeals$Hasher;", true)
  | 2 => ("TwoSeals$Way", "hashKey", "[I", true)
  | 3 => ("TwoSeals$Way", "start", "[I", true)
  | 4 => ("TwoSeals$Way", "counted", "[I", true)
  | 5 => ("TwoSeals$Way", "enciphered", "[I", true)
  | 6 => ("TwoSeals$Way", "due", "[I", true)
  | _ => ("TwoSeals$WayZero", "zeros", "[I", true)
def ztZ : Nat → FieldType := fun k => match k with
  | 0 => (.object "TwoSeals$Cipher")
  | 1 => (.object "TwoSeals$Hasher")
  | 2 => (.array .int)
  | 3 => (.array .int)
  | 4 => (.array .int)
  | 5 => (.array .int)
  | 6 => (.array .int)
  | _ => (.array .int)
theorem ztZ_ok : ∀ k, k < 8 → parseFieldDescriptor (zTZ k).2.2.1 = some (ztZ k) := by decide +kernel
theorem znZ : ∀ a, a < 8 → ∀ b, b < 8 → a ≠ b → (zTZ a).2.1 ≠ (zTZ b).2.1 := by decide +kernel
theorem zuZ : ∀ w ∈ u_ws "TwoSeals$WayZero" zTZ 8, w ∈ z_TB := by decide +kernel
def zTS : u_T := fun k => match k with
  | 0 => ("TwoSeals", "rows", "[LTwoSeals$Row;", true)
  | 1 => ("TwoSeals", "result", "LTwoSeals$Row;", true)
  | 2 => ("TwoSeals", "draft", "LTwoSeals$Row;", true)
  | 3 => ("TwoSeals", "cipher", "LTwoSeals$Cipher;", true)
  | 4 => ("TwoSeals", "hashers", "[LTwoSeals$Hasher;", true)
  | _ => ("TwoSeals", "ways", "[LTwoSeals$Way;", true)
def ztS : Nat → FieldType := fun k => match k with
  | 0 => (.array (.object "TwoSeals$Row"))
  | 1 => (.object "TwoSeals$Row")
  | 2 => (.object "TwoSeals$Row")
  | 3 => (.object "TwoSeals$Cipher")
  | 4 => (.array (.object "TwoSeals$Hasher"))
  | _ => (.array (.object "TwoSeals$Way"))
theorem ztS_ok : ∀ k, k < 6 → parseFieldDescriptor (zTS k).2.2.1 = some (ztS k) := by decide +kernel
theorem znS : ∀ a, a < 6 → ∀ b, b < 6 → a ≠ b → (zTS a).2.1 ≠ (zTS b).2.1 := by decide +kernel
theorem zuS : ∀ w ∈ u_ws "TwoSeals" zTS 6, w ∈ z_TB := by decide +kernel
def zTM : u_T := fun k => match k with
  | 0 => ("TwoSealsModel", "thrown", "I", false)
  | 1 => ("TwoSealsModel", "rows", "[I", true)
  | 2 => ("TwoSealsModel", "sizes", "[I", true)
  | 3 => ("TwoSealsModel", "made", "I", false)
  | 4 => ("TwoSealsModel", "result", "[I", true)
  | 5 => ("TwoSealsModel", "words", "[I", true)
  | 6 => ("TwoSealsModel", "state", "[I", true)
  | 7 => ("TwoSealsModel", "other", "[I", true)
  | 8 => ("TwoSealsModel", "boxes", "[I", true)
  | 9 => ("TwoSealsModel", "key", "[I", true)
  | 10 => ("TwoSealsModel", "block", "[I", true)
  | 11 => ("TwoSealsModel", "s", "[I", true)
  | 12 => ("TwoSealsModel", "h", "[I", true)
  | 13 => ("TwoSealsModel", "product", "[I", true)
  | 14 => ("TwoSealsModel", "start", "[I", true)
  | _ => ("TwoSealsModel", "tag", "[I", true)
def ztM : Nat → FieldType := fun k => match k with
  | 0 => .int
  | 1 => (.array .int)
  | 2 => (.array .int)
  | 3 => .int
  | 4 => (.array .int)
  | 5 => (.array .int)
  | 6 => (.array .int)
  | 7 => (.array .int)
  | 8 => (.array .int)
  | 9 => (.array .int)
  | 10 => (.array .int)
  | 11 => (.array .int)
  | 12 => (.array .int)
  | 13 => (.array .int)
  | 14 => (.array .int)
  | _ => (.array .int)
theorem ztM_ok : ∀ k, k < 16 → parseFieldDescriptor (zTM k).2.2.1 = some (ztM k) := by decide +kernel
theorem znM : ∀ a, a < 16 → ∀ b, b < 16 → a ≠ b → (zTM a).2.1 ≠ (zTM b).2.1 := by decide +kernel
theorem zuM : ∀ w ∈ u_ws "TwoSealsModel" zTM 16, w ∈ z_TB := by decide +kernel
def z_cl : List vw_C := [("TwoSeals$Cipher", zTC, 4), ("TwoSeals$Hasher", zTH, 9), ("TwoSeals$Row", zTR, 2), ("TwoSeals$WayOne", zTO, 8), ("TwoSeals$WayZero", zTZ, 8), ("TwoSeals", zTS, 6), ("TwoSealsModel", zTM, 16)]
/-! (the core's definitions z_M, z_code stand behind this part: here methods are plain tuples) -/
def mS_init : MethodName × ByteArray × Nat × Option FieldType := (⟨"TwoSeals", "<init>", "()V"⟩, prog_1_method_1_code, 1, none)
theorem wcmS_init : Cond.code mS_init.1 mS_init.2.1 mS_init.2.2.1 mS_init.2.2.2 ∈ z_TB := z_in1 (i := 21) rfl (by decide +kernel)
def mR_init : MethodName × ByteArray × Nat × Option FieldType := (⟨"TwoSeals$Row", "<init>", "(I)V"⟩, prog_4_method_1_code, 2, none)
theorem wcmR_init : Cond.code mR_init.1 mR_init.2.1 mR_init.2.2.1 mR_init.2.2.2 ∈ z_TB := z_in1 (i := 30) rfl (by decide +kernel)
def mC_init : MethodName × ByteArray × Nat × Option FieldType := (⟨"TwoSeals$Cipher", "<init>", "()V"⟩, prog_2_method_1_code, 1, none)
theorem wcmC_init : Cond.code mC_init.1 mC_init.2.1 mC_init.2.2.1 mC_init.2.2.2 ∈ z_TB := z_in1 (i := 52) rfl (by decide +kernel)
def mC_makeBox : MethodName × ByteArray × Nat × Option FieldType := (⟨"TwoSeals$Cipher", "makeBox", "()[I"⟩, prog_2_method_2_code, 3, (some (.array .int)))
theorem wcmC_makeBox : Cond.code mC_makeBox.1 mC_makeBox.2.1 mC_makeBox.2.2.1 mC_makeBox.2.2.2 ∈ z_TB := z_in1 (i := 56) rfl (by decide +kernel)
def mC_tripled : MethodName × ByteArray × Nat × Option FieldType := (⟨"TwoSeals$Cipher", "tripled", "(I)I"⟩, prog_2_method_6_code, 1, (some .int))
theorem wcmC_tripled : Cond.code mC_tripled.1 mC_tripled.2.1 mC_tripled.2.2.1 mC_tripled.2.2.2 ∈ z_TB := z_in1 (i := 59) rfl (by decide +kernel)
def mC_doubled : MethodName × ByteArray × Nat × Option FieldType := (⟨"TwoSeals$Cipher", "doubled", "(I)I"⟩, prog_2_method_5_code, 2, (some .int))
theorem wcmC_doubled : Cond.code mC_doubled.1 mC_doubled.2.1 mC_doubled.2.2.1 mC_doubled.2.2.2 ∈ z_TB := z_in1 (i := 62) rfl (by decide +kernel)
def mC_spread : MethodName × ByteArray × Nat × Option FieldType := (⟨"TwoSeals$Cipher", "spread", "(I)I"⟩, prog_2_method_3_code, 1, (some .int))
theorem wcmC_spread : Cond.code mC_spread.1 mC_spread.2.1 mC_spread.2.2.1 mC_spread.2.2.2 ∈ z_TB := z_in1 (i := 65) rfl (by decide +kernel)
def mC_turned : MethodName × ByteArray × Nat × Option FieldType := (⟨"TwoSeals$Cipher", "turned", "(II)I"⟩, prog_2_method_4_code, 2, (some .int))
theorem wcmC_turned : Cond.code mC_turned.1 mC_turned.2.1 mC_turned.2.2.1 mC_turned.2.2.2 ∈ z_TB := z_in1 (i := 68) rfl (by decide +kernel)
def mH_init : MethodName × ByteArray × Nat × Option FieldType := (⟨"TwoSeals$Hasher", "<init>", "(Z)V"⟩, prog_3_method_1_code, 2, none)
theorem wcmH_init : Cond.code mH_init.1 mH_init.2.1 mH_init.2.2.1 mH_init.2.2.2 ∈ z_TB := z_in1 (i := 87) rfl (by decide +kernel)
def mZ_init : MethodName × ByteArray × Nat × Option FieldType := (⟨"TwoSeals$WayZero", "<init>", "(LTwoSeals$Cipher;LTwoSeals$Hasher;)V"⟩, prog_7_method_1_code, 3, none)
theorem wcmZ_init : Cond.code mZ_init.1 mZ_init.2.1 mZ_init.2.2.1 mZ_init.2.2.2 ∈ z_TB := z_in1 (i := 125) rfl (by decide +kernel)
def mW_init : MethodName × ByteArray × Nat × Option FieldType := (⟨"TwoSeals$Way", "<init>", "(LTwoSeals$Cipher;LTwoSeals$Hasher;)V"⟩, prog_5_method_1_code, 3, none)
theorem wcmW_init : Cond.code mW_init.1 mW_init.2.1 mW_init.2.2.1 mW_init.2.2.2 ∈ z_TB := z_in1 (i := 128) rfl (by decide +kernel)
def mO_init : MethodName × ByteArray × Nat × Option FieldType := (⟨"TwoSeals$WayOne", "<init>", "(LTwoSeals$Cipher;LTwoSeals$Hasher;)V"⟩, prog_6_method_1_code, 3, none)
theorem wcmO_init : Cond.code mO_init.1 mO_init.2.1 mO_init.2.2.1 mO_init.2.2.2 ∈ z_TB := z_in1 (i := 185) rfl (by decide +kernel)
def mS_size : MethodName × ByteArray × Nat × Option FieldType := (⟨"TwoSeals", "size", "()I"⟩, prog_1_method_10_code, 1, (some .int))
theorem wcmS_size : Cond.code mS_size.1 mS_size.2.1 mS_size.2.2.1 mS_size.2.2.2 ∈ z_TB := z_in1 (i := 220) rfl (by decide +kernel)
def mL_type : MethodName × ByteArray × Nat × Option FieldType := (⟨"TwoSealsLaw", "type", "(LTwoSeals;IJI[J)I"⟩, method_3_code, 7, (some .int))
def mS_type : MethodName × ByteArray × Nat × Option FieldType := (⟨"TwoSeals", "type", "(IJI)I"⟩, prog_1_method_2_code, 7, (some .int))
theorem wcmS_type : Cond.code mS_type.1 mS_type.2.1 mS_type.2.2.1 mS_type.2.2.2 ∈ z_TB := z_in1 (i := 229) rfl (by decide +kernel)
def mS_requireRow : MethodName × ByteArray × Nat × Option FieldType := (⟨"TwoSeals", "requireRow", "(I)V"⟩, prog_1_method_12_code, 1, none)
theorem wcmS_requireRow : Cond.code mS_requireRow.1 mS_requireRow.2.1 mS_requireRow.2.2.1 mS_requireRow.2.2.2 ∈ z_TB := z_in1 (i := 232) rfl (by decide +kernel)
def mR_hasRoomFor : MethodName × ByteArray × Nat × Option FieldType := (⟨"TwoSeals$Row", "hasRoomFor", "(I)Z"⟩, prog_4_method_2_code, 2, (some .boolean))
theorem wcmR_hasRoomFor : Cond.code mR_hasRoomFor.1 mR_hasRoomFor.2.1 mR_hasRoomFor.2.2.1 mR_hasRoomFor.2.2.2 ∈ z_TB := z_in2 (i := 66) rfl (by decide +kernel)
def mR_append : MethodName × ByteArray × Nat × Option FieldType := (⟨"TwoSeals$Row", "append", "(I)V"⟩, prog_4_method_4_code, 2, none)
theorem wcmR_append : Cond.code mR_append.1 mR_append.2.1 mR_append.2.2.1 mR_append.2.2.2 ∈ z_TB := z_in2 (i := 86) rfl (by decide +kernel)
def mL_clear : MethodName × ByteArray × Nat × Option FieldType := (⟨"TwoSealsLaw", "clear", "(LTwoSeals;I[J)I"⟩, method_4_code, 4, (some .int))
def mS_clear : MethodName × ByteArray × Nat × Option FieldType := (⟨"TwoSeals", "clear", "(I)I"⟩, prog_1_method_3_code, 3, (some .int))
theorem wcmS_clear : Cond.code mS_clear.1 mS_clear.2.1 mS_clear.2.2.1 mS_clear.2.2.2 ∈ z_TB := z_in2 (i := 93) rfl (by decide +kernel)
def mL_poke : MethodName × ByteArray × Nat × Option FieldType := (⟨"TwoSealsLaw", "poke", "(LTwoSeals;III)I"⟩, method_5_code, 5, (some .int))
def mS_poke : MethodName × ByteArray × Nat × Option FieldType := (⟨"TwoSeals", "poke", "(III)V"⟩, prog_1_method_4_code, 4, none)
theorem wcmS_poke : Cond.code mS_poke.1 mS_poke.2.1 mS_poke.2.2.1 mS_poke.2.2.2 ∈ z_TB := z_in2 (i := 101) rfl (by decide +kernel)
def mR_has : MethodName × ByteArray × Nat × Option FieldType := (⟨"TwoSeals$Row", "has", "(I)Z"⟩, prog_4_method_3_code, 2, (some .boolean))
theorem wcmR_has : Cond.code mR_has.1 mR_has.2.1 mR_has.2.2.1 mR_has.2.2.2 ∈ z_TB := z_in2 (i := 106) rfl (by decide +kernel)
def mL_take : MethodName × ByteArray × Nat × Option FieldType := (⟨"TwoSealsLaw", "take", "(LTwoSeals;I[J)I"⟩, method_6_code, 4, (some .int))
def mS_take : MethodName × ByteArray × Nat × Option FieldType := (⟨"TwoSeals", "take", "(I)I"⟩, prog_1_method_5_code, 2, (some .int))
theorem wcmS_take : Cond.code mS_take.1 mS_take.2.1 mS_take.2.2.1 mS_take.2.2.2 ∈ z_TB := z_in2 (i := 129) rfl (by decide +kernel)
def mR_become : MethodName × ByteArray × Nat × Option FieldType := (⟨"TwoSeals$Row", "become", "(LTwoSeals$Row;)V"⟩, prog_4_method_5_code, 2, none)
theorem wcmR_become : Cond.code mR_become.1 mR_become.2.1 mR_become.2.2.1 mR_become.2.2.2 ∈ z_TB := z_in2 (i := 134) rfl (by decide +kernel)
def mL_block : MethodName × ByteArray × Nat × Option FieldType := (⟨"TwoSealsLaw", "block", "(LTwoSeals;)I"⟩, method_7_code, 2, (some .int))
def mS_block : MethodName × ByteArray × Nat × Option FieldType := (⟨"TwoSeals", "block", "()V"⟩, prog_1_method_6_code, 1, none)
theorem wcmS_block : Cond.code mS_block.1 mS_block.2.1 mS_block.2.2.1 mS_block.2.2.2 ∈ z_TB := z_in2 (i := 144) rfl (by decide +kernel)
def mC_useKey : MethodName × ByteArray × Nat × Option FieldType := (⟨"TwoSeals$Cipher", "useKey", "([I)V"⟩, prog_2_method_7_code, 4, none)
theorem wcmC_useKey : Cond.code mC_useKey.1 mC_useKey.2.1 mC_useKey.2.2.1 mC_useKey.2.2.2 ∈ z_TB := z_in2 (i := 149) rfl (by decide +kernel)
def mC_makeBoxedWord : MethodName × ByteArray × Nat × Option FieldType := (⟨"TwoSeals$Cipher", "makeBoxedWord", "(II)V"⟩, prog_2_method_9_code, 4, none)
theorem wcmC_makeBoxedWord : Cond.code mC_makeBoxedWord.1 mC_makeBoxedWord.2.1 mC_makeBoxedWord.2.2.1 mC_makeBoxedWord.2.2.2 ∈ z_TB := z_in2 (i := 154) rfl (by decide +kernel)
def mC_makeWord : MethodName × ByteArray × Nat × Option FieldType := (⟨"TwoSeals$Cipher", "makeWord", "(I)V"⟩, prog_2_method_8_code, 3, none)
theorem wcmC_makeWord : Cond.code mC_makeWord.1 mC_makeWord.2.1 mC_makeWord.2.2.1 mC_makeWord.2.2.2 ∈ z_TB := z_in2 (i := 158) rfl (by decide +kernel)
def mC_encipher : MethodName × ByteArray × Nat × Option FieldType := (⟨"TwoSeals$Cipher", "encipher", "([I[I)V"⟩, prog_2_method_10_code, 4, none)
theorem wcmC_encipher : Cond.code mC_encipher.1 mC_encipher.2.1 mC_encipher.2.2.1 mC_encipher.2.2.2 ∈ z_TB := z_in2 (i := 162) rfl (by decide +kernel)
def mC_addWords : MethodName × ByteArray × Nat × Option FieldType := (⟨"TwoSeals$Cipher", "addWords", "(I)V"⟩, prog_2_method_11_code, 3, none)
theorem wcmC_addWords : Cond.code mC_addWords.1 mC_addWords.2.1 mC_addWords.2.2.1 mC_addWords.2.2.2 ∈ z_TB := z_in2 (i := 166) rfl (by decide +kernel)
def mC_boxAndMove : MethodName × ByteArray × Nat × Option FieldType := (⟨"TwoSeals$Cipher", "boxAndMove", "()V"⟩, prog_2_method_12_code, 3, none)
theorem wcmC_boxAndMove : Cond.code mC_boxAndMove.1 mC_boxAndMove.2.1 mC_boxAndMove.2.2.1 mC_boxAndMove.2.2.2 ∈ z_TB := z_in2 (i := 170) rfl (by decide +kernel)
def mC_mix : MethodName × ByteArray × Nat × Option FieldType := (⟨"TwoSeals$Cipher", "mix", "()V"⟩, prog_2_method_13_code, 3, none)
theorem wcmC_mix : Cond.code mC_mix.1 mC_mix.2.1 mC_mix.2.2.1 mC_mix.2.2.2 ∈ z_TB := z_in2 (i := 174) rfl (by decide +kernel)
def mL_hash : MethodName × ByteArray × Nat × Option FieldType := (⟨"TwoSealsLaw", "hash", "(LTwoSeals;I)I"⟩, method_8_code, 3, (some .int))
def mS_hash : MethodName × ByteArray × Nat × Option FieldType := (⟨"TwoSeals", "hash", "(I)V"⟩, prog_1_method_7_code, 3, none)
theorem wcmS_hash : Cond.code mS_hash.1 mS_hash.2.1 mS_hash.2.2.1 mS_hash.2.2.2 ∈ z_TB := z_in2 (i := 181) rfl (by decide +kernel)
def mS_requireWay : MethodName × ByteArray × Nat × Option FieldType := (⟨"TwoSeals", "requireWay", "(I)V"⟩, prog_1_method_13_code, 1, none)
theorem wcmS_requireWay : Cond.code mS_requireWay.1 mS_requireWay.2.1 mS_requireWay.2.2.1 mS_requireWay.2.2.2 ∈ z_TB := z_in2 (i := 184) rfl (by decide +kernel)
def mH_begin : MethodName × ByteArray × Nat × Option FieldType := (⟨"TwoSeals$Hasher", "begin", "([I)V"⟩, prog_3_method_2_code, 2, none)
theorem wcmH_begin : Cond.code mH_begin.1 mH_begin.2.1 mH_begin.2.2.1 mH_begin.2.2.2 ∈ z_TB := z_in2 (i := 190) rfl (by decide +kernel)
def mH_readHalf : MethodName × ByteArray × Nat × Option FieldType := (⟨"TwoSeals$Hasher", "readHalf", "([III)J"⟩, prog_3_method_8_code, 9, (some .long))
theorem wcmH_readHalf : Cond.code mH_readHalf.1 mH_readHalf.2.1 mH_readHalf.2.2.1 mH_readHalf.2.2.2 ∈ z_TB := z_in2 (i := 194) rfl (by decide +kernel)
def mH_putBesidesIntoKey : MethodName × ByteArray × Nat × Option FieldType := (⟨"TwoSeals$Hasher", "putBesidesIntoKey", "()V"⟩, prog_3_method_3_code, 1, none)
theorem wcmH_putBesidesIntoKey : Cond.code mH_putBesidesIntoKey.1 mH_putBesidesIntoKey.2.1 mH_putBesidesIntoKey.2.2.1 mH_putBesidesIntoKey.2.2.2 ∈ z_TB := z_in2 (i := 198) rfl (by decide +kernel)
def mH_multiplySumByKey : MethodName × ByteArray × Nat × Option FieldType := (⟨"TwoSeals$Hasher", "multiplySumByKey", "()V"⟩, prog_3_method_10_code, 13, none)
theorem wcmH_multiplySumByKey : Cond.code mH_multiplySumByKey.1 mH_multiplySumByKey.2.1 mH_multiplySumByKey.2.2.1 mH_multiplySumByKey.2.2.2 ∈ z_TB := z_in2 (i := 203) rfl (by decide +kernel)
def mH_add : MethodName × ByteArray × Nat × Option FieldType := (⟨"TwoSeals$Hasher", "add", "([II)V"⟩, prog_3_method_4_code, 4, none)
theorem wcmH_add : Cond.code mH_add.1 mH_add.2.1 mH_add.2.2.1 mH_add.2.2.2 ∈ z_TB := z_in2 (i := 207) rfl (by decide +kernel)
def mH_write : MethodName × ByteArray × Nat × Option FieldType := (⟨"TwoSeals$Hasher", "write", "([I)V"⟩, prog_3_method_7_code, 2, none)
theorem wcmH_write : Cond.code mH_write.1 mH_write.2.1 mH_write.2.2.1 mH_write.2.2.2 ∈ z_TB := z_in2 (i := 211) rfl (by decide +kernel)
def mH_writeHalf : MethodName × ByteArray × Nat × Option FieldType := (⟨"TwoSeals$Hasher", "writeHalf", "(J[II)V"⟩, prog_3_method_9_code, 7, none)
theorem wcmH_writeHalf : Cond.code mH_writeHalf.1 mH_writeHalf.2.1 mH_writeHalf.2.2.1 mH_writeHalf.2.2.2 ∈ z_TB := z_in2 (i := 215) rfl (by decide +kernel)
def mL_seal : MethodName × ByteArray × Nat × Option FieldType := (⟨"TwoSealsLaw", "seal", "(LTwoSeals;I[J)I"⟩, method_9_code, 4, (some .int))
def mS_seal : MethodName × ByteArray × Nat × Option FieldType := (⟨"TwoSeals", "seal", "(I)I"⟩, prog_1_method_8_code, 2, (some .int))
theorem wcmS_seal : Cond.code mS_seal.1 mS_seal.2.1 mS_seal.2.2.1 mS_seal.2.2.2 ∈ z_TB := z_in2 (i := 222) rfl (by decide +kernel)
def mS_requireKeyAndNonce : MethodName × ByteArray × Nat × Option FieldType := (⟨"TwoSeals", "requireKeyAndNonce", "(I)V"⟩, prog_1_method_14_code, 2, none)
theorem wcmS_requireKeyAndNonce : Cond.code mS_requireKeyAndNonce.1 mS_requireKeyAndNonce.2.1 mS_requireKeyAndNonce.2.2.1 mS_requireKeyAndNonce.2.2.2 ∈ z_TB := z_in2 (i := 226) rfl (by decide +kernel)
def mO_takesNonceOf : MethodName × ByteArray × Nat × Option FieldType := (⟨"TwoSeals$WayOne", "takesNonceOf", "(I)Z"⟩, prog_6_method_2_code, 2, (some .boolean))
theorem wcmO_takesNonceOf : Cond.code mO_takesNonceOf.1 mO_takesNonceOf.2.1 mO_takesNonceOf.2.2.1 mO_takesNonceOf.2.2.2 ∈ z_TB := z_in2 (i := 232) rfl (by decide +kernel)
def mZ_takesNonceOf : MethodName × ByteArray × Nat × Option FieldType := (⟨"TwoSeals$WayZero", "takesNonceOf", "(I)Z"⟩, prog_7_method_2_code, 2, (some .boolean))
theorem wcmZ_takesNonceOf : Cond.code mZ_takesNonceOf.1 mZ_takesNonceOf.2.1 mZ_takesNonceOf.2.2.1 mZ_takesNonceOf.2.2.2 ∈ z_TB := z_in2 (i := 235) rfl (by decide +kernel)
def mO_useKey : MethodName × ByteArray × Nat × Option FieldType := (⟨"TwoSeals$WayOne", "useKey", "(LTwoSeals$Row;LTwoSeals$Row;)V"⟩, prog_6_method_3_code, 3, none)
theorem wcmO_useKey : Cond.code mO_useKey.1 mO_useKey.2.1 mO_useKey.2.2.1 mO_useKey.2.2.2 ∈ z_TB := z_in3 (i := 3) rfl (by decide +kernel)
def mO_derive : MethodName × ByteArray × Nat × Option FieldType := (⟨"TwoSeals$WayOne", "derive", "(ILTwoSeals$Row;[II)V"⟩, prog_6_method_4_code, 7, none)
theorem wcmO_derive : Cond.code mO_derive.1 mO_derive.2.1 mO_derive.2.2.1 mO_derive.2.2.2 ∈ z_TB := z_in3 (i := 8) rfl (by decide +kernel)
def mZ_useKey : MethodName × ByteArray × Nat × Option FieldType := (⟨"TwoSeals$WayZero", "useKey", "(LTwoSeals$Row;LTwoSeals$Row;)V"⟩, prog_7_method_3_code, 3, none)
theorem wcmZ_useKey : Cond.code mZ_useKey.1 mZ_useKey.2.1 mZ_useKey.2.2.1 mZ_useKey.2.2.2 ∈ z_TB := z_in3 (i := 13) rfl (by decide +kernel)
def mH_addLengths : MethodName × ByteArray × Nat × Option FieldType := (⟨"TwoSeals$Hasher", "addLengths", "(II)V"⟩, prog_3_method_5_code, 3, none)
theorem wcmH_addLengths : Cond.code mH_addLengths.1 mH_addLengths.2.1 mH_addLengths.2.2.1 mH_addLengths.2.2.2 ∈ z_TB := z_in3 (i := 22) rfl (by decide +kernel)
def mH_putLength : MethodName × ByteArray × Nat × Option FieldType := (⟨"TwoSeals$Hasher", "putLength", "(IJ)V"⟩, prog_3_method_6_code, 6, none)
theorem wcmH_putLength : Cond.code mH_putLength.1 mH_putLength.2.1 mH_putLength.2.2.1 mH_putLength.2.2.2 ∈ z_TB := z_in3 (i := 27) rfl (by decide +kernel)
def mO_sealText : MethodName × ByteArray × Nat × Option FieldType := (⟨"TwoSeals$WayOne", "sealText", "([LTwoSeals$Row;LTwoSeals$Row;)V"⟩, prog_6_method_5_code, 4, none)
theorem wcmO_sealText : Cond.code mO_sealText.1 mO_sealText.2.1 mO_sealText.2.2.1 mO_sealText.2.2.2 ∈ z_TB := z_in3 (i := 35) rfl (by decide +kernel)
def mO_makeDue : MethodName × ByteArray × Nat × Option FieldType := (⟨"TwoSeals$WayOne", "makeDue", "([LTwoSeals$Row;[II)V"⟩, prog_6_method_7_code, 5, none)
theorem wcmO_makeDue : Cond.code mO_makeDue.1 mO_makeDue.2.1 mO_makeDue.2.2.1 mO_makeDue.2.2.2 ∈ z_TB := z_in3 (i := 39) rfl (by decide +kernel)
def mW_hashWithAside : MethodName × ByteArray × Nat × Option FieldType := (⟨"TwoSeals$Way", "hashWithAside", "(LTwoSeals$Row;[II)V"⟩, prog_5_method_8_code, 4, none)
theorem wcmW_hashWithAside : Cond.code mW_hashWithAside.1 mW_hashWithAside.2.1 mW_hashWithAside.2.2.1 mW_hashWithAside.2.2.2 ∈ z_TB := z_in3 (i := 45) rfl (by decide +kernel)
def mW_cipherText : MethodName × ByteArray × Nat × Option FieldType := (⟨"TwoSeals$Way", "cipherText", "([II[I)V"⟩, prog_5_method_7_code, 6, none)
theorem wcmW_cipherText : Cond.code mW_cipherText.1 mW_cipherText.2.1 mW_cipherText.2.2.1 mW_cipherText.2.2.2 ∈ z_TB := z_in3 (i := 55) rfl (by decide +kernel)
def mO_count : MethodName × ByteArray × Nat × Option FieldType := (⟨"TwoSeals$WayOne", "count", "(I)V"⟩, prog_6_method_8_code, 4, none)
theorem wcmO_count : Cond.code mO_count.1 mO_count.2.1 mO_count.2.2.1 mO_count.2.2.2 ∈ z_TB := z_in3 (i := 61) rfl (by decide +kernel)
def mZ_count : MethodName × ByteArray × Nat × Option FieldType := (⟨"TwoSeals$WayZero", "count", "(I)V"⟩, prog_7_method_7_code, 4, none)
theorem wcmZ_count : Cond.code mZ_count.1 mZ_count.2.1 mZ_count.2.2.1 mZ_count.2.2.2 ∈ z_TB := z_in3 (i := 64) rfl (by decide +kernel)
def mW_appendDue : MethodName × ByteArray × Nat × Option FieldType := (⟨"TwoSeals$Way", "appendDue", "(LTwoSeals$Row;I)V"⟩, prog_5_method_9_code, 3, none)
theorem wcmW_appendDue : Cond.code mW_appendDue.1 mW_appendDue.2.1 mW_appendDue.2.2.1 mW_appendDue.2.2.2 ∈ z_TB := z_in3 (i := 71) rfl (by decide +kernel)
def mZ_sealText : MethodName × ByteArray × Nat × Option FieldType := (⟨"TwoSeals$WayZero", "sealText", "([LTwoSeals$Row;LTwoSeals$Row;)V"⟩, prog_7_method_4_code, 4, none)
theorem wcmZ_sealText : Cond.code mZ_sealText.1 mZ_sealText.2.1 mZ_sealText.2.2.1 mZ_sealText.2.2.2 ∈ z_TB := z_in3 (i := 75) rfl (by decide +kernel)
def mZ_makeDue : MethodName × ByteArray × Nat × Option FieldType := (⟨"TwoSeals$WayZero", "makeDue", "(LTwoSeals$Row;[II)V"⟩, prog_7_method_6_code, 5, none)
theorem wcmZ_makeDue : Cond.code mZ_makeDue.1 mZ_makeDue.2.1 mZ_makeDue.2.2.1 mZ_makeDue.2.2.2 ∈ z_TB := z_in3 (i := 82) rfl (by decide +kernel)
def mL_open : MethodName × ByteArray × Nat × Option FieldType := (⟨"TwoSealsLaw", "open", "(LTwoSeals;I[J)I"⟩, method_10_code, 4, (some .int))
def mS_open : MethodName × ByteArray × Nat × Option FieldType := (⟨"TwoSeals", "open", "(I)I"⟩, prog_1_method_9_code, 2, (some .int))
theorem wcmS_open : Cond.code mS_open.1 mS_open.2.1 mS_open.2.2.1 mS_open.2.2.2 ∈ z_TB := z_in3 (i := 96) rfl (by decide +kernel)
def mO_openText : MethodName × ByteArray × Nat × Option FieldType := (⟨"TwoSeals$WayOne", "openText", "([LTwoSeals$Row;LTwoSeals$Row;)Z"⟩, prog_6_method_6_code, 4, (some .boolean))
theorem wcmO_openText : Cond.code mO_openText.1 mO_openText.2.1 mO_openText.2.2.1 mO_openText.2.2.2 ∈ z_TB := z_in3 (i := 103) rfl (by decide +kernel)
def mW_endsInDue : MethodName × ByteArray × Nat × Option FieldType := (⟨"TwoSeals$Way", "endsInDue", "(LTwoSeals$Row;)Z"⟩, prog_5_method_10_code, 4, (some .boolean))
theorem wcmW_endsInDue : Cond.code mW_endsInDue.1 mW_endsInDue.2.1 mW_endsInDue.2.2.1 mW_endsInDue.2.2.2 ∈ z_TB := z_in3 (i := 109) rfl (by decide +kernel)
def mZ_openText : MethodName × ByteArray × Nat × Option FieldType := (⟨"TwoSeals$WayZero", "openText", "([LTwoSeals$Row;LTwoSeals$Row;)Z"⟩, prog_7_method_5_code, 4, (some .boolean))
theorem wcmZ_openText : Cond.code mZ_openText.1 mZ_openText.2.1 mZ_openText.2.2.1 mZ_openText.2.2.2 ∈ z_TB := z_in3 (i := 112) rfl (by decide +kernel)
def mL_at : MethodName × ByteArray × Nat × Option FieldType := (⟨"TwoSealsLaw", "at", "(LTwoSeals;I[J)I"⟩, method_11_code, 4, (some .int))
def mS_at : MethodName × ByteArray × Nat × Option FieldType := (⟨"TwoSeals", "at", "(I)I"⟩, prog_1_method_11_code, 2, (some .int))
theorem wcmS_at : Cond.code mS_at.1 mS_at.2.1 mS_at.2.2.1 mS_at.2.2.2 ∈ z_TB := z_in3 (i := 138) rfl (by decide +kernel)
def mM_init : MethodName × ByteArray × Nat × Option FieldType := (⟨"TwoSealsModel", "<init>", "()V"⟩, prog_9_method_1_code, 3, none)
theorem wcmM_init : Cond.code mM_init.1 mM_init.2.1 mM_init.2.2.1 mM_init.2.2.2 ∈ z_TB := z_in3 (i := 144) rfl (by decide +kernel)
def mM_times : MethodName × ByteArray × Nat × Option FieldType := (⟨"TwoSealsModel", "times", "(II)I"⟩, prog_9_method_4_code, 5, (some .int))
theorem wcmM_times : Cond.code mM_times.1 mM_times.2.1 mM_times.2.2.1 mM_times.2.2.2 ∈ z_TB := z_in3 (i := 148) rfl (by decide +kernel)
def mM_doubled : MethodName × ByteArray × Nat × Option FieldType := (⟨"TwoSealsModel", "doubled", "(I)I"⟩, prog_9_method_3_code, 1, (some .int))
theorem wcmM_doubled : Cond.code mM_doubled.1 mM_doubled.2.1 mM_doubled.2.2.1 mM_doubled.2.2.2 ∈ z_TB := z_in3 (i := 151) rfl (by decide +kernel)
def mM_turned : MethodName × ByteArray × Nat × Option FieldType := (⟨"TwoSealsModel", "turned", "(II)I"⟩, prog_9_method_5_code, 2, (some .int))
theorem wcmM_turned : Cond.code mM_turned.1 mM_turned.2.1 mM_turned.2.2.1 mM_turned.2.2.2 ∈ z_TB := z_in3 (i := 154) rfl (by decide +kernel)
def mM_thrown : MethodName × ByteArray × Nat × Option FieldType := (⟨"TwoSealsModel", "thrown", "()I"⟩, prog_9_method_2_code, 1, (some .int))
theorem wcmM_thrown : Cond.code mM_thrown.1 mM_thrown.2.1 mM_thrown.2.2.1 mM_thrown.2.2.2 ∈ z_TB := z_in3 (i := 207) rfl (by decide +kernel)
def mM_type : MethodName × ByteArray × Nat × Option FieldType := (⟨"TwoSealsModel", "type", "(IJI)I"⟩, prog_9_method_22_code, 6, (some .int))
theorem wcmM_type : Cond.code mM_type.1 mM_type.2.1 mM_type.2.2.1 mM_type.2.2.2 ∈ z_TB := z_in3 (i := 211) rfl (by decide +kernel)
def mM_isRow : MethodName × ByteArray × Nat × Option FieldType := (⟨"TwoSealsModel", "isRow", "(I)Z"⟩, prog_9_method_20_code, 1, (some .boolean))
theorem wcmM_isRow : Cond.code mM_isRow.1 mM_isRow.2.1 mM_isRow.2.2.1 mM_isRow.2.2.2 ∈ z_TB := z_in3 (i := 214) rfl (by decide +kernel)
def mM_most : MethodName × ByteArray × Nat × Option FieldType := (⟨"TwoSealsModel", "most", "(I)I"⟩, prog_9_method_21_code, 1, (some .int))
theorem wcmM_most : Cond.code mM_most.1 mM_most.2.1 mM_most.2.2.1 mM_most.2.2.2 ∈ z_TB := z_in3 (i := 217) rfl (by decide +kernel)
def mM_clear : MethodName × ByteArray × Nat × Option FieldType := (⟨"TwoSealsModel", "clear", "(I)I"⟩, prog_9_method_23_code, 3, (some .int))
theorem wcmM_clear : Cond.code mM_clear.1 mM_clear.2.1 mM_clear.2.2.1 mM_clear.2.2.2 ∈ z_TB := z_in3 (i := 222) rfl (by decide +kernel)
def mM_poke : MethodName × ByteArray × Nat × Option FieldType := (⟨"TwoSealsModel", "poke", "(III)V"⟩, prog_9_method_24_code, 4, none)
theorem wcmM_poke : Cond.code mM_poke.1 mM_poke.2.1 mM_poke.2.2.1 mM_poke.2.2.2 ∈ z_TB := z_in3 (i := 226) rfl (by decide +kernel)
def mM_take : MethodName × ByteArray × Nat × Option FieldType := (⟨"TwoSealsModel", "take", "(I)I"⟩, prog_9_method_25_code, 3, (some .int))
theorem wcmM_take : Cond.code mM_take.1 mM_take.2.1 mM_take.2.2.1 mM_take.2.2.2 ∈ z_TB := z_in3 (i := 230) rfl (by decide +kernel)
def mM_block : MethodName × ByteArray × Nat × Option FieldType := (⟨"TwoSealsModel", "block", "()V"⟩, prog_9_method_28_code, 2, none)
theorem wcmM_block : Cond.code mM_block.1 mM_block.2.1 mM_block.2.2.1 mM_block.2.2.2 ∈ z_TB := z_in3 (i := 234) rfl (by decide +kernel)
def mM_useKey : MethodName × ByteArray × Nat × Option FieldType := (⟨"TwoSealsModel", "useKey", "()V"⟩, prog_9_method_26_code, 2, none)
theorem wcmM_useKey : Cond.code mM_useKey.1 mM_useKey.2.1 mM_useKey.2.2.1 mM_useKey.2.2.2 ∈ z_TB := z_in3 (i := 238) rfl (by decide +kernel)
def mM_encipher : MethodName × ByteArray × Nat × Option FieldType := (⟨"TwoSealsModel", "encipher", "()V"⟩, prog_9_method_8_code, 4, none)
theorem wcmM_encipher : Cond.code mM_encipher.1 mM_encipher.2.1 mM_encipher.2.2.1 mM_encipher.2.2.2 ∈ z_TB := z_in4 (i := 2) rfl (by decide +kernel)
def mM_expand : MethodName × ByteArray × Nat × Option FieldType := (⟨"TwoSealsModel", "expand", "()V"⟩, prog_9_method_6_code, 5, none)
theorem wcmM_expand : Cond.code mM_expand.1 mM_expand.2.1 mM_expand.2.2.1 mM_expand.2.2.2 ∈ z_TB := z_in4 (i := 6) rfl (by decide +kernel)
def mM_addWords : MethodName × ByteArray × Nat × Option FieldType := (⟨"TwoSealsModel", "addWords", "(I)V"⟩, prog_9_method_7_code, 3, none)
theorem wcmM_addWords : Cond.code mM_addWords.1 mM_addWords.2.1 mM_addWords.2.2.1 mM_addWords.2.2.2 ∈ z_TB := z_in4 (i := 10) rfl (by decide +kernel)
def mM_mixed : MethodName × ByteArray × Nat × Option FieldType := (⟨"TwoSealsModel", "mixed", "(II)I"⟩, prog_9_method_9_code, 5, (some .int))
theorem wcmM_mixed : Cond.code mM_mixed.1 mM_mixed.2.1 mM_mixed.2.2.1 mM_mixed.2.2.2 ∈ z_TB := z_in4 (i := 14) rfl (by decide +kernel)
def mM_keepBlock : MethodName × ByteArray × Nat × Option FieldType := (⟨"TwoSealsModel", "keepBlock", "()V"⟩, prog_9_method_27_code, 2, none)
theorem wcmM_keepBlock : Cond.code mM_keepBlock.1 mM_keepBlock.2.1 mM_keepBlock.2.2.1 mM_keepBlock.2.2.2 ∈ z_TB := z_in4 (i := 18) rfl (by decide +kernel)
def mM_hash : MethodName × ByteArray × Nat × Option FieldType := (⟨"TwoSealsModel", "hash", "(I)V"⟩, prog_9_method_29_code, 3, none)
theorem wcmM_hash : Cond.code mM_hash.1 mM_hash.2.1 mM_hash.2.2.1 mM_hash.2.2.2 ∈ z_TB := z_in4 (i := 22) rfl (by decide +kernel)
def mM_beginHash : MethodName × ByteArray × Nat × Option FieldType := (⟨"TwoSealsModel", "beginHash", "(I)V"⟩, prog_9_method_15_code, 3, none)
theorem wcmM_beginHash : Cond.code mM_beginHash.1 mM_beginHash.2.1 mM_beginHash.2.2.1 mM_beginHash.2.2.2 ∈ z_TB := z_in4 (i := 26) rfl (by decide +kernel)
def mM_bit : MethodName × ByteArray × Nat × Option FieldType := (⟨"TwoSealsModel", "bit", "(III)I"⟩, prog_9_method_10_code, 3, (some .int))
theorem wcmM_bit : Cond.code mM_bit.1 mM_bit.2.1 mM_bit.2.2.1 mM_bit.2.2.2 ∈ z_TB := z_in4 (i := 29) rfl (by decide +kernel)
def mM_clearProduct : MethodName × ByteArray × Nat × Option FieldType := (⟨"TwoSealsModel", "clearProduct", "()V"⟩, prog_9_method_12_code, 2, none)
theorem wcmM_clearProduct : Cond.code mM_clearProduct.1 mM_clearProduct.2.1 mM_clearProduct.2.2.1 mM_clearProduct.2.2.2 ∈ z_TB := z_in4 (i := 33) rfl (by decide +kernel)
def mM_addShifted : MethodName × ByteArray × Nat × Option FieldType := (⟨"TwoSealsModel", "addShifted", "(I)V"⟩, prog_9_method_14_code, 3, none)
theorem wcmM_addShifted : Cond.code mM_addShifted.1 mM_addShifted.2.1 mM_addShifted.2.2.1 mM_addShifted.2.2.2 ∈ z_TB := z_in4 (i := 37) rfl (by decide +kernel)
def mM_reduce : MethodName × ByteArray × Nat × Option FieldType := (⟨"TwoSealsModel", "reduce", "(I)V"⟩, prog_9_method_11_code, 4, none)
theorem wcmM_reduce : Cond.code mM_reduce.1 mM_reduce.2.1 mM_reduce.2.2.1 mM_reduce.2.2.2 ∈ z_TB := z_in4 (i := 41) rfl (by decide +kernel)
def mM_feedRow : MethodName × ByteArray × Nat × Option FieldType := (⟨"TwoSealsModel", "feedRow", "(III)V"⟩, prog_9_method_17_code, 6, none)
theorem wcmM_feedRow : Cond.code mM_feedRow.1 mM_feedRow.2.1 mM_feedRow.2.2.1 mM_feedRow.2.2.2 ∈ z_TB := z_in4 (i := 45) rfl (by decide +kernel)
def mM_feed : MethodName × ByteArray × Nat × Option FieldType := (⟨"TwoSealsModel", "feed", "(I)V"⟩, prog_9_method_16_code, 3, none)
theorem wcmM_feed : Cond.code mM_feed.1 mM_feed.2.1 mM_feed.2.2.1 mM_feed.2.2.2 ∈ z_TB := z_in4 (i := 49) rfl (by decide +kernel)
def mM_multiply : MethodName × ByteArray × Nat × Option FieldType := (⟨"TwoSealsModel", "multiply", "(I)V"⟩, prog_9_method_13_code, 4, none)
theorem wcmM_multiply : Cond.code mM_multiply.1 mM_multiply.2.1 mM_multiply.2.2.1 mM_multiply.2.2.2 ∈ z_TB := z_in4 (i := 53) rfl (by decide +kernel)
def mM_endHash : MethodName × ByteArray × Nat × Option FieldType := (⟨"TwoSealsModel", "endHash", "(I)V"⟩, prog_9_method_19_code, 3, none)
theorem wcmM_endHash : Cond.code mM_endHash.1 mM_endHash.2.1 mM_endHash.2.2.1 mM_endHash.2.2.2 ∈ z_TB := z_in4 (i := 57) rfl (by decide +kernel)
def mM_seal : MethodName × ByteArray × Nat × Option FieldType := (⟨"TwoSealsModel", "seal", "(I)I"⟩, prog_9_method_40_code, 4, (some .int))
theorem wcmM_seal : Cond.code mM_seal.1 mM_seal.2.1 mM_seal.2.2.1 mM_seal.2.2.2 ∈ z_TB := z_in4 (i := 61) rfl (by decide +kernel)
def mM_isReady : MethodName × ByteArray × Nat × Option FieldType := (⟨"TwoSealsModel", "isReady", "(I)Z"⟩, prog_9_method_30_code, 2, (some .boolean))
theorem wcmM_isReady : Cond.code mM_isReady.1 mM_isReady.2.1 mM_isReady.2.2.1 mM_isReady.2.2.2 ∈ z_TB := z_in4 (i := 65) rfl (by decide +kernel)
def mM_makeStart : MethodName × ByteArray × Nat × Option FieldType := (⟨"TwoSealsModel", "makeStart", "()V"⟩, prog_9_method_32_code, 2, none)
theorem wcmM_makeStart : Cond.code mM_makeStart.1 mM_makeStart.2.1 mM_makeStart.2.2.1 mM_makeStart.2.2.2 ∈ z_TB := z_in4 (i := 69) rfl (by decide +kernel)
def mM_beginOutward : MethodName × ByteArray × Nat × Option FieldType := (⟨"TwoSealsModel", "beginOutward", "()V"⟩, prog_9_method_31_code, 2, none)
theorem wcmM_beginOutward : Cond.code mM_beginOutward.1 mM_beginOutward.2.1 mM_beginOutward.2.2.1 mM_beginOutward.2.2.2 ∈ z_TB := z_in4 (i := 73) rfl (by decide +kernel)
def mM_feedLengths : MethodName × ByteArray × Nat × Option FieldType := (⟨"TwoSealsModel", "feedLengths", "(III)V"⟩, prog_9_method_18_code, 5, none)
theorem wcmM_feedLengths : Cond.code mM_feedLengths.1 mM_feedLengths.2.1 mM_feedLengths.2.2.1 mM_feedLengths.2.2.2 ∈ z_TB := z_in4 (i := 77) rfl (by decide +kernel)
def mM_cipher : MethodName × ByteArray × Nat × Option FieldType := (⟨"TwoSealsModel", "cipher", "(IZ)V"⟩, prog_9_method_34_code, 5, none)
theorem wcmM_cipher : Cond.code mM_cipher.1 mM_cipher.2.1 mM_cipher.2.2.1 mM_cipher.2.2.2 ∈ z_TB := z_in4 (i := 81) rfl (by decide +kernel)
def mM_count : MethodName × ByteArray × Nat × Option FieldType := (⟨"TwoSealsModel", "count", "(IZ)V"⟩, prog_9_method_33_code, 6, none)
theorem wcmM_count : Cond.code mM_count.1 mM_count.2.1 mM_count.2.2.1 mM_count.2.2.2 ∈ z_TB := z_in4 (i := 85) rfl (by decide +kernel)
def mM_sealOutward : MethodName × ByteArray × Nat × Option FieldType := (⟨"TwoSealsModel", "sealOutward", "(II)V"⟩, prog_9_method_35_code, 4, none)
theorem wcmM_sealOutward : Cond.code mM_sealOutward.1 mM_sealOutward.2.1 mM_sealOutward.2.2.1 mM_sealOutward.2.2.2 ∈ z_TB := z_in4 (i := 89) rfl (by decide +kernel)
def mM_deriveKeys : MethodName × ByteArray × Nat × Option FieldType := (⟨"TwoSealsModel", "deriveKeys", "()V"⟩, prog_9_method_37_code, 2, none)
theorem wcmM_deriveKeys : Cond.code mM_deriveKeys.1 mM_deriveKeys.2.1 mM_deriveKeys.2.2.1 mM_deriveKeys.2.2.2 ∈ z_TB := z_in4 (i := 93) rfl (by decide +kernel)
def mM_derive : MethodName × ByteArray × Nat × Option FieldType := (⟨"TwoSealsModel", "derive", "(II)V"⟩, prog_9_method_36_code, 4, none)
theorem wcmM_derive : Cond.code mM_derive.1 mM_derive.2.1 mM_derive.2.2.1 mM_derive.2.2.2 ∈ z_TB := z_in4 (i := 97) rfl (by decide +kernel)
def mM_sealInward : MethodName × ByteArray × Nat × Option FieldType := (⟨"TwoSealsModel", "sealInward", "(II)V"⟩, prog_9_method_38_code, 4, none)
theorem wcmM_sealInward : Cond.code mM_sealInward.1 mM_sealInward.2.1 mM_sealInward.2.2.1 mM_sealInward.2.2.2 ∈ z_TB := z_in4 (i := 101) rfl (by decide +kernel)
def mM_startAtTag : MethodName × ByteArray × Nat × Option FieldType := (⟨"TwoSealsModel", "startAtTag", "()V"⟩, prog_9_method_39_code, 2, none)
theorem wcmM_startAtTag : Cond.code mM_startAtTag.1 mM_startAtTag.2.1 mM_startAtTag.2.2.1 mM_startAtTag.2.2.2 ∈ z_TB := z_in4 (i := 105) rfl (by decide +kernel)
def mM_open : MethodName × ByteArray × Nat × Option FieldType := (⟨"TwoSealsModel", "open", "(I)I"⟩, prog_9_method_41_code, 4, (some .int))
theorem wcmM_open : Cond.code mM_open.1 mM_open.2.1 mM_open.2.2.1 mM_open.2.2.2 ∈ z_TB := z_in4 (i := 109) rfl (by decide +kernel)
def mM_openInward : MethodName × ByteArray × Nat × Option FieldType := (⟨"TwoSealsModel", "openInward", "(I)V"⟩, prog_9_method_42_code, 3, none)
theorem wcmM_openInward : Cond.code mM_openInward.1 mM_openInward.2.1 mM_openInward.2.2.1 mM_openInward.2.2.2 ∈ z_TB := z_in4 (i := 113) rfl (by decide +kernel)
def mM_size : MethodName × ByteArray × Nat × Option FieldType := (⟨"TwoSealsModel", "size", "()I"⟩, prog_9_method_43_code, 1, (some .int))
theorem wcmM_size : Cond.code mM_size.1 mM_size.2.1 mM_size.2.2.1 mM_size.2.2.2 ∈ z_TB := z_in4 (i := 117) rfl (by decide +kernel)
def mM_at : MethodName × ByteArray × Nat × Option FieldType := (⟨"TwoSealsModel", "at", "(I)I"⟩, prog_9_method_44_code, 2, (some .int))
theorem wcmM_at : Cond.code mM_at.1 mM_at.2.1 mM_at.2.2.1 mM_at.2.2.2 ∈ z_TB := z_in4 (i := 121) rfl (by decide +kernel)
theorem wn_L : (Cond.initialized "TwoSealsLaw") ∈ z_TB := z_in1 (i := 0) rfl (by decide +kernel)
theorem wn_S : (Cond.initialized "TwoSeals") ∈ z_TB := z_in1 (i := 1) rfl (by decide +kernel)
theorem wn_R : (Cond.initialized "TwoSeals$Row") ∈ z_TB := z_in1 (i := 2) rfl (by decide +kernel)
theorem wn_C : (Cond.initialized "TwoSeals$Cipher") ∈ z_TB := z_in1 (i := 3) rfl (by decide +kernel)
theorem wn_H : (Cond.initialized "TwoSeals$Hasher") ∈ z_TB := z_in1 (i := 4) rfl (by decide +kernel)
theorem wn_W : (Cond.initialized "TwoSeals$Way") ∈ z_TB := z_in1 (i := 5) rfl (by decide +kernel)
theorem wn_Z : (Cond.initialized "TwoSeals$WayZero") ∈ z_TB := z_in1 (i := 6) rfl (by decide +kernel)
theorem wn_O : (Cond.initialized "TwoSeals$WayOne") ∈ z_TB := z_in1 (i := 7) rfl (by decide +kernel)
theorem wn_M : (Cond.initialized "TwoSealsModel") ∈ z_TB := z_in1 (i := 8) rfl (by decide +kernel)
theorem wn_java_lang_Throwable : (Cond.initialized "java/lang/Throwable") ∈ z_TB := z_in1 (i := 9) rfl (by decide +kernel)
theorem wn_java_lang_Exception : (Cond.initialized "java/lang/Exception") ∈ z_TB := z_in1 (i := 10) rfl (by decide +kernel)
theorem wn_java_lang_RuntimeException : (Cond.initialized "java/lang/RuntimeException") ∈ z_TB := z_in1 (i := 11) rfl (by decide +kernel)
theorem wn_java_lang_IllegalArgumentException : (Cond.initialized "java/lang/IllegalArgumentException") ∈ z_TB := z_in1 (i := 12) rfl (by decide +kernel)
theorem wn_java_lang_IllegalStateException : (Cond.initialized "java/lang/IllegalStateException") ∈ z_TB := z_in1 (i := 13) rfl (by decide +kernel)
theorem wn_java_lang_IndexOutOfBoundsException : (Cond.initialized "java/lang/IndexOutOfBoundsException") ∈ z_TB := z_in1 (i := 14) rfl (by decide +kernel)
theorem wn_java_lang_System : (Cond.initialized "java/lang/System") ∈ z_TB := z_in1 (i := 15) rfl (by decide +kernel)
theorem wn_java_lang_UnsupportedOperationException : (Cond.initialized "java/lang/UnsupportedOperationException") ∈ z_TB := z_in1 (i := 16) rfl (by decide +kernel)
theorem wl_L_48 : (Cond.methodLink "TwoSealsLaw" (48 : Nat) ({ cls := "TwoSeals", name := "<init>", desc := "()V" } : MethodName)) ∈ z_TB := z_in1 (i := 19) rfl (by decide +kernel)
theorem wi_S_init : (Cond.instanceMethod ({ cls := "TwoSeals", name := "<init>", desc := "()V" } : MethodName)) ∈ z_TB := z_in1 (i := 20) rfl (by decide +kernel)
theorem wl_S_1 : (Cond.methodLink "TwoSeals" (1 : Nat) ({ cls := "java/lang/Object", name := "<init>", desc := "()V" } : MethodName)) ∈ z_TB := z_in1 (i := 22) rfl (by decide +kernel)
theorem wl_S_15 : (Cond.methodLink "TwoSeals" (15 : Nat) ({ cls := "TwoSeals$Row", name := "<init>", desc := "(I)V" } : MethodName)) ∈ z_TB := z_in1 (i := 28) rfl (by decide +kernel)
theorem wi_R_init : (Cond.instanceMethod ({ cls := "TwoSeals$Row", name := "<init>", desc := "(I)V" } : MethodName)) ∈ z_TB := z_in1 (i := 29) rfl (by decide +kernel)
theorem wl_R_1 : (Cond.methodLink "TwoSeals$Row" (1 : Nat) ({ cls := "java/lang/Object", name := "<init>", desc := "()V" } : MethodName)) ∈ z_TB := z_in1 (i := 31) rfl (by decide +kernel)
theorem wl_S_27 : (Cond.methodLink "TwoSeals" (27 : Nat) ({ cls := "TwoSeals$Cipher", name := "<init>", desc := "()V" } : MethodName)) ∈ z_TB := z_in1 (i := 50) rfl (by decide +kernel)
theorem wi_C_init : (Cond.instanceMethod ({ cls := "TwoSeals$Cipher", name := "<init>", desc := "()V" } : MethodName)) ∈ z_TB := z_in1 (i := 51) rfl (by decide +kernel)
theorem wl_C_3 : (Cond.methodLink "TwoSeals$Cipher" (3 : Nat) ({ cls := "java/lang/Object", name := "<init>", desc := "()V" } : MethodName)) ∈ z_TB := z_in1 (i := 53) rfl (by decide +kernel)
theorem wl_C_9 : (Cond.methodLink "TwoSeals$Cipher" (9 : Nat) ({ cls := "TwoSeals$Cipher", name := "makeBox", desc := "()[I" } : MethodName)) ∈ z_TB := z_in1 (i := 54) rfl (by decide +kernel)
theorem ws_C_makeBox : (Cond.static ({ cls := "TwoSeals$Cipher", name := "makeBox", desc := "()[I" } : MethodName)) ∈ z_TB := z_in1 (i := 55) rfl (by decide +kernel)
theorem wl_C_28 : (Cond.methodLink "TwoSeals$Cipher" (28 : Nat) ({ cls := "TwoSeals$Cipher", name := "tripled", desc := "(I)I" } : MethodName)) ∈ z_TB := z_in1 (i := 57) rfl (by decide +kernel)
theorem ws_C_tripled : (Cond.static ({ cls := "TwoSeals$Cipher", name := "tripled", desc := "(I)I" } : MethodName)) ∈ z_TB := z_in1 (i := 58) rfl (by decide +kernel)
theorem wl_C_39 : (Cond.methodLink "TwoSeals$Cipher" (39 : Nat) ({ cls := "TwoSeals$Cipher", name := "doubled", desc := "(I)I" } : MethodName)) ∈ z_TB := z_in1 (i := 60) rfl (by decide +kernel)
theorem ws_C_doubled : (Cond.static ({ cls := "TwoSeals$Cipher", name := "doubled", desc := "(I)I" } : MethodName)) ∈ z_TB := z_in1 (i := 61) rfl (by decide +kernel)
theorem wl_C_32 : (Cond.methodLink "TwoSeals$Cipher" (32 : Nat) ({ cls := "TwoSeals$Cipher", name := "spread", desc := "(I)I" } : MethodName)) ∈ z_TB := z_in1 (i := 63) rfl (by decide +kernel)
theorem ws_C_spread : (Cond.static ({ cls := "TwoSeals$Cipher", name := "spread", desc := "(I)I" } : MethodName)) ∈ z_TB := z_in1 (i := 64) rfl (by decide +kernel)
theorem wl_C_35 : (Cond.methodLink "TwoSeals$Cipher" (35 : Nat) ({ cls := "TwoSeals$Cipher", name := "turned", desc := "(II)I" } : MethodName)) ∈ z_TB := z_in1 (i := 66) rfl (by decide +kernel)
theorem ws_C_turned : (Cond.static ({ cls := "TwoSeals$Cipher", name := "turned", desc := "(II)I" } : MethodName)) ∈ z_TB := z_in1 (i := 67) rfl (by decide +kernel)
theorem wl_S_38 : (Cond.methodLink "TwoSeals" (38 : Nat) ({ cls := "TwoSeals$Hasher", name := "<init>", desc := "(Z)V" } : MethodName)) ∈ z_TB := z_in1 (i := 85) rfl (by decide +kernel)
theorem wi_H_init : (Cond.instanceMethod ({ cls := "TwoSeals$Hasher", name := "<init>", desc := "(Z)V" } : MethodName)) ∈ z_TB := z_in1 (i := 86) rfl (by decide +kernel)
theorem wl_H_3 : (Cond.methodLink "TwoSeals$Hasher" (3 : Nat) ({ cls := "java/lang/Object", name := "<init>", desc := "()V" } : MethodName)) ∈ z_TB := z_in1 (i := 88) rfl (by decide +kernel)
theorem wk_H_19 : (Cond.constantLong "TwoSeals$Hasher" (19 : Nat) (-4467570830351532032 : Int64)) ∈ z_TB := z_in1 (i := 89) rfl (by decide +kernel)
theorem wk_H_25 : (Cond.constantLong "TwoSeals$Hasher" (25 : Nat) (135 : Int64)) ∈ z_TB := z_in1 (i := 90) rfl (by decide +kernel)
theorem wl_S_49 : (Cond.methodLink "TwoSeals" (49 : Nat) ({ cls := "TwoSeals$WayZero", name := "<init>", desc := "(LTwoSeals$Cipher;LTwoSeals$Hasher;)V" } : MethodName)) ∈ z_TB := z_in1 (i := 123) rfl (by decide +kernel)
theorem wi_Z_init : (Cond.instanceMethod ({ cls := "TwoSeals$WayZero", name := "<init>", desc := "(LTwoSeals$Cipher;LTwoSeals$Hasher;)V" } : MethodName)) ∈ z_TB := z_in1 (i := 124) rfl (by decide +kernel)
theorem wl_Z_3 : (Cond.methodLink "TwoSeals$WayZero" (3 : Nat) ({ cls := "TwoSeals$Way", name := "<init>", desc := "(LTwoSeals$Cipher;LTwoSeals$Hasher;)V" } : MethodName)) ∈ z_TB := z_in1 (i := 126) rfl (by decide +kernel)
theorem wi_W_init : (Cond.instanceMethod ({ cls := "TwoSeals$Way", name := "<init>", desc := "(LTwoSeals$Cipher;LTwoSeals$Hasher;)V" } : MethodName)) ∈ z_TB := z_in1 (i := 127) rfl (by decide +kernel)
theorem wl_W_3 : (Cond.methodLink "TwoSeals$Way" (3 : Nat) ({ cls := "java/lang/Object", name := "<init>", desc := "()V" } : MethodName)) ∈ z_TB := z_in1 (i := 129) rfl (by decide +kernel)
theorem wq_O_W_cipher : (Cond.sameField "TwoSeals$WayOne" "TwoSeals$Way" "cipher" "LTwoSeals$Cipher;") ∈ z_TB := z_in1 (i := 133) rfl (by decide +kernel)
theorem wq_Z_W_cipher : (Cond.sameField "TwoSeals$WayZero" "TwoSeals$Way" "cipher" "LTwoSeals$Cipher;") ∈ z_TB := z_in1 (i := 135) rfl (by decide +kernel)
theorem wq_Z_W_hasher : (Cond.sameField "TwoSeals$WayZero" "TwoSeals$Way" "hasher" "LTwoSeals$Hasher;") ∈ z_TB := z_in1 (i := 138) rfl (by decide +kernel)
theorem wq_O_W_hashKey : (Cond.sameField "TwoSeals$WayOne" "TwoSeals$Way" "hashKey" "[I") ∈ z_TB := z_in1 (i := 141) rfl (by decide +kernel)
theorem wq_Z_W_hashKey : (Cond.sameField "TwoSeals$WayZero" "TwoSeals$Way" "hashKey" "[I") ∈ z_TB := z_in1 (i := 143) rfl (by decide +kernel)
theorem wq_Z_W_start : (Cond.sameField "TwoSeals$WayZero" "TwoSeals$Way" "start" "[I") ∈ z_TB := z_in1 (i := 146) rfl (by decide +kernel)
theorem wq_O_W_start : (Cond.sameField "TwoSeals$WayOne" "TwoSeals$Way" "start" "[I") ∈ z_TB := z_in1 (i := 148) rfl (by decide +kernel)
theorem wq_O_W_counted : (Cond.sameField "TwoSeals$WayOne" "TwoSeals$Way" "counted" "[I") ∈ z_TB := z_in1 (i := 151) rfl (by decide +kernel)
theorem wq_Z_W_counted : (Cond.sameField "TwoSeals$WayZero" "TwoSeals$Way" "counted" "[I") ∈ z_TB := z_in1 (i := 153) rfl (by decide +kernel)
theorem wq_O_W_enciphered : (Cond.sameField "TwoSeals$WayOne" "TwoSeals$Way" "enciphered" "[I") ∈ z_TB := z_in1 (i := 156) rfl (by decide +kernel)
theorem wq_Z_W_enciphered : (Cond.sameField "TwoSeals$WayZero" "TwoSeals$Way" "enciphered" "[I") ∈ z_TB := z_in1 (i := 158) rfl (by decide +kernel)
theorem wq_O_W_due : (Cond.sameField "TwoSeals$WayOne" "TwoSeals$Way" "due" "[I") ∈ z_TB := z_in1 (i := 161) rfl (by decide +kernel)
theorem wq_Z_W_due : (Cond.sameField "TwoSeals$WayZero" "TwoSeals$Way" "due" "[I") ∈ z_TB := z_in1 (i := 163) rfl (by decide +kernel)
theorem wl_S_54 : (Cond.methodLink "TwoSeals" (54 : Nat) ({ cls := "TwoSeals$WayOne", name := "<init>", desc := "(LTwoSeals$Cipher;LTwoSeals$Hasher;)V" } : MethodName)) ∈ z_TB := z_in1 (i := 183) rfl (by decide +kernel)
theorem wi_O_init : (Cond.instanceMethod ({ cls := "TwoSeals$WayOne", name := "<init>", desc := "(LTwoSeals$Cipher;LTwoSeals$Hasher;)V" } : MethodName)) ∈ z_TB := z_in1 (i := 184) rfl (by decide +kernel)
theorem wl_O_3 : (Cond.methodLink "TwoSeals$WayOne" (3 : Nat) ({ cls := "TwoSeals$Way", name := "<init>", desc := "(LTwoSeals$Cipher;LTwoSeals$Hasher;)V" } : MethodName)) ∈ z_TB := z_in1 (i := 186) rfl (by decide +kernel)
theorem wl_L_89 : (Cond.methodLink "TwoSealsLaw" (89 : Nat) ({ cls := "TwoSeals", name := "size", desc := "()I" } : MethodName)) ∈ z_TB := z_in1 (i := 217) rfl (by decide +kernel)
theorem wi_S_size : (Cond.instanceMethod ({ cls := "TwoSeals", name := "size", desc := "()I" } : MethodName)) ∈ z_TB := z_in1 (i := 218) rfl (by decide +kernel)
theorem wv_S_S_size : (Cond.selects "TwoSeals" ({ cls := "TwoSeals", name := "size", desc := "()I" } : MethodName) ({ cls := "TwoSeals", name := "size", desc := "()I" } : MethodName)) ∈ z_TB := z_in1 (i := 219) rfl (by decide +kernel)
theorem wl_L_54 : (Cond.methodLink "TwoSealsLaw" (54 : Nat) ({ cls := "TwoSealsLaw", name := "type", desc := "(LTwoSeals;IJI[J)I" } : MethodName)) ∈ z_TB := z_in1 (i := 221) rfl (by decide +kernel)
theorem ws_L_type : (Cond.static ({ cls := "TwoSealsLaw", name := "type", desc := "(LTwoSeals;IJI[J)I" } : MethodName)) ∈ z_TB := z_in1 (i := 222) rfl (by decide +kernel)
theorem wl_L_7 : (Cond.methodLink "TwoSealsLaw" (7 : Nat) ({ cls := "TwoSeals", name := "type", desc := "(IJI)I" } : MethodName)) ∈ z_TB := z_in1 (i := 226) rfl (by decide +kernel)
theorem wi_S_type : (Cond.instanceMethod ({ cls := "TwoSeals", name := "type", desc := "(IJI)I" } : MethodName)) ∈ z_TB := z_in1 (i := 227) rfl (by decide +kernel)
theorem wv_S_S_type : (Cond.selects "TwoSeals" ({ cls := "TwoSeals", name := "type", desc := "(IJI)I" } : MethodName) ({ cls := "TwoSeals", name := "type", desc := "(IJI)I" } : MethodName)) ∈ z_TB := z_in1 (i := 228) rfl (by decide +kernel)
theorem wl_S_55 : (Cond.methodLink "TwoSeals" (55 : Nat) ({ cls := "TwoSeals", name := "requireRow", desc := "(I)V" } : MethodName)) ∈ z_TB := z_in1 (i := 230) rfl (by decide +kernel)
theorem ws_S_requireRow : (Cond.static ({ cls := "TwoSeals", name := "requireRow", desc := "(I)V" } : MethodName)) ∈ z_TB := z_in1 (i := 231) rfl (by decide +kernel)
theorem wv_java_lang_IllegalArgumentException_javalangThrowable_fillInStackTrace : (Cond.selects "java/lang/IllegalArgumentException" ({ cls := "java/lang/Throwable", name := "fillInStackTrace", desc := "(I)Ljava/lang/Throwable;" } : MethodName) ({ cls := "java/lang/Throwable", name := "fillInStackTrace", desc := "(I)Ljava/lang/Throwable;" } : MethodName)) ∈ z_TB := z_in2 (i := 2) rfl (by decide +kernel)
theorem wl_java_lang_Throwable_1 : (Cond.methodLink "java/lang/Throwable" (1 : Nat) ({ cls := "java/lang/Object", name := "<init>", desc := "()V" } : MethodName)) ∈ z_TB := z_in2 (i := 18) rfl (by decide +kernel)
theorem wl_java_lang_Throwable_27 : (Cond.methodLink "java/lang/Throwable" (27 : Nat) ({ cls := "java/lang/Throwable", name := "fillInStackTrace", desc := "()Ljava/lang/Throwable;" } : MethodName)) ∈ z_TB := z_in2 (i := 23) rfl (by decide +kernel)
theorem wm_java_lang_Throwable_java_lang_Throwable_fillInStackTrace : (Cond.sameMethod "java/lang/Throwable" "java/lang/Throwable" "fillInStackTrace" "()Ljava/lang/Throwable;") ∈ z_TB := z_in2 (i := 25) rfl (by decide +kernel)
theorem wv_java_lang_IllegalStateException_javalangThrowable_fillInStackTrace : (Cond.selects "java/lang/IllegalStateException" ({ cls := "java/lang/Throwable", name := "fillInStackTrace", desc := "()Ljava/lang/Throwable;" } : MethodName) ({ cls := "java/lang/Throwable", name := "fillInStackTrace", desc := "()Ljava/lang/Throwable;" } : MethodName)) ∈ z_TB := z_in2 (i := 26) rfl (by decide +kernel)
theorem wv_java_lang_IndexOutOfBoundsException_javalangThrowable_fillInStackTrace : (Cond.selects "java/lang/IndexOutOfBoundsException" ({ cls := "java/lang/Throwable", name := "fillInStackTrace", desc := "()Ljava/lang/Throwable;" } : MethodName) ({ cls := "java/lang/Throwable", name := "fillInStackTrace", desc := "()Ljava/lang/Throwable;" } : MethodName)) ∈ z_TB := z_in2 (i := 27) rfl (by decide +kernel)
theorem wv_java_lang_UnsupportedOperationException_javalangThrowable_fillInStackTrace : (Cond.selects "java/lang/UnsupportedOperationException" ({ cls := "java/lang/Throwable", name := "fillInStackTrace", desc := "()Ljava/lang/Throwable;" } : MethodName) ({ cls := "java/lang/Throwable", name := "fillInStackTrace", desc := "()Ljava/lang/Throwable;" } : MethodName)) ∈ z_TB := z_in2 (i := 28) rfl (by decide +kernel)
theorem wl_java_lang_Throwable_202 : (Cond.methodLink "java/lang/Throwable" (202 : Nat) ({ cls := "java/lang/Throwable", name := "fillInStackTrace", desc := "(I)Ljava/lang/Throwable;" } : MethodName)) ∈ z_TB := z_in2 (i := 30) rfl (by decide +kernel)
theorem wl_S_62 : (Cond.methodLink "TwoSeals" (62 : Nat) ({ cls := "java/lang/IllegalArgumentException", name := "<init>", desc := "(Ljava/lang/String;)V" } : MethodName)) ∈ z_TB := z_in2 (i := 36) rfl (by decide +kernel)
theorem wl_java_lang_IllegalArgumentException_7 : (Cond.methodLink "java/lang/IllegalArgumentException" (7 : Nat) ({ cls := "java/lang/RuntimeException", name := "<init>", desc := "(Ljava/lang/String;)V" } : MethodName)) ∈ z_TB := z_in2 (i := 39) rfl (by decide +kernel)
theorem wl_java_lang_RuntimeException_7 : (Cond.methodLink "java/lang/RuntimeException" (7 : Nat) ({ cls := "java/lang/Exception", name := "<init>", desc := "(Ljava/lang/String;)V" } : MethodName)) ∈ z_TB := z_in2 (i := 42) rfl (by decide +kernel)
theorem wl_java_lang_Exception_7 : (Cond.methodLink "java/lang/Exception" (7 : Nat) ({ cls := "java/lang/Throwable", name := "<init>", desc := "(Ljava/lang/String;)V" } : MethodName)) ∈ z_TB := z_in2 (i := 45) rfl (by decide +kernel)
theorem wl_S_69 : (Cond.methodLink "TwoSeals" (69 : Nat) ({ cls := "TwoSeals$Row", name := "hasRoomFor", desc := "(I)Z" } : MethodName)) ∈ z_TB := z_in2 (i := 63) rfl (by decide +kernel)
theorem wi_R_hasRoomFor : (Cond.instanceMethod ({ cls := "TwoSeals$Row", name := "hasRoomFor", desc := "(I)Z" } : MethodName)) ∈ z_TB := z_in2 (i := 64) rfl (by decide +kernel)
theorem wv_R_R_hasRoomFor : (Cond.selects "TwoSeals$Row" ({ cls := "TwoSeals$Row", name := "hasRoomFor", desc := "(I)Z" } : MethodName) ({ cls := "TwoSeals$Row", name := "hasRoomFor", desc := "(I)Z" } : MethodName)) ∈ z_TB := z_in2 (i := 65) rfl (by decide +kernel)
theorem wl_S_77 : (Cond.methodLink "TwoSeals" (77 : Nat) ({ cls := "java/lang/IllegalStateException", name := "<init>", desc := "(Ljava/lang/String;)V" } : MethodName)) ∈ z_TB := z_in2 (i := 77) rfl (by decide +kernel)
theorem wl_java_lang_IllegalStateException_7 : (Cond.methodLink "java/lang/IllegalStateException" (7 : Nat) ({ cls := "java/lang/RuntimeException", name := "<init>", desc := "(Ljava/lang/String;)V" } : MethodName)) ∈ z_TB := z_in2 (i := 80) rfl (by decide +kernel)
theorem wl_S_78 : (Cond.methodLink "TwoSeals" (78 : Nat) ({ cls := "TwoSeals$Row", name := "append", desc := "(I)V" } : MethodName)) ∈ z_TB := z_in2 (i := 83) rfl (by decide +kernel)
theorem wi_R_append : (Cond.instanceMethod ({ cls := "TwoSeals$Row", name := "append", desc := "(I)V" } : MethodName)) ∈ z_TB := z_in2 (i := 84) rfl (by decide +kernel)
theorem wv_R_R_append : (Cond.selects "TwoSeals$Row" ({ cls := "TwoSeals$Row", name := "append", desc := "(I)V" } : MethodName) ({ cls := "TwoSeals$Row", name := "append", desc := "(I)V" } : MethodName)) ∈ z_TB := z_in2 (i := 85) rfl (by decide +kernel)
theorem wl_L_64 : (Cond.methodLink "TwoSealsLaw" (64 : Nat) ({ cls := "TwoSealsLaw", name := "clear", desc := "(LTwoSeals;I[J)I" } : MethodName)) ∈ z_TB := z_in2 (i := 87) rfl (by decide +kernel)
theorem ws_L_clear : (Cond.static ({ cls := "TwoSealsLaw", name := "clear", desc := "(LTwoSeals;I[J)I" } : MethodName)) ∈ z_TB := z_in2 (i := 88) rfl (by decide +kernel)
theorem wl_L_17 : (Cond.methodLink "TwoSealsLaw" (17 : Nat) ({ cls := "TwoSeals", name := "clear", desc := "(I)I" } : MethodName)) ∈ z_TB := z_in2 (i := 90) rfl (by decide +kernel)
theorem wi_S_clear : (Cond.instanceMethod ({ cls := "TwoSeals", name := "clear", desc := "(I)I" } : MethodName)) ∈ z_TB := z_in2 (i := 91) rfl (by decide +kernel)
theorem wv_S_S_clear : (Cond.selects "TwoSeals" ({ cls := "TwoSeals", name := "clear", desc := "(I)I" } : MethodName) ({ cls := "TwoSeals", name := "clear", desc := "(I)I" } : MethodName)) ∈ z_TB := z_in2 (i := 92) rfl (by decide +kernel)
theorem wl_L_68 : (Cond.methodLink "TwoSealsLaw" (68 : Nat) ({ cls := "TwoSealsLaw", name := "poke", desc := "(LTwoSeals;III)I" } : MethodName)) ∈ z_TB := z_in2 (i := 94) rfl (by decide +kernel)
theorem ws_L_poke : (Cond.static ({ cls := "TwoSealsLaw", name := "poke", desc := "(LTwoSeals;III)I" } : MethodName)) ∈ z_TB := z_in2 (i := 95) rfl (by decide +kernel)
theorem wl_L_21 : (Cond.methodLink "TwoSealsLaw" (21 : Nat) ({ cls := "TwoSeals", name := "poke", desc := "(III)V" } : MethodName)) ∈ z_TB := z_in2 (i := 98) rfl (by decide +kernel)
theorem wi_S_poke : (Cond.instanceMethod ({ cls := "TwoSeals", name := "poke", desc := "(III)V" } : MethodName)) ∈ z_TB := z_in2 (i := 99) rfl (by decide +kernel)
theorem wv_S_S_poke : (Cond.selects "TwoSeals" ({ cls := "TwoSeals", name := "poke", desc := "(III)V" } : MethodName) ({ cls := "TwoSeals", name := "poke", desc := "(III)V" } : MethodName)) ∈ z_TB := z_in2 (i := 100) rfl (by decide +kernel)
theorem wl_S_83 : (Cond.methodLink "TwoSeals" (83 : Nat) ({ cls := "TwoSeals$Row", name := "has", desc := "(I)Z" } : MethodName)) ∈ z_TB := z_in2 (i := 103) rfl (by decide +kernel)
theorem wi_R_has : (Cond.instanceMethod ({ cls := "TwoSeals$Row", name := "has", desc := "(I)Z" } : MethodName)) ∈ z_TB := z_in2 (i := 104) rfl (by decide +kernel)
theorem wv_R_R_has : (Cond.selects "TwoSeals$Row" ({ cls := "TwoSeals$Row", name := "has", desc := "(I)Z" } : MethodName) ({ cls := "TwoSeals$Row", name := "has", desc := "(I)Z" } : MethodName)) ∈ z_TB := z_in2 (i := 105) rfl (by decide +kernel)
theorem wl_S_90 : (Cond.methodLink "TwoSeals" (90 : Nat) ({ cls := "java/lang/IndexOutOfBoundsException", name := "<init>", desc := "(Ljava/lang/String;)V" } : MethodName)) ∈ z_TB := z_in2 (i := 117) rfl (by decide +kernel)
theorem wl_java_lang_IndexOutOfBoundsException_7 : (Cond.methodLink "java/lang/IndexOutOfBoundsException" (7 : Nat) ({ cls := "java/lang/RuntimeException", name := "<init>", desc := "(Ljava/lang/String;)V" } : MethodName)) ∈ z_TB := z_in2 (i := 120) rfl (by decide +kernel)
theorem wl_L_72 : (Cond.methodLink "TwoSealsLaw" (72 : Nat) ({ cls := "TwoSealsLaw", name := "take", desc := "(LTwoSeals;I[J)I" } : MethodName)) ∈ z_TB := z_in2 (i := 123) rfl (by decide +kernel)
theorem ws_L_take : (Cond.static ({ cls := "TwoSealsLaw", name := "take", desc := "(LTwoSeals;I[J)I" } : MethodName)) ∈ z_TB := z_in2 (i := 124) rfl (by decide +kernel)
theorem wl_L_27 : (Cond.methodLink "TwoSealsLaw" (27 : Nat) ({ cls := "TwoSeals", name := "take", desc := "(I)I" } : MethodName)) ∈ z_TB := z_in2 (i := 126) rfl (by decide +kernel)
theorem wi_S_take : (Cond.instanceMethod ({ cls := "TwoSeals", name := "take", desc := "(I)I" } : MethodName)) ∈ z_TB := z_in2 (i := 127) rfl (by decide +kernel)
theorem wv_S_S_take : (Cond.selects "TwoSeals" ({ cls := "TwoSeals", name := "take", desc := "(I)I" } : MethodName) ({ cls := "TwoSeals", name := "take", desc := "(I)I" } : MethodName)) ∈ z_TB := z_in2 (i := 128) rfl (by decide +kernel)
theorem wl_S_97 : (Cond.methodLink "TwoSeals" (97 : Nat) ({ cls := "TwoSeals$Row", name := "become", desc := "(LTwoSeals$Row;)V" } : MethodName)) ∈ z_TB := z_in2 (i := 131) rfl (by decide +kernel)
theorem wi_R_become : (Cond.instanceMethod ({ cls := "TwoSeals$Row", name := "become", desc := "(LTwoSeals$Row;)V" } : MethodName)) ∈ z_TB := z_in2 (i := 132) rfl (by decide +kernel)
theorem wv_R_R_become : (Cond.selects "TwoSeals$Row" ({ cls := "TwoSeals$Row", name := "become", desc := "(LTwoSeals$Row;)V" } : MethodName) ({ cls := "TwoSeals$Row", name := "become", desc := "(LTwoSeals$Row;)V" } : MethodName)) ∈ z_TB := z_in2 (i := 133) rfl (by decide +kernel)
theorem wl_R_17 : (Cond.methodLink "TwoSeals$Row" (17 : Nat) ({ cls := "java/lang/System", name := "arraycopy", desc := "(Ljava/lang/Object;ILjava/lang/Object;II)V" } : MethodName)) ∈ z_TB := z_in2 (i := 135) rfl (by decide +kernel)
theorem ws_arraycopy : (Cond.static ({ cls := "java/lang/System", name := "arraycopy", desc := "(Ljava/lang/Object;ILjava/lang/Object;II)V" } : MethodName)) ∈ z_TB := z_in2 (i := 136) rfl (by decide +kernel)
theorem wt_arraycopy : (Cond.native ({ cls := "java/lang/System", name := "arraycopy", desc := "(Ljava/lang/Object;ILjava/lang/Object;II)V" } : MethodName)) ∈ z_TB := z_in2 (i := 137) rfl (by decide +kernel)
theorem wl_L_75 : (Cond.methodLink "TwoSealsLaw" (75 : Nat) ({ cls := "TwoSealsLaw", name := "block", desc := "(LTwoSeals;)I" } : MethodName)) ∈ z_TB := z_in2 (i := 138) rfl (by decide +kernel)
theorem ws_L_block : (Cond.static ({ cls := "TwoSealsLaw", name := "block", desc := "(LTwoSeals;)I" } : MethodName)) ∈ z_TB := z_in2 (i := 139) rfl (by decide +kernel)
theorem wl_L_30 : (Cond.methodLink "TwoSealsLaw" (30 : Nat) ({ cls := "TwoSeals", name := "block", desc := "()V" } : MethodName)) ∈ z_TB := z_in2 (i := 141) rfl (by decide +kernel)
theorem wi_S_block : (Cond.instanceMethod ({ cls := "TwoSeals", name := "block", desc := "()V" } : MethodName)) ∈ z_TB := z_in2 (i := 142) rfl (by decide +kernel)
theorem wv_S_S_block : (Cond.selects "TwoSeals" ({ cls := "TwoSeals", name := "block", desc := "()V" } : MethodName) ({ cls := "TwoSeals", name := "block", desc := "()V" } : MethodName)) ∈ z_TB := z_in2 (i := 143) rfl (by decide +kernel)
theorem wl_S_103 : (Cond.methodLink "TwoSeals" (103 : Nat) ({ cls := "TwoSeals$Cipher", name := "useKey", desc := "([I)V" } : MethodName)) ∈ z_TB := z_in2 (i := 146) rfl (by decide +kernel)
theorem wi_C_useKey : (Cond.instanceMethod ({ cls := "TwoSeals$Cipher", name := "useKey", desc := "([I)V" } : MethodName)) ∈ z_TB := z_in2 (i := 147) rfl (by decide +kernel)
theorem wv_C_C_useKey : (Cond.selects "TwoSeals$Cipher" ({ cls := "TwoSeals$Cipher", name := "useKey", desc := "([I)V" } : MethodName) ({ cls := "TwoSeals$Cipher", name := "useKey", desc := "([I)V" } : MethodName)) ∈ z_TB := z_in2 (i := 148) rfl (by decide +kernel)
theorem wl_C_42 : (Cond.methodLink "TwoSeals$Cipher" (42 : Nat) ({ cls := "java/lang/System", name := "arraycopy", desc := "(Ljava/lang/Object;ILjava/lang/Object;II)V" } : MethodName)) ∈ z_TB := z_in2 (i := 150) rfl (by decide +kernel)
theorem wl_C_48 : (Cond.methodLink "TwoSeals$Cipher" (48 : Nat) ({ cls := "TwoSeals$Cipher", name := "makeBoxedWord", desc := "(II)V" } : MethodName)) ∈ z_TB := z_in2 (i := 151) rfl (by decide +kernel)
theorem wi_C_makeBoxedWord : (Cond.instanceMethod ({ cls := "TwoSeals$Cipher", name := "makeBoxedWord", desc := "(II)V" } : MethodName)) ∈ z_TB := z_in2 (i := 153) rfl (by decide +kernel)
theorem wl_C_52 : (Cond.methodLink "TwoSeals$Cipher" (52 : Nat) ({ cls := "TwoSeals$Cipher", name := "makeWord", desc := "(I)V" } : MethodName)) ∈ z_TB := z_in2 (i := 155) rfl (by decide +kernel)
theorem wi_C_makeWord : (Cond.instanceMethod ({ cls := "TwoSeals$Cipher", name := "makeWord", desc := "(I)V" } : MethodName)) ∈ z_TB := z_in2 (i := 157) rfl (by decide +kernel)
theorem wl_S_107 : (Cond.methodLink "TwoSeals" (107 : Nat) ({ cls := "TwoSeals$Cipher", name := "encipher", desc := "([I[I)V" } : MethodName)) ∈ z_TB := z_in2 (i := 159) rfl (by decide +kernel)
theorem wi_C_encipher : (Cond.instanceMethod ({ cls := "TwoSeals$Cipher", name := "encipher", desc := "([I[I)V" } : MethodName)) ∈ z_TB := z_in2 (i := 160) rfl (by decide +kernel)
theorem wv_C_C_encipher : (Cond.selects "TwoSeals$Cipher" ({ cls := "TwoSeals$Cipher", name := "encipher", desc := "([I[I)V" } : MethodName) ({ cls := "TwoSeals$Cipher", name := "encipher", desc := "([I[I)V" } : MethodName)) ∈ z_TB := z_in2 (i := 161) rfl (by decide +kernel)
theorem wl_C_56 : (Cond.methodLink "TwoSeals$Cipher" (56 : Nat) ({ cls := "TwoSeals$Cipher", name := "addWords", desc := "(I)V" } : MethodName)) ∈ z_TB := z_in2 (i := 163) rfl (by decide +kernel)
theorem wi_C_addWords : (Cond.instanceMethod ({ cls := "TwoSeals$Cipher", name := "addWords", desc := "(I)V" } : MethodName)) ∈ z_TB := z_in2 (i := 165) rfl (by decide +kernel)
theorem wl_C_59 : (Cond.methodLink "TwoSeals$Cipher" (59 : Nat) ({ cls := "TwoSeals$Cipher", name := "boxAndMove", desc := "()V" } : MethodName)) ∈ z_TB := z_in2 (i := 167) rfl (by decide +kernel)
theorem wi_C_boxAndMove : (Cond.instanceMethod ({ cls := "TwoSeals$Cipher", name := "boxAndMove", desc := "()V" } : MethodName)) ∈ z_TB := z_in2 (i := 169) rfl (by decide +kernel)
theorem wl_C_62 : (Cond.methodLink "TwoSeals$Cipher" (62 : Nat) ({ cls := "TwoSeals$Cipher", name := "mix", desc := "()V" } : MethodName)) ∈ z_TB := z_in2 (i := 171) rfl (by decide +kernel)
theorem wi_C_mix : (Cond.instanceMethod ({ cls := "TwoSeals$Cipher", name := "mix", desc := "()V" } : MethodName)) ∈ z_TB := z_in2 (i := 173) rfl (by decide +kernel)
theorem wl_L_79 : (Cond.methodLink "TwoSealsLaw" (79 : Nat) ({ cls := "TwoSealsLaw", name := "hash", desc := "(LTwoSeals;I)I" } : MethodName)) ∈ z_TB := z_in2 (i := 175) rfl (by decide +kernel)
theorem ws_L_hash : (Cond.static ({ cls := "TwoSealsLaw", name := "hash", desc := "(LTwoSeals;I)I" } : MethodName)) ∈ z_TB := z_in2 (i := 176) rfl (by decide +kernel)
theorem wl_L_33 : (Cond.methodLink "TwoSealsLaw" (33 : Nat) ({ cls := "TwoSeals", name := "hash", desc := "(I)V" } : MethodName)) ∈ z_TB := z_in2 (i := 178) rfl (by decide +kernel)
theorem wi_S_hash : (Cond.instanceMethod ({ cls := "TwoSeals", name := "hash", desc := "(I)V" } : MethodName)) ∈ z_TB := z_in2 (i := 179) rfl (by decide +kernel)
theorem wv_S_S_hash : (Cond.selects "TwoSeals" ({ cls := "TwoSeals", name := "hash", desc := "(I)V" } : MethodName) ({ cls := "TwoSeals", name := "hash", desc := "(I)V" } : MethodName)) ∈ z_TB := z_in2 (i := 180) rfl (by decide +kernel)
theorem wl_S_111 : (Cond.methodLink "TwoSeals" (111 : Nat) ({ cls := "TwoSeals", name := "requireWay", desc := "(I)V" } : MethodName)) ∈ z_TB := z_in2 (i := 182) rfl (by decide +kernel)
theorem ws_S_requireWay : (Cond.static ({ cls := "TwoSeals", name := "requireWay", desc := "(I)V" } : MethodName)) ∈ z_TB := z_in2 (i := 183) rfl (by decide +kernel)
theorem wl_S_116 : (Cond.methodLink "TwoSeals" (116 : Nat) ({ cls := "TwoSeals$Hasher", name := "begin", desc := "([I)V" } : MethodName)) ∈ z_TB := z_in2 (i := 187) rfl (by decide +kernel)
theorem wi_H_begin : (Cond.instanceMethod ({ cls := "TwoSeals$Hasher", name := "begin", desc := "([I)V" } : MethodName)) ∈ z_TB := z_in2 (i := 188) rfl (by decide +kernel)
theorem wv_H_H_begin : (Cond.selects "TwoSeals$Hasher" ({ cls := "TwoSeals$Hasher", name := "begin", desc := "([I)V" } : MethodName) ({ cls := "TwoSeals$Hasher", name := "begin", desc := "([I)V" } : MethodName)) ∈ z_TB := z_in2 (i := 189) rfl (by decide +kernel)
theorem wl_H_34 : (Cond.methodLink "TwoSeals$Hasher" (34 : Nat) ({ cls := "TwoSeals$Hasher", name := "readHalf", desc := "([III)J" } : MethodName)) ∈ z_TB := z_in2 (i := 191) rfl (by decide +kernel)
theorem wi_H_readHalf : (Cond.instanceMethod ({ cls := "TwoSeals$Hasher", name := "readHalf", desc := "([III)J" } : MethodName)) ∈ z_TB := z_in2 (i := 193) rfl (by decide +kernel)
theorem wl_H_44 : (Cond.methodLink "TwoSeals$Hasher" (44 : Nat) ({ cls := "TwoSeals$Hasher", name := "putBesidesIntoKey", desc := "()V" } : MethodName)) ∈ z_TB := z_in2 (i := 195) rfl (by decide +kernel)
theorem wi_H_putBesidesIntoKey : (Cond.instanceMethod ({ cls := "TwoSeals$Hasher", name := "putBesidesIntoKey", desc := "()V" } : MethodName)) ∈ z_TB := z_in2 (i := 197) rfl (by decide +kernel)
theorem wk_H_53 : (Cond.constantLong "TwoSeals$Hasher" (53 : Nat) (-7925209444265230336 : Int64)) ∈ z_TB := z_in2 (i := 199) rfl (by decide +kernel)
theorem wl_H_55 : (Cond.methodLink "TwoSeals$Hasher" (55 : Nat) ({ cls := "TwoSeals$Hasher", name := "multiplySumByKey", desc := "()V" } : MethodName)) ∈ z_TB := z_in2 (i := 200) rfl (by decide +kernel)
theorem wi_H_multiplySumByKey : (Cond.instanceMethod ({ cls := "TwoSeals$Hasher", name := "multiplySumByKey", desc := "()V" } : MethodName)) ∈ z_TB := z_in2 (i := 202) rfl (by decide +kernel)
theorem wl_S_119 : (Cond.methodLink "TwoSeals" (119 : Nat) ({ cls := "TwoSeals$Hasher", name := "add", desc := "([II)V" } : MethodName)) ∈ z_TB := z_in2 (i := 204) rfl (by decide +kernel)
theorem wi_H_add : (Cond.instanceMethod ({ cls := "TwoSeals$Hasher", name := "add", desc := "([II)V" } : MethodName)) ∈ z_TB := z_in2 (i := 205) rfl (by decide +kernel)
theorem wv_H_H_add : (Cond.selects "TwoSeals$Hasher" ({ cls := "TwoSeals$Hasher", name := "add", desc := "([II)V" } : MethodName) ({ cls := "TwoSeals$Hasher", name := "add", desc := "([II)V" } : MethodName)) ∈ z_TB := z_in2 (i := 206) rfl (by decide +kernel)
theorem wl_S_123 : (Cond.methodLink "TwoSeals" (123 : Nat) ({ cls := "TwoSeals$Hasher", name := "write", desc := "([I)V" } : MethodName)) ∈ z_TB := z_in2 (i := 208) rfl (by decide +kernel)
theorem wi_H_write : (Cond.instanceMethod ({ cls := "TwoSeals$Hasher", name := "write", desc := "([I)V" } : MethodName)) ∈ z_TB := z_in2 (i := 209) rfl (by decide +kernel)
theorem wv_H_H_write : (Cond.selects "TwoSeals$Hasher" ({ cls := "TwoSeals$Hasher", name := "write", desc := "([I)V" } : MethodName) ({ cls := "TwoSeals$Hasher", name := "write", desc := "([I)V" } : MethodName)) ∈ z_TB := z_in2 (i := 210) rfl (by decide +kernel)
theorem wl_H_68 : (Cond.methodLink "TwoSeals$Hasher" (68 : Nat) ({ cls := "TwoSeals$Hasher", name := "writeHalf", desc := "(J[II)V" } : MethodName)) ∈ z_TB := z_in2 (i := 212) rfl (by decide +kernel)
theorem wi_H_writeHalf : (Cond.instanceMethod ({ cls := "TwoSeals$Hasher", name := "writeHalf", desc := "(J[II)V" } : MethodName)) ∈ z_TB := z_in2 (i := 214) rfl (by decide +kernel)
theorem wl_L_83 : (Cond.methodLink "TwoSealsLaw" (83 : Nat) ({ cls := "TwoSealsLaw", name := "seal", desc := "(LTwoSeals;I[J)I" } : MethodName)) ∈ z_TB := z_in2 (i := 216) rfl (by decide +kernel)
theorem ws_L_seal : (Cond.static ({ cls := "TwoSealsLaw", name := "seal", desc := "(LTwoSeals;I[J)I" } : MethodName)) ∈ z_TB := z_in2 (i := 217) rfl (by decide +kernel)
theorem wl_L_37 : (Cond.methodLink "TwoSealsLaw" (37 : Nat) ({ cls := "TwoSeals", name := "seal", desc := "(I)I" } : MethodName)) ∈ z_TB := z_in2 (i := 219) rfl (by decide +kernel)
theorem wi_S_seal : (Cond.instanceMethod ({ cls := "TwoSeals", name := "seal", desc := "(I)I" } : MethodName)) ∈ z_TB := z_in2 (i := 220) rfl (by decide +kernel)
theorem wv_S_S_seal : (Cond.selects "TwoSeals" ({ cls := "TwoSeals", name := "seal", desc := "(I)I" } : MethodName) ({ cls := "TwoSeals", name := "seal", desc := "(I)I" } : MethodName)) ∈ z_TB := z_in2 (i := 221) rfl (by decide +kernel)
theorem wl_S_126 : (Cond.methodLink "TwoSeals" (126 : Nat) ({ cls := "TwoSeals", name := "requireKeyAndNonce", desc := "(I)V" } : MethodName)) ∈ z_TB := z_in2 (i := 223) rfl (by decide +kernel)
theorem wi_S_requireKeyAndNonce : (Cond.instanceMethod ({ cls := "TwoSeals", name := "requireKeyAndNonce", desc := "(I)V" } : MethodName)) ∈ z_TB := z_in2 (i := 225) rfl (by decide +kernel)
theorem wl_S_155 : (Cond.methodLink "TwoSeals" (155 : Nat) ({ cls := "TwoSeals$Way", name := "takesNonceOf", desc := "(I)Z" } : MethodName)) ∈ z_TB := z_in2 (i := 227) rfl (by decide +kernel)
theorem wm_W_W_takesNonceOf : (Cond.sameMethod "TwoSeals$Way" "TwoSeals$Way" "takesNonceOf" "(I)Z") ∈ z_TB := z_in2 (i := 229) rfl (by decide +kernel)
theorem wv_O_W_takesNonceOf : (Cond.selects "TwoSeals$WayOne" ({ cls := "TwoSeals$Way", name := "takesNonceOf", desc := "(I)Z" } : MethodName) ({ cls := "TwoSeals$WayOne", name := "takesNonceOf", desc := "(I)Z" } : MethodName)) ∈ z_TB := z_in2 (i := 230) rfl (by decide +kernel)
theorem wi_O_takesNonceOf : (Cond.instanceMethod ({ cls := "TwoSeals$WayOne", name := "takesNonceOf", desc := "(I)Z" } : MethodName)) ∈ z_TB := z_in2 (i := 231) rfl (by decide +kernel)
theorem wv_Z_W_takesNonceOf : (Cond.selects "TwoSeals$WayZero" ({ cls := "TwoSeals$Way", name := "takesNonceOf", desc := "(I)Z" } : MethodName) ({ cls := "TwoSeals$WayZero", name := "takesNonceOf", desc := "(I)Z" } : MethodName)) ∈ z_TB := z_in2 (i := 233) rfl (by decide +kernel)
theorem wi_Z_takesNonceOf : (Cond.instanceMethod ({ cls := "TwoSeals$WayZero", name := "takesNonceOf", desc := "(I)Z" } : MethodName)) ∈ z_TB := z_in2 (i := 234) rfl (by decide +kernel)
theorem wl_S_131 : (Cond.methodLink "TwoSeals" (131 : Nat) ({ cls := "TwoSeals$Way", name := "useKey", desc := "(LTwoSeals$Row;LTwoSeals$Row;)V" } : MethodName)) ∈ z_TB := z_in2 (i := 238) rfl (by decide +kernel)
theorem wm_W_W_useKey : (Cond.sameMethod "TwoSeals$Way" "TwoSeals$Way" "useKey" "(LTwoSeals$Row;LTwoSeals$Row;)V") ∈ z_TB := z_in3 (i := 0) rfl (by decide +kernel)
theorem wv_O_W_useKey : (Cond.selects "TwoSeals$WayOne" ({ cls := "TwoSeals$Way", name := "useKey", desc := "(LTwoSeals$Row;LTwoSeals$Row;)V" } : MethodName) ({ cls := "TwoSeals$WayOne", name := "useKey", desc := "(LTwoSeals$Row;LTwoSeals$Row;)V" } : MethodName)) ∈ z_TB := z_in3 (i := 1) rfl (by decide +kernel)
theorem wi_O_useKey : (Cond.instanceMethod ({ cls := "TwoSeals$WayOne", name := "useKey", desc := "(LTwoSeals$Row;LTwoSeals$Row;)V" } : MethodName)) ∈ z_TB := z_in3 (i := 2) rfl (by decide +kernel)
theorem wl_O_24 : (Cond.methodLink "TwoSeals$WayOne" (24 : Nat) ({ cls := "TwoSeals$Cipher", name := "useKey", desc := "([I)V" } : MethodName)) ∈ z_TB := z_in3 (i := 4) rfl (by decide +kernel)
theorem wl_O_33 : (Cond.methodLink "TwoSeals$WayOne" (33 : Nat) ({ cls := "TwoSeals$WayOne", name := "derive", desc := "(ILTwoSeals$Row;[II)V" } : MethodName)) ∈ z_TB := z_in3 (i := 5) rfl (by decide +kernel)
theorem wi_O_derive : (Cond.instanceMethod ({ cls := "TwoSeals$WayOne", name := "derive", desc := "(ILTwoSeals$Row;[II)V" } : MethodName)) ∈ z_TB := z_in3 (i := 7) rfl (by decide +kernel)
theorem wl_O_40 : (Cond.methodLink "TwoSeals$WayOne" (40 : Nat) ({ cls := "java/lang/System", name := "arraycopy", desc := "(Ljava/lang/Object;ILjava/lang/Object;II)V" } : MethodName)) ∈ z_TB := z_in3 (i := 9) rfl (by decide +kernel)
theorem wl_O_49 : (Cond.methodLink "TwoSeals$WayOne" (49 : Nat) ({ cls := "TwoSeals$Cipher", name := "encipher", desc := "([I[I)V" } : MethodName)) ∈ z_TB := z_in3 (i := 10) rfl (by decide +kernel)
theorem wv_Z_W_useKey : (Cond.selects "TwoSeals$WayZero" ({ cls := "TwoSeals$Way", name := "useKey", desc := "(LTwoSeals$Row;LTwoSeals$Row;)V" } : MethodName) ({ cls := "TwoSeals$WayZero", name := "useKey", desc := "(LTwoSeals$Row;LTwoSeals$Row;)V" } : MethodName)) ∈ z_TB := z_in3 (i := 11) rfl (by decide +kernel)
theorem wi_Z_useKey : (Cond.instanceMethod ({ cls := "TwoSeals$WayZero", name := "useKey", desc := "(LTwoSeals$Row;LTwoSeals$Row;)V" } : MethodName)) ∈ z_TB := z_in3 (i := 12) rfl (by decide +kernel)
theorem wl_Z_24 : (Cond.methodLink "TwoSeals$WayZero" (24 : Nat) ({ cls := "TwoSeals$Cipher", name := "useKey", desc := "([I)V" } : MethodName)) ∈ z_TB := z_in3 (i := 14) rfl (by decide +kernel)
theorem wl_Z_33 : (Cond.methodLink "TwoSeals$WayZero" (33 : Nat) ({ cls := "TwoSeals$Cipher", name := "encipher", desc := "([I[I)V" } : MethodName)) ∈ z_TB := z_in3 (i := 15) rfl (by decide +kernel)
theorem wl_Z_44 : (Cond.methodLink "TwoSeals$WayZero" (44 : Nat) ({ cls := "java/lang/System", name := "arraycopy", desc := "(Ljava/lang/Object;ILjava/lang/Object;II)V" } : MethodName)) ∈ z_TB := z_in3 (i := 16) rfl (by decide +kernel)
theorem wl_Z_54 : (Cond.methodLink "TwoSeals$WayZero" (54 : Nat) ({ cls := "TwoSeals$Hasher", name := "begin", desc := "([I)V" } : MethodName)) ∈ z_TB := z_in3 (i := 17) rfl (by decide +kernel)
theorem wl_Z_59 : (Cond.methodLink "TwoSeals$WayZero" (59 : Nat) ({ cls := "TwoSeals$Hasher", name := "add", desc := "([II)V" } : MethodName)) ∈ z_TB := z_in3 (i := 18) rfl (by decide +kernel)
theorem wl_Z_63 : (Cond.methodLink "TwoSeals$WayZero" (63 : Nat) ({ cls := "TwoSeals$Hasher", name := "addLengths", desc := "(II)V" } : MethodName)) ∈ z_TB := z_in3 (i := 19) rfl (by decide +kernel)
theorem wi_H_addLengths : (Cond.instanceMethod ({ cls := "TwoSeals$Hasher", name := "addLengths", desc := "(II)V" } : MethodName)) ∈ z_TB := z_in3 (i := 20) rfl (by decide +kernel)
theorem wv_H_H_addLengths : (Cond.selects "TwoSeals$Hasher" ({ cls := "TwoSeals$Hasher", name := "addLengths", desc := "(II)V" } : MethodName) ({ cls := "TwoSeals$Hasher", name := "addLengths", desc := "(II)V" } : MethodName)) ∈ z_TB := z_in3 (i := 21) rfl (by decide +kernel)
theorem wk_H_58 : (Cond.constantLong "TwoSeals$Hasher" (58 : Nat) (8 : Int64)) ∈ z_TB := z_in3 (i := 23) rfl (by decide +kernel)
theorem wl_H_60 : (Cond.methodLink "TwoSeals$Hasher" (60 : Nat) ({ cls := "TwoSeals$Hasher", name := "putLength", desc := "(IJ)V" } : MethodName)) ∈ z_TB := z_in3 (i := 24) rfl (by decide +kernel)
theorem wi_H_putLength : (Cond.instanceMethod ({ cls := "TwoSeals$Hasher", name := "putLength", desc := "(IJ)V" } : MethodName)) ∈ z_TB := z_in3 (i := 26) rfl (by decide +kernel)
theorem wl_H_64 : (Cond.methodLink "TwoSeals$Hasher" (64 : Nat) ({ cls := "TwoSeals$Hasher", name := "add", desc := "([II)V" } : MethodName)) ∈ z_TB := z_in3 (i := 28) rfl (by decide +kernel)
theorem wl_Z_67 : (Cond.methodLink "TwoSeals$WayZero" (67 : Nat) ({ cls := "TwoSeals$Hasher", name := "write", desc := "([I)V" } : MethodName)) ∈ z_TB := z_in3 (i := 29) rfl (by decide +kernel)
theorem wl_S_134 : (Cond.methodLink "TwoSeals" (134 : Nat) ({ cls := "TwoSeals$Way", name := "sealText", desc := "([LTwoSeals$Row;LTwoSeals$Row;)V" } : MethodName)) ∈ z_TB := z_in3 (i := 30) rfl (by decide +kernel)
theorem wm_W_W_sealText : (Cond.sameMethod "TwoSeals$Way" "TwoSeals$Way" "sealText" "([LTwoSeals$Row;LTwoSeals$Row;)V") ∈ z_TB := z_in3 (i := 32) rfl (by decide +kernel)
theorem wv_O_W_sealText : (Cond.selects "TwoSeals$WayOne" ({ cls := "TwoSeals$Way", name := "sealText", desc := "([LTwoSeals$Row;LTwoSeals$Row;)V" } : MethodName) ({ cls := "TwoSeals$WayOne", name := "sealText", desc := "([LTwoSeals$Row;LTwoSeals$Row;)V" } : MethodName)) ∈ z_TB := z_in3 (i := 33) rfl (by decide +kernel)
theorem wi_O_sealText : (Cond.instanceMethod ({ cls := "TwoSeals$WayOne", name := "sealText", desc := "([LTwoSeals$Row;LTwoSeals$Row;)V" } : MethodName)) ∈ z_TB := z_in3 (i := 34) rfl (by decide +kernel)
theorem wl_O_57 : (Cond.methodLink "TwoSeals$WayOne" (57 : Nat) ({ cls := "TwoSeals$WayOne", name := "makeDue", desc := "([LTwoSeals$Row;[II)V" } : MethodName)) ∈ z_TB := z_in3 (i := 36) rfl (by decide +kernel)
theorem wi_O_makeDue : (Cond.instanceMethod ({ cls := "TwoSeals$WayOne", name := "makeDue", desc := "([LTwoSeals$Row;[II)V" } : MethodName)) ∈ z_TB := z_in3 (i := 38) rfl (by decide +kernel)
theorem wl_O_79 : (Cond.methodLink "TwoSeals$WayOne" (79 : Nat) ({ cls := "TwoSeals$WayOne", name := "hashWithAside", desc := "(LTwoSeals$Row;[II)V" } : MethodName)) ∈ z_TB := z_in3 (i := 40) rfl (by decide +kernel)
theorem wm_O_W_hashWithAside : (Cond.sameMethod "TwoSeals$WayOne" "TwoSeals$Way" "hashWithAside" "(LTwoSeals$Row;[II)V") ∈ z_TB := z_in3 (i := 41) rfl (by decide +kernel)
theorem wv_O_O_hashWithAside : (Cond.selects "TwoSeals$WayOne" ({ cls := "TwoSeals$WayOne", name := "hashWithAside", desc := "(LTwoSeals$Row;[II)V" } : MethodName) ({ cls := "TwoSeals$Way", name := "hashWithAside", desc := "(LTwoSeals$Row;[II)V" } : MethodName)) ∈ z_TB := z_in3 (i := 43) rfl (by decide +kernel)
theorem wi_W_hashWithAside : (Cond.instanceMethod ({ cls := "TwoSeals$Way", name := "hashWithAside", desc := "(LTwoSeals$Row;[II)V" } : MethodName)) ∈ z_TB := z_in3 (i := 44) rfl (by decide +kernel)
theorem wl_W_45 : (Cond.methodLink "TwoSeals$Way" (45 : Nat) ({ cls := "TwoSeals$Hasher", name := "begin", desc := "([I)V" } : MethodName)) ∈ z_TB := z_in3 (i := 46) rfl (by decide +kernel)
theorem wl_W_60 : (Cond.methodLink "TwoSeals$Way" (60 : Nat) ({ cls := "TwoSeals$Hasher", name := "add", desc := "([II)V" } : MethodName)) ∈ z_TB := z_in3 (i := 47) rfl (by decide +kernel)
theorem wl_W_64 : (Cond.methodLink "TwoSeals$Way" (64 : Nat) ({ cls := "TwoSeals$Hasher", name := "addLengths", desc := "(II)V" } : MethodName)) ∈ z_TB := z_in3 (i := 48) rfl (by decide +kernel)
theorem wl_W_68 : (Cond.methodLink "TwoSeals$Way" (68 : Nat) ({ cls := "TwoSeals$Hasher", name := "write", desc := "([I)V" } : MethodName)) ∈ z_TB := z_in3 (i := 49) rfl (by decide +kernel)
theorem wl_O_67 : (Cond.methodLink "TwoSeals$WayOne" (67 : Nat) ({ cls := "TwoSeals$WayOne", name := "cipherText", desc := "([II[I)V" } : MethodName)) ∈ z_TB := z_in3 (i := 50) rfl (by decide +kernel)
theorem wm_O_W_cipherText : (Cond.sameMethod "TwoSeals$WayOne" "TwoSeals$Way" "cipherText" "([II[I)V") ∈ z_TB := z_in3 (i := 51) rfl (by decide +kernel)
theorem wv_O_O_cipherText : (Cond.selects "TwoSeals$WayOne" ({ cls := "TwoSeals$WayOne", name := "cipherText", desc := "([II[I)V" } : MethodName) ({ cls := "TwoSeals$Way", name := "cipherText", desc := "([II[I)V" } : MethodName)) ∈ z_TB := z_in3 (i := 53) rfl (by decide +kernel)
theorem wi_W_cipherText : (Cond.instanceMethod ({ cls := "TwoSeals$Way", name := "cipherText", desc := "([II[I)V" } : MethodName)) ∈ z_TB := z_in3 (i := 54) rfl (by decide +kernel)
theorem wl_W_35 : (Cond.methodLink "TwoSeals$Way" (35 : Nat) ({ cls := "TwoSeals$Way", name := "count", desc := "(I)V" } : MethodName)) ∈ z_TB := z_in3 (i := 56) rfl (by decide +kernel)
theorem wm_W_W_count : (Cond.sameMethod "TwoSeals$Way" "TwoSeals$Way" "count" "(I)V") ∈ z_TB := z_in3 (i := 58) rfl (by decide +kernel)
theorem wv_O_W_count : (Cond.selects "TwoSeals$WayOne" ({ cls := "TwoSeals$Way", name := "count", desc := "(I)V" } : MethodName) ({ cls := "TwoSeals$WayOne", name := "count", desc := "(I)V" } : MethodName)) ∈ z_TB := z_in3 (i := 59) rfl (by decide +kernel)
theorem wi_O_count : (Cond.instanceMethod ({ cls := "TwoSeals$WayOne", name := "count", desc := "(I)V" } : MethodName)) ∈ z_TB := z_in3 (i := 60) rfl (by decide +kernel)
theorem wv_Z_W_count : (Cond.selects "TwoSeals$WayZero" ({ cls := "TwoSeals$Way", name := "count", desc := "(I)V" } : MethodName) ({ cls := "TwoSeals$WayZero", name := "count", desc := "(I)V" } : MethodName)) ∈ z_TB := z_in3 (i := 62) rfl (by decide +kernel)
theorem wi_Z_count : (Cond.instanceMethod ({ cls := "TwoSeals$WayZero", name := "count", desc := "(I)V" } : MethodName)) ∈ z_TB := z_in3 (i := 63) rfl (by decide +kernel)
theorem wl_W_39 : (Cond.methodLink "TwoSeals$Way" (39 : Nat) ({ cls := "TwoSeals$Cipher", name := "encipher", desc := "([I[I)V" } : MethodName)) ∈ z_TB := z_in3 (i := 65) rfl (by decide +kernel)
theorem wl_O_71 : (Cond.methodLink "TwoSeals$WayOne" (71 : Nat) ({ cls := "TwoSeals$WayOne", name := "appendDue", desc := "(LTwoSeals$Row;I)V" } : MethodName)) ∈ z_TB := z_in3 (i := 66) rfl (by decide +kernel)
theorem wm_O_W_appendDue : (Cond.sameMethod "TwoSeals$WayOne" "TwoSeals$Way" "appendDue" "(LTwoSeals$Row;I)V") ∈ z_TB := z_in3 (i := 67) rfl (by decide +kernel)
theorem wv_O_O_appendDue : (Cond.selects "TwoSeals$WayOne" ({ cls := "TwoSeals$WayOne", name := "appendDue", desc := "(LTwoSeals$Row;I)V" } : MethodName) ({ cls := "TwoSeals$Way", name := "appendDue", desc := "(LTwoSeals$Row;I)V" } : MethodName)) ∈ z_TB := z_in3 (i := 69) rfl (by decide +kernel)
theorem wi_W_appendDue : (Cond.instanceMethod ({ cls := "TwoSeals$Way", name := "appendDue", desc := "(LTwoSeals$Row;I)V" } : MethodName)) ∈ z_TB := z_in3 (i := 70) rfl (by decide +kernel)
theorem wl_W_71 : (Cond.methodLink "TwoSeals$Way" (71 : Nat) ({ cls := "java/lang/System", name := "arraycopy", desc := "(Ljava/lang/Object;ILjava/lang/Object;II)V" } : MethodName)) ∈ z_TB := z_in3 (i := 72) rfl (by decide +kernel)
theorem wv_Z_W_sealText : (Cond.selects "TwoSeals$WayZero" ({ cls := "TwoSeals$Way", name := "sealText", desc := "([LTwoSeals$Row;LTwoSeals$Row;)V" } : MethodName) ({ cls := "TwoSeals$WayZero", name := "sealText", desc := "([LTwoSeals$Row;LTwoSeals$Row;)V" } : MethodName)) ∈ z_TB := z_in3 (i := 73) rfl (by decide +kernel)
theorem wi_Z_sealText : (Cond.instanceMethod ({ cls := "TwoSeals$WayZero", name := "sealText", desc := "([LTwoSeals$Row;LTwoSeals$Row;)V" } : MethodName)) ∈ z_TB := z_in3 (i := 74) rfl (by decide +kernel)
theorem wl_Z_70 : (Cond.methodLink "TwoSeals$WayZero" (70 : Nat) ({ cls := "TwoSeals$WayZero", name := "cipherText", desc := "([II[I)V" } : MethodName)) ∈ z_TB := z_in3 (i := 76) rfl (by decide +kernel)
theorem wm_Z_W_cipherText : (Cond.sameMethod "TwoSeals$WayZero" "TwoSeals$Way" "cipherText" "([II[I)V") ∈ z_TB := z_in3 (i := 77) rfl (by decide +kernel)
theorem wv_Z_Z_cipherText : (Cond.selects "TwoSeals$WayZero" ({ cls := "TwoSeals$WayZero", name := "cipherText", desc := "([II[I)V" } : MethodName) ({ cls := "TwoSeals$Way", name := "cipherText", desc := "([II[I)V" } : MethodName)) ∈ z_TB := z_in3 (i := 78) rfl (by decide +kernel)
theorem wl_Z_74 : (Cond.methodLink "TwoSeals$WayZero" (74 : Nat) ({ cls := "TwoSeals$WayZero", name := "makeDue", desc := "(LTwoSeals$Row;[II)V" } : MethodName)) ∈ z_TB := z_in3 (i := 79) rfl (by decide +kernel)
theorem wi_Z_makeDue : (Cond.instanceMethod ({ cls := "TwoSeals$WayZero", name := "makeDue", desc := "(LTwoSeals$Row;[II)V" } : MethodName)) ∈ z_TB := z_in3 (i := 81) rfl (by decide +kernel)
theorem wl_Z_86 : (Cond.methodLink "TwoSeals$WayZero" (86 : Nat) ({ cls := "TwoSeals$WayZero", name := "hashWithAside", desc := "(LTwoSeals$Row;[II)V" } : MethodName)) ∈ z_TB := z_in3 (i := 83) rfl (by decide +kernel)
theorem wm_Z_W_hashWithAside : (Cond.sameMethod "TwoSeals$WayZero" "TwoSeals$Way" "hashWithAside" "(LTwoSeals$Row;[II)V") ∈ z_TB := z_in3 (i := 84) rfl (by decide +kernel)
theorem wv_Z_Z_hashWithAside : (Cond.selects "TwoSeals$WayZero" ({ cls := "TwoSeals$WayZero", name := "hashWithAside", desc := "(LTwoSeals$Row;[II)V" } : MethodName) ({ cls := "TwoSeals$Way", name := "hashWithAside", desc := "(LTwoSeals$Row;[II)V" } : MethodName)) ∈ z_TB := z_in3 (i := 85) rfl (by decide +kernel)
theorem wl_Z_78 : (Cond.methodLink "TwoSeals$WayZero" (78 : Nat) ({ cls := "TwoSeals$WayZero", name := "appendDue", desc := "(LTwoSeals$Row;I)V" } : MethodName)) ∈ z_TB := z_in3 (i := 86) rfl (by decide +kernel)
theorem wm_Z_W_appendDue : (Cond.sameMethod "TwoSeals$WayZero" "TwoSeals$Way" "appendDue" "(LTwoSeals$Row;I)V") ∈ z_TB := z_in3 (i := 87) rfl (by decide +kernel)
theorem wv_Z_Z_appendDue : (Cond.selects "TwoSeals$WayZero" ({ cls := "TwoSeals$WayZero", name := "appendDue", desc := "(LTwoSeals$Row;I)V" } : MethodName) ({ cls := "TwoSeals$Way", name := "appendDue", desc := "(LTwoSeals$Row;I)V" } : MethodName)) ∈ z_TB := z_in3 (i := 88) rfl (by decide +kernel)
theorem wl_L_86 : (Cond.methodLink "TwoSealsLaw" (86 : Nat) ({ cls := "TwoSealsLaw", name := "open", desc := "(LTwoSeals;I[J)I" } : MethodName)) ∈ z_TB := z_in3 (i := 89) rfl (by decide +kernel)
theorem ws_L_open : (Cond.static ({ cls := "TwoSealsLaw", name := "open", desc := "(LTwoSeals;I[J)I" } : MethodName)) ∈ z_TB := z_in3 (i := 90) rfl (by decide +kernel)
theorem wl_L_40 : (Cond.methodLink "TwoSealsLaw" (40 : Nat) ({ cls := "TwoSeals", name := "open", desc := "(I)I" } : MethodName)) ∈ z_TB := z_in3 (i := 93) rfl (by decide +kernel)
theorem wi_S_open : (Cond.instanceMethod ({ cls := "TwoSeals", name := "open", desc := "(I)I" } : MethodName)) ∈ z_TB := z_in3 (i := 94) rfl (by decide +kernel)
theorem wv_S_S_open : (Cond.selects "TwoSeals" ({ cls := "TwoSeals", name := "open", desc := "(I)I" } : MethodName) ({ cls := "TwoSeals", name := "open", desc := "(I)I" } : MethodName)) ∈ z_TB := z_in3 (i := 95) rfl (by decide +kernel)
theorem wl_S_140 : (Cond.methodLink "TwoSeals" (140 : Nat) ({ cls := "TwoSeals$Way", name := "openText", desc := "([LTwoSeals$Row;LTwoSeals$Row;)Z" } : MethodName)) ∈ z_TB := z_in3 (i := 98) rfl (by decide +kernel)
theorem wm_W_W_openText : (Cond.sameMethod "TwoSeals$Way" "TwoSeals$Way" "openText" "([LTwoSeals$Row;LTwoSeals$Row;)Z") ∈ z_TB := z_in3 (i := 100) rfl (by decide +kernel)
theorem wv_O_W_openText : (Cond.selects "TwoSeals$WayOne" ({ cls := "TwoSeals$Way", name := "openText", desc := "([LTwoSeals$Row;LTwoSeals$Row;)Z" } : MethodName) ({ cls := "TwoSeals$WayOne", name := "openText", desc := "([LTwoSeals$Row;LTwoSeals$Row;)Z" } : MethodName)) ∈ z_TB := z_in3 (i := 101) rfl (by decide +kernel)
theorem wi_O_openText : (Cond.instanceMethod ({ cls := "TwoSeals$WayOne", name := "openText", desc := "([LTwoSeals$Row;LTwoSeals$Row;)Z" } : MethodName)) ∈ z_TB := z_in3 (i := 102) rfl (by decide +kernel)
theorem wl_O_75 : (Cond.methodLink "TwoSeals$WayOne" (75 : Nat) ({ cls := "TwoSeals$WayOne", name := "endsInDue", desc := "(LTwoSeals$Row;)Z" } : MethodName)) ∈ z_TB := z_in3 (i := 104) rfl (by decide +kernel)
theorem wm_O_W_endsInDue : (Cond.sameMethod "TwoSeals$WayOne" "TwoSeals$Way" "endsInDue" "(LTwoSeals$Row;)Z") ∈ z_TB := z_in3 (i := 105) rfl (by decide +kernel)
theorem wv_O_O_endsInDue : (Cond.selects "TwoSeals$WayOne" ({ cls := "TwoSeals$WayOne", name := "endsInDue", desc := "(LTwoSeals$Row;)Z" } : MethodName) ({ cls := "TwoSeals$Way", name := "endsInDue", desc := "(LTwoSeals$Row;)Z" } : MethodName)) ∈ z_TB := z_in3 (i := 107) rfl (by decide +kernel)
theorem wi_W_endsInDue : (Cond.instanceMethod ({ cls := "TwoSeals$Way", name := "endsInDue", desc := "(LTwoSeals$Row;)Z" } : MethodName)) ∈ z_TB := z_in3 (i := 108) rfl (by decide +kernel)
theorem wv_Z_W_openText : (Cond.selects "TwoSeals$WayZero" ({ cls := "TwoSeals$Way", name := "openText", desc := "([LTwoSeals$Row;LTwoSeals$Row;)Z" } : MethodName) ({ cls := "TwoSeals$WayZero", name := "openText", desc := "([LTwoSeals$Row;LTwoSeals$Row;)Z" } : MethodName)) ∈ z_TB := z_in3 (i := 110) rfl (by decide +kernel)
theorem wi_Z_openText : (Cond.instanceMethod ({ cls := "TwoSeals$WayZero", name := "openText", desc := "([LTwoSeals$Row;LTwoSeals$Row;)Z" } : MethodName)) ∈ z_TB := z_in3 (i := 111) rfl (by decide +kernel)
theorem wl_Z_82 : (Cond.methodLink "TwoSeals$WayZero" (82 : Nat) ({ cls := "TwoSeals$WayZero", name := "endsInDue", desc := "(LTwoSeals$Row;)Z" } : MethodName)) ∈ z_TB := z_in3 (i := 113) rfl (by decide +kernel)
theorem wm_Z_W_endsInDue : (Cond.sameMethod "TwoSeals$WayZero" "TwoSeals$Way" "endsInDue" "(LTwoSeals$Row;)Z") ∈ z_TB := z_in3 (i := 114) rfl (by decide +kernel)
theorem wv_Z_Z_endsInDue : (Cond.selects "TwoSeals$WayZero" ({ cls := "TwoSeals$WayZero", name := "endsInDue", desc := "(LTwoSeals$Row;)Z" } : MethodName) ({ cls := "TwoSeals$Way", name := "endsInDue", desc := "(LTwoSeals$Row;)Z" } : MethodName)) ∈ z_TB := z_in3 (i := 115) rfl (by decide +kernel)
theorem wl_S_148 : (Cond.methodLink "TwoSeals" (148 : Nat) ({ cls := "java/lang/UnsupportedOperationException", name := "<init>", desc := "(Ljava/lang/String;)V" } : MethodName)) ∈ z_TB := z_in3 (i := 126) rfl (by decide +kernel)
theorem wl_java_lang_UnsupportedOperationException_7 : (Cond.methodLink "java/lang/UnsupportedOperationException" (7 : Nat) ({ cls := "java/lang/RuntimeException", name := "<init>", desc := "(Ljava/lang/String;)V" } : MethodName)) ∈ z_TB := z_in3 (i := 129) rfl (by decide +kernel)
theorem wl_L_93 : (Cond.methodLink "TwoSealsLaw" (93 : Nat) ({ cls := "TwoSealsLaw", name := "at", desc := "(LTwoSeals;I[J)I" } : MethodName)) ∈ z_TB := z_in3 (i := 132) rfl (by decide +kernel)
theorem ws_L_at : (Cond.static ({ cls := "TwoSealsLaw", name := "at", desc := "(LTwoSeals;I[J)I" } : MethodName)) ∈ z_TB := z_in3 (i := 133) rfl (by decide +kernel)
theorem wl_L_45 : (Cond.methodLink "TwoSealsLaw" (45 : Nat) ({ cls := "TwoSeals", name := "at", desc := "(I)I" } : MethodName)) ∈ z_TB := z_in3 (i := 135) rfl (by decide +kernel)
theorem wi_S_at : (Cond.instanceMethod ({ cls := "TwoSeals", name := "at", desc := "(I)I" } : MethodName)) ∈ z_TB := z_in3 (i := 136) rfl (by decide +kernel)
theorem wv_S_S_at : (Cond.selects "TwoSeals" ({ cls := "TwoSeals", name := "at", desc := "(I)I" } : MethodName) ({ cls := "TwoSeals", name := "at", desc := "(I)I" } : MethodName)) ∈ z_TB := z_in3 (i := 137) rfl (by decide +kernel)
theorem wl_L_51 : (Cond.methodLink "TwoSealsLaw" (51 : Nat) ({ cls := "TwoSealsModel", name := "<init>", desc := "()V" } : MethodName)) ∈ z_TB := z_in3 (i := 142) rfl (by decide +kernel)
theorem wi_M_init : (Cond.instanceMethod ({ cls := "TwoSealsModel", name := "<init>", desc := "()V" } : MethodName)) ∈ z_TB := z_in3 (i := 143) rfl (by decide +kernel)
theorem wl_M_1 : (Cond.methodLink "TwoSealsModel" (1 : Nat) ({ cls := "java/lang/Object", name := "<init>", desc := "()V" } : MethodName)) ∈ z_TB := z_in3 (i := 145) rfl (by decide +kernel)
theorem wl_M_52 : (Cond.methodLink "TwoSealsModel" (52 : Nat) ({ cls := "TwoSealsModel", name := "times", desc := "(II)I" } : MethodName)) ∈ z_TB := z_in3 (i := 146) rfl (by decide +kernel)
theorem ws_M_times : (Cond.static ({ cls := "TwoSealsModel", name := "times", desc := "(II)I" } : MethodName)) ∈ z_TB := z_in3 (i := 147) rfl (by decide +kernel)
theorem wl_M_63 : (Cond.methodLink "TwoSealsModel" (63 : Nat) ({ cls := "TwoSealsModel", name := "doubled", desc := "(I)I" } : MethodName)) ∈ z_TB := z_in3 (i := 149) rfl (by decide +kernel)
theorem ws_M_doubled : (Cond.static ({ cls := "TwoSealsModel", name := "doubled", desc := "(I)I" } : MethodName)) ∈ z_TB := z_in3 (i := 150) rfl (by decide +kernel)
theorem wl_M_56 : (Cond.methodLink "TwoSealsModel" (56 : Nat) ({ cls := "TwoSealsModel", name := "turned", desc := "(II)I" } : MethodName)) ∈ z_TB := z_in3 (i := 152) rfl (by decide +kernel)
theorem ws_M_turned : (Cond.static ({ cls := "TwoSealsModel", name := "turned", desc := "(II)I" } : MethodName)) ∈ z_TB := z_in3 (i := 153) rfl (by decide +kernel)
theorem wl_L_60 : (Cond.methodLink "TwoSealsLaw" (60 : Nat) ({ cls := "TwoSealsModel", name := "thrown", desc := "()I" } : MethodName)) ∈ z_TB := z_in3 (i := 204) rfl (by decide +kernel)
theorem wi_M_thrown : (Cond.instanceMethod ({ cls := "TwoSealsModel", name := "thrown", desc := "()I" } : MethodName)) ∈ z_TB := z_in3 (i := 205) rfl (by decide +kernel)
theorem wv_M_M_thrown : (Cond.selects "TwoSealsModel" ({ cls := "TwoSealsModel", name := "thrown", desc := "()I" } : MethodName) ({ cls := "TwoSealsModel", name := "thrown", desc := "()I" } : MethodName)) ∈ z_TB := z_in3 (i := 206) rfl (by decide +kernel)
theorem wl_L_59 : (Cond.methodLink "TwoSealsLaw" (59 : Nat) ({ cls := "TwoSealsModel", name := "type", desc := "(IJI)I" } : MethodName)) ∈ z_TB := z_in3 (i := 208) rfl (by decide +kernel)
theorem wi_M_type : (Cond.instanceMethod ({ cls := "TwoSealsModel", name := "type", desc := "(IJI)I" } : MethodName)) ∈ z_TB := z_in3 (i := 209) rfl (by decide +kernel)
theorem wv_M_M_type : (Cond.selects "TwoSealsModel" ({ cls := "TwoSealsModel", name := "type", desc := "(IJI)I" } : MethodName) ({ cls := "TwoSealsModel", name := "type", desc := "(IJI)I" } : MethodName)) ∈ z_TB := z_in3 (i := 210) rfl (by decide +kernel)
theorem wl_M_96 : (Cond.methodLink "TwoSealsModel" (96 : Nat) ({ cls := "TwoSealsModel", name := "isRow", desc := "(I)Z" } : MethodName)) ∈ z_TB := z_in3 (i := 212) rfl (by decide +kernel)
theorem ws_M_isRow : (Cond.static ({ cls := "TwoSealsModel", name := "isRow", desc := "(I)Z" } : MethodName)) ∈ z_TB := z_in3 (i := 213) rfl (by decide +kernel)
theorem wl_M_100 : (Cond.methodLink "TwoSealsModel" (100 : Nat) ({ cls := "TwoSealsModel", name := "most", desc := "(I)I" } : MethodName)) ∈ z_TB := z_in3 (i := 215) rfl (by decide +kernel)
theorem ws_M_most : (Cond.static ({ cls := "TwoSealsModel", name := "most", desc := "(I)I" } : MethodName)) ∈ z_TB := z_in3 (i := 216) rfl (by decide +kernel)
theorem wk_M_103 : (Cond.constantLong "TwoSealsModel" (103 : Nat) (255 : Int64)) ∈ z_TB := z_in3 (i := 218) rfl (by decide +kernel)
theorem wl_L_67 : (Cond.methodLink "TwoSealsLaw" (67 : Nat) ({ cls := "TwoSealsModel", name := "clear", desc := "(I)I" } : MethodName)) ∈ z_TB := z_in3 (i := 219) rfl (by decide +kernel)
theorem wi_M_clear : (Cond.instanceMethod ({ cls := "TwoSealsModel", name := "clear", desc := "(I)I" } : MethodName)) ∈ z_TB := z_in3 (i := 220) rfl (by decide +kernel)
theorem wv_M_M_clear : (Cond.selects "TwoSealsModel" ({ cls := "TwoSealsModel", name := "clear", desc := "(I)I" } : MethodName) ({ cls := "TwoSealsModel", name := "clear", desc := "(I)I" } : MethodName)) ∈ z_TB := z_in3 (i := 221) rfl (by decide +kernel)
theorem wl_L_71 : (Cond.methodLink "TwoSealsLaw" (71 : Nat) ({ cls := "TwoSealsModel", name := "poke", desc := "(III)V" } : MethodName)) ∈ z_TB := z_in3 (i := 223) rfl (by decide +kernel)
theorem wi_M_poke : (Cond.instanceMethod ({ cls := "TwoSealsModel", name := "poke", desc := "(III)V" } : MethodName)) ∈ z_TB := z_in3 (i := 224) rfl (by decide +kernel)
theorem wv_M_M_poke : (Cond.selects "TwoSealsModel" ({ cls := "TwoSealsModel", name := "poke", desc := "(III)V" } : MethodName) ({ cls := "TwoSealsModel", name := "poke", desc := "(III)V" } : MethodName)) ∈ z_TB := z_in3 (i := 225) rfl (by decide +kernel)
theorem wl_L_74 : (Cond.methodLink "TwoSealsLaw" (74 : Nat) ({ cls := "TwoSealsModel", name := "take", desc := "(I)I" } : MethodName)) ∈ z_TB := z_in3 (i := 227) rfl (by decide +kernel)
theorem wi_M_take : (Cond.instanceMethod ({ cls := "TwoSealsModel", name := "take", desc := "(I)I" } : MethodName)) ∈ z_TB := z_in3 (i := 228) rfl (by decide +kernel)
theorem wv_M_M_take : (Cond.selects "TwoSealsModel" ({ cls := "TwoSealsModel", name := "take", desc := "(I)I" } : MethodName) ({ cls := "TwoSealsModel", name := "take", desc := "(I)I" } : MethodName)) ∈ z_TB := z_in3 (i := 229) rfl (by decide +kernel)
theorem wl_L_78 : (Cond.methodLink "TwoSealsLaw" (78 : Nat) ({ cls := "TwoSealsModel", name := "block", desc := "()V" } : MethodName)) ∈ z_TB := z_in3 (i := 231) rfl (by decide +kernel)
theorem wi_M_block : (Cond.instanceMethod ({ cls := "TwoSealsModel", name := "block", desc := "()V" } : MethodName)) ∈ z_TB := z_in3 (i := 232) rfl (by decide +kernel)
theorem wv_M_M_block : (Cond.selects "TwoSealsModel" ({ cls := "TwoSealsModel", name := "block", desc := "()V" } : MethodName) ({ cls := "TwoSealsModel", name := "block", desc := "()V" } : MethodName)) ∈ z_TB := z_in3 (i := 233) rfl (by decide +kernel)
theorem wl_M_108 : (Cond.methodLink "TwoSealsModel" (108 : Nat) ({ cls := "TwoSealsModel", name := "useKey", desc := "()V" } : MethodName)) ∈ z_TB := z_in3 (i := 235) rfl (by decide +kernel)
theorem wi_M_useKey : (Cond.instanceMethod ({ cls := "TwoSealsModel", name := "useKey", desc := "()V" } : MethodName)) ∈ z_TB := z_in3 (i := 237) rfl (by decide +kernel)
theorem wl_M_111 : (Cond.methodLink "TwoSealsModel" (111 : Nat) ({ cls := "TwoSealsModel", name := "encipher", desc := "()V" } : MethodName)) ∈ z_TB := z_in3 (i := 239) rfl (by decide +kernel)
theorem wi_M_encipher : (Cond.instanceMethod ({ cls := "TwoSealsModel", name := "encipher", desc := "()V" } : MethodName)) ∈ z_TB := z_in4 (i := 1) rfl (by decide +kernel)
theorem wl_M_67 : (Cond.methodLink "TwoSealsModel" (67 : Nat) ({ cls := "TwoSealsModel", name := "expand", desc := "()V" } : MethodName)) ∈ z_TB := z_in4 (i := 3) rfl (by decide +kernel)
theorem wi_M_expand : (Cond.instanceMethod ({ cls := "TwoSealsModel", name := "expand", desc := "()V" } : MethodName)) ∈ z_TB := z_in4 (i := 5) rfl (by decide +kernel)
theorem wl_M_70 : (Cond.methodLink "TwoSealsModel" (70 : Nat) ({ cls := "TwoSealsModel", name := "addWords", desc := "(I)V" } : MethodName)) ∈ z_TB := z_in4 (i := 7) rfl (by decide +kernel)
theorem wi_M_addWords : (Cond.instanceMethod ({ cls := "TwoSealsModel", name := "addWords", desc := "(I)V" } : MethodName)) ∈ z_TB := z_in4 (i := 9) rfl (by decide +kernel)
theorem wl_M_74 : (Cond.methodLink "TwoSealsModel" (74 : Nat) ({ cls := "TwoSealsModel", name := "mixed", desc := "(II)I" } : MethodName)) ∈ z_TB := z_in4 (i := 11) rfl (by decide +kernel)
theorem wi_M_mixed : (Cond.instanceMethod ({ cls := "TwoSealsModel", name := "mixed", desc := "(II)I" } : MethodName)) ∈ z_TB := z_in4 (i := 13) rfl (by decide +kernel)
theorem wl_M_114 : (Cond.methodLink "TwoSealsModel" (114 : Nat) ({ cls := "TwoSealsModel", name := "keepBlock", desc := "()V" } : MethodName)) ∈ z_TB := z_in4 (i := 15) rfl (by decide +kernel)
theorem wi_M_keepBlock : (Cond.instanceMethod ({ cls := "TwoSealsModel", name := "keepBlock", desc := "()V" } : MethodName)) ∈ z_TB := z_in4 (i := 17) rfl (by decide +kernel)
theorem wl_L_82 : (Cond.methodLink "TwoSealsLaw" (82 : Nat) ({ cls := "TwoSealsModel", name := "hash", desc := "(I)V" } : MethodName)) ∈ z_TB := z_in4 (i := 19) rfl (by decide +kernel)
theorem wi_M_hash : (Cond.instanceMethod ({ cls := "TwoSealsModel", name := "hash", desc := "(I)V" } : MethodName)) ∈ z_TB := z_in4 (i := 20) rfl (by decide +kernel)
theorem wv_M_M_hash : (Cond.selects "TwoSealsModel" ({ cls := "TwoSealsModel", name := "hash", desc := "(I)V" } : MethodName) ({ cls := "TwoSealsModel", name := "hash", desc := "(I)V" } : MethodName)) ∈ z_TB := z_in4 (i := 21) rfl (by decide +kernel)
theorem wl_M_117 : (Cond.methodLink "TwoSealsModel" (117 : Nat) ({ cls := "TwoSealsModel", name := "beginHash", desc := "(I)V" } : MethodName)) ∈ z_TB := z_in4 (i := 23) rfl (by decide +kernel)
theorem wi_M_beginHash : (Cond.instanceMethod ({ cls := "TwoSealsModel", name := "beginHash", desc := "(I)V" } : MethodName)) ∈ z_TB := z_in4 (i := 25) rfl (by decide +kernel)
theorem wl_M_83 : (Cond.methodLink "TwoSealsModel" (83 : Nat) ({ cls := "TwoSealsModel", name := "bit", desc := "(III)I" } : MethodName)) ∈ z_TB := z_in4 (i := 27) rfl (by decide +kernel)
theorem ws_M_bit : (Cond.static ({ cls := "TwoSealsModel", name := "bit", desc := "(III)I" } : MethodName)) ∈ z_TB := z_in4 (i := 28) rfl (by decide +kernel)
theorem wl_M_77 : (Cond.methodLink "TwoSealsModel" (77 : Nat) ({ cls := "TwoSealsModel", name := "clearProduct", desc := "()V" } : MethodName)) ∈ z_TB := z_in4 (i := 30) rfl (by decide +kernel)
theorem wi_M_clearProduct : (Cond.instanceMethod ({ cls := "TwoSealsModel", name := "clearProduct", desc := "()V" } : MethodName)) ∈ z_TB := z_in4 (i := 32) rfl (by decide +kernel)
theorem wl_M_87 : (Cond.methodLink "TwoSealsModel" (87 : Nat) ({ cls := "TwoSealsModel", name := "addShifted", desc := "(I)V" } : MethodName)) ∈ z_TB := z_in4 (i := 34) rfl (by decide +kernel)
theorem wi_M_addShifted : (Cond.instanceMethod ({ cls := "TwoSealsModel", name := "addShifted", desc := "(I)V" } : MethodName)) ∈ z_TB := z_in4 (i := 36) rfl (by decide +kernel)
theorem wl_M_80 : (Cond.methodLink "TwoSealsModel" (80 : Nat) ({ cls := "TwoSealsModel", name := "reduce", desc := "(I)V" } : MethodName)) ∈ z_TB := z_in4 (i := 38) rfl (by decide +kernel)
theorem wi_M_reduce : (Cond.instanceMethod ({ cls := "TwoSealsModel", name := "reduce", desc := "(I)V" } : MethodName)) ∈ z_TB := z_in4 (i := 40) rfl (by decide +kernel)
theorem wl_M_120 : (Cond.methodLink "TwoSealsModel" (120 : Nat) ({ cls := "TwoSealsModel", name := "feedRow", desc := "(III)V" } : MethodName)) ∈ z_TB := z_in4 (i := 42) rfl (by decide +kernel)
theorem wi_M_feedRow : (Cond.instanceMethod ({ cls := "TwoSealsModel", name := "feedRow", desc := "(III)V" } : MethodName)) ∈ z_TB := z_in4 (i := 44) rfl (by decide +kernel)
theorem wl_M_93 : (Cond.methodLink "TwoSealsModel" (93 : Nat) ({ cls := "TwoSealsModel", name := "feed", desc := "(I)V" } : MethodName)) ∈ z_TB := z_in4 (i := 46) rfl (by decide +kernel)
theorem wi_M_feed : (Cond.instanceMethod ({ cls := "TwoSealsModel", name := "feed", desc := "(I)V" } : MethodName)) ∈ z_TB := z_in4 (i := 48) rfl (by decide +kernel)
theorem wl_M_90 : (Cond.methodLink "TwoSealsModel" (90 : Nat) ({ cls := "TwoSealsModel", name := "multiply", desc := "(I)V" } : MethodName)) ∈ z_TB := z_in4 (i := 50) rfl (by decide +kernel)
theorem wi_M_multiply : (Cond.instanceMethod ({ cls := "TwoSealsModel", name := "multiply", desc := "(I)V" } : MethodName)) ∈ z_TB := z_in4 (i := 52) rfl (by decide +kernel)
theorem wl_M_124 : (Cond.methodLink "TwoSealsModel" (124 : Nat) ({ cls := "TwoSealsModel", name := "endHash", desc := "(I)V" } : MethodName)) ∈ z_TB := z_in4 (i := 54) rfl (by decide +kernel)
theorem wi_M_endHash : (Cond.instanceMethod ({ cls := "TwoSealsModel", name := "endHash", desc := "(I)V" } : MethodName)) ∈ z_TB := z_in4 (i := 56) rfl (by decide +kernel)
theorem wl_L_85 : (Cond.methodLink "TwoSealsLaw" (85 : Nat) ({ cls := "TwoSealsModel", name := "seal", desc := "(I)I" } : MethodName)) ∈ z_TB := z_in4 (i := 58) rfl (by decide +kernel)
theorem wi_M_seal : (Cond.instanceMethod ({ cls := "TwoSealsModel", name := "seal", desc := "(I)I" } : MethodName)) ∈ z_TB := z_in4 (i := 59) rfl (by decide +kernel)
theorem wv_M_M_seal : (Cond.selects "TwoSealsModel" ({ cls := "TwoSealsModel", name := "seal", desc := "(I)I" } : MethodName) ({ cls := "TwoSealsModel", name := "seal", desc := "(I)I" } : MethodName)) ∈ z_TB := z_in4 (i := 60) rfl (by decide +kernel)
theorem wl_M_141 : (Cond.methodLink "TwoSealsModel" (141 : Nat) ({ cls := "TwoSealsModel", name := "isReady", desc := "(I)Z" } : MethodName)) ∈ z_TB := z_in4 (i := 62) rfl (by decide +kernel)
theorem wi_M_isReady : (Cond.instanceMethod ({ cls := "TwoSealsModel", name := "isReady", desc := "(I)Z" } : MethodName)) ∈ z_TB := z_in4 (i := 64) rfl (by decide +kernel)
theorem wl_M_144 : (Cond.methodLink "TwoSealsModel" (144 : Nat) ({ cls := "TwoSealsModel", name := "makeStart", desc := "()V" } : MethodName)) ∈ z_TB := z_in4 (i := 66) rfl (by decide +kernel)
theorem wi_M_makeStart : (Cond.instanceMethod ({ cls := "TwoSealsModel", name := "makeStart", desc := "()V" } : MethodName)) ∈ z_TB := z_in4 (i := 68) rfl (by decide +kernel)
theorem wl_M_127 : (Cond.methodLink "TwoSealsModel" (127 : Nat) ({ cls := "TwoSealsModel", name := "beginOutward", desc := "()V" } : MethodName)) ∈ z_TB := z_in4 (i := 70) rfl (by decide +kernel)
theorem wi_M_beginOutward : (Cond.instanceMethod ({ cls := "TwoSealsModel", name := "beginOutward", desc := "()V" } : MethodName)) ∈ z_TB := z_in4 (i := 72) rfl (by decide +kernel)
theorem wl_M_130 : (Cond.methodLink "TwoSealsModel" (130 : Nat) ({ cls := "TwoSealsModel", name := "feedLengths", desc := "(III)V" } : MethodName)) ∈ z_TB := z_in4 (i := 74) rfl (by decide +kernel)
theorem wi_M_feedLengths : (Cond.instanceMethod ({ cls := "TwoSealsModel", name := "feedLengths", desc := "(III)V" } : MethodName)) ∈ z_TB := z_in4 (i := 76) rfl (by decide +kernel)
theorem wl_M_147 : (Cond.methodLink "TwoSealsModel" (147 : Nat) ({ cls := "TwoSealsModel", name := "cipher", desc := "(IZ)V" } : MethodName)) ∈ z_TB := z_in4 (i := 78) rfl (by decide +kernel)
theorem wi_M_cipher : (Cond.instanceMethod ({ cls := "TwoSealsModel", name := "cipher", desc := "(IZ)V" } : MethodName)) ∈ z_TB := z_in4 (i := 80) rfl (by decide +kernel)
theorem wl_M_133 : (Cond.methodLink "TwoSealsModel" (133 : Nat) ({ cls := "TwoSealsModel", name := "count", desc := "(IZ)V" } : MethodName)) ∈ z_TB := z_in4 (i := 82) rfl (by decide +kernel)
theorem wi_M_count : (Cond.instanceMethod ({ cls := "TwoSealsModel", name := "count", desc := "(IZ)V" } : MethodName)) ∈ z_TB := z_in4 (i := 84) rfl (by decide +kernel)
theorem wl_M_150 : (Cond.methodLink "TwoSealsModel" (150 : Nat) ({ cls := "TwoSealsModel", name := "sealOutward", desc := "(II)V" } : MethodName)) ∈ z_TB := z_in4 (i := 86) rfl (by decide +kernel)
theorem wi_M_sealOutward : (Cond.instanceMethod ({ cls := "TwoSealsModel", name := "sealOutward", desc := "(II)V" } : MethodName)) ∈ z_TB := z_in4 (i := 88) rfl (by decide +kernel)
theorem wl_M_153 : (Cond.methodLink "TwoSealsModel" (153 : Nat) ({ cls := "TwoSealsModel", name := "deriveKeys", desc := "()V" } : MethodName)) ∈ z_TB := z_in4 (i := 90) rfl (by decide +kernel)
theorem wi_M_deriveKeys : (Cond.instanceMethod ({ cls := "TwoSealsModel", name := "deriveKeys", desc := "()V" } : MethodName)) ∈ z_TB := z_in4 (i := 92) rfl (by decide +kernel)
theorem wl_M_137 : (Cond.methodLink "TwoSealsModel" (137 : Nat) ({ cls := "TwoSealsModel", name := "derive", desc := "(II)V" } : MethodName)) ∈ z_TB := z_in4 (i := 94) rfl (by decide +kernel)
theorem wi_M_derive : (Cond.instanceMethod ({ cls := "TwoSealsModel", name := "derive", desc := "(II)V" } : MethodName)) ∈ z_TB := z_in4 (i := 96) rfl (by decide +kernel)
theorem wl_M_156 : (Cond.methodLink "TwoSealsModel" (156 : Nat) ({ cls := "TwoSealsModel", name := "sealInward", desc := "(II)V" } : MethodName)) ∈ z_TB := z_in4 (i := 98) rfl (by decide +kernel)
theorem wi_M_sealInward : (Cond.instanceMethod ({ cls := "TwoSealsModel", name := "sealInward", desc := "(II)V" } : MethodName)) ∈ z_TB := z_in4 (i := 100) rfl (by decide +kernel)
theorem wl_M_159 : (Cond.methodLink "TwoSealsModel" (159 : Nat) ({ cls := "TwoSealsModel", name := "startAtTag", desc := "()V" } : MethodName)) ∈ z_TB := z_in4 (i := 102) rfl (by decide +kernel)
theorem wi_M_startAtTag : (Cond.instanceMethod ({ cls := "TwoSealsModel", name := "startAtTag", desc := "()V" } : MethodName)) ∈ z_TB := z_in4 (i := 104) rfl (by decide +kernel)
theorem wl_L_88 : (Cond.methodLink "TwoSealsLaw" (88 : Nat) ({ cls := "TwoSealsModel", name := "open", desc := "(I)I" } : MethodName)) ∈ z_TB := z_in4 (i := 106) rfl (by decide +kernel)
theorem wi_M_open : (Cond.instanceMethod ({ cls := "TwoSealsModel", name := "open", desc := "(I)I" } : MethodName)) ∈ z_TB := z_in4 (i := 107) rfl (by decide +kernel)
theorem wv_M_M_open : (Cond.selects "TwoSealsModel" ({ cls := "TwoSealsModel", name := "open", desc := "(I)I" } : MethodName) ({ cls := "TwoSealsModel", name := "open", desc := "(I)I" } : MethodName)) ∈ z_TB := z_in4 (i := 108) rfl (by decide +kernel)
theorem wl_M_162 : (Cond.methodLink "TwoSealsModel" (162 : Nat) ({ cls := "TwoSealsModel", name := "openInward", desc := "(I)V" } : MethodName)) ∈ z_TB := z_in4 (i := 110) rfl (by decide +kernel)
theorem wi_M_openInward : (Cond.instanceMethod ({ cls := "TwoSealsModel", name := "openInward", desc := "(I)V" } : MethodName)) ∈ z_TB := z_in4 (i := 112) rfl (by decide +kernel)
theorem wl_L_92 : (Cond.methodLink "TwoSealsLaw" (92 : Nat) ({ cls := "TwoSealsModel", name := "size", desc := "()I" } : MethodName)) ∈ z_TB := z_in4 (i := 114) rfl (by decide +kernel)
theorem wi_M_size : (Cond.instanceMethod ({ cls := "TwoSealsModel", name := "size", desc := "()I" } : MethodName)) ∈ z_TB := z_in4 (i := 115) rfl (by decide +kernel)
theorem wv_M_M_size : (Cond.selects "TwoSealsModel" ({ cls := "TwoSealsModel", name := "size", desc := "()I" } : MethodName) ({ cls := "TwoSealsModel", name := "size", desc := "()I" } : MethodName)) ∈ z_TB := z_in4 (i := 116) rfl (by decide +kernel)
theorem wl_L_95 : (Cond.methodLink "TwoSealsLaw" (95 : Nat) ({ cls := "TwoSealsModel", name := "at", desc := "(I)I" } : MethodName)) ∈ z_TB := z_in4 (i := 118) rfl (by decide +kernel)
theorem wi_M_at : (Cond.instanceMethod ({ cls := "TwoSealsModel", name := "at", desc := "(I)I" } : MethodName)) ∈ z_TB := z_in4 (i := 119) rfl (by decide +kernel)
theorem wv_M_M_at : (Cond.selects "TwoSealsModel" ({ cls := "TwoSealsModel", name := "at", desc := "(I)I" } : MethodName) ({ cls := "TwoSealsModel", name := "at", desc := "(I)I" } : MethodName)) ∈ z_TB := z_in4 (i := 120) rfl (by decide +kernel)
theorem wk_L_52 : (Cond.constantLong "TwoSealsLaw" (52 : Nat) (4294967295 : Int64)) ∈ z_TB := z_in4 (i := 122) rfl (by decide +kernel)
theorem z_inp {q : MethodName × Nat} (h : q ∈ lw_privs) (hg : goodWord (Cond.selects q.1.cls q.1 q.1) = true) : Cond.selects q.1.cls q.1 q.1 ∈ z_TB := List.mem_filter.mpr ⟨List.mem_append_left _ (List.mem_map.mpr ⟨q, h, rfl⟩), hg⟩
theorem z_inp1 {q : MethodName × Nat} {i : Nat} (h : lw_privs_1[i]? = some q) (hg : goodWord (Cond.selects q.1.cls q.1 q.1) = true) : Cond.selects q.1.cls q.1 q.1 ∈ z_TB := z_inp (List.mem_append_left _ (List.mem_of_getElem? h)) hg
theorem wv_C_C_makeBoxedWord : Cond.selects "TwoSeals$Cipher" ⟨"TwoSeals$Cipher", "makeBoxedWord", "(II)V"⟩ ⟨"TwoSeals$Cipher", "makeBoxedWord", "(II)V"⟩ ∈ z_TB := z_inp1 (i := 1) (q := (⟨"TwoSeals$Cipher", "makeBoxedWord", "(II)V"⟩, 4)) rfl (by decide +kernel)
theorem wv_C_C_makeWord : Cond.selects "TwoSeals$Cipher" ⟨"TwoSeals$Cipher", "makeWord", "(I)V"⟩ ⟨"TwoSeals$Cipher", "makeWord", "(I)V"⟩ ∈ z_TB := z_inp1 (i := 2) (q := (⟨"TwoSeals$Cipher", "makeWord", "(I)V"⟩, 4)) rfl (by decide +kernel)
theorem wv_C_C_addWords : Cond.selects "TwoSeals$Cipher" ⟨"TwoSeals$Cipher", "addWords", "(I)V"⟩ ⟨"TwoSeals$Cipher", "addWords", "(I)V"⟩ ∈ z_TB := z_inp1 (i := 3) (q := (⟨"TwoSeals$Cipher", "addWords", "(I)V"⟩, 4)) rfl (by decide +kernel)
theorem wv_C_C_boxAndMove : Cond.selects "TwoSeals$Cipher" ⟨"TwoSeals$Cipher", "boxAndMove", "()V"⟩ ⟨"TwoSeals$Cipher", "boxAndMove", "()V"⟩ ∈ z_TB := z_inp1 (i := 4) (q := (⟨"TwoSeals$Cipher", "boxAndMove", "()V"⟩, 4)) rfl (by decide +kernel)
theorem wv_C_C_mix : Cond.selects "TwoSeals$Cipher" ⟨"TwoSeals$Cipher", "mix", "()V"⟩ ⟨"TwoSeals$Cipher", "mix", "()V"⟩ ∈ z_TB := z_inp1 (i := 5) (q := (⟨"TwoSeals$Cipher", "mix", "()V"⟩, 4)) rfl (by decide +kernel)
theorem wv_H_H_readHalf : Cond.selects "TwoSeals$Hasher" ⟨"TwoSeals$Hasher", "readHalf", "([III)J"⟩ ⟨"TwoSeals$Hasher", "readHalf", "([III)J"⟩ ∈ z_TB := z_inp1 (i := 6) (q := (⟨"TwoSeals$Hasher", "readHalf", "([III)J"⟩, 9)) rfl (by decide +kernel)
theorem wv_H_H_putBesidesIntoKey : Cond.selects "TwoSeals$Hasher" ⟨"TwoSeals$Hasher", "putBesidesIntoKey", "()V"⟩ ⟨"TwoSeals$Hasher", "putBesidesIntoKey", "()V"⟩ ∈ z_TB := z_inp1 (i := 7) (q := (⟨"TwoSeals$Hasher", "putBesidesIntoKey", "()V"⟩, 9)) rfl (by decide +kernel)
theorem wv_H_H_multiplySumByKey : Cond.selects "TwoSeals$Hasher" ⟨"TwoSeals$Hasher", "multiplySumByKey", "()V"⟩ ⟨"TwoSeals$Hasher", "multiplySumByKey", "()V"⟩ ∈ z_TB := z_inp1 (i := 8) (q := (⟨"TwoSeals$Hasher", "multiplySumByKey", "()V"⟩, 9)) rfl (by decide +kernel)
theorem wv_H_H_writeHalf : Cond.selects "TwoSeals$Hasher" ⟨"TwoSeals$Hasher", "writeHalf", "(J[II)V"⟩ ⟨"TwoSeals$Hasher", "writeHalf", "(J[II)V"⟩ ∈ z_TB := z_inp1 (i := 9) (q := (⟨"TwoSeals$Hasher", "writeHalf", "(J[II)V"⟩, 9)) rfl (by decide +kernel)
theorem wv_S_S_requireKeyAndNonce : Cond.selects "TwoSeals" ⟨"TwoSeals", "requireKeyAndNonce", "(I)V"⟩ ⟨"TwoSeals", "requireKeyAndNonce", "(I)V"⟩ ∈ z_TB := z_inp1 (i := 10) (q := (⟨"TwoSeals", "requireKeyAndNonce", "(I)V"⟩, 6)) rfl (by decide +kernel)
theorem wv_O_O_derive : Cond.selects "TwoSeals$WayOne" ⟨"TwoSeals$WayOne", "derive", "(ILTwoSeals$Row;[II)V"⟩ ⟨"TwoSeals$WayOne", "derive", "(ILTwoSeals$Row;[II)V"⟩ ∈ z_TB := z_inp1 (i := 11) (q := (⟨"TwoSeals$WayOne", "derive", "(ILTwoSeals$Row;[II)V"⟩, 8)) rfl (by decide +kernel)
theorem wv_H_H_putLength : Cond.selects "TwoSeals$Hasher" ⟨"TwoSeals$Hasher", "putLength", "(IJ)V"⟩ ⟨"TwoSeals$Hasher", "putLength", "(IJ)V"⟩ ∈ z_TB := z_inp1 (i := 12) (q := (⟨"TwoSeals$Hasher", "putLength", "(IJ)V"⟩, 9)) rfl (by decide +kernel)
theorem wv_O_O_makeDue : Cond.selects "TwoSeals$WayOne" ⟨"TwoSeals$WayOne", "makeDue", "([LTwoSeals$Row;[II)V"⟩ ⟨"TwoSeals$WayOne", "makeDue", "([LTwoSeals$Row;[II)V"⟩ ∈ z_TB := z_inp1 (i := 13) (q := (⟨"TwoSeals$WayOne", "makeDue", "([LTwoSeals$Row;[II)V"⟩, 8)) rfl (by decide +kernel)
theorem wv_Z_Z_makeDue : Cond.selects "TwoSeals$WayZero" ⟨"TwoSeals$WayZero", "makeDue", "(LTwoSeals$Row;[II)V"⟩ ⟨"TwoSeals$WayZero", "makeDue", "(LTwoSeals$Row;[II)V"⟩ ∈ z_TB := z_inp1 (i := 14) (q := (⟨"TwoSeals$WayZero", "makeDue", "(LTwoSeals$Row;[II)V"⟩, 8)) rfl (by decide +kernel)
theorem wv_M_M_useKey : Cond.selects "TwoSealsModel" ⟨"TwoSealsModel", "useKey", "()V"⟩ ⟨"TwoSealsModel", "useKey", "()V"⟩ ∈ z_TB := z_inp1 (i := 15) (q := (⟨"TwoSealsModel", "useKey", "()V"⟩, 16)) rfl (by decide +kernel)
theorem z_inp2 {q : MethodName × Nat} {i : Nat} (h : lw_privs_2[i]? = some q) (hg : goodWord (Cond.selects q.1.cls q.1 q.1) = true) : Cond.selects q.1.cls q.1 q.1 ∈ z_TB := z_inp (List.mem_append_right _ (List.mem_append_left _ (List.mem_of_getElem? h))) hg
theorem wv_M_M_encipher : Cond.selects "TwoSealsModel" ⟨"TwoSealsModel", "encipher", "()V"⟩ ⟨"TwoSealsModel", "encipher", "()V"⟩ ∈ z_TB := z_inp2 (i := 0) (q := (⟨"TwoSealsModel", "encipher", "()V"⟩, 16)) rfl (by decide +kernel)
theorem wv_M_M_expand : Cond.selects "TwoSealsModel" ⟨"TwoSealsModel", "expand", "()V"⟩ ⟨"TwoSealsModel", "expand", "()V"⟩ ∈ z_TB := z_inp2 (i := 1) (q := (⟨"TwoSealsModel", "expand", "()V"⟩, 16)) rfl (by decide +kernel)
theorem wv_M_M_addWords : Cond.selects "TwoSealsModel" ⟨"TwoSealsModel", "addWords", "(I)V"⟩ ⟨"TwoSealsModel", "addWords", "(I)V"⟩ ∈ z_TB := z_inp2 (i := 2) (q := (⟨"TwoSealsModel", "addWords", "(I)V"⟩, 16)) rfl (by decide +kernel)
theorem wv_M_M_mixed : Cond.selects "TwoSealsModel" ⟨"TwoSealsModel", "mixed", "(II)I"⟩ ⟨"TwoSealsModel", "mixed", "(II)I"⟩ ∈ z_TB := z_inp2 (i := 3) (q := (⟨"TwoSealsModel", "mixed", "(II)I"⟩, 16)) rfl (by decide +kernel)
theorem wv_M_M_keepBlock : Cond.selects "TwoSealsModel" ⟨"TwoSealsModel", "keepBlock", "()V"⟩ ⟨"TwoSealsModel", "keepBlock", "()V"⟩ ∈ z_TB := z_inp2 (i := 4) (q := (⟨"TwoSealsModel", "keepBlock", "()V"⟩, 16)) rfl (by decide +kernel)
theorem wv_M_M_beginHash : Cond.selects "TwoSealsModel" ⟨"TwoSealsModel", "beginHash", "(I)V"⟩ ⟨"TwoSealsModel", "beginHash", "(I)V"⟩ ∈ z_TB := z_inp2 (i := 5) (q := (⟨"TwoSealsModel", "beginHash", "(I)V"⟩, 16)) rfl (by decide +kernel)
theorem wv_M_M_clearProduct : Cond.selects "TwoSealsModel" ⟨"TwoSealsModel", "clearProduct", "()V"⟩ ⟨"TwoSealsModel", "clearProduct", "()V"⟩ ∈ z_TB := z_inp2 (i := 6) (q := (⟨"TwoSealsModel", "clearProduct", "()V"⟩, 16)) rfl (by decide +kernel)
theorem wv_M_M_addShifted : Cond.selects "TwoSealsModel" ⟨"TwoSealsModel", "addShifted", "(I)V"⟩ ⟨"TwoSealsModel", "addShifted", "(I)V"⟩ ∈ z_TB := z_inp2 (i := 7) (q := (⟨"TwoSealsModel", "addShifted", "(I)V"⟩, 16)) rfl (by decide +kernel)
theorem wv_M_M_reduce : Cond.selects "TwoSealsModel" ⟨"TwoSealsModel", "reduce", "(I)V"⟩ ⟨"TwoSealsModel", "reduce", "(I)V"⟩ ∈ z_TB := z_inp2 (i := 8) (q := (⟨"TwoSealsModel", "reduce", "(I)V"⟩, 16)) rfl (by decide +kernel)
theorem wv_M_M_feedRow : Cond.selects "TwoSealsModel" ⟨"TwoSealsModel", "feedRow", "(III)V"⟩ ⟨"TwoSealsModel", "feedRow", "(III)V"⟩ ∈ z_TB := z_inp2 (i := 9) (q := (⟨"TwoSealsModel", "feedRow", "(III)V"⟩, 16)) rfl (by decide +kernel)
theorem wv_M_M_feed : Cond.selects "TwoSealsModel" ⟨"TwoSealsModel", "feed", "(I)V"⟩ ⟨"TwoSealsModel", "feed", "(I)V"⟩ ∈ z_TB := z_inp2 (i := 10) (q := (⟨"TwoSealsModel", "feed", "(I)V"⟩, 16)) rfl (by decide +kernel)
theorem wv_M_M_multiply : Cond.selects "TwoSealsModel" ⟨"TwoSealsModel", "multiply", "(I)V"⟩ ⟨"TwoSealsModel", "multiply", "(I)V"⟩ ∈ z_TB := z_inp2 (i := 11) (q := (⟨"TwoSealsModel", "multiply", "(I)V"⟩, 16)) rfl (by decide +kernel)
theorem wv_M_M_endHash : Cond.selects "TwoSealsModel" ⟨"TwoSealsModel", "endHash", "(I)V"⟩ ⟨"TwoSealsModel", "endHash", "(I)V"⟩ ∈ z_TB := z_inp2 (i := 12) (q := (⟨"TwoSealsModel", "endHash", "(I)V"⟩, 16)) rfl (by decide +kernel)
theorem wv_M_M_isReady : Cond.selects "TwoSealsModel" ⟨"TwoSealsModel", "isReady", "(I)Z"⟩ ⟨"TwoSealsModel", "isReady", "(I)Z"⟩ ∈ z_TB := z_inp2 (i := 13) (q := (⟨"TwoSealsModel", "isReady", "(I)Z"⟩, 16)) rfl (by decide +kernel)
theorem wv_M_M_makeStart : Cond.selects "TwoSealsModel" ⟨"TwoSealsModel", "makeStart", "()V"⟩ ⟨"TwoSealsModel", "makeStart", "()V"⟩ ∈ z_TB := z_inp2 (i := 14) (q := (⟨"TwoSealsModel", "makeStart", "()V"⟩, 16)) rfl (by decide +kernel)
theorem wv_M_M_beginOutward : Cond.selects "TwoSealsModel" ⟨"TwoSealsModel", "beginOutward", "()V"⟩ ⟨"TwoSealsModel", "beginOutward", "()V"⟩ ∈ z_TB := z_inp2 (i := 15) (q := (⟨"TwoSealsModel", "beginOutward", "()V"⟩, 16)) rfl (by decide +kernel)
theorem z_inp3 {q : MethodName × Nat} {i : Nat} (h : lw_privs_3[i]? = some q) (hg : goodWord (Cond.selects q.1.cls q.1 q.1) = true) : Cond.selects q.1.cls q.1 q.1 ∈ z_TB := z_inp (List.mem_append_right _ (List.mem_append_right _ (List.mem_of_getElem? h))) hg
theorem wv_M_M_feedLengths : Cond.selects "TwoSealsModel" ⟨"TwoSealsModel", "feedLengths", "(III)V"⟩ ⟨"TwoSealsModel", "feedLengths", "(III)V"⟩ ∈ z_TB := z_inp3 (i := 0) (q := (⟨"TwoSealsModel", "feedLengths", "(III)V"⟩, 16)) rfl (by decide +kernel)
theorem wv_M_M_cipher : Cond.selects "TwoSealsModel" ⟨"TwoSealsModel", "cipher", "(IZ)V"⟩ ⟨"TwoSealsModel", "cipher", "(IZ)V"⟩ ∈ z_TB := z_inp3 (i := 1) (q := (⟨"TwoSealsModel", "cipher", "(IZ)V"⟩, 16)) rfl (by decide +kernel)
theorem wv_M_M_count : Cond.selects "TwoSealsModel" ⟨"TwoSealsModel", "count", "(IZ)V"⟩ ⟨"TwoSealsModel", "count", "(IZ)V"⟩ ∈ z_TB := z_inp3 (i := 2) (q := (⟨"TwoSealsModel", "count", "(IZ)V"⟩, 16)) rfl (by decide +kernel)
theorem wv_M_M_sealOutward : Cond.selects "TwoSealsModel" ⟨"TwoSealsModel", "sealOutward", "(II)V"⟩ ⟨"TwoSealsModel", "sealOutward", "(II)V"⟩ ∈ z_TB := z_inp3 (i := 3) (q := (⟨"TwoSealsModel", "sealOutward", "(II)V"⟩, 16)) rfl (by decide +kernel)
theorem wv_M_M_deriveKeys : Cond.selects "TwoSealsModel" ⟨"TwoSealsModel", "deriveKeys", "()V"⟩ ⟨"TwoSealsModel", "deriveKeys", "()V"⟩ ∈ z_TB := z_inp3 (i := 4) (q := (⟨"TwoSealsModel", "deriveKeys", "()V"⟩, 16)) rfl (by decide +kernel)
theorem wv_M_M_derive : Cond.selects "TwoSealsModel" ⟨"TwoSealsModel", "derive", "(II)V"⟩ ⟨"TwoSealsModel", "derive", "(II)V"⟩ ∈ z_TB := z_inp3 (i := 5) (q := (⟨"TwoSealsModel", "derive", "(II)V"⟩, 16)) rfl (by decide +kernel)
theorem wv_M_M_sealInward : Cond.selects "TwoSealsModel" ⟨"TwoSealsModel", "sealInward", "(II)V"⟩ ⟨"TwoSealsModel", "sealInward", "(II)V"⟩ ∈ z_TB := z_inp3 (i := 6) (q := (⟨"TwoSealsModel", "sealInward", "(II)V"⟩, 16)) rfl (by decide +kernel)
theorem wv_M_M_startAtTag : Cond.selects "TwoSealsModel" ⟨"TwoSealsModel", "startAtTag", "()V"⟩ ⟨"TwoSealsModel", "startAtTag", "()V"⟩ ∈ z_TB := z_inp3 (i := 7) (q := (⟨"TwoSealsModel", "startAtTag", "()V"⟩, 16)) rfl (by decide +kernel)
theorem wv_M_M_openInward : Cond.selects "TwoSealsModel" ⟨"TwoSealsModel", "openInward", "(I)V"⟩ ⟨"TwoSealsModel", "openInward", "(I)V"⟩ ∈ z_TB := z_inp3 (i := 8) (q := (⟨"TwoSealsModel", "openInward", "(I)V"⟩, 16)) rfl (by decide +kernel)
end
section
/-! the world's cells: which kind each is (fixed), and what it holds: A k j an int, B k j a long -/
def z_N : Nat := 55
def z_sh : Nat → Nat × Nat × List (Nat × Nat) := fun k => match k with
  | 0 => (2, 5, [(2, 1), (2, 10), (2, 12), (2, 14), (2, 19), (2, 24)])
  | 1 => (3, 2, [(2, 2), (2, 4), (2, 6), (2, 8)])
  | 2 => (2, 2, [(2, 3), (0, 0)])
  | 3 => (0, 16, [])
  | 4 => (2, 2, [(2, 5), (0, 0)])
  | 5 => (0, 24, [])
  | 6 => (2, 2, [(2, 7), (0, 0)])
  | 7 => (0, 32, [])
  | 8 => (2, 2, [(2, 9), (0, 0)])
  | 9 => (0, 64, [])
  | 10 => (2, 2, [(2, 11), (0, 0)])
  | 11 => (0, 64, [])
  | 12 => (2, 2, [(2, 13), (0, 0)])
  | 13 => (0, 64, [])
  | 14 => (2, 0, [(2, 15), (2, 16), (2, 17), (2, 18)])
  | 15 => (0, 256, [])
  | 16 => (0, 176, [])
  | 17 => (0, 16, [])
  | 18 => (0, 16, [])
  | 19 => (3, 3, [(2, 20), (2, 22)])
  | 20 => (2, 1, [(0, 0), (0, 0), (1, 0), (1, 0), (2, 21), (1, 0), (1, 0), (1, 0), (1, 0)])
  | 21 => (0, 16, [])
  | 22 => (2, 1, [(0, 0), (0, 0), (1, 0), (1, 0), (2, 23), (1, 0), (1, 0), (1, 0), (1, 0)])
  | 23 => (0, 16, [])
  | 24 => (3, 4, [(2, 25), (2, 32)])
  | 25 => (2, 4, [(2, 14), (2, 20), (2, 26), (2, 27), (2, 28), (2, 29), (2, 30), (2, 31)])
  | 26 => (0, 16, [])
  | 27 => (0, 16, [])
  | 28 => (0, 16, [])
  | 29 => (0, 16, [])
  | 30 => (0, 16, [])
  | 31 => (0, 16, [])
  | 32 => (2, 3, [(2, 14), (2, 22), (2, 33), (2, 34), (2, 35), (2, 36), (2, 37), (2, 38)])
  | 33 => (0, 16, [])
  | 34 => (0, 16, [])
  | 35 => (0, 16, [])
  | 36 => (0, 16, [])
  | 37 => (0, 16, [])
  | 38 => (0, 16, [])
  | 39 => (2, 6, [(0, 0), (2, 40), (2, 41), (0, 0), (2, 42), (2, 43), (2, 44), (2, 45), (2, 46), (2, 47), (2, 48), (2, 49), (2, 50), (2, 51), (2, 52), (2, 53)])
  | 40 => (0, 320, [])
  | 41 => (0, 4, [])
  | 42 => (0, 64, [])
  | 43 => (0, 176, [])
  | 44 => (0, 16, [])
  | 45 => (0, 16, [])
  | 46 => (0, 256, [])
  | 47 => (0, 16, [])
  | 48 => (0, 16, [])
  | 49 => (0, 128, [])
  | 50 => (0, 128, [])
  | 51 => (0, 256, [])
  | 52 => (0, 16, [])
  | 53 => (0, 16, [])
  | _ => (1, 1, [])
abbrev z_G : Type := va_G × (Nat → ClassId)
abbrev z_A : Type := Nat → Nat → Nat
def z_tys (g : z_G) : List (ClassId × FieldType) := [(g.2 0, .int), (g.2 1, .long), (g.2 2, .object "TwoSeals$Row"), (g.2 3, .object "TwoSeals$Hasher"), (g.2 4, .object "TwoSeals$Way")]
def z_fv (ad : Nat → Nat) (a b : Nat → Nat) (j : Nat) (q : Nat × Nat) : Value := match q.1 with
  | 0 => .int (nI (a j))
  | 1 => .long (lN (b j))
  | _ => .ref (ad q.2)
def z_fs (ad : Nat → Nat) (a b : Nat → Nat) : Nat → List (Nat × Nat) → List Value
  | _, [] => []
  | j, q :: t => z_fv ad a b j q :: z_fs ad a b (j + 1) t
def z_cell (g : z_G) (ad : Nat → Nat) (d : Nat × Nat × List (Nat × Nat)) (a b : Nat → Nat) : va_E := match d.1 with
  | 0 => .inl (g.2 0, d.2.1, .inl (fun j => nI (a j)))
  | 1 => .inl (g.2 1, d.2.1, .inr (.inl (fun j => lN (b j))))
  | 2 => .inr (d.2.1, z_fs ad a b 0 d.2.2)
  | _ => .inl (g.2 d.2.1, d.2.2.length, .inr (.inr (.inr (.inr (fun j => (d.2.2[j]?).map (fun q => ad q.2))))))
def z_w (g : z_G) (ad : Nat → Nat) (A B : z_A) : va_W := (List.range z_N).map (fun k => (ad k, z_cell g ad (z_sh k) (A k) (B k)))
/-- cell k is an int array of length n; an object of class number ci; an array of references -/
def z_ia (k n : Nat) : Prop := k < z_N ∧ z_sh k = (0, n, []) ∧ n < 2 ^ 31
def z_ob (k ci : Nat) (fs : List (Nat × Nat)) : Prop := k < z_N ∧ z_sh k = (2, ci, fs)
def z_ra (k t0 : Nat) (fs : List (Nat × Nat)) : Prop := k < z_N ∧ z_sh k = (3, t0, fs) ∧ fs.length < 2 ^ 31
/-- the world A, but cell k is f from a on, n long -/
def z_seg (A : z_A) (k a n : Nat) (f : Nat → Nat) : z_A := va_up A k (fun j => if a ≤ j ∧ j < a + n then f j else A k j)
def z_set (A : z_A) (k j x : Nat) : z_A := va_up A k (va_up (A k) j x)
theorem z_w_get (g : z_G) (ad : Nat → Nat) (A B : z_A) {k : Nat} (h : k < z_N) : (z_w g ad A B)[k]? = some (ad k, z_cell g ad (z_sh k) (A k) (B k)) := by
  unfold z_w
  rw [List.getElem?_map, List.getElem?_range h]
  rfl
theorem z_w_set (g : z_G) (ad : Nat → Nat) (A B A' B' : z_A) {k : Nat} (h : k < z_N) (hA : ∀ i, i ≠ k → A' i = A i) (hB : ∀ i, i ≠ k → B' i = B i) :
    (z_w g ad A B).set k (ad k, z_cell g ad (z_sh k) (A' k) (B' k)) = z_w g ad A' B' := by
  apply List.ext_getElem?
  intro i
  by_cases hi : i = k
  · subst hi
    rw [List.getElem?_set_self (by unfold z_w; simpa using h), z_w_get g ad A' B' h]
  · rw [List.getElem?_set_ne (fun q => hi q.symm)]
    unfold z_w
    rw [List.getElem?_map, List.getElem?_map]
    cases hr : (List.range z_N)[i]? with
    | none => rfl
    | some j =>
      have hj : j = i := by
        have := List.getElem?_eq_some_iff.mp hr
        obtain ⟨h1, h2⟩ := this
        simpa using h2.symm
      subst hj
      simp only [Option.map_some, hA j hi, hB j hi]
theorem z_D_moves {g : z_G} {ad : Nat → Nat} {A B A' B' : z_A} {F : Nat → Prop} (h : va_D F (z_w g ad A B)) : va_D F (z_w g ad A' B') := by
  have key : ∀ (A B A' B' : z_A) (i : Nat) (q : Nat × va_E), (z_w g ad A' B')[i]? = some q → ∃ q' : Nat × va_E, (z_w g ad A B)[i]? = some q' ∧ q'.1 = q.1 := by
    intro A B A' B' i q hq
    by_cases hi : i < z_N
    · rw [z_w_get g ad A' B' hi] at hq
      exact ⟨_, z_w_get g ad A B hi, by rw [← Option.some.inj hq]⟩
    · exfalso
      have : (z_w g ad A' B').length = z_N := by unfold z_w; simp
      rw [List.getElem?_eq_none (by rw [this]; omega)] at hq
      cases hq
  refine ⟨fun i j p q hp hq e => ?_, fun k q hk => ?_⟩
  · obtain ⟨p', h1, e1⟩ := key A B A' B' i p hp
    obtain ⟨q', h2, e2⟩ := key A B A' B' j q hq
    exact h.1 i j p' q' h1 h2 (by rw [e1, e2, e])
  · obtain ⟨q', h1, e1⟩ := key A B A' B' k q hk
    rw [← e1]
    exact h.2 k q' h1
/-- a method: its name, code, number of locals, type of its answer -/
abbrev z_M : Type := MethodName × ByteArray × Nat × Option FieldType
def z_code (μ : z_M) : Cond := Cond.code μ.1 μ.2.1 μ.2.2.1 μ.2.2.2
/-- what holds all along a method's body -/
def z_C (g : z_G) (μ : z_M) (p : Program) (s : State) (m : MethodId) (args : Array Value) (meth : Method) (c : Code) : Prop :=
  p.tables.exec = Jvm.exec ∧ c.code = μ.2.1 ∧ c.maxLocals = μ.2.2.1 ∧ meth.sig.returnType = μ.2.2.2 ∧ s.vm.findClass μ.1.cls = some m.cls ∧ (∀ w ∈ z_TB, w.before args s = true) ∧ va_K g.1 z_cl (z_tys g) s
/-- the world in the heap, and what has changed since the method's start -/
def z_H (g : z_G) (ad : Nat → Nat) (A B : z_A) (F : Nat → Prop) (s : State) (H : Heap) (locs : List Loc) : Prop :=
  va_P g.1 z_cl (z_w g ad A B) H ∧ va_D F (z_w g ad A B) ∧ va_S F s.heap H locs ∧ ∀ q, s.heap.size ≤ q → F q
/-- not a reference: an end 'some (.ref x)' says that exception x is thrown -/
def z_nr (r : Option Value) : Prop := ∀ x, r ≠ some (.ref x)
def z_xcs : List String := ["java/lang/IllegalArgumentException", "java/lang/IllegalStateException", "java/lang/IndexOutOfBoundsException", "java/lang/UnsupportedOperationException"]
def z_exc (x : Nat) (s : State) (H : Heap) (q : Nat) : Prop := ∃ (E : String) (ce : Cell), z_xcs[x]? = some E ∧ H[q]? = some ce ∧ ce.vm = .none ∧ s.vm.findClass E = some ce.cls
def z_ri (r : Option Value) : Instr := match r with
  | none => .return_
  | some (.int _) => .ireturn
  | some (.long _) => .lreturn
  | _ => .areturn
/-- THE JUDGEMENT: a body at pc, with locals L and operands S, in any heap that holds the world (A, B), comes to its end; E is what must hold where it returns -/
def z_R (l : Launch) (g : z_G) (ad : Nat → Nat) (μ : z_M) (rm : Room) (E : Option Value → z_A → z_A → Prop) (cn sn : Nat) (pc : Nat) (L : List (Nat × Value)) (S : List Value) (A B : z_A) : Prop :=
  ∀ (p : Program) (e : Env) (s : State) (m : MethodId) (args : Array Value) (below : List Frame) (meth : Method) (c : Code) (H : Heap) (locs : List Loc) (F : Nat → Prop) (Q : State → Prop) (ls : Array Slot),
    z_C g μ p s m args meth c → z_H g ad A B F s H locs → lv_has ls μ.2.2.1 L →
    (∀ (r : Option Value) (A' B' : z_A) (H' : Heap) (locs' : List Loc) (pc' : Nat) (ls' : Array Slot), E r A' B' → z_nr r → z_H g ad A' B' F s H' locs' → decode μ.2.1 pc' = .ok (z_ri r, 1) → W p l e rm s m args below meth c H' locs' cn sn Q (F0 m pc' ls' r.toList)) →
    (∀ (x : Nat) (A' B' : z_A) (H' : Heap) (locs' : List Loc) (pc' : Nat) (ls' : Array Slot) (S' : List Value) (q cn' sn' : Nat), E (some (.ref x)) A' B' → z_H g ad A' B' F s H' locs' → z_exc x s H' q → cn' ≤ cn + 1 → sn' ≤ sn + 6 → vx_W p l e rm s m args below meth c H' locs' cn' sn' Q (F0 m pc' ls' S') q) →
    W p l e rm s m args below meth c H locs cn sn Q (F0 m pc ls S)
section ZR
variable {l : Launch} {g : z_G} {ad : Nat → Nat} {μ : z_M} {rm : Room} {E : Option Value → z_A → z_A → Prop} {cn sn pc : Nat} {L : List (Nat × Value)} {S : List Value} {A B : z_A}
theorem z_iconst {n : Int} {v : Nat} (hd : decode μ.2.1 pc = .ok (.iconst n, 1)) (hv : Int32.ofInt n = nI v) (k : z_R l g ad μ rm E cn sn (pc + 1) L (.int (nI v) :: S) A B) : z_R l g ad μ rm E cn sn (pc) L (S) A B := by
  intro p e s m args below meth c H locs F Q ls hC hH hl hr hx
  have K := k p e s m args below meth c H locs F Q ls hC hH hl hr hx
  exact lv_iconst hC.1 hC.2.1 hd hv K
theorem z_bipush {n : Int} {v : Nat} (hd : decode μ.2.1 pc = .ok (.bipush n, 2)) (hv : (Int8.ofInt n).toInt32 = nI v) (k : z_R l g ad μ rm E cn sn (pc + 2) L (.int (nI v) :: S) A B) : z_R l g ad μ rm E cn sn (pc) L (S) A B := by
  intro p e s m args below meth c H locs F Q ls hC hH hl hr hx
  have K := k p e s m args below meth c H locs F Q ls hC hH hl hr hx
  exact lv_bipush hC.1 hC.2.1 hd hv K
theorem z_sipush {n : Int} {v : Nat} (hd : decode μ.2.1 pc = .ok (.sipush n, 3)) (hv : (Int16.ofInt n).toInt32 = nI v) (k : z_R l g ad μ rm E cn sn (pc + 3) L (.int (nI v) :: S) A B) : z_R l g ad μ rm E cn sn (pc) L (S) A B := by
  intro p e s m args below meth c H locs F Q ls hC hH hl hr hx
  have K := k p e s m args below meth c H locs F Q ls hC hH hl hr hx
  exact lv_sipush hC.1 hC.2.1 hd hv K
theorem z_lconst {n : Fin 2} {v : Nat} (hd : decode μ.2.1 pc = .ok (.lconst n, 1)) (hv : Int64.ofNat (n : Nat) = lN v) (k : z_R l g ad μ rm E cn sn (pc + 1) L (.long (lN v) :: S) A B) : z_R l g ad μ rm E cn sn (pc) L (S) A B := by
  intro p e s m args below meth c H locs F Q ls hC hH hl hr hx
  have K := k p e s m args below meth c H locs F Q ls hC hH hl hr hx
  exact lv_lconst hC.1 hC.2.1 hd hv K
theorem z_ldc2 {idx : Nat} {w : Int64} {v : Nat} (hd : decode μ.2.1 pc = .ok (.ldc2_w idx, 3)) (hw : Cond.constantLong μ.1.cls idx w ∈ z_TB) (hv : w = lN v) (k : z_R l g ad μ rm E cn sn (pc + 3) L (.long (lN v) :: S) A B) : z_R l g ad μ rm E cn sn (pc) L (S) A B := by
  intro p e s m args below meth c H locs F Q ls hC hH hl hr hx
  have K := k p e s m args below meth c H locs F Q ls hC hH hl hr hx
  exact lv_ldc2 hC.1 hC.2.1 hC.2.2.2.2.1 (hC.2.2.2.2.2.1 _ hw) hd (by subst hv; exact K)
theorem z_iload_n {q : Fin 4} {i : Nat} {x : Int32} (hd : decode μ.2.1 pc = .ok (.iload_n q, 1)) (hi : (q : Nat) = i) (ht : L.find? (fun q => q.1 == i) = some (i, .int x)) (k : z_R l g ad μ rm E cn sn (pc + 1) L (.int x :: S) A B) : z_R l g ad μ rm E cn sn (pc) L (S) A B := by
  intro p e s m args below meth c H locs F Q ls hC hH hl hr hx
  have K := k p e s m args below meth c H locs F Q ls hC hH hl hr hx
  exact lv_iload_n hC.1 hC.2.1 hd hi (hl.2.2 _ (List.mem_of_find?_eq_some ht)) K
theorem z_iload {i : Nat} {x : Int32} (hd : decode μ.2.1 pc = .ok (.iload i, 2)) (ht : L.find? (fun q => q.1 == i) = some (i, .int x)) (k : z_R l g ad μ rm E cn sn (pc + 2) L (.int x :: S) A B) : z_R l g ad μ rm E cn sn (pc) L (S) A B := by
  intro p e s m args below meth c H locs F Q ls hC hH hl hr hx
  have K := k p e s m args below meth c H locs F Q ls hC hH hl hr hx
  exact lv_iload hC.1 hC.2.1 hd (hl.2.2 _ (List.mem_of_find?_eq_some ht)) K
theorem z_lload_n {q : Fin 4} {i : Nat} {x : Int64} (hd : decode μ.2.1 pc = .ok (.lload_n q, 1)) (hi : (q : Nat) = i) (ht : L.find? (fun q => q.1 == i) = some (i, .long x)) (k : z_R l g ad μ rm E cn sn (pc + 1) L (.long x :: S) A B) : z_R l g ad μ rm E cn sn (pc) L (S) A B := by
  intro p e s m args below meth c H locs F Q ls hC hH hl hr hx
  have K := k p e s m args below meth c H locs F Q ls hC hH hl hr hx
  exact lv_lload_n hC.1 hC.2.1 hd hi (hl.2.2 _ (List.mem_of_find?_eq_some ht)) K
theorem z_lload {i : Nat} {x : Int64} (hd : decode μ.2.1 pc = .ok (.lload i, 2)) (ht : L.find? (fun q => q.1 == i) = some (i, .long x)) (k : z_R l g ad μ rm E cn sn (pc + 2) L (.long x :: S) A B) : z_R l g ad μ rm E cn sn (pc) L (S) A B := by
  intro p e s m args below meth c H locs F Q ls hC hH hl hr hx
  have K := k p e s m args below meth c H locs F Q ls hC hH hl hr hx
  exact lv_lload hC.1 hC.2.1 hd (hl.2.2 _ (List.mem_of_find?_eq_some ht)) K
theorem z_aload_n {q : Fin 4} {i : Nat} {x : Nat} (hd : decode μ.2.1 pc = .ok (.aload_n q, 1)) (hi : (q : Nat) = i) (ht : L.find? (fun q => q.1 == i) = some (i, .ref x)) (k : z_R l g ad μ rm E cn sn (pc + 1) L (.ref x :: S) A B) : z_R l g ad μ rm E cn sn (pc) L (S) A B := by
  intro p e s m args below meth c H locs F Q ls hC hH hl hr hx
  have K := k p e s m args below meth c H locs F Q ls hC hH hl hr hx
  exact lv_aload_n hC.1 hC.2.1 hd hi (hl.2.2 _ (List.mem_of_find?_eq_some ht)) K
theorem z_aload {i : Nat} {x : Nat} (hd : decode μ.2.1 pc = .ok (.aload i, 2)) (ht : L.find? (fun q => q.1 == i) = some (i, .ref x)) (k : z_R l g ad μ rm E cn sn (pc + 2) L (.ref x :: S) A B) : z_R l g ad μ rm E cn sn (pc) L (S) A B := by
  intro p e s m args below meth c H locs F Q ls hC hH hl hr hx
  have K := k p e s m args below meth c H locs F Q ls hC hH hl hr hx
  exact lv_aload hC.1 hC.2.1 hd (hl.2.2 _ (List.mem_of_find?_eq_some ht)) K
theorem z_istore_n {q : Fin 4} {i : Nat} {x : Int32} {L' : List (Nat × Value)} (hd : decode μ.2.1 pc = .ok (.istore_n q, 1)) (hi : (q : Nat) = i) (hn : i < μ.2.2.1) (hL : (i, (.int x : Value)) :: L.filter (fun q => !(q.1 == i) && !(q.1 + 1 == i && q.2.category == 2)) = L') (k : z_R l g ad μ rm E cn sn (pc + 1) L' S A B) : z_R l g ad μ rm E cn sn pc L (.int x :: S) A B := by
  intro p e s m args below meth c H locs F Q ls hC hH hl hr hx
  exact lv_istore_n hC.1 hC.2.1 hd hi hl hn hL (fun ls' hl' => k p e s m args below meth c H locs F Q ls' hC hH hl' hr hx)
theorem z_istore {i : Nat} {x : Int32} {L' : List (Nat × Value)} (hd : decode μ.2.1 pc = .ok (.istore i, 2)) (hn : i < μ.2.2.1) (hL : (i, (.int x : Value)) :: L.filter (fun q => !(q.1 == i) && !(q.1 + 1 == i && q.2.category == 2)) = L') (k : z_R l g ad μ rm E cn sn (pc + 2) L' S A B) : z_R l g ad μ rm E cn sn pc L (.int x :: S) A B := by
  intro p e s m args below meth c H locs F Q ls hC hH hl hr hx
  exact lv_istore hC.1 hC.2.1 hd hl hn hL (fun ls' hl' => k p e s m args below meth c H locs F Q ls' hC hH hl' hr hx)
theorem z_lstore_n {q : Fin 4} {i : Nat} {x : Int64} {L' : List (Nat × Value)} (hd : decode μ.2.1 pc = .ok (.lstore_n q, 1)) (hi : (q : Nat) = i) (hn : i + 1 < μ.2.2.1) (hL : (i, (.long x : Value)) :: L.filter (fun q => !(q.1 == i) && (!(q.1 == i + 1) && !(q.1 + 1 == i && q.2.category == 2))) = L') (k : z_R l g ad μ rm E cn sn (pc + 1) L' S A B) : z_R l g ad μ rm E cn sn pc L (.long x :: S) A B := by
  intro p e s m args below meth c H locs F Q ls hC hH hl hr hx
  exact lv_lstore_n hC.1 hC.2.1 hd hi hl hn hL (fun ls' hl' => k p e s m args below meth c H locs F Q ls' hC hH hl' hr hx)
theorem z_lstore {i : Nat} {x : Int64} {L' : List (Nat × Value)} (hd : decode μ.2.1 pc = .ok (.lstore i, 2)) (hn : i + 1 < μ.2.2.1) (hL : (i, (.long x : Value)) :: L.filter (fun q => !(q.1 == i) && (!(q.1 == i + 1) && !(q.1 + 1 == i && q.2.category == 2))) = L') (k : z_R l g ad μ rm E cn sn (pc + 2) L' S A B) : z_R l g ad μ rm E cn sn pc L (.long x :: S) A B := by
  intro p e s m args below meth c H locs F Q ls hC hH hl hr hx
  exact lv_lstore hC.1 hC.2.1 hd hl hn hL (fun ls' hl' => k p e s m args below meth c H locs F Q ls' hC hH hl' hr hx)
theorem z_astore_n {q : Fin 4} {i : Nat} {x : Nat} {L' : List (Nat × Value)} (hd : decode μ.2.1 pc = .ok (.astore_n q, 1)) (hi : (q : Nat) = i) (hn : i < μ.2.2.1) (hL : (i, (.ref x : Value)) :: L.filter (fun q => !(q.1 == i) && !(q.1 + 1 == i && q.2.category == 2)) = L') (k : z_R l g ad μ rm E cn sn (pc + 1) L' S A B) : z_R l g ad μ rm E cn sn pc L (.ref x :: S) A B := by
  intro p e s m args below meth c H locs F Q ls hC hH hl hr hx
  exact lv_astore_n hC.1 hC.2.1 hd hi hl hn hL (fun ls' hl' => k p e s m args below meth c H locs F Q ls' hC hH hl' hr hx)
theorem z_astore {i : Nat} {x : Nat} {L' : List (Nat × Value)} (hd : decode μ.2.1 pc = .ok (.astore i, 2)) (hn : i < μ.2.2.1) (hL : (i, (.ref x : Value)) :: L.filter (fun q => !(q.1 == i) && !(q.1 + 1 == i && q.2.category == 2)) = L') (k : z_R l g ad μ rm E cn sn (pc + 2) L' S A B) : z_R l g ad μ rm E cn sn pc L (.ref x :: S) A B := by
  intro p e s m args below meth c H locs F Q ls hC hH hl hr hx
  exact lv_astore hC.1 hC.2.1 hd hl hn hL (fun ls' hl' => k p e s m args below meth c H locs F Q ls' hC hH hl' hr hx)
theorem z_iinc {i : Nat} {n : Int} {x v : Nat} {L' : List (Nat × Value)} (hd : decode μ.2.1 pc = .ok (.iinc i n, 3)) (ht : L.find? (fun q => q.1 == i) = some (i, .int (nI x))) (hv : Int32.ofInt n = nI v) (hn : i < μ.2.2.1) (hL : (i, Value.int (nI (x + v))) :: L.filter (fun q => !(q.1 == i) && !(q.1 + 1 == i && q.2.category == 2)) = L') (k : z_R l g ad μ rm E cn sn (pc + 3) L' S A B) : z_R l g ad μ rm E cn sn pc L S A B := by
  intro p e s m args below meth c H locs F Q ls hC hH hl hr hx
  obtain ⟨t, ht'⟩ := List.getElem?_of_mem (List.mem_of_find?_eq_some ht)
  exact lv_iinc hC.1 hC.2.1 hd hl ht' (by rw [hv]; exact nI_add x v) hn hL (fun ls' hl' => k p e s m args below meth c H locs F Q ls' hC hH hl' hr hx)
theorem z_iadd {a b : Nat} (hd : decode μ.2.1 pc = .ok (.iadd, 1))  (k : z_R l g ad μ rm E cn sn (pc + 1) L (.int (nI (a + b)) :: S) A B) : z_R l g ad μ rm E cn sn pc L (.int (nI b) :: .int (nI a) :: S) A B := by
  intro p e s m args below meth c H locs F Q ls hC hH hl hr hx
  have K := k p e s m args below meth c H locs F Q ls hC hH hl hr hx
  refine lv_iadd hC.1 hC.2.1 hd ?_
  rw [nI_add]
  exact K
theorem z_isub {a b : Nat} (hd : decode μ.2.1 pc = .ok (.isub, 1)) (h : b ≤ a) (k : z_R l g ad μ rm E cn sn (pc + 1) L (.int (nI (a - b)) :: S) A B) : z_R l g ad μ rm E cn sn pc L (.int (nI b) :: .int (nI a) :: S) A B := by
  intro p e s m args below meth c H locs F Q ls hC hH hl hr hx
  have K := k p e s m args below meth c H locs F Q ls hC hH hl hr hx
  refine lv_isub hC.1 hC.2.1 hd ?_
  rw [pk_sub h]
  exact K
theorem z_imul {a b : Nat} (hd : decode μ.2.1 pc = .ok (.imul, 1))  (k : z_R l g ad μ rm E cn sn (pc + 1) L (.int (nI (a * b)) :: S) A B) : z_R l g ad μ rm E cn sn pc L (.int (nI b) :: .int (nI a) :: S) A B := by
  intro p e s m args below meth c H locs F Q ls hC hH hl hr hx
  have K := k p e s m args below meth c H locs F Q ls hC hH hl hr hx
  refine lv_imul hC.1 hC.2.1 hd ?_
  rw [pk_mul]
  exact K
theorem z_iand {a b : Nat} (hd : decode μ.2.1 pc = .ok (.iand, 1))  (k : z_R l g ad μ rm E cn sn (pc + 1) L (.int (nI (a &&& b)) :: S) A B) : z_R l g ad μ rm E cn sn pc L (.int (nI b) :: .int (nI a) :: S) A B := by
  intro p e s m args below meth c H locs F Q ls hC hH hl hr hx
  have K := k p e s m args below meth c H locs F Q ls hC hH hl hr hx
  refine lv_iand hC.1 hC.2.1 hd ?_
  rw [nx_and]
  exact K
theorem z_ixor {a b : Nat} (hd : decode μ.2.1 pc = .ok (.ixor, 1))  (k : z_R l g ad μ rm E cn sn (pc + 1) L (.int (nI (a ^^^ b)) :: S) A B) : z_R l g ad μ rm E cn sn pc L (.int (nI b) :: .int (nI a) :: S) A B := by
  intro p e s m args below meth c H locs F Q ls hC hH hl hr hx
  have K := k p e s m args below meth c H locs F Q ls hC hH hl hr hx
  refine lv_ixor hC.1 hC.2.1 hd ?_
  rw [nx_xor]
  exact K
theorem z_ior {a b : Nat} (hd : decode μ.2.1 pc = .ok (.ior, 1))  (k : z_R l g ad μ rm E cn sn (pc + 1) L (.int (nI (a ||| b)) :: S) A B) : z_R l g ad μ rm E cn sn pc L (.int (nI b) :: .int (nI a) :: S) A B := by
  intro p e s m args below meth c H locs F Q ls hC hH hl hr hx
  have K := k p e s m args below meth c H locs F Q ls hC hH hl hr hx
  refine lv_ior hC.1 hC.2.1 hd ?_
  rw [z_nior]
  exact K
theorem z_ladd {a b : Nat} (hd : decode μ.2.1 pc = .ok (.ladd, 1))  (k : z_R l g ad μ rm E cn sn (pc + 1) L (.long (lN (a + b)) :: S) A B) : z_R l g ad μ rm E cn sn pc L (.long (lN b) :: .long (lN a) :: S) A B := by
  intro p e s m args below meth c H locs F Q ls hC hH hl hr hx
  have K := k p e s m args below meth c H locs F Q ls hC hH hl hr hx
  refine lv_ladd hC.1 hC.2.1 hd ?_
  rw [lN_add]
  exact K
theorem z_lmul {a b : Nat} (hd : decode μ.2.1 pc = .ok (.lmul, 1))  (k : z_R l g ad μ rm E cn sn (pc + 1) L (.long (lN (a * b)) :: S) A B) : z_R l g ad μ rm E cn sn pc L (.long (lN b) :: .long (lN a) :: S) A B := by
  intro p e s m args below meth c H locs F Q ls hC hH hl hr hx
  have K := k p e s m args below meth c H locs F Q ls hC hH hl hr hx
  refine lv_lmul hC.1 hC.2.1 hd ?_
  rw [lN_mul]
  exact K
theorem z_lxor {a b : Nat} (hd : decode μ.2.1 pc = .ok (.lxor, 1))  (k : z_R l g ad μ rm E cn sn (pc + 1) L (.long (lN (a ^^^ b)) :: S) A B) : z_R l g ad μ rm E cn sn pc L (.long (lN b) :: .long (lN a) :: S) A B := by
  intro p e s m args below meth c H locs F Q ls hC hH hl hr hx
  have K := k p e s m args below meth c H locs F Q ls hC hH hl hr hx
  refine lv_lxor hC.1 hC.2.1 hd ?_
  rw [lN_xor]
  exact K
theorem z_land {a b : Nat} (hd : decode μ.2.1 pc = .ok (.land, 1))  (k : z_R l g ad μ rm E cn sn (pc + 1) L (.long (lN (a &&& b)) :: S) A B) : z_R l g ad μ rm E cn sn pc L (.long (lN b) :: .long (lN a) :: S) A B := by
  intro p e s m args below meth c H locs F Q ls hC hH hl hr hx
  have K := k p e s m args below meth c H locs F Q ls hC hH hl hr hx
  refine lv_land hC.1 hC.2.1 hd ?_
  rw [z_land_]
  exact K
theorem z_lor {a b : Nat} (hd : decode μ.2.1 pc = .ok (.lor, 1))  (k : z_R l g ad μ rm E cn sn (pc + 1) L (.long (lN (a ||| b)) :: S) A B) : z_R l g ad μ rm E cn sn pc L (.long (lN b) :: .long (lN a) :: S) A B := by
  intro p e s m args below meth c H locs F Q ls hC hH hl hr hx
  have K := k p e s m args below meth c H locs F Q ls hC hH hl hr hx
  refine lv_lor hC.1 hC.2.1 hd ?_
  rw [z_lor_]
  exact K
theorem z_idiv {a b : Nat} (hd : decode μ.2.1 pc = .ok (.idiv, 1)) (ha : a < 2 ^ 31) (h0 : 0 < b) (hb : b < 2 ^ 31) (k : z_R l g ad μ rm E cn sn (pc + 1) L (.int (nI (a / b)) :: S) A B) : z_R l g ad μ rm E cn sn pc L (.int (nI b) :: .int (nI a) :: S) A B := by
  intro p e s m args below meth c H locs F Q ls hC hH hl hr hx
  have K := k p e s m args below meth c H locs F Q ls hC hH hl hr hx
  refine lv_idiv hC.1 hC.2.1 hd (nI_ne0 h0 hb) ?_
  rw [pk_div ha h0 hb]
  exact K
theorem z_irem {a b : Nat} (hd : decode μ.2.1 pc = .ok (.irem, 1)) (ha : a < 2 ^ 31) (h0 : 0 < b) (hb : b < 2 ^ 31) (k : z_R l g ad μ rm E cn sn (pc + 1) L (.int (nI (a % b)) :: S) A B) : z_R l g ad μ rm E cn sn pc L (.int (nI b) :: .int (nI a) :: S) A B := by
  intro p e s m args below meth c H locs F Q ls hC hH hl hr hx
  have K := k p e s m args below meth c H locs F Q ls hC hH hl hr hx
  refine lv_irem hC.1 hC.2.1 hd (nI_ne0 h0 hb) ?_
  rw [pk_rem ha h0 hb]
  exact K
theorem z_ishl {a b : Nat} (hd : decode μ.2.1 pc = .ok (.ishl, 1)) (hb : b < 32) (k : z_R l g ad μ rm E cn sn (pc + 1) L (.int (nI (a * 2 ^ b)) :: S) A B) : z_R l g ad μ rm E cn sn pc L (.int (nI b) :: .int (nI a) :: S) A B := by
  intro p e s m args below meth c H locs F Q ls hC hH hl hr hx
  have K := k p e s m args below meth c H locs F Q ls hC hH hl hr hx
  refine lv_ishl hC.1 hC.2.1 hd  ?_
  rw [z_shl_ a hb]
  exact K
theorem z_ishr {a b : Nat} (hd : decode μ.2.1 pc = .ok (.ishr, 1)) (ha : a < 2 ^ 31) (hb : b < 32) (k : z_R l g ad μ rm E cn sn (pc + 1) L (.int (nI (a / 2 ^ b)) :: S) A B) : z_R l g ad μ rm E cn sn pc L (.int (nI b) :: .int (nI a) :: S) A B := by
  intro p e s m args below meth c H locs F Q ls hC hH hl hr hx
  have K := k p e s m args below meth c H locs F Q ls hC hH hl hr hx
  refine lv_ishr hC.1 hC.2.1 hd  ?_
  rw [z_shr_ ha hb]
  exact K
theorem z_iushr {a b : Nat} (hd : decode μ.2.1 pc = .ok (.iushr, 1)) (ha : a < 2 ^ 32) (hb : b < 32) (k : z_R l g ad μ rm E cn sn (pc + 1) L (.int (nI (a / 2 ^ b)) :: S) A B) : z_R l g ad μ rm E cn sn pc L (.int (nI b) :: .int (nI a) :: S) A B := by
  intro p e s m args below meth c H locs F Q ls hC hH hl hr hx
  have K := k p e s m args below meth c H locs F Q ls hC hH hl hr hx
  exact lv_iushr hC.1 hC.2.1 hd (z_ushr_ ha hb) K
theorem z_lshl {a b : Nat} (hd : decode μ.2.1 pc = .ok (.lshl, 1)) (hb : b < 64) (k : z_R l g ad μ rm E cn sn (pc + 1) L (.long (lN (a * 2 ^ b)) :: S) A B) : z_R l g ad μ rm E cn sn pc L (.int (nI b) :: .long (lN a) :: S) A B := by
  intro p e s m args below meth c H locs F Q ls hC hH hl hr hx
  have K := k p e s m args below meth c H locs F Q ls hC hH hl hr hx
  exact lv_lshl hC.1 hC.2.1 hd (wb_shl a hb) K
theorem z_lushr {a b : Nat} (hd : decode μ.2.1 pc = .ok (.lushr, 1)) (ha : a < 2 ^ 64) (hb : b < 64) (k : z_R l g ad μ rm E cn sn (pc + 1) L (.long (lN (a / 2 ^ b)) :: S) A B) : z_R l g ad μ rm E cn sn pc L (.int (nI b) :: .long (lN a) :: S) A B := by
  intro p e s m args below meth c H locs F Q ls hC hH hl hr hx
  have K := k p e s m args below meth c H locs F Q ls hC hH hl hr hx
  exact lv_lushr hC.1 hC.2.1 hd (wb_shr ha hb) K
theorem z_lshr {x v : Int64} {y : Int32} (hd : decode μ.2.1 pc = .ok (.lshr, 1)) (hv : x >>> (y.toInt64 &&& 63) = v) (k : z_R l g ad μ rm E cn sn (pc + 1) L (.long v :: S) A B) : z_R l g ad μ rm E cn sn pc L (.int y :: .long x :: S) A B := by
  intro p e s m args below meth c H locs F Q ls hC hH hl hr hx
  have K := k p e s m args below meth c H locs F Q ls hC hH hl hr hx
  exact lv_lshr hC.1 hC.2.1 hd hv K
theorem z_i2l {a : Nat} (hd : decode μ.2.1 pc = .ok (.i2l, 1)) (ha : a < 2 ^ 31) (k : z_R l g ad μ rm E cn sn (pc + 1) L (.long (lN a) :: S) A B) : z_R l g ad μ rm E cn sn pc L (.int (nI a) :: S) A B := by
  intro p e s m args below meth c H locs F Q ls hC hH hl hr hx
  have K := k p e s m args below meth c H locs F Q ls hC hH hl hr hx
  exact lv_i2l hC.1 hC.2.1 hd (nI_l ha) K
theorem z_l2i {a : Nat} (hd : decode μ.2.1 pc = .ok (.l2i, 1))  (k : z_R l g ad μ rm E cn sn (pc + 1) L (.int (nI a) :: S) A B) : z_R l g ad μ rm E cn sn pc L (.long (lN a) :: S) A B := by
  intro p e s m args below meth c H locs F Q ls hC hH hl hr hx
  have K := k p e s m args below meth c H locs F Q ls hC hH hl hr hx
  exact lv_l2i hC.1 hC.2.1 hd (lN_i a) K
theorem z_lcmp {x y : Int64} (hd : decode μ.2.1 pc = .ok (.lcmp, 1)) (k : z_R l g ad μ rm E cn sn (pc + 1) L (.int (lg_cmp x y) :: S) A B) : z_R l g ad μ rm E cn sn pc L (.long y :: .long x :: S) A B := by
  intro p e s m args below meth c H locs F Q ls hC hH hl hr hx
  exact W.lcmp hC.1 hC.2.1 hd (k p e s m args below meth c H locs F Q ls hC hH hl hr hx)
theorem z_top {x y : Value} (h : x = y) (k : z_R l g ad μ rm E cn sn pc L (y :: S) A B) : z_R l g ad μ rm E cn sn pc L (x :: S) A B := by subst h; exact k
theorem z_st {S S' : List Value} (h : S = S') (k : z_R l g ad μ rm E cn sn pc L S' A B) : z_R l g ad μ rm E cn sn pc L S A B := by subst h; exact k
theorem z_wd {A' B' : z_A} (hA : A = A') (hB : B = B') (k : z_R l g ad μ rm E cn sn pc L S A' B') : z_R l g ad μ rm E cn sn pc L S A B := by subst hA; subst hB; exact k
theorem z_ls {L' : List (Nat × Value)} (ks : List Nat) (h : lv_pick L ks = L') (k : z_R l g ad μ rm E cn sn pc L' S A B) : z_R l g ad μ rm E cn sn pc L S A B := by
  intro p e s m args below meth c H locs F Q ls hC hH hl hr hx
  exact k p e s m args below meth c H locs F Q ls hC hH (lv_sub hl ks h) hr hx
theorem z_dup {v : Value} (hd : decode μ.2.1 pc = .ok (.dup, 1)) (hv : v.category = 1) (k : z_R l g ad μ rm E cn sn (pc + 1) L (v :: v :: S) A B) : z_R l g ad μ rm E cn sn pc L (v :: S) A B := by
  intro p e s m args below meth c H locs F Q ls hC hH hl hr hx
  exact lv_dup hC.1 hC.2.1 hd hv (k p e s m args below meth c H locs F Q ls hC hH hl hr hx)
theorem z_pop {v : Value} (hd : decode μ.2.1 pc = .ok (.pop, 1)) (hv : v.category = 1) (k : z_R l g ad μ rm E cn sn (pc + 1) L S A B) : z_R l g ad μ rm E cn sn pc L (v :: S) A B := by
  intro p e s m args below meth c H locs F Q ls hC hH hl hr hx
  exact lv_pop hC.1 hC.2.1 hd hv (k p e s m args below meth c H locs F Q ls hC hH hl hr hx)
theorem z_dup2 {v w : Value} (hd : decode μ.2.1 pc = .ok (.dup2, 1)) (hv : v.category = 1) (hw : w.category = 1) (k : z_R l g ad μ rm E cn sn (pc + 1) L (v :: w :: v :: w :: S) A B) : z_R l g ad μ rm E cn sn pc L (v :: w :: S) A B := by
  intro p e s m args below meth c H locs F Q ls hC hH hl hr hx
  exact lv_dup2_11 hC.1 hC.2.1 hd hv hw (k p e s m args below meth c H locs F Q ls hC hH hl hr hx)
theorem z_goto {off : Int} {tgt : Nat} (hd : decode μ.2.1 pc = .ok (.goto off, 3)) (ht : (pc : Int) + off = (tgt : Int)) (k : z_R l g ad μ rm E cn sn tgt L S A B) : z_R l g ad μ rm E cn sn pc L S A B := by
  intro p e s m args below meth c H locs F Q ls hC hH hl hr hx
  exact lv_goto hC.1 hC.2.1 hd ht (k p e s m args below meth c H locs F Q ls hC hH hl hr hx)
theorem z_icmp_eq {a b : Nat} (ha : a < 2 ^ 31) (hb : b < 2 ^ 31) {off : Int} {tgt : Nat} (hd : decode μ.2.1 pc = .ok (.if_icmp .eq off, 3)) (ht : (pc : Int) + off = (tgt : Int)) (kt : a = b → z_R l g ad μ rm E cn sn tgt L S A B) (kf : ¬ (a = b) → z_R l g ad μ rm E cn sn (pc + 3) L S A B) : z_R l g ad μ rm E cn sn pc L (.int (nI b) :: .int (nI a) :: S) A B := by
  intro p e s m args below meth c H locs F Q ls hC hH hl hr hx
  exact lv_icmp_eq hC.1 hC.2.1 hd ht (fun h => kt ((nI_eq ha hb).mp h) p e s m args below meth c H locs F Q ls hC hH hl hr hx) (fun h => kf (fun q => h ((nI_eq ha hb).mpr q)) p e s m args below meth c H locs F Q ls hC hH hl hr hx)
theorem z_if_eq {a : Nat} (ha : a < 2 ^ 31) {off : Int} {tgt : Nat} (hd : decode μ.2.1 pc = .ok (.ifCond .eq off, 3)) (ht : (pc : Int) + off = (tgt : Int)) (kt : a = 0 → z_R l g ad μ rm E cn sn tgt L S A B) (kf : ¬ (a = 0) → z_R l g ad μ rm E cn sn (pc + 3) L S A B) : z_R l g ad μ rm E cn sn pc L (.int (nI a) :: S) A B := by
  intro p e s m args below meth c H locs F Q ls hC hH hl hr hx
  exact lv_if_eq hC.1 hC.2.1 hd ht (fun h => kt ((z_iff_eq ha).mp h) p e s m args below meth c H locs F Q ls hC hH hl hr hx) (fun h => kf (fun q => h ((z_iff_eq ha).mpr q)) p e s m args below meth c H locs F Q ls hC hH hl hr hx)
theorem z_icmpX_eq {x y : Int32} {off : Int} {tgt : Nat} (hd : decode μ.2.1 pc = .ok (.if_icmp .eq off, 3)) (ht : (pc : Int) + off = (tgt : Int)) (kt : x = y → z_R l g ad μ rm E cn sn tgt L S A B) (kf : ¬ (x = y) → z_R l g ad μ rm E cn sn (pc + 3) L S A B) : z_R l g ad μ rm E cn sn pc L (.int y :: .int x :: S) A B := by
  intro p e s m args below meth c H locs F Q ls hC hH hl hr hx
  exact lv_icmp_eq hC.1 hC.2.1 hd ht (fun h => kt (h) p e s m args below meth c H locs F Q ls hC hH hl hr hx) (fun h => kf (h) p e s m args below meth c H locs F Q ls hC hH hl hr hx)
theorem z_ifX_eq {x : Int32} {off : Int} {tgt : Nat} (hd : decode μ.2.1 pc = .ok (.ifCond .eq off, 3)) (ht : (pc : Int) + off = (tgt : Int)) (kt : x = 0 → z_R l g ad μ rm E cn sn tgt L S A B) (kf : ¬ (x = 0) → z_R l g ad μ rm E cn sn (pc + 3) L S A B) : z_R l g ad μ rm E cn sn pc L (.int x :: S) A B := by
  intro p e s m args below meth c H locs F Q ls hC hH hl hr hx
  exact lv_if_eq hC.1 hC.2.1 hd ht (fun h => kt (h) p e s m args below meth c H locs F Q ls hC hH hl hr hx) (fun h => kf (h) p e s m args below meth c H locs F Q ls hC hH hl hr hx)
theorem z_icmp_ne {a b : Nat} (ha : a < 2 ^ 31) (hb : b < 2 ^ 31) {off : Int} {tgt : Nat} (hd : decode μ.2.1 pc = .ok (.if_icmp .ne off, 3)) (ht : (pc : Int) + off = (tgt : Int)) (kt : ¬ (a = b) → z_R l g ad μ rm E cn sn tgt L S A B) (kf : a = b → z_R l g ad μ rm E cn sn (pc + 3) L S A B) : z_R l g ad μ rm E cn sn pc L (.int (nI b) :: .int (nI a) :: S) A B := by
  intro p e s m args below meth c H locs F Q ls hC hH hl hr hx
  exact lv_icmp_ne hC.1 hC.2.1 hd ht (fun h => kt (fun q => h ((nI_eq ha hb).mpr q)) p e s m args below meth c H locs F Q ls hC hH hl hr hx) (fun h => kf ((nI_eq ha hb).mp h) p e s m args below meth c H locs F Q ls hC hH hl hr hx)
theorem z_if_ne {a : Nat} (ha : a < 2 ^ 31) {off : Int} {tgt : Nat} (hd : decode μ.2.1 pc = .ok (.ifCond .ne off, 3)) (ht : (pc : Int) + off = (tgt : Int)) (kt : ¬ (a = 0) → z_R l g ad μ rm E cn sn tgt L S A B) (kf : a = 0 → z_R l g ad μ rm E cn sn (pc + 3) L S A B) : z_R l g ad μ rm E cn sn pc L (.int (nI a) :: S) A B := by
  intro p e s m args below meth c H locs F Q ls hC hH hl hr hx
  exact lv_if_ne hC.1 hC.2.1 hd ht (fun h => kt (fun q => h ((z_iff_eq ha).mpr q)) p e s m args below meth c H locs F Q ls hC hH hl hr hx) (fun h => kf ((z_iff_eq ha).mp h) p e s m args below meth c H locs F Q ls hC hH hl hr hx)
theorem z_icmpX_ne {x y : Int32} {off : Int} {tgt : Nat} (hd : decode μ.2.1 pc = .ok (.if_icmp .ne off, 3)) (ht : (pc : Int) + off = (tgt : Int)) (kt : ¬ (x = y) → z_R l g ad μ rm E cn sn tgt L S A B) (kf : x = y → z_R l g ad μ rm E cn sn (pc + 3) L S A B) : z_R l g ad μ rm E cn sn pc L (.int y :: .int x :: S) A B := by
  intro p e s m args below meth c H locs F Q ls hC hH hl hr hx
  exact lv_icmp_ne hC.1 hC.2.1 hd ht (fun h => kt (h) p e s m args below meth c H locs F Q ls hC hH hl hr hx) (fun h => kf (h) p e s m args below meth c H locs F Q ls hC hH hl hr hx)
theorem z_ifX_ne {x : Int32} {off : Int} {tgt : Nat} (hd : decode μ.2.1 pc = .ok (.ifCond .ne off, 3)) (ht : (pc : Int) + off = (tgt : Int)) (kt : ¬ (x = 0) → z_R l g ad μ rm E cn sn tgt L S A B) (kf : x = 0 → z_R l g ad μ rm E cn sn (pc + 3) L S A B) : z_R l g ad μ rm E cn sn pc L (.int x :: S) A B := by
  intro p e s m args below meth c H locs F Q ls hC hH hl hr hx
  exact lv_if_ne hC.1 hC.2.1 hd ht (fun h => kt (h) p e s m args below meth c H locs F Q ls hC hH hl hr hx) (fun h => kf (h) p e s m args below meth c H locs F Q ls hC hH hl hr hx)
theorem z_icmp_lt {a b : Nat} (ha : a < 2 ^ 31) (hb : b < 2 ^ 31) {off : Int} {tgt : Nat} (hd : decode μ.2.1 pc = .ok (.if_icmp .lt off, 3)) (ht : (pc : Int) + off = (tgt : Int)) (kt : a < b → z_R l g ad μ rm E cn sn tgt L S A B) (kf : ¬ (a < b) → z_R l g ad μ rm E cn sn (pc + 3) L S A B) : z_R l g ad μ rm E cn sn pc L (.int (nI b) :: .int (nI a) :: S) A B := by
  intro p e s m args below meth c H locs F Q ls hC hH hl hr hx
  exact lv_icmp_lt hC.1 hC.2.1 hd ht (fun h => kt ((nI_ltI ha hb).mp h) p e s m args below meth c H locs F Q ls hC hH hl hr hx) (fun h => kf (fun q => h ((nI_ltI ha hb).mpr q)) p e s m args below meth c H locs F Q ls hC hH hl hr hx)
theorem z_if_lt {a : Nat} (ha : a < 2 ^ 31) {off : Int} {tgt : Nat} (hd : decode μ.2.1 pc = .ok (.ifCond .lt off, 3)) (ht : (pc : Int) + off = (tgt : Int)) (kt : a < 0 → z_R l g ad μ rm E cn sn tgt L S A B) (kf : ¬ (a < 0) → z_R l g ad μ rm E cn sn (pc + 3) L S A B) : z_R l g ad μ rm E cn sn pc L (.int (nI a) :: S) A B := by
  intro p e s m args below meth c H locs F Q ls hC hH hl hr hx
  exact lv_if_lt hC.1 hC.2.1 hd ht (fun h => kt ((z_iff_lt ha).mp h) p e s m args below meth c H locs F Q ls hC hH hl hr hx) (fun h => kf (fun q => h ((z_iff_lt ha).mpr q)) p e s m args below meth c H locs F Q ls hC hH hl hr hx)
theorem z_icmpX_lt {x y : Int32} {off : Int} {tgt : Nat} (hd : decode μ.2.1 pc = .ok (.if_icmp .lt off, 3)) (ht : (pc : Int) + off = (tgt : Int)) (kt : x < y → z_R l g ad μ rm E cn sn tgt L S A B) (kf : ¬ (x < y) → z_R l g ad μ rm E cn sn (pc + 3) L S A B) : z_R l g ad μ rm E cn sn pc L (.int y :: .int x :: S) A B := by
  intro p e s m args below meth c H locs F Q ls hC hH hl hr hx
  exact lv_icmp_lt hC.1 hC.2.1 hd ht (fun h => kt (h) p e s m args below meth c H locs F Q ls hC hH hl hr hx) (fun h => kf (h) p e s m args below meth c H locs F Q ls hC hH hl hr hx)
theorem z_ifX_lt {x : Int32} {off : Int} {tgt : Nat} (hd : decode μ.2.1 pc = .ok (.ifCond .lt off, 3)) (ht : (pc : Int) + off = (tgt : Int)) (kt : x < 0 → z_R l g ad μ rm E cn sn tgt L S A B) (kf : ¬ (x < 0) → z_R l g ad μ rm E cn sn (pc + 3) L S A B) : z_R l g ad μ rm E cn sn pc L (.int x :: S) A B := by
  intro p e s m args below meth c H locs F Q ls hC hH hl hr hx
  exact lv_if_lt hC.1 hC.2.1 hd ht (fun h => kt (h) p e s m args below meth c H locs F Q ls hC hH hl hr hx) (fun h => kf (h) p e s m args below meth c H locs F Q ls hC hH hl hr hx)
theorem z_icmp_ge {a b : Nat} (ha : a < 2 ^ 31) (hb : b < 2 ^ 31) {off : Int} {tgt : Nat} (hd : decode μ.2.1 pc = .ok (.if_icmp .ge off, 3)) (ht : (pc : Int) + off = (tgt : Int)) (kt : b ≤ a → z_R l g ad μ rm E cn sn tgt L S A B) (kf : ¬ (b ≤ a) → z_R l g ad μ rm E cn sn (pc + 3) L S A B) : z_R l g ad μ rm E cn sn pc L (.int (nI b) :: .int (nI a) :: S) A B := by
  intro p e s m args below meth c H locs F Q ls hC hH hl hr hx
  exact lv_icmp_ge hC.1 hC.2.1 hd ht (fun h => kt ((nI_leI hb ha).mp h) p e s m args below meth c H locs F Q ls hC hH hl hr hx) (fun h => kf (fun q => h ((nI_leI hb ha).mpr q)) p e s m args below meth c H locs F Q ls hC hH hl hr hx)
theorem z_if_ge {a : Nat} (ha : a < 2 ^ 31) {off : Int} {tgt : Nat} (hd : decode μ.2.1 pc = .ok (.ifCond .ge off, 3)) (ht : (pc : Int) + off = (tgt : Int)) (kt : 0 ≤ a → z_R l g ad μ rm E cn sn tgt L S A B) (kf : ¬ (0 ≤ a) → z_R l g ad μ rm E cn sn (pc + 3) L S A B) : z_R l g ad μ rm E cn sn pc L (.int (nI a) :: S) A B := by
  intro p e s m args below meth c H locs F Q ls hC hH hl hr hx
  exact lv_if_ge hC.1 hC.2.1 hd ht (fun h => kt ((z_iff_ge ha).mp h) p e s m args below meth c H locs F Q ls hC hH hl hr hx) (fun h => kf (fun q => h ((z_iff_ge ha).mpr q)) p e s m args below meth c H locs F Q ls hC hH hl hr hx)
theorem z_icmpX_ge {x y : Int32} {off : Int} {tgt : Nat} (hd : decode μ.2.1 pc = .ok (.if_icmp .ge off, 3)) (ht : (pc : Int) + off = (tgt : Int)) (kt : y ≤ x → z_R l g ad μ rm E cn sn tgt L S A B) (kf : ¬ (y ≤ x) → z_R l g ad μ rm E cn sn (pc + 3) L S A B) : z_R l g ad μ rm E cn sn pc L (.int y :: .int x :: S) A B := by
  intro p e s m args below meth c H locs F Q ls hC hH hl hr hx
  exact lv_icmp_ge hC.1 hC.2.1 hd ht (fun h => kt (h) p e s m args below meth c H locs F Q ls hC hH hl hr hx) (fun h => kf (h) p e s m args below meth c H locs F Q ls hC hH hl hr hx)
theorem z_ifX_ge {x : Int32} {off : Int} {tgt : Nat} (hd : decode μ.2.1 pc = .ok (.ifCond .ge off, 3)) (ht : (pc : Int) + off = (tgt : Int)) (kt : 0 ≤ x → z_R l g ad μ rm E cn sn tgt L S A B) (kf : ¬ (0 ≤ x) → z_R l g ad μ rm E cn sn (pc + 3) L S A B) : z_R l g ad μ rm E cn sn pc L (.int x :: S) A B := by
  intro p e s m args below meth c H locs F Q ls hC hH hl hr hx
  exact lv_if_ge hC.1 hC.2.1 hd ht (fun h => kt (h) p e s m args below meth c H locs F Q ls hC hH hl hr hx) (fun h => kf (h) p e s m args below meth c H locs F Q ls hC hH hl hr hx)
theorem z_icmp_gt {a b : Nat} (ha : a < 2 ^ 31) (hb : b < 2 ^ 31) {off : Int} {tgt : Nat} (hd : decode μ.2.1 pc = .ok (.if_icmp .gt off, 3)) (ht : (pc : Int) + off = (tgt : Int)) (kt : b < a → z_R l g ad μ rm E cn sn tgt L S A B) (kf : ¬ (b < a) → z_R l g ad μ rm E cn sn (pc + 3) L S A B) : z_R l g ad μ rm E cn sn pc L (.int (nI b) :: .int (nI a) :: S) A B := by
  intro p e s m args below meth c H locs F Q ls hC hH hl hr hx
  exact lv_icmp_gt hC.1 hC.2.1 hd ht (fun h => kt ((nI_ltI hb ha).mp h) p e s m args below meth c H locs F Q ls hC hH hl hr hx) (fun h => kf (fun q => h ((nI_ltI hb ha).mpr q)) p e s m args below meth c H locs F Q ls hC hH hl hr hx)
theorem z_if_gt {a : Nat} (ha : a < 2 ^ 31) {off : Int} {tgt : Nat} (hd : decode μ.2.1 pc = .ok (.ifCond .gt off, 3)) (ht : (pc : Int) + off = (tgt : Int)) (kt : 0 < a → z_R l g ad μ rm E cn sn tgt L S A B) (kf : ¬ (0 < a) → z_R l g ad μ rm E cn sn (pc + 3) L S A B) : z_R l g ad μ rm E cn sn pc L (.int (nI a) :: S) A B := by
  intro p e s m args below meth c H locs F Q ls hC hH hl hr hx
  exact lv_if_gt hC.1 hC.2.1 hd ht (fun h => kt ((z_iff_gt ha).mp h) p e s m args below meth c H locs F Q ls hC hH hl hr hx) (fun h => kf (fun q => h ((z_iff_gt ha).mpr q)) p e s m args below meth c H locs F Q ls hC hH hl hr hx)
theorem z_icmpX_gt {x y : Int32} {off : Int} {tgt : Nat} (hd : decode μ.2.1 pc = .ok (.if_icmp .gt off, 3)) (ht : (pc : Int) + off = (tgt : Int)) (kt : y < x → z_R l g ad μ rm E cn sn tgt L S A B) (kf : ¬ (y < x) → z_R l g ad μ rm E cn sn (pc + 3) L S A B) : z_R l g ad μ rm E cn sn pc L (.int y :: .int x :: S) A B := by
  intro p e s m args below meth c H locs F Q ls hC hH hl hr hx
  exact lv_icmp_gt hC.1 hC.2.1 hd ht (fun h => kt (h) p e s m args below meth c H locs F Q ls hC hH hl hr hx) (fun h => kf (h) p e s m args below meth c H locs F Q ls hC hH hl hr hx)
theorem z_ifX_gt {x : Int32} {off : Int} {tgt : Nat} (hd : decode μ.2.1 pc = .ok (.ifCond .gt off, 3)) (ht : (pc : Int) + off = (tgt : Int)) (kt : 0 < x → z_R l g ad μ rm E cn sn tgt L S A B) (kf : ¬ (0 < x) → z_R l g ad μ rm E cn sn (pc + 3) L S A B) : z_R l g ad μ rm E cn sn pc L (.int x :: S) A B := by
  intro p e s m args below meth c H locs F Q ls hC hH hl hr hx
  exact lv_if_gt hC.1 hC.2.1 hd ht (fun h => kt (h) p e s m args below meth c H locs F Q ls hC hH hl hr hx) (fun h => kf (h) p e s m args below meth c H locs F Q ls hC hH hl hr hx)
theorem z_icmp_le {a b : Nat} (ha : a < 2 ^ 31) (hb : b < 2 ^ 31) {off : Int} {tgt : Nat} (hd : decode μ.2.1 pc = .ok (.if_icmp .le off, 3)) (ht : (pc : Int) + off = (tgt : Int)) (kt : a ≤ b → z_R l g ad μ rm E cn sn tgt L S A B) (kf : ¬ (a ≤ b) → z_R l g ad μ rm E cn sn (pc + 3) L S A B) : z_R l g ad μ rm E cn sn pc L (.int (nI b) :: .int (nI a) :: S) A B := by
  intro p e s m args below meth c H locs F Q ls hC hH hl hr hx
  exact lv_icmp_le hC.1 hC.2.1 hd ht (fun h => kt ((nI_leI ha hb).mp h) p e s m args below meth c H locs F Q ls hC hH hl hr hx) (fun h => kf (fun q => h ((nI_leI ha hb).mpr q)) p e s m args below meth c H locs F Q ls hC hH hl hr hx)
theorem z_if_le {a : Nat} (ha : a < 2 ^ 31) {off : Int} {tgt : Nat} (hd : decode μ.2.1 pc = .ok (.ifCond .le off, 3)) (ht : (pc : Int) + off = (tgt : Int)) (kt : a ≤ 0 → z_R l g ad μ rm E cn sn tgt L S A B) (kf : ¬ (a ≤ 0) → z_R l g ad μ rm E cn sn (pc + 3) L S A B) : z_R l g ad μ rm E cn sn pc L (.int (nI a) :: S) A B := by
  intro p e s m args below meth c H locs F Q ls hC hH hl hr hx
  exact lv_if_le hC.1 hC.2.1 hd ht (fun h => kt ((z_iff_le ha).mp h) p e s m args below meth c H locs F Q ls hC hH hl hr hx) (fun h => kf (fun q => h ((z_iff_le ha).mpr q)) p e s m args below meth c H locs F Q ls hC hH hl hr hx)
theorem z_icmpX_le {x y : Int32} {off : Int} {tgt : Nat} (hd : decode μ.2.1 pc = .ok (.if_icmp .le off, 3)) (ht : (pc : Int) + off = (tgt : Int)) (kt : x ≤ y → z_R l g ad μ rm E cn sn tgt L S A B) (kf : ¬ (x ≤ y) → z_R l g ad μ rm E cn sn (pc + 3) L S A B) : z_R l g ad μ rm E cn sn pc L (.int y :: .int x :: S) A B := by
  intro p e s m args below meth c H locs F Q ls hC hH hl hr hx
  exact lv_icmp_le hC.1 hC.2.1 hd ht (fun h => kt (h) p e s m args below meth c H locs F Q ls hC hH hl hr hx) (fun h => kf (h) p e s m args below meth c H locs F Q ls hC hH hl hr hx)
theorem z_ifX_le {x : Int32} {off : Int} {tgt : Nat} (hd : decode μ.2.1 pc = .ok (.ifCond .le off, 3)) (ht : (pc : Int) + off = (tgt : Int)) (kt : x ≤ 0 → z_R l g ad μ rm E cn sn tgt L S A B) (kf : ¬ (x ≤ 0) → z_R l g ad μ rm E cn sn (pc + 3) L S A B) : z_R l g ad μ rm E cn sn pc L (.int x :: S) A B := by
  intro p e s m args below meth c H locs F Q ls hC hH hl hr hx
  exact lv_if_le hC.1 hC.2.1 hd ht (fun h => kt (h) p e s m args below meth c H locs F Q ls hC hH hl hr hx) (fun h => kf (h) p e s m args below meth c H locs F Q ls hC hH hl hr hx)
theorem z_cell_ia {g : z_G} {ad : Nat → Nat} {k n : Nat} {fs : List (Nat × Nat)} (h : z_sh k = (0, n, fs)) (a b : Nat → Nat) : z_cell g ad (z_sh k) a b = .inl (g.2 0, n, .inl (fun j => nI (a j))) := by rw [h]; rfl
theorem z_sh_lt {k : Nat} {d : Nat × Nat × List (Nat × Nat)} (h : z_sh k = d) (hk : k < z_N) : k < z_N := hk
theorem z_iaload {k j n : Nat} (ho : z_ia k n) (hj : j < n) (hd : decode μ.2.1 pc = .ok (.iaload, 1)) (K : z_R l g ad μ rm E cn sn (pc + 1) L (.int (nI (A k j)) :: S) A B) : z_R l g ad μ rm E cn sn pc L (.int (nI j) :: .ref (ad k) :: S) A B := by
  obtain ⟨hk, hs, hn⟩ := ho
  intro p e s m args below meth c H locs F Q ls hC hH hl hr hx
  have K := K p e s m args below meth c H locs F Q ls hC hH hl hr hx
  refine va_iald hC.1 hC.2.1 hC.2.2.2.2.2.2 hH.1 k 0 ((z_w_get g ad A B hk).trans (by rw [z_cell_ia hs])) rfl (vp_in_nI hj hn) hd ?_
  rw [nI_clamp (by omega)]
  exact K
theorem z_iastore {k j n x : Nat} (ho : z_ia k n) (hj : j < n) (hd : decode μ.2.1 pc = .ok (.iastore, 1)) (K : z_R l g ad μ rm E cn sn (pc + 1) L S (z_set A k j x) B) : z_R l g ad μ rm E cn sn pc L (.int (nI x) :: .int (nI j) :: .ref (ad k) :: S) A B := by
  obtain ⟨hk, hs, hn⟩ := ho
  intro p e s m args below meth c H locs F Q ls hC hH hl hr hx
  refine va_iast hC.1 hC.2.1 hC.2.2.2.2.2.2 hH.1 hH.2.1 hH.2.2.1 k 0 ((z_w_get g ad A B hk).trans (by rw [z_cell_ia hs])) rfl (vp_in_nI hj hn) hd (fun H1 locs1 hP1 hD1 hS1 => ?_)
  have hw : (z_w g ad A B).set k (ad k, .inl (g.2 0, n, .inl (upd (fun j => nI (A k j)) (nI j).toNatClampNeg (nI x)))) = z_w g ad (z_set A k j x) B := by
    rw [← z_w_set g ad A B (z_set A k j x) B hk (fun i hi => va_up_ne _ _ hi) (fun _ _ => rfl), z_cell_ia hs, nI_clamp (by omega)]
    congr 5
    refine congrArg Sum.inl (funext fun i => ?_)
    by_cases hi : i = j
    · subst hi; simp [upd, z_set, va_up]
    · simp [upd, z_set, va_up, hi]
  rw [hw] at hP1 hD1
  exact K p e s m args below meth c H1 locs1 F Q ls hC ⟨hP1, hD1, hS1, hH.2.2.2⟩ hl hr hx
theorem z_aaload {k j t0 t tg : Nat} {fs : List (Nat × Nat)} {C : String} (ho : z_ra k t0 fs) (ht : (z_tys g)[t0]? = some (g.2 t0, .object C)) (hj : fs[j]? = some (tg, t)) (hd : decode μ.2.1 pc = .ok (.aaload, 1)) (K : z_R l g ad μ rm E cn sn (pc + 1) L (.ref (ad t) :: S) A B) : z_R l g ad μ rm E cn sn pc L (.int (nI j) :: .ref (ad k) :: S) A B := by
  obtain ⟨hk, hs, hn⟩ := ho
  intro p e s m args below meth c H locs F Q ls hC hH hl hr hx
  have K := K p e s m args below meth c H locs F Q ls hC hH hl hr hx
  have hlt : j < fs.length := (List.getElem?_eq_some_iff.mp hj).1
  refine va_aldq (C := C) hC.1 hC.2.1 hC.2.2.2.2.2.2 hH.1 k t0 (f := fun j => (fs[j]?).map (fun q => ad q.2)) ((z_w_get g ad A B hk).trans (by rw [hs]; rfl)) ht (vp_in_nI hlt hn) hd ?_
  rw [nI_clamp (by omega)]
  show W _ _ _ _ _ _ _ _ _ _ _ _ _ _ _ (F0 m (pc + 1) ls (va_rf ((fs[j]?).map (fun q => ad q.2)) :: S))
  rw [hj]
  exact K
theorem z_alen {k n : Nat} (ho : z_ia k n) (hd : decode μ.2.1 pc = .ok (.arraylength, 1)) (K : z_R l g ad μ rm E cn sn (pc + 1) L (.int (nI n) :: S) A B) : z_R l g ad μ rm E cn sn pc L (.ref (ad k) :: S) A B := by
  obtain ⟨hk, hs, hn⟩ := ho
  intro p e s m args below meth c H locs F Q ls hC hH hl hr hx
  exact va_alen hC.1 hC.2.1 hC.2.2.2.2.2.2 hH.1 k 0 (show _ = some (ad k, Sum.inl (g.2 0, n, Sum.inl (fun j => nI (A k j)))) from (z_w_get g ad A B hk).trans (by rw [z_cell_ia hs])) rfl rfl hd (K p e s m args below meth c H locs F Q ls hC hH hl hr hx)
theorem z_fs_get (ad : Nat → Nat) (a b : Nat → Nat) : ∀ (fs : List (Nat × Nat)) (j0 f : Nat) (q : Nat × Nat), fs[f]? = some q → (z_fs ad a b j0 fs)[f]? = some (z_fv ad a b (j0 + f) q)
  | [], _, _, _, h => by cases h
  | q0 :: t, j0, 0, q, h => by cases h; rfl
  | q0 :: t, j0, f + 1, q, h => by
    have := z_fs_get ad a b t (j0 + 1) f q h
    rw [show j0 + (f + 1) = j0 + 1 + f by omega]
    exact this
/-- a field's words: the class's table, the link, and that the named field is the declared one -/
def z_fw (own : String) (idx ci f : Nat) (C : String) (T : u_T) (Nf : Nat) (ref : String) : Prop :=
  z_cl[ci]? = some (C, T, Nf) ∧ f < Nf ∧ (∀ w ∈ u_ws C T Nf, w ∈ z_TB) ∧ Cond.fieldLink own idx ref (T f).2.1 (T f).2.2.1 ∈ z_TB ∧ ((T f).1 = ref ∨ Cond.sameField ref (T f).1 (T f).2.1 (T f).2.2.1 ∈ z_TB)
def z_pw (own : String) (idx ci f : Nat) (C : String) (T : u_T) (Nf : Nat) (ref : String) (ty0 : Nat → FieldType) (ty : FieldType) : Prop :=
  z_fw own idx ci f C T Nf ref ∧ (∀ k, k < Nf → parseFieldDescriptor (T k).2.2.1 = some (ty0 k)) ∧ (∀ a, a < Nf → ∀ b, b < Nf → a ≠ b → (T a).2.1 ≠ (T b).2.1) ∧ (T f).2.2.2 = false ∧ parseFieldDescriptor (T f).2.2.1 = some ty
theorem z_getV {k ci f idx Nf : Nat} {fs : List (Nat × Nat)} {C ref : String} {T : u_T} {q : Nat × Nat} (ho : z_ob k ci fs) (hf : fs[f]? = some q) (hw : z_fw μ.1.cls idx ci f C T Nf ref) (hd : decode μ.2.1 pc = .ok (.getfield idx, 3)) (K : z_R l g ad μ rm E cn sn (pc + 3) L (z_fv ad (A k) (B k) f q :: S) A B) : z_R l g ad μ rm E cn sn pc L (.ref (ad k) :: S) A B := by
  obtain ⟨hk, hs⟩ := ho
  intro p e s m args below meth c H locs F Q ls hC hH hl hr hx
  obtain ⟨h1, h2, h3, h4, h5⟩ := hw
  refine va_get hC.1 hC.2.1 hC.2.2.2.2.2.1 h3 hC.2.2.2.2.1 hC.2.2.2.2.2.2 hH.1 k ((z_w_get g ad A B hk).trans (by rw [hs]; rfl)) h1 f h2 (hC.2.2.2.2.2.1 _ h4) (fun x9 h9 => ?_) (v := z_fv ad (A k) (B k) f q) ?_ hd (K p e s m args below meth c H locs F Q ls hC hH hl hr hx)
  · rcases h5 with h5 | h5
    · rw [← h5]; exact h9
    · exact u_same (hC.2.2.2.2.2.1 _ h5) x9 h9
  · have := z_fs_get ad (A k) (B k) fs 0 f q hf
    rw [Nat.zero_add] at this
    exact this
theorem z_getI {k ci f idx Nf : Nat} {fs : List (Nat × Nat)} {C ref : String} {T : u_T} (ho : z_ob k ci fs) (hf : fs[f]? = some (0, 0)) (hw : z_fw μ.1.cls idx ci f C T Nf ref) (hd : decode μ.2.1 pc = .ok (.getfield idx, 3)) (K : z_R l g ad μ rm E cn sn (pc + 3) L (.int (nI (A k f)) :: S) A B) : z_R l g ad μ rm E cn sn pc L (.ref (ad k) :: S) A B := z_getV ho hf hw hd K
theorem z_getJ {k ci f idx Nf : Nat} {fs : List (Nat × Nat)} {C ref : String} {T : u_T} (ho : z_ob k ci fs) (hf : fs[f]? = some (1, 0)) (hw : z_fw μ.1.cls idx ci f C T Nf ref) (hd : decode μ.2.1 pc = .ok (.getfield idx, 3)) (K : z_R l g ad μ rm E cn sn (pc + 3) L (.long (lN (B k f)) :: S) A B) : z_R l g ad μ rm E cn sn pc L (.ref (ad k) :: S) A B := z_getV ho hf hw hd K
theorem z_getR {k ci f idx Nf t : Nat} {fs : List (Nat × Nat)} {C ref : String} {T : u_T} (ho : z_ob k ci fs) (hf : fs[f]? = some (2, t)) (hw : z_fw μ.1.cls idx ci f C T Nf ref) (hd : decode μ.2.1 pc = .ok (.getfield idx, 3)) (K : z_R l g ad μ rm E cn sn (pc + 3) L (.ref (ad t) :: S) A B) : z_R l g ad μ rm E cn sn pc L (.ref (ad k) :: S) A B := z_getV ho hf hw hd K
theorem z_fs_set (ad : Nat → Nat) (a b a' b' : Nat → Nat) : ∀ (fs : List (Nat × Nat)) (j0 f : Nat) (q : Nat × Nat), fs[f]? = some q → (∀ i, i ≠ j0 + f → a' i = a i) → (∀ i, i ≠ j0 + f → b' i = b i) → (z_fs ad a b j0 fs).set f (z_fv ad a' b' (j0 + f) q) = z_fs ad a' b' j0 fs
  | [], _, _, _, h, _, _ => by cases h
  | q0 :: t, j0, 0, q, h, ha, hb => by
    cases h
    have key : ∀ (fs : List (Nat × Nat)) (j : Nat), j0 < j → z_fs ad a b j fs = z_fs ad a' b' j fs := by
      intro fs
      induction fs with
      | nil => intro j _; rfl
      | cons q1 t1 ih =>
        intro j hj
        show z_fv ad a b j q1 :: _ = z_fv ad a' b' j q1 :: _
        rw [ih (j + 1) (by omega)]
        unfold z_fv
        rw [ha j (by omega), hb j (by omega)]
    show z_fv ad a' b' (j0 + 0) q0 :: z_fs ad a b (j0 + 1) t = z_fv ad a' b' j0 q0 :: z_fs ad a' b' (j0 + 1) t
    rw [key t (j0 + 1) (by omega)]
    rfl
  | q0 :: t, j0, f + 1, q, h, ha, hb => by
    have ih := z_fs_set ad a b a' b' t (j0 + 1) f q h (fun i hi => ha i (by omega)) (fun i hi => hb i (by omega))
    show z_fv ad a b j0 q0 :: (z_fs ad a b (j0 + 1) t).set f (z_fv ad a' b' (j0 + (f + 1)) q) = z_fv ad a' b' j0 q0 :: z_fs ad a' b' (j0 + 1) t
    rw [show j0 + (f + 1) = j0 + 1 + f by omega, ih]
    congr 1
    unfold z_fv
    rw [ha j0 (by omega), hb j0 (by omega)]
theorem z_putV {k ci f idx Nf : Nat} {fs : List (Nat × Nat)} {C ref : String} {T : u_T} {q : Nat × Nat} {A' B' : z_A} {ty : FieldType} (ty0 : Nat → FieldType) (ho : z_ob k ci fs) (hf : fs[f]? = some q) (hw : z_fw μ.1.cls idx ci f C T Nf ref)
    (hty : ∀ k, k < Nf → parseFieldDescriptor (T k).2.2.1 = some (ty0 k)) (hnm : ∀ a, a < Nf → ∀ b, b < Nf → a ≠ b → (T a).2.1 ≠ (T b).2.1) (hfin : (T f).2.2.2 = false) (hde : parseFieldDescriptor (T f).2.2.1 = some ty)
    (hA : ∀ i, i ≠ k → A' i = A i) (hB : ∀ i, i ≠ k → B' i = B i) (hA2 : ∀ i, i ≠ f → A' k i = A k i) (hB2 : ∀ i, i ≠ f → B' k i = B k i)
    (hn : narrow ty (z_fv ad (A' k) (B' k) f q) = z_fv ad (A' k) (B' k) f q) (hft : fits ty (z_fv ad (A' k) (B' k) f q) = true)
    (hd : decode μ.2.1 pc = .ok (.putfield idx, 3)) (K : z_R l g ad μ rm E cn sn (pc + 3) L S A' B') : z_R l g ad μ rm E cn sn pc L (z_fv ad (A' k) (B' k) f q :: .ref (ad k) :: S) A B := by
  obtain ⟨hk, hs⟩ := ho
  intro p e s m args below meth c H locs F Q ls hC hH hl hr hx
  obtain ⟨h1, h2, h3, h4, h5⟩ := hw
  have hlen : f < (z_fs ad (A k) (B k) 0 fs).length := (List.getElem?_eq_some_iff.mp (z_fs_get ad (A k) (B k) fs 0 f q hf)).1
  refine va_put hC.1 hC.2.1 hC.2.2.2.2.2.1 h3 ty0 hty hnm hC.2.2.2.2.1 hC.2.2.2.2.2.2 hH.1 hH.2.1 hH.2.2.1 k ((z_w_get g ad A B hk).trans (by rw [hs]; rfl)) h1 f h2 (hC.2.2.2.2.2.1 _ h4) (fun x9 h9 => ?_) hfin hde hn hft hlen hd (fun H1 locs1 hP1 hD1 hS1 => ?_)
  · rcases h5 with h5 | h5
    · rw [← h5]; exact h9
    · exact u_same (hC.2.2.2.2.2.1 _ h5) x9 h9
  · have hw2 : (z_w g ad A B).set k (ad k, .inr (ci, (z_fs ad (A k) (B k) 0 fs).set f (z_fv ad (A' k) (B' k) f q))) = z_w g ad A' B' := by
      have h6 := z_fs_set ad (A k) (B k) (A' k) (B' k) fs 0 f q hf (fun i hi => hA2 i (by omega)) (fun i hi => hB2 i (by omega))
      rw [Nat.zero_add] at h6
      rw [h6, ← z_w_set g ad A B A' B' hk hA hB, hs]
      rfl
    rw [hw2] at hP1 hD1
    exact K p e s m args below meth c H1 locs1 F Q ls hC ⟨hP1, hD1, hS1, hH.2.2.2⟩ hl hr hx
theorem z_putI {k ci f idx Nf x : Nat} {fs : List (Nat × Nat)} {C ref : String} {T : u_T} {ty0 : Nat → FieldType} (ho : z_ob k ci fs) (hf : fs[f]? = some (0, 0)) (hp : z_pw μ.1.cls idx ci f C T Nf ref ty0 .int)
    (hd : decode μ.2.1 pc = .ok (.putfield idx, 3)) (K : z_R l g ad μ rm E cn sn (pc + 3) L S (z_set A k f x) B) : z_R l g ad μ rm E cn sn pc L (.int (nI x) :: .ref (ad k) :: S) A B := by
  obtain ⟨hw, hty, hnm, hfin, hde⟩ := hp
  have hx : z_fv ad (z_set A k f x k) (B k) f (0, 0) = .int (nI x) := by simp [z_fv, z_set, va_up]
  have := z_putV (l := l) (g := g) (ad := ad) (rm := rm) (E := E) (cn := cn) (sn := sn) (L := L) (S := S) (A := A) (B := B) (A' := z_set A k f x) (B' := B) ty0 ho hf hw hty hnm hfin hde (fun i hi => va_up_ne _ _ hi) (fun _ _ => rfl) (fun i hi => by simp [z_set, va_up, hi]) (fun _ _ => rfl) (by rw [hx]; rfl) (by rw [hx]; rfl) hd K
  rw [hx] at this
  exact this
theorem z_putJ {k ci f idx Nf x : Nat} {fs : List (Nat × Nat)} {C ref : String} {T : u_T} {ty0 : Nat → FieldType} (ho : z_ob k ci fs) (hf : fs[f]? = some (1, 0)) (hp : z_pw μ.1.cls idx ci f C T Nf ref ty0 .long)
    (hd : decode μ.2.1 pc = .ok (.putfield idx, 3)) (K : z_R l g ad μ rm E cn sn (pc + 3) L S A (z_set B k f x)) : z_R l g ad μ rm E cn sn pc L (.long (lN x) :: .ref (ad k) :: S) A B := by
  obtain ⟨hw, hty, hnm, hfin, hde⟩ := hp
  have hx : z_fv ad (A k) (z_set B k f x k) f (1, 0) = .long (lN x) := by simp [z_fv, z_set, va_up]
  have := z_putV (l := l) (g := g) (ad := ad) (rm := rm) (E := E) (cn := cn) (sn := sn) (L := L) (S := S) (A := A) (B := B) (A' := A) (B' := z_set B k f x) ty0 ho hf hw hty hnm hfin hde (fun _ _ => rfl) (fun i hi => va_up_ne _ _ hi) (fun _ _ => rfl) (fun i hi => by simp [z_set, va_up, hi]) (by rw [hx]; rfl) (by rw [hx]; rfl) hd K
  rw [hx] at this
  exact this
def z_cpw (own : String) (idx : Nat) : Prop := Cond.methodLink own idx arraycopyName ∈ z_TB ∧ Cond.native arraycopyName ∈ z_TB ∧ Cond.static arraycopyName ∈ z_TB ∧ Cond.initialized "java/lang/System" ∈ z_TB
theorem z_copy {k0 k1 n0 n1 sp dp n idx : Nat} (ho0 : z_ia k0 n0) (ho1 : z_ia k1 n1) (h0 : sp + n ≤ n0) (h1 : dp + n ≤ n1)
    (hw : z_cpw μ.1.cls idx) (hfr : 1 ≤ rm.frames) (hw8 : (S.map fun v => v.category).sum ≤ 8) (hlo : 8 + (nativeFrameWords "java/lang/System" "arraycopy" 5 + 11) ≤ rm.locals)
    (hd : decode μ.2.1 pc = .ok (.invokestatic idx, 3)) (K : z_R l g ad μ rm E cn sn (pc + 3) L S (z_seg A k1 dp n (fun j => A k0 (sp + (j - dp)))) B) : z_R l g ad μ rm E cn sn pc L (.int (nI n) :: .int (nI dp) :: .ref (ad k1) :: .int (nI sp) :: .ref (ad k0) :: S) A B := by
  obtain ⟨hk0, hs0, hn0⟩ := ho0
  obtain ⟨hk1, hs1, hn1⟩ := ho1
  intro p e s m args below meth c H locs F Q ls hC hH hl hr hx
  have e1 : (nI sp).toNatClampNeg = sp := nI_clamp (by omega)
  have e2 : (nI dp).toNatClampNeg = dp := nI_clamp (by omega)
  have e3 : (nI n).toNatClampNeg = n := nI_clamp (by omega)
  refine va_copyi hC.1 hC.2.1 (hC.2.2.1.trans hl.1.symm) hC.2.2.2.2.1 (hC.2.2.2.2.2.1 _ hw.1) (hC.2.2.2.2.2.1 _ hw.2.1) (hC.2.2.2.2.2.1 _ hw.2.2.1) (hC.2.2.2.2.2.1 _ hw.2.2.2) hC.2.2.2.2.2.2 hH.1 hH.2.1 hH.2.2.1 k0 k1 0 0 ((z_w_get g ad A B hk0).trans (by rw [z_cell_ia hs0])) ((z_w_get g ad A B hk1).trans (by rw [z_cell_ia hs1])) rfl rfl rfl (nI_pos (by omega)) (nI_pos (by omega)) (nI_pos (by omega)) (by rw [e1, e3]; exact h0) (by rw [e2, e3]; exact h1) (fun _ _ => rfl) hfr (Nat.le_trans (Nat.add_le_add_right hw8 _) hlo) hd (fun H1 locs1 hP1 hD1 hS1 => ?_)
  have hw2 : (z_w g ad A B).set k1 (ad k1, .inl (g.2 0, n1, .inl (va_cpy (fun j => nI (A k0 j)) (fun j => nI (A k1 j)) (nI sp).toNatClampNeg (nI dp).toNatClampNeg (nI n).toNatClampNeg))) = z_w g ad (va_up A k1 (va_cpy (A k0) (A k1) sp dp n)) B := by
    rw [← z_w_set g ad A B (va_up A k1 (va_cpy (A k0) (A k1) sp dp n)) B hk1 (fun i hi => va_up_ne _ _ hi) (fun _ _ => rfl), z_cell_ia hs1, e1, e2, e3, va_up_self]
    congr 5
    refine congrArg Sum.inl (funext fun i => ?_)
    unfold va_cpy
    split <;> rfl
  rw [hw2] at hP1 hD1
  exact K p e s m args below meth c H1 locs1 F Q ls hC ⟨hP1, hD1, hS1, hH.2.2.2⟩ hl hr hx
/-- the end -/
theorem z_return {r : Option Value} (hn : z_nr r) (hd : decode μ.2.1 pc = .ok (z_ri r, 1)) (h : E r A B) : z_R l g ad μ rm E cn sn pc L r.toList A B := by
  intro p e s m args below meth c H locs F Q ls hC hH hl hr hx
  exact hr r A B H locs pc ls h hn hH hd
theorem z_ret0 (hd : decode μ.2.1 pc = .ok (.return_, 1)) (h : E none A B) : z_R l g ad μ rm E cn sn pc L [] A B := z_return (r := none) (fun _ q => by cases q) hd h
theorem z_reti {x : Int32} (hd : decode μ.2.1 pc = .ok (.ireturn, 1)) (h : E (some (.int x)) A B) : z_R l g ad μ rm E cn sn pc L [.int x] A B := z_return (r := some (.int x)) (fun _ q => by cases q) hd h
theorem z_retl {x : Int64} (hd : decode μ.2.1 pc = .ok (.lreturn, 1)) (h : E (some (.long x)) A B) : z_R l g ad μ rm E cn sn pc L [.long x] A B := z_return (r := some (.long x)) (fun _ q => by cases q) hd h
end ZR
/-- a method's contract, over the whole world: from (A, B) with the arguments av it returns, and E holds -/
def z_Pc (g : z_G) (ad : Nat → Nat) (av : List Value) (A B : z_A) (sz : Nat) : Array Value → State → Prop := va_Pc av (fun U => U.heap.size = sz ∧ va_P g.1 z_cl (z_w g ad A B) U.heap ∧ va_K g.1 z_cl (z_tys g) U ∧ va_D (fun _ => True) (z_w g ad A B))
def z_Qc (g : z_G) (ad : Nat → Nat) (E : Option Value → z_A → z_A → Prop) (F : Nat → Prop) : Array Value → State → Outcome → State → Prop := fun _ st oc t => (∃ (r : Option Value) (A' B' : z_A), oc = .returned r ∧ E r A' B' ∧ va_P g.1 z_cl (z_w g ad A' B') t.heap) ∧ va_F F st t
def z_ws (μ : z_M) : List Cond := Cond.code μ.1 μ.2.1 μ.2.2.1 μ.2.2.2 :: z_TB
def z_Met (l : Launch) (g : z_G) (ad : Nat → Nat) (μ : z_M) (rm : Room) (av : List Value) (A B : z_A) (E : Option Value → z_A → z_A → Prop) : Prop :=
  ∀ sz : Nat, Met l μ.1 (z_ws μ) rm (z_Pc g ad av A B sz) (z_Qc g ad E (va_A (z_w g ad A B) sz)) 0 0 (va_A (z_w g ad A B) sz)
def z_fit (ret : Option FieldType) (r : Option Value) : Prop := match r with
  | none => ret = none
  | some (.int v) => ret = some .int ∨ (ret = some .boolean ∧ narrow .boolean (.int v) = .int v)
  | some (.long _) => ret = some .long
  | _ => False
theorem z_Met.of {l : Launch} {g : z_G} {ad : Nat → Nat} {μ : z_M} {rm : Room} {av : List Value} {A B : z_A} {E : Option Value → z_A → z_A → Prop} {L : List (Nat × Value)} (hy : plainName μ.1.cls = true) (hav : (lg_sl av).length ≤ μ.2.2.1) (hfit : ∀ r A' B', E r A' B' → z_fit μ.2.2.2 r) (hL : lv_args 0 av = L)
    (hR : ∀ Ex : Option Value → z_A → z_A → Prop, (∀ r A' B', E r A' B' → Ex r A' B') → z_R l g ad μ rm Ex 0 0 0 L [] A B) : z_Met l g ad μ rm av A B E := by
  intro sz
  refine Met.ofW (cc := μ.2.1) (maxL := μ.2.2.1) (ret := μ.2.2.2) hy rfl ?_
  intro p e s m args below meth c s₁ Bd hml hv
  obtain ⟨rfl, hsz, hP, hK, hD0⟩ := hv
  have hts := atoms_spec (ws := z_ws μ) Bd.pre
  have hown : s.vm.findClass μ.1.cls = some m.cls := findClass_of_methodNamed Bd.named
  have hlocks := Bd.notSynchronized
  subst hsz
  have hD := hD0.self (sz := s.heap.size)
  have hl := lv_entry av (n := μ.2.2.1) hav
  rw [hL] at hl
  rw [lg_entry_eq]
  generalize (lg_sl av ++ List.replicate (μ.2.2.1 - (lg_sl av).length) Slot.unset).toArray = ls at hl ⊢
  refine hR E (fun _ _ _ h => h) p e s m _ below meth c s.heap [] (va_A (z_w g ad A B) s.heap.size) _ ls ⟨Bd.exec, Bd.bytes, hml, Bd.returns, hown, fun w hw => hts w (List.mem_cons_of_mem _ hw), hK⟩ ⟨hP, hD, va_S.rf, fun q h => Or.inr h⟩ hl ?_ (fun x A' B' H' locs' pc' ls' S' q cn' sn' hE _ _ _ _ => (hfit _ _ _ hE).elim)
  intro r A' B' H' locs' pc' ls' hE _ hH' hd'
  have hq : ∀ t : State, t.heap = H' → s.WarmedH t.vm → z_Qc g ad E (va_A (z_w g ad A B) s.heap.size) av.toArray s (.returned r) t := fun t ht hW => ⟨⟨r, A', B', rfl, hE, by rw [ht]; exact hH'.1⟩, hH'.2.2.1.F ht⟩
  have hf := hfit r A' B' hE
  cases r with
  | none => exact W.vret Bd.exec Bd.bytes (Bd.returns.trans hf) hq hH'.2.2.1.2.2 hd'
  | some x =>
    cases x with
    | int v =>
      rcases hf with hf | ⟨hf, hv⟩
      · exact W.iret Bd.exec Bd.bytes (Bd.returns.trans hf) hq hH'.2.2.1.2.2 hd'
      · exact W.zret Bd.exec Bd.bytes (Bd.returns.trans hf) hv hq hH'.2.2.1.2.2 hd'
    | long v => exact W.lret Bd.exec Bd.bytes (Bd.returns.trans hf) hq hH'.2.2.1.2.2 hd'
    | _ => exact hf.elim
theorem z_good {μ μ' : z_M} (h : z_code μ' ∈ z_TB) : GoodIn (z_ws μ) (z_ws μ') := by
  intro w hw
  rcases List.mem_cons.mp hw with rfl | hw
  · exact ⟨List.mem_cons_of_mem _ h, good_of_word (List.mem_filter.mp h).2⟩
  · exact ⟨List.mem_cons_of_mem _ hw, good_of_word (List.mem_filter.mp hw).2⟩
theorem z_goodT {μ' : z_M} (h : z_code μ' ∈ z_TB) : GoodIn z_TB (z_ws μ') := by
  intro w hw
  rcases List.mem_cons.mp hw with rfl | hw
  · exact ⟨h, good_of_word (List.mem_filter.mp h).2⟩
  · exact ⟨hw, good_of_word (List.mem_filter.mp hw).2⟩
theorem z_blind {g : z_G} {ad : Nat → Nat} {av : List Value} {A B : z_A} {sz : Nat} : FrameBlind (z_Pc g ad av A B sz) := fun a U gf mk q => by
  obtain ⟨q0, q1, qP, qK, qD⟩ := q
  exact ⟨q0, q1, qP, va_K.moved (u := U) (U := U.calling gf mk a) (Vm.Alike.refl U.vm) qK, qD⟩
/-- a method that answers r0 and leaves (A0, B0) -/
def z_eq (r0 : Option Value) (A0 B0 : z_A) : Option Value → z_A → z_A → Prop := fun r A B => r0 = r ∧ A0 = A ∧ B0 = B
theorem z_fit_eq {ret : Option FieldType} {r0 : Option Value} {A0 B0 : z_A} (h : z_fit ret r0) : ∀ r A' B', z_eq r0 A0 B0 r A' B' → z_fit ret r := by
  rintro r A' B' ⟨rfl, _, _⟩
  exact h
/-- a void method -/
def z_vd (P : z_A → z_A → Prop) : Option Value → z_A → z_A → Prop := fun r A B => r = none ∧ P A B
theorem z_fit_vd {P : z_A → z_A → Prop} : ∀ r A' B', z_vd P r A' B' → z_fit none r := by
  rintro r A' B' ⟨rfl, _⟩
  rfl
theorem z_r1 {l : Launch} {g : z_G} {ad : Nat → Nat} {μ : z_M} {rm : Room} {E : Option Value → z_A → z_A → Prop} {cn sn pc : Nat} {L : List (Nat × Value)} {S : List Value} {A B : z_A} {v : Value} (k : z_R l g ad μ rm E cn sn pc L (v :: S) A B) : z_R l g ad μ rm E cn sn pc L ((some v).toList ++ S) A B := k
theorem z_r0 {l : Launch} {g : z_G} {ad : Nat → Nat} {μ : z_M} {rm : Room} {E : Option Value → z_A → z_A → Prop} {cn sn pc : Nat} {L : List (Nat × Value)} {S : List Value} {A B : z_A} (k : z_R l g ad μ rm E cn sn pc L S A B) : z_R l g ad μ rm E cn sn pc L ((none : Option Value).toList ++ S) A B := k
/-- loops: I i is what holds at the head before turn i -/
theorem z_loop {l : Launch} {g : z_G} {ad : Nat → Nat} {μ : z_M} {rm : Room} {E : Option Value → z_A → z_A → Prop} {cn sn pc : Nat} {S : List Value} (n : Nat) (I : Nat → List (Nat × Value) → z_A → z_A → Prop)
    (step : ∀ i L A B, i < n → I i L A B → (∀ L' A' B', I (i + 1) L' A' B' → z_R l g ad μ rm E cn sn pc L' S A' B') → z_R l g ad μ rm E cn sn pc L S A B)
    (out : ∀ L A B, I n L A B → z_R l g ad μ rm E cn sn pc L S A B) : ∀ L A B, I 0 L A B → z_R l g ad μ rm E cn sn pc L S A B := by
  have key : ∀ d i L A B, i + d = n → I i L A B → z_R l g ad μ rm E cn sn pc L S A B := by
    intro d
    induction d with
    | zero =>
      intro i L A B h hI
      have : i = n := by omega
      subst this
      exact out L A B hI
    | succ d ih =>
      intro i L A B h hI
      exact step i L A B (by omega) hI (fun L' A' B' hI' => ih (i + 1) L' A' B' (by omega) hI')
  intro L A B hI
  exact key n 0 L A B (by omega) hI
theorem z_for {l : Launch} {g : z_G} {ad : Nat → Nat} {μ : z_M} {rm : Room} {E : Option Value → z_A → z_A → Prop} {cn sn pc : Nat} {S : List Value} (n : Nat) (Lf : Nat → List (Nat × Value)) (Af Bf : Nat → z_A)
    (step : ∀ i, i < n → z_R l g ad μ rm E cn sn pc (Lf (i + 1)) S (Af (i + 1)) (Bf (i + 1)) → z_R l g ad μ rm E cn sn pc (Lf i) S (Af i) (Bf i))
    (out : z_R l g ad μ rm E cn sn pc (Lf n) S (Af n) (Bf n)) : z_R l g ad μ rm E cn sn pc (Lf 0) S (Af 0) (Bf 0) := by
  refine z_loop n (fun i L A B => L = Lf i ∧ A = Af i ∧ B = Bf i) ?_ ?_ _ _ _ ⟨rfl, rfl, rfl⟩
  · rintro i L A B hi ⟨rfl, rfl, rfl⟩ k
    exact step i hi (k _ _ _ ⟨rfl, rfl, rfl⟩)
  · rintro L A B ⟨rfl, rfl, rfl⟩
    exact out
theorem z_seg_0 (A : z_A) (k a : Nat) (f : Nat → Nat) : z_seg A k a 0 f = A := by
  funext i j
  by_cases h : i = k
  · subst h
    have : ¬ (a ≤ j ∧ j < a + 0) := by omega
    simp only [z_seg, va_up, if_true, this, if_false]
  · simp [z_seg, va_up, h]
theorem z_seg_ne {A : z_A} {k a n : Nat} {f : Nat → Nat} {i : Nat} (h : i ≠ k) : z_seg A k a n f i = A i := by simp [z_seg, va_up, h]
theorem z_seg_in {A : z_A} {k a n : Nat} {f : Nat → Nat} {j : Nat} (h1 : a ≤ j) (h2 : j < a + n) : z_seg A k a n f k j = f j := by simp [z_seg, va_up, h1, h2]
theorem z_seg_out {A : z_A} {k a n : Nat} {f : Nat → Nat} {j : Nat} (h : j < a ∨ a + n ≤ j) : z_seg A k a n f k j = A k j := by
  have : ¬ (a ≤ j ∧ j < a + n) := by omega
  simp only [z_seg, va_up, if_true, this, if_false]
theorem z_seg_set {A : z_A} {k a n : Nat} {f : Nat → Nat} {x : Nat} (h : x = f (a + n)) : z_set (z_seg A k a n f) k (a + n) x = z_seg A k a (n + 1) f := by
  funext i j
  by_cases hi : i = k
  · subst hi
    by_cases hj : j = a + n
    · subst hj
      rw [z_seg_in (by omega) (by omega)]
      simp [z_set, va_up, h]
    · have e : z_set (z_seg A i a n f) i (a + n) x i j = z_seg A i a n f i j := by simp [z_set, va_up, hj]
      rw [e]
      by_cases h3 : a ≤ j ∧ j < a + n
      · rw [z_seg_in h3.1 h3.2, z_seg_in h3.1 (by omega)]
      · rw [z_seg_out (by omega), z_seg_out (by omega)]
  · simp [z_set, z_seg, va_up, hi]
/-- the world A, but cell k is f below n -/
def z_map (A : z_A) (k n : Nat) (f : Nat → Nat) : z_A := va_up A k (fun j => if j < n then f j else A k j)
theorem z_map_0 (A : z_A) (k : Nat) (f : Nat → Nat) : z_map A k 0 f = A := by
  funext i j
  by_cases h : i = k
  · subst h; simp [z_map, va_up]
  · simp [z_map, va_up, h]
theorem z_map_ne {A : z_A} {k n : Nat} {f : Nat → Nat} {i : Nat} (h : i ≠ k) : z_map A k n f i = A i := by simp [z_map, va_up, h]
theorem z_map_lt {A : z_A} {k n : Nat} {f : Nat → Nat} {j : Nat} (h : j < n) : z_map A k n f k j = f j := by simp [z_map, va_up, h]
theorem z_map_ge {A : z_A} {k n : Nat} {f : Nat → Nat} {j : Nat} (h : n ≤ j) : z_map A k n f k j = A k j := by simp [z_map, va_up, Nat.not_lt.mpr h]
theorem z_map_set {A : z_A} {k n : Nat} {f : Nat → Nat} {x : Nat} (h : x = f n) : z_set (z_map A k n f) k n x = z_map A k (n + 1) f := by
  funext i j
  by_cases hi : i = k
  · subst hi
    by_cases hj : j = n
    · subst hj; simp [z_set, z_map, va_up, h]
    · by_cases h3 : j < n
      · simp [z_set, z_map, va_up, hj, h3, Nat.lt_succ_of_lt h3]
      · have : ¬ j < n + 1 := by omega
        simp [z_set, z_map, va_up, hj, h3, this]
  · simp [z_set, z_map, va_up, hi]
theorem z_map_congr {A : z_A} {k n : Nat} {f f' : Nat → Nat} (h : ∀ j, j < n → f j = f' j) : z_map A k n f = z_map A k n f' := by
  unfold z_map
  congr 1
  funext j
  by_cases hj : j < n
  · simp [hj, h j hj]
  · simp [hj]
theorem z_set_ne {A : z_A} {k j x i : Nat} (h : i ≠ k) : z_set A k j x i = A i := by simp [z_set, va_up, h]
theorem z_set_at {A : z_A} {k j x : Nat} : z_set A k j x k j = x := by simp [z_set, va_up]
theorem z_set_nj {A : z_A} {k j x i : Nat} (h : i ≠ j) : z_set A k j x k i = A k i := by simp [z_set, va_up, h]
section ZC
variable {l : Launch} {g : z_G} {ad : Nat → Nat} {μ μ' : z_M} {rm rm' : Room} {E E' : Option Value → z_A → z_A → Prop} {cn sn pc idx : Nat} {L : List (Nat × Value)} {rest : List Value} {A B : z_A}
/-- behind a call -/
theorem z_after {p : Program} {e : Env} {s : State} {m : MethodId} {args : Array Value} {below : List Frame} {meth : Method} {c : Code} {H : Heap} {locs : List Loc} {F : Nat → Prop} {Q : State → Prop} {ls : Array Slot} {st0 : List Value} {a : Array Value}
    (hC : z_C g μ p s m args meth c) (hH : z_H g ad A B F s H locs) (hl : lv_has ls μ.2.2.1 L)
    (hr : ∀ (r : Option Value) (A' B' : z_A) (H' : Heap) (locs' : List Loc) (pc' : Nat) (ls' : Array Slot), E r A' B' → z_nr r → z_H g ad A' B' F s H' locs' → decode μ.2.1 pc' = .ok (z_ri r, 1) → W p l e rm s m args below meth c H' locs' cn sn Q (F0 m pc' ls' r.toList))
    (hx : ∀ (x : Nat) (A' B' : z_A) (H' : Heap) (locs' : List Loc) (pc' : Nat) (ls' : Array Slot) (S' : List Value) (q cn' sn' : Nat), E (some (.ref x)) A' B' → z_H g ad A' B' F s H' locs' → z_exc x s H' q → cn' ≤ cn + 1 → sn' ≤ sn + 6 → vx_W p l e rm s m args below meth c H' locs' cn' sn' Q (F0 m pc' ls' S') q)
    (run : va_Run p l e rm s m args below meth c H locs cn sn 0 0 (F0 m pc ls st0) rest (z_Qc g ad E' (va_A (z_w g ad A B) H.size) a) (va_A (z_w g ad A B) H.size))
    (kk : ∀ (r : Option Value) (A' B' : z_A), E' r A' B' → z_R l g ad μ rm E cn sn (pc + 3) L (r.toList ++ rest) A' B') : W p l e rm s m args below meth c H locs cn sn Q (F0 m pc ls st0) := by
  intro T hT X
  obtain ⟨v, st₀, t, T', L1, h0, X', hL, e1, e2, ⟨⟨r, A', B', hv, hE, hP'⟩, hz, hk⟩, st⟩ := run T hT X
  cases hv
  rw [h0] at hz hk
  have hfree : ∀ q, va_A (z_w g ad A B) H.size q → F q := fun q h => by
    rcases h with ⟨k, e9, h⟩ | h
    · exact hH.2.1.2 k (q, e9) h
    · exact hH.2.2.2 q (Nat.le_trans hH.2.2.1.1 h)
  have hS' : va_S F s.heap T'.heap (locs ++ L1) := ⟨Nat.le_trans hH.2.2.1.1 (by rw [e1]; exact hz), fun q h1 h2 => by
      rw [e1, hk q (Nat.lt_of_lt_of_le h1 hH.2.2.1.1) (fun z => h2 (hfree q z))]
      exact hH.2.2.1.2.1 q h1 h2, fun q hq => by
      rcases List.mem_append.mp hq with h | h
      · exact hH.2.2.1.2.2 q h
      · exact hfree _ (hL q h)⟩
  obtain ⟨t2, a1, b1⟩ := kk v A' B' hE p e s m args below meth c T'.heap (locs ++ L1) F Q ls hC ⟨by rw [e1]; exact hP', z_D_moves hH.2.1, hS', hH.2.2.2⟩ hl hr hx T' rfl X'
  exact ⟨t2, st t2 a1, b1⟩
theorem z_pre {s : State} {H : Heap} {av : List Value} (hP : va_P g.1 z_cl (z_w g ad A B) H) (hK : va_K g.1 z_cl (z_tys g) s) {F : Nat → Prop} (hD : va_D F (z_w g ad A B)) : ∀ U : State, U.heap = H → s.WarmedH U.vm → z_Pc g ad av A B H.size av.toArray U := fun U hU hW => ⟨rfl, by rw [hU], by rw [hU]; exact hP, va_K.moved hW.alike hK, hD.weaken (fun _ _ _ _ => trivial)⟩
/-- what a call's room asks -/
def z_rm (h : Nat) : Room := ⟨h, 0, 0, 32 * h + 32⟩
theorem z_cn0 {rm : Room} : 0 ≤ rm.cells ∧ 0 ≤ rm.slots := ⟨Nat.zero_le _, Nat.zero_le _⟩
abbrev z_room (rm rm' : Room) (μ' : z_M) : Prop := rm'.cells = 0 ∧ rm'.slots = 0 ∧ rm'.frames + 1 ≤ rm.frames ∧ 8 + (μ'.2.2.1 + 11) + rm'.locals ≤ rm.locals
/-- invokestatic -/
def z_cwS (own : String) (idx : Nat) (μ' : z_M) (n : Nat) : Prop := z_code μ' ∈ z_TB ∧ Cond.initialized μ'.1.cls ∈ z_TB ∧ Cond.methodLink own idx μ'.1 ∈ z_TB ∧ Cond.static μ'.1 ∈ z_TB ∧ (μ'.1.cls ≠ "java/lang/invoke/MethodHandle" ∧ μ'.1.cls ≠ "java/lang/invoke/VarHandle" ∧ (parseMethodDescriptor μ'.1.desc).map (fun d => d.parameters.length) = some n)
def z_cwV (own : String) (idx : Nat) (μ' : z_M) (n : Nat) : Prop := z_code μ' ∈ z_TB ∧ Cond.initialized μ'.1.cls ∈ z_TB ∧ Cond.methodLink own idx μ'.1 ∈ z_TB ∧ Cond.instanceMethod μ'.1 ∈ z_TB ∧ Cond.selects μ'.1.cls μ'.1 μ'.1 ∈ z_TB ∧ (μ'.1.cls ≠ "java/lang/invoke/MethodHandle" ∧ μ'.1.cls ≠ "java/lang/invoke/VarHandle" ∧ (parseMethodDescriptor μ'.1.desc).map (fun d => d.parameters.length) = some n)
theorem z_callS {As : List Value} {n : Nat} {st0 : List Value} (hM : z_Met l g ad μ' rm' As A B E') (hrm : z_room rm rm' μ') (hcw : z_cwS μ.1.cls idx μ' n) (hn : As.length = n) (hstk : st0 = As.reverse ++ rest) (hw8 : (rest.map fun v => v.category).sum ≤ 8) (hcells : cn ≤ rm.cells ∧ sn ≤ rm.slots)
    (hd : decode μ.2.1 pc = .ok (.invokestatic idx, 3)) (kk : ∀ (r : Option Value) (A' B' : z_A), E' r A' B' → z_R l g ad μ rm E cn sn (pc + 3) L (r.toList ++ rest) A' B') : z_R l g ad μ rm E cn sn pc L st0 A B := by
  obtain ⟨hcode, hini, hlink, hst, hd0⟩ := hcw
  intro p e s m args below meth c H locs F Q ls hC hH hl hr hx
  have hts := hC.2.2.2.2.2.1
  refine z_after (E' := E') (a := As.toArray) hC hH hl hr hx ?_ kk
  exact va_runS (own := μ.1.cls) (bytes := μ'.2.1) (maxL := μ'.2.2.1) (ret := μ'.2.2.2) (ws := z_ws μ') (n := n) ⟨hC.1, hC.2.1, hC.2.2.1, hC.2.2.2.2.1, hts⟩ (hM H.size) ⟨callB_of n hts (z_goodT hcode) rfl hrm.1 hrm.2.1 (hts _ hini) (hts _ hlink) hd0 ⟨hrm.2.2.1, hrm.2.2.2⟩, hts _ hst⟩ ⟨z_blind, z_pre hH.1 hC.2.2.2.2.2.2 hH.2.1⟩ rfl hn hl.1 hstk (lv_room hw8) hd hcells
/-- invokevirtual, the method that the reference names -/
theorem z_callV {As : List Value} {n k ci Nf : Nat} {fs : List (Nat × Nat)} {T : u_T} {st0 : List Value} (hM : z_Met l g ad μ' rm' (.ref (ad k) :: As) A B E') (hrm : z_room rm rm' μ') (ho : z_ob k ci fs) (hc : z_cl[ci]? = some (μ'.1.cls, T, Nf)) (hcw : z_cwV μ.1.cls idx μ' n) (hn : As.length = n) (hstk : st0 = As.reverse ++ .ref (ad k) :: rest) (hw8 : (rest.map fun v => v.category).sum ≤ 8) (hcells : cn ≤ rm.cells ∧ sn ≤ rm.slots)
    (hd : decode μ.2.1 pc = .ok (.invokevirtual idx, 3)) (kk : ∀ (r : Option Value) (A' B' : z_A), E' r A' B' → z_R l g ad μ rm E cn sn (pc + 3) L (r.toList ++ rest) A' B') : z_R l g ad μ rm E cn sn pc L st0 A B := by
  obtain ⟨hk, hs⟩ := ho
  obtain ⟨hcode, hini, hlink, hin, hsel, hd0⟩ := hcw
  intro p e s m args below meth c H locs F Q ls hC hH hl hr hx
  have hts := hC.2.2.2.2.2.1
  refine z_after (E' := E') (a := (.ref (ad k) :: As).toArray) hC hH hl hr hx ?_ kk
  exact va_runV (own := μ.1.cls) (C := μ'.1.cls) (bytes := μ'.2.1) (maxL := μ'.2.2.1) (ret := μ'.2.2.2) (ws := z_ws μ') (n := n) ⟨hC.1, hC.2.1, hC.2.2.1, hC.2.2.2.2.1, hts⟩ (hM H.size) ⟨callB_of n hts (z_goodT hcode) rfl hrm.1 hrm.2.1 (hts _ hini) (hts _ hlink) hd0 ⟨hrm.2.2.1, hrm.2.2.2⟩, hts _ hin, hts _ hsel⟩ ⟨z_blind, va_recv hC.2.2.2.2.2.2 hH.1 hc ((z_w_get g ad A B hk).trans (by rw [hs]; rfl)), z_pre hH.1 hC.2.2.2.2.2.2 hH.2.1⟩ rfl hn hl.1 hstk (lv_room hw8) hd hcells
/-- invokevirtual of a method that a class C above or below has: x is named, y = μ'.1 is run -/
theorem z_callU {As : List Value} {n k ci Nf : Nat} {fs : List (Nat × Nat)} {T : u_T} {C owner : String} {x : MethodName} {st0 : List Value} (hM : z_Met l g ad μ' rm' (.ref (ad k) :: As) A B E') (hrm : z_room rm rm' μ') (hk : k < z_N) (hs : z_sh k = (2, ci, fs)) (hc : z_cl[ci]? = some (C, T, Nf)) (hcode : z_code μ' ∈ z_TB) (hini : Cond.initialized μ'.1.cls ∈ z_TB) (hlink : Cond.methodLink μ.1.cls idx x ∈ z_TB) (hsame : Cond.sameMethod x.cls owner x.name x.desc ∈ z_TB)
    (hdecl : ∀ (args : Array Value) (s : State), (∀ w ∈ z_TB, w.before args s = true) → va_Decl s ⟨owner, x.name, x.desc⟩) (hin : Cond.instanceMethod μ'.1 ∈ z_TB) (hsel : Cond.selects C x μ'.1 ∈ z_TB)
    (hd0 : owner ≠ "java/lang/invoke/MethodHandle" ∧ owner ≠ "java/lang/invoke/VarHandle" ∧ (parseMethodDescriptor x.desc).map (fun d => d.parameters.length) = some n) (hn : As.length = n) (hstk : st0 = As.reverse ++ .ref (ad k) :: rest) (hw8 : (rest.map fun v => v.category).sum ≤ 8) (hcells : cn ≤ rm.cells ∧ sn ≤ rm.slots)
    (hd : decode μ.2.1 pc = .ok (.invokevirtual idx, 3)) (kk : ∀ (r : Option Value) (A' B' : z_A), E' r A' B' → z_R l g ad μ rm E cn sn (pc + 3) L (r.toList ++ rest) A' B') : z_R l g ad μ rm E cn sn pc L st0 A B := by
  intro p e s m args below meth c H locs F Q ls hC hH hl hr hx
  have hts := hC.2.2.2.2.2.1
  refine z_after (E' := E') (a := (.ref (ad k) :: As).toArray) hC hH hl hr hx ?_ kk
  refine va_runU (own := μ.1.cls) (C := C) (owner := owner) (x := x) (bytes := μ'.2.1) (maxL := μ'.2.2.1) (ret := μ'.2.2.2) (ws := z_ws μ') (n := n) ⟨hC.1, hC.2.1, hC.2.2.1, hC.2.2.2.2.1, hts⟩ (hM H.size) ⟨⟨hrm.1, hrm.2.1, hrm.2.2.1, hrm.2.2.2, pay_in hts (z_goodT hcode), List.mem_cons_self⟩, hts _ hcode, hts _ hini, ⟨hd0.1, hd0.2.1⟩, fun sig h => ?_, hts _ hlink, hts _ hsame, hdecl _ _ hts, hts _ hsel, hts _ hin⟩ ⟨z_blind, va_recv hC.2.2.2.2.2.2 hH.1 hc ((z_w_get g ad A B hk).trans (by rw [hs]; rfl)), z_pre hH.1 hC.2.2.2.2.2.2 hH.2.1⟩ rfl hn hl.1 hstk (lv_room hw8) hd hcells
  have h2 := hd0.2.2
  rw [h] at h2
  exact (Option.some.inj h2).symm
end ZC
end
section
theorem zi_m1 : Int32.ofInt (-1) = nI 4294967295 := by decide +kernel
theorem zi_0 : Int32.ofInt (0) = nI 0 := by decide +kernel
theorem zi_1 : Int32.ofInt (1) = nI 1 := by decide +kernel
theorem zi_2 : Int32.ofInt (2) = nI 2 := by decide +kernel
theorem zi_3 : Int32.ofInt (3) = nI 3 := by decide +kernel
theorem zi_4 : Int32.ofInt (4) = nI 4 := by decide +kernel
theorem zi_5 : Int32.ofInt (5) = nI 5 := by decide +kernel
theorem zi_16 : Int32.ofInt (16) = nI 16 := by decide +kernel
theorem zb_7 : (Int8.ofInt (7)).toInt32 = nI 7 := by decide +kernel
theorem zb_8 : (Int8.ofInt (8)).toInt32 = nI 8 := by decide +kernel
theorem zb_10 : (Int8.ofInt (10)).toInt32 = nI 10 := by decide +kernel
theorem zb_12 : (Int8.ofInt (12)).toInt32 = nI 12 := by decide +kernel
theorem zb_15 : (Int8.ofInt (15)).toInt32 = nI 15 := by decide +kernel
theorem zb_16 : (Int8.ofInt (16)).toInt32 = nI 16 := by decide +kernel
theorem zb_24 : (Int8.ofInt (24)).toInt32 = nI 24 := by decide +kernel
theorem zb_32 : (Int8.ofInt (32)).toInt32 = nI 32 := by decide +kernel
theorem zb_44 : (Int8.ofInt (44)).toInt32 = nI 44 := by decide +kernel
theorem zb_48 : (Int8.ofInt (48)).toInt32 = nI 48 := by decide +kernel
theorem zb_60 : (Int8.ofInt (60)).toInt32 = nI 60 := by decide +kernel
theorem zb_63 : (Int8.ofInt (63)).toInt32 = nI 63 := by decide +kernel
theorem zb_64 : (Int8.ofInt (64)).toInt32 = nI 64 := by decide +kernel
theorem zb_99 : (Int8.ofInt (99)).toInt32 = nI 99 := by decide +kernel
theorem zb_114 : (Int8.ofInt (114)).toInt32 = nI 114 := by decide +kernel
theorem zb_121 : (Int8.ofInt (121)).toInt32 = nI 121 := by decide +kernel
theorem zb_124 : (Int8.ofInt (124)).toInt32 = nI 124 := by decide +kernel
theorem zb_126 : (Int8.ofInt (126)).toInt32 = nI 126 := by decide +kernel
theorem zb_127 : (Int8.ofInt (127)).toInt32 = nI 127 := by decide +kernel
theorem zs_128 : (Int16.ofInt (128)).toInt32 = nI 128 := by decide +kernel
theorem zs_176 : (Int16.ofInt (176)).toInt32 = nI 176 := by decide +kernel
theorem zs_192 : (Int16.ofInt (192)).toInt32 = nI 192 := by decide +kernel
theorem zs_255 : (Int16.ofInt (255)).toInt32 = nI 255 := by decide +kernel
theorem zs_256 : (Int16.ofInt (256)).toInt32 = nI 256 := by decide +kernel
theorem zs_272 : (Int16.ofInt (272)).toInt32 = nI 272 := by decide +kernel
theorem zs_283 : (Int16.ofInt (283)).toInt32 = nI 283 := by decide +kernel
theorem zs_320 : (Int16.ofInt (320)).toInt32 = nI 320 := by decide +kernel
theorem zl_0 : Int64.ofNat ((0 : Fin 2) : Nat) = lN 0 := by decide +kernel
theorem zl_1 : Int64.ofNat ((1 : Fin 2) : Nat) = lN 1 := by decide +kernel
theorem zk_H_19 : (-4467570830351532032 : Int64) = lN 13979173243358019584 := by decide +kernel
theorem zk_H_25 : (135 : Int64) = lN 135 := by decide +kernel
theorem zk_H_53 : (-7925209444265230336 : Int64) = lN 10521534629444321280 := by decide +kernel
theorem zk_H_58 : (8 : Int64) = lN 8 := by decide +kernel
theorem zk_M_103 : (255 : Int64) = lN 255 := by decide +kernel
theorem zk_L_52 : (4294967295 : Int64) = lN 4294967295 := by decide +kernel
theorem zo_0 : z_ob 0 5 [(2, 1), (2, 10), (2, 12), (2, 14), (2, 19), (2, 24)] := ⟨by decide, rfl⟩
theorem zr_1 : z_ra 1 2 [(2, 2), (2, 4), (2, 6), (2, 8)] := ⟨by decide, rfl, by decide⟩
theorem zo_2 : z_ob 2 2 [(2, 3), (0, 0)] := ⟨by decide, rfl⟩
theorem za_3 : z_ia 3 16 := ⟨by decide, rfl, by decide⟩
theorem zo_4 : z_ob 4 2 [(2, 5), (0, 0)] := ⟨by decide, rfl⟩
theorem za_5 : z_ia 5 24 := ⟨by decide, rfl, by decide⟩
theorem zo_6 : z_ob 6 2 [(2, 7), (0, 0)] := ⟨by decide, rfl⟩
theorem za_7 : z_ia 7 32 := ⟨by decide, rfl, by decide⟩
theorem zo_8 : z_ob 8 2 [(2, 9), (0, 0)] := ⟨by decide, rfl⟩
theorem za_9 : z_ia 9 64 := ⟨by decide, rfl, by decide⟩
theorem zo_10 : z_ob 10 2 [(2, 11), (0, 0)] := ⟨by decide, rfl⟩
theorem za_11 : z_ia 11 64 := ⟨by decide, rfl, by decide⟩
theorem zo_12 : z_ob 12 2 [(2, 13), (0, 0)] := ⟨by decide, rfl⟩
theorem za_13 : z_ia 13 64 := ⟨by decide, rfl, by decide⟩
theorem zo_14 : z_ob 14 0 [(2, 15), (2, 16), (2, 17), (2, 18)] := ⟨by decide, rfl⟩
theorem za_15 : z_ia 15 256 := ⟨by decide, rfl, by decide⟩
theorem za_16 : z_ia 16 176 := ⟨by decide, rfl, by decide⟩
theorem za_17 : z_ia 17 16 := ⟨by decide, rfl, by decide⟩
theorem za_18 : z_ia 18 16 := ⟨by decide, rfl, by decide⟩
theorem zr_19 : z_ra 19 3 [(2, 20), (2, 22)] := ⟨by decide, rfl, by decide⟩
theorem zo_20 : z_ob 20 1 [(0, 0), (0, 0), (1, 0), (1, 0), (2, 21), (1, 0), (1, 0), (1, 0), (1, 0)] := ⟨by decide, rfl⟩
theorem za_21 : z_ia 21 16 := ⟨by decide, rfl, by decide⟩
theorem zo_22 : z_ob 22 1 [(0, 0), (0, 0), (1, 0), (1, 0), (2, 23), (1, 0), (1, 0), (1, 0), (1, 0)] := ⟨by decide, rfl⟩
theorem za_23 : z_ia 23 16 := ⟨by decide, rfl, by decide⟩
theorem zr_24 : z_ra 24 4 [(2, 25), (2, 32)] := ⟨by decide, rfl, by decide⟩
theorem zo_25 : z_ob 25 4 [(2, 14), (2, 20), (2, 26), (2, 27), (2, 28), (2, 29), (2, 30), (2, 31)] := ⟨by decide, rfl⟩
theorem za_26 : z_ia 26 16 := ⟨by decide, rfl, by decide⟩
theorem za_27 : z_ia 27 16 := ⟨by decide, rfl, by decide⟩
theorem za_28 : z_ia 28 16 := ⟨by decide, rfl, by decide⟩
theorem za_29 : z_ia 29 16 := ⟨by decide, rfl, by decide⟩
theorem za_30 : z_ia 30 16 := ⟨by decide, rfl, by decide⟩
theorem za_31 : z_ia 31 16 := ⟨by decide, rfl, by decide⟩
theorem zo_32 : z_ob 32 3 [(2, 14), (2, 22), (2, 33), (2, 34), (2, 35), (2, 36), (2, 37), (2, 38)] := ⟨by decide, rfl⟩
theorem za_33 : z_ia 33 16 := ⟨by decide, rfl, by decide⟩
theorem za_34 : z_ia 34 16 := ⟨by decide, rfl, by decide⟩
theorem za_35 : z_ia 35 16 := ⟨by decide, rfl, by decide⟩
theorem za_36 : z_ia 36 16 := ⟨by decide, rfl, by decide⟩
theorem za_37 : z_ia 37 16 := ⟨by decide, rfl, by decide⟩
theorem za_38 : z_ia 38 16 := ⟨by decide, rfl, by decide⟩
theorem zo_39 : z_ob 39 6 [(0, 0), (2, 40), (2, 41), (0, 0), (2, 42), (2, 43), (2, 44), (2, 45), (2, 46), (2, 47), (2, 48), (2, 49), (2, 50), (2, 51), (2, 52), (2, 53)] := ⟨by decide, rfl⟩
theorem za_40 : z_ia 40 320 := ⟨by decide, rfl, by decide⟩
theorem za_41 : z_ia 41 4 := ⟨by decide, rfl, by decide⟩
theorem za_42 : z_ia 42 64 := ⟨by decide, rfl, by decide⟩
theorem za_43 : z_ia 43 176 := ⟨by decide, rfl, by decide⟩
theorem za_44 : z_ia 44 16 := ⟨by decide, rfl, by decide⟩
theorem za_45 : z_ia 45 16 := ⟨by decide, rfl, by decide⟩
theorem za_46 : z_ia 46 256 := ⟨by decide, rfl, by decide⟩
theorem za_47 : z_ia 47 16 := ⟨by decide, rfl, by decide⟩
theorem za_48 : z_ia 48 16 := ⟨by decide, rfl, by decide⟩
theorem za_49 : z_ia 49 128 := ⟨by decide, rfl, by decide⟩
theorem za_50 : z_ia 50 128 := ⟨by decide, rfl, by decide⟩
theorem za_51 : z_ia 51 256 := ⟨by decide, rfl, by decide⟩
theorem za_52 : z_ia 52 16 := ⟨by decide, rfl, by decide⟩
theorem za_53 : z_ia 53 16 := ⟨by decide, rfl, by decide⟩
theorem zf_S_11_5 : z_fw "TwoSeals" 11 5 0 "TwoSeals" zTS 6 "TwoSeals" := ⟨rfl, by decide, zuS, z_in1 (i := 198) rfl (by decide +kernel), Or.inl rfl⟩
theorem zf_S_18_5 : z_fw "TwoSeals" 18 5 1 "TwoSeals" zTS 6 "TwoSeals" := ⟨rfl, by decide, zuS, z_in1 (i := 199) rfl (by decide +kernel), Or.inl rfl⟩
theorem zf_S_22_5 : z_fw "TwoSeals" 22 5 2 "TwoSeals" zTS 6 "TwoSeals" := ⟨rfl, by decide, zuS, z_in1 (i := 200) rfl (by decide +kernel), Or.inl rfl⟩
theorem zf_S_28_5 : z_fw "TwoSeals" 28 5 3 "TwoSeals" zTS 6 "TwoSeals" := ⟨rfl, by decide, zuS, z_in1 (i := 201) rfl (by decide +kernel), Or.inl rfl⟩
theorem zf_S_34_5 : z_fw "TwoSeals" 34 5 4 "TwoSeals" zTS 6 "TwoSeals" := ⟨rfl, by decide, zuS, z_in1 (i := 202) rfl (by decide +kernel), Or.inl rfl⟩
theorem zf_S_43_5 : z_fw "TwoSeals" 43 5 5 "TwoSeals" zTS 6 "TwoSeals" := ⟨rfl, by decide, zuS, z_in1 (i := 203) rfl (by decide +kernel), Or.inl rfl⟩
theorem zc_S_55 : z_cwS "TwoSeals" 55 mS_requireRow 1 := ⟨wcmS_requireRow, wn_S, wl_S_55, ws_S_requireRow, by decide, by decide, by decide +kernel⟩
theorem zf_S_65_2 : z_fw "TwoSeals" 65 2 1 "TwoSeals$Row" zTR 2 "TwoSeals$Row" := ⟨rfl, by decide, zuR, z_in1 (i := 38) rfl (by decide +kernel), Or.inl rfl⟩
theorem zc_S_69 : z_cwV "TwoSeals" 69 mR_hasRoomFor 1 := ⟨wcmR_hasRoomFor, wn_R, wl_S_69, wi_R_hasRoomFor, wv_R_R_hasRoomFor, by decide, by decide, by decide +kernel⟩
theorem zc_S_78 : z_cwV "TwoSeals" 78 mR_append 1 := ⟨wcmR_append, wn_R, wl_S_78, wi_R_append, wv_R_R_append, by decide, by decide, by decide +kernel⟩
theorem zp_S_65_2 : z_pw "TwoSeals" 65 2 1 "TwoSeals$Row" zTR 2 "TwoSeals$Row" ztR .int := ⟨zf_S_65_2, ztR_ok, znR, rfl, by decide +kernel⟩
theorem zc_S_83 : z_cwV "TwoSeals" 83 mR_has 1 := ⟨wcmR_has, wn_R, wl_S_83, wi_R_has, wv_R_R_has, by decide, by decide, by decide +kernel⟩
theorem zf_S_91_2 : z_fw "TwoSeals" 91 2 0 "TwoSeals$Row" zTR 2 "TwoSeals$Row" := ⟨rfl, by decide, zuR, z_in1 (i := 35) rfl (by decide +kernel), Or.inl rfl⟩
theorem zc_S_97 : z_cwV "TwoSeals" 97 mR_become 1 := ⟨wcmR_become, wn_R, wl_S_97, wi_R_become, wv_R_R_become, by decide, by decide, by decide +kernel⟩
theorem zc_S_103 : z_cwV "TwoSeals" 103 mC_useKey 1 := ⟨wcmC_useKey, wn_C, wl_S_103, wi_C_useKey, wv_C_C_useKey, by decide, by decide, by decide +kernel⟩
theorem zc_S_107 : z_cwV "TwoSeals" 107 mC_encipher 2 := ⟨wcmC_encipher, wn_C, wl_S_107, wi_C_encipher, wv_C_C_encipher, by decide, by decide, by decide +kernel⟩
theorem zc_S_111 : z_cwS "TwoSeals" 111 mS_requireWay 1 := ⟨wcmS_requireWay, wn_S, wl_S_111, ws_S_requireWay, by decide, by decide, by decide +kernel⟩
theorem zc_S_116 : z_cwV "TwoSeals" 116 mH_begin 1 := ⟨wcmH_begin, wn_H, wl_S_116, wi_H_begin, wv_H_H_begin, by decide, by decide, by decide +kernel⟩
theorem zc_S_119 : z_cwV "TwoSeals" 119 mH_add 2 := ⟨wcmH_add, wn_H, wl_S_119, wi_H_add, wv_H_H_add, by decide, by decide, by decide +kernel⟩
theorem zc_S_123 : z_cwV "TwoSeals" 123 mH_write 1 := ⟨wcmH_write, wn_H, wl_S_123, wi_H_write, wv_H_H_write, by decide, by decide, by decide +kernel⟩
theorem zc_S_126 : z_cwV "TwoSeals" 126 mS_requireKeyAndNonce 1 := ⟨wcmS_requireKeyAndNonce, wn_S, wl_S_126, wi_S_requireKeyAndNonce, wv_S_S_requireKeyAndNonce, by decide, by decide, by decide +kernel⟩
theorem zf_M_7_6 : z_fw "TwoSealsModel" 7 6 1 "TwoSealsModel" zTM 16 "TwoSealsModel" := ⟨rfl, by decide, zuM, z_in3 (i := 156) rfl (by decide +kernel), Or.inl rfl⟩
theorem zf_M_13_6 : z_fw "TwoSealsModel" 13 6 2 "TwoSealsModel" zTM 16 "TwoSealsModel" := ⟨rfl, by decide, zuM, z_in3 (i := 157) rfl (by decide +kernel), Or.inl rfl⟩
theorem zf_M_16_6 : z_fw "TwoSealsModel" 16 6 4 "TwoSealsModel" zTM 16 "TwoSealsModel" := ⟨rfl, by decide, zuM, z_in3 (i := 159) rfl (by decide +kernel), Or.inl rfl⟩
theorem zf_M_19_6 : z_fw "TwoSealsModel" 19 6 5 "TwoSealsModel" zTM 16 "TwoSealsModel" := ⟨rfl, by decide, zuM, z_in3 (i := 160) rfl (by decide +kernel), Or.inl rfl⟩
theorem zf_M_22_6 : z_fw "TwoSealsModel" 22 6 6 "TwoSealsModel" zTM 16 "TwoSealsModel" := ⟨rfl, by decide, zuM, z_in3 (i := 161) rfl (by decide +kernel), Or.inl rfl⟩
theorem zf_M_25_6 : z_fw "TwoSealsModel" 25 6 7 "TwoSealsModel" zTM 16 "TwoSealsModel" := ⟨rfl, by decide, zuM, z_in3 (i := 162) rfl (by decide +kernel), Or.inl rfl⟩
theorem zf_M_28_6 : z_fw "TwoSealsModel" 28 6 8 "TwoSealsModel" zTM 16 "TwoSealsModel" := ⟨rfl, by decide, zuM, z_in3 (i := 163) rfl (by decide +kernel), Or.inl rfl⟩
theorem zf_M_31_6 : z_fw "TwoSealsModel" 31 6 9 "TwoSealsModel" zTM 16 "TwoSealsModel" := ⟨rfl, by decide, zuM, z_in3 (i := 164) rfl (by decide +kernel), Or.inl rfl⟩
theorem zf_M_34_6 : z_fw "TwoSealsModel" 34 6 10 "TwoSealsModel" zTM 16 "TwoSealsModel" := ⟨rfl, by decide, zuM, z_in3 (i := 165) rfl (by decide +kernel), Or.inl rfl⟩
theorem zf_M_37_6 : z_fw "TwoSealsModel" 37 6 11 "TwoSealsModel" zTM 16 "TwoSealsModel" := ⟨rfl, by decide, zuM, z_in3 (i := 166) rfl (by decide +kernel), Or.inl rfl⟩
theorem zf_M_40_6 : z_fw "TwoSealsModel" 40 6 12 "TwoSealsModel" zTM 16 "TwoSealsModel" := ⟨rfl, by decide, zuM, z_in3 (i := 167) rfl (by decide +kernel), Or.inl rfl⟩
theorem zf_M_43_6 : z_fw "TwoSealsModel" 43 6 13 "TwoSealsModel" zTM 16 "TwoSealsModel" := ⟨rfl, by decide, zuM, z_in3 (i := 168) rfl (by decide +kernel), Or.inl rfl⟩
theorem zf_M_46_6 : z_fw "TwoSealsModel" 46 6 14 "TwoSealsModel" zTM 16 "TwoSealsModel" := ⟨rfl, by decide, zuM, z_in3 (i := 169) rfl (by decide +kernel), Or.inl rfl⟩
theorem zf_M_49_6 : z_fw "TwoSealsModel" 49 6 15 "TwoSealsModel" zTM 16 "TwoSealsModel" := ⟨rfl, by decide, zuM, z_in3 (i := 170) rfl (by decide +kernel), Or.inl rfl⟩
theorem zc_M_52 : z_cwS "TwoSealsModel" 52 mM_times 2 := ⟨wcmM_times, wn_M, wl_M_52, ws_M_times, by decide, by decide, by decide +kernel⟩
theorem zc_M_56 : z_cwS "TwoSealsModel" 56 mM_turned 2 := ⟨wcmM_turned, wn_M, wl_M_56, ws_M_turned, by decide, by decide, by decide +kernel⟩
theorem zf_M_59_6 : z_fw "TwoSealsModel" 59 6 0 "TwoSealsModel" zTM 16 "TwoSealsModel" := ⟨rfl, by decide, zuM, z_in3 (i := 155) rfl (by decide +kernel), Or.inl rfl⟩
theorem zc_M_63 : z_cwS "TwoSealsModel" 63 mM_doubled 1 := ⟨wcmM_doubled, wn_M, wl_M_63, ws_M_doubled, by decide, by decide, by decide +kernel⟩
theorem zc_M_67 : z_cwV "TwoSealsModel" 67 mM_expand 0 := ⟨wcmM_expand, wn_M, wl_M_67, wi_M_expand, wv_M_M_expand, by decide, by decide, by decide +kernel⟩
theorem zc_M_70 : z_cwV "TwoSealsModel" 70 mM_addWords 1 := ⟨wcmM_addWords, wn_M, wl_M_70, wi_M_addWords, wv_M_M_addWords, by decide, by decide, by decide +kernel⟩
theorem zc_M_74 : z_cwV "TwoSealsModel" 74 mM_mixed 2 := ⟨wcmM_mixed, wn_M, wl_M_74, wi_M_mixed, wv_M_M_mixed, by decide, by decide, by decide +kernel⟩
theorem zc_M_77 : z_cwV "TwoSealsModel" 77 mM_clearProduct 0 := ⟨wcmM_clearProduct, wn_M, wl_M_77, wi_M_clearProduct, wv_M_M_clearProduct, by decide, by decide, by decide +kernel⟩
theorem zc_M_80 : z_cwV "TwoSealsModel" 80 mM_reduce 1 := ⟨wcmM_reduce, wn_M, wl_M_80, wi_M_reduce, wv_M_M_reduce, by decide, by decide, by decide +kernel⟩
theorem zc_M_83 : z_cwS "TwoSealsModel" 83 mM_bit 3 := ⟨wcmM_bit, wn_M, wl_M_83, ws_M_bit, by decide, by decide, by decide +kernel⟩
theorem zc_M_87 : z_cwV "TwoSealsModel" 87 mM_addShifted 1 := ⟨wcmM_addShifted, wn_M, wl_M_87, wi_M_addShifted, wv_M_M_addShifted, by decide, by decide, by decide +kernel⟩
theorem zc_M_90 : z_cwV "TwoSealsModel" 90 mM_multiply 1 := ⟨wcmM_multiply, wn_M, wl_M_90, wi_M_multiply, wv_M_M_multiply, by decide, by decide, by decide +kernel⟩
theorem zc_M_93 : z_cwV "TwoSealsModel" 93 mM_feed 1 := ⟨wcmM_feed, wn_M, wl_M_93, wi_M_feed, wv_M_M_feed, by decide, by decide, by decide +kernel⟩
theorem zc_M_96 : z_cwS "TwoSealsModel" 96 mM_isRow 1 := ⟨wcmM_isRow, wn_M, wl_M_96, ws_M_isRow, by decide, by decide, by decide +kernel⟩
theorem zc_M_100 : z_cwS "TwoSealsModel" 100 mM_most 1 := ⟨wcmM_most, wn_M, wl_M_100, ws_M_most, by decide, by decide, by decide +kernel⟩
theorem zp_M_59_6 : z_pw "TwoSealsModel" 59 6 0 "TwoSealsModel" zTM 16 "TwoSealsModel" ztM .int := ⟨zf_M_59_6, ztM_ok, znM, rfl, by decide +kernel⟩
theorem zf_M_105_6 : z_fw "TwoSealsModel" 105 6 3 "TwoSealsModel" zTM 16 "TwoSealsModel" := ⟨rfl, by decide, zuM, z_in3 (i := 158) rfl (by decide +kernel), Or.inl rfl⟩
theorem zp_M_105_6 : z_pw "TwoSealsModel" 105 6 3 "TwoSealsModel" zTM 16 "TwoSealsModel" ztM .int := ⟨zf_M_105_6, ztM_ok, znM, rfl, by decide +kernel⟩
theorem zc_M_108 : z_cwV "TwoSealsModel" 108 mM_useKey 0 := ⟨wcmM_useKey, wn_M, wl_M_108, wi_M_useKey, wv_M_M_useKey, by decide, by decide, by decide +kernel⟩
theorem zc_M_111 : z_cwV "TwoSealsModel" 111 mM_encipher 0 := ⟨wcmM_encipher, wn_M, wl_M_111, wi_M_encipher, wv_M_M_encipher, by decide, by decide, by decide +kernel⟩
theorem zc_M_114 : z_cwV "TwoSealsModel" 114 mM_keepBlock 0 := ⟨wcmM_keepBlock, wn_M, wl_M_114, wi_M_keepBlock, wv_M_M_keepBlock, by decide, by decide, by decide +kernel⟩
theorem zc_M_117 : z_cwV "TwoSealsModel" 117 mM_beginHash 1 := ⟨wcmM_beginHash, wn_M, wl_M_117, wi_M_beginHash, wv_M_M_beginHash, by decide, by decide, by decide +kernel⟩
theorem zc_M_120 : z_cwV "TwoSealsModel" 120 mM_feedRow 3 := ⟨wcmM_feedRow, wn_M, wl_M_120, wi_M_feedRow, wv_M_M_feedRow, by decide, by decide, by decide +kernel⟩
theorem zc_M_124 : z_cwV "TwoSealsModel" 124 mM_endHash 1 := ⟨wcmM_endHash, wn_M, wl_M_124, wi_M_endHash, wv_M_M_endHash, by decide, by decide, by decide +kernel⟩
theorem zc_M_127 : z_cwV "TwoSealsModel" 127 mM_beginOutward 0 := ⟨wcmM_beginOutward, wn_M, wl_M_127, wi_M_beginOutward, wv_M_M_beginOutward, by decide, by decide, by decide +kernel⟩
theorem zc_M_130 : z_cwV "TwoSealsModel" 130 mM_feedLengths 3 := ⟨wcmM_feedLengths, wn_M, wl_M_130, wi_M_feedLengths, wv_M_M_feedLengths, by decide, by decide, by decide +kernel⟩
theorem zc_M_133 : z_cwV "TwoSealsModel" 133 mM_count 2 := ⟨wcmM_count, wn_M, wl_M_133, wi_M_count, wv_M_M_count, by decide, by decide, by decide +kernel⟩
theorem zc_M_137 : z_cwV "TwoSealsModel" 137 mM_derive 2 := ⟨wcmM_derive, wn_M, wl_M_137, wi_M_derive, wv_M_M_derive, by decide, by decide, by decide +kernel⟩
theorem zc_M_141 : z_cwV "TwoSealsModel" 141 mM_isReady 1 := ⟨wcmM_isReady, wn_M, wl_M_141, wi_M_isReady, wv_M_M_isReady, by decide, by decide, by decide +kernel⟩
theorem zc_M_144 : z_cwV "TwoSealsModel" 144 mM_makeStart 0 := ⟨wcmM_makeStart, wn_M, wl_M_144, wi_M_makeStart, wv_M_M_makeStart, by decide, by decide, by decide +kernel⟩
theorem zc_M_147 : z_cwV "TwoSealsModel" 147 mM_cipher 2 := ⟨wcmM_cipher, wn_M, wl_M_147, wi_M_cipher, wv_M_M_cipher, by decide, by decide, by decide +kernel⟩
theorem zc_M_150 : z_cwV "TwoSealsModel" 150 mM_sealOutward 2 := ⟨wcmM_sealOutward, wn_M, wl_M_150, wi_M_sealOutward, wv_M_M_sealOutward, by decide, by decide, by decide +kernel⟩
theorem zc_M_153 : z_cwV "TwoSealsModel" 153 mM_deriveKeys 0 := ⟨wcmM_deriveKeys, wn_M, wl_M_153, wi_M_deriveKeys, wv_M_M_deriveKeys, by decide, by decide, by decide +kernel⟩
theorem zc_M_156 : z_cwV "TwoSealsModel" 156 mM_sealInward 2 := ⟨wcmM_sealInward, wn_M, wl_M_156, wi_M_sealInward, wv_M_M_sealInward, by decide, by decide, by decide +kernel⟩
theorem zc_M_159 : z_cwV "TwoSealsModel" 159 mM_startAtTag 0 := ⟨wcmM_startAtTag, wn_M, wl_M_159, wi_M_startAtTag, wv_M_M_startAtTag, by decide, by decide, by decide +kernel⟩
theorem zc_M_162 : z_cwV "TwoSealsModel" 162 mM_openInward 1 := ⟨wcmM_openInward, wn_M, wl_M_162, wi_M_openInward, wv_M_M_openInward, by decide, by decide, by decide +kernel⟩
theorem zc_C_9 : z_cwS "TwoSeals$Cipher" 9 mC_makeBox 0 := ⟨wcmC_makeBox, wn_C, wl_C_9, ws_C_makeBox, by decide, by decide, by decide +kernel⟩
theorem zf_C_15_0 : z_fw "TwoSeals$Cipher" 15 0 0 "TwoSeals$Cipher" zTC 4 "TwoSeals$Cipher" := ⟨rfl, by decide, zuC, z_in1 (i := 69) rfl (by decide +kernel), Or.inl rfl⟩
theorem zf_C_19_0 : z_fw "TwoSeals$Cipher" 19 0 1 "TwoSeals$Cipher" zTC 4 "TwoSeals$Cipher" := ⟨rfl, by decide, zuC, z_in1 (i := 70) rfl (by decide +kernel), Or.inl rfl⟩
theorem zf_C_22_0 : z_fw "TwoSeals$Cipher" 22 0 2 "TwoSeals$Cipher" zTC 4 "TwoSeals$Cipher" := ⟨rfl, by decide, zuC, z_in1 (i := 71) rfl (by decide +kernel), Or.inl rfl⟩
theorem zf_C_25_0 : z_fw "TwoSeals$Cipher" 25 0 3 "TwoSeals$Cipher" zTC 4 "TwoSeals$Cipher" := ⟨rfl, by decide, zuC, z_in1 (i := 72) rfl (by decide +kernel), Or.inl rfl⟩
theorem zc_C_28 : z_cwS "TwoSeals$Cipher" 28 mC_tripled 1 := ⟨wcmC_tripled, wn_C, wl_C_28, ws_C_tripled, by decide, by decide, by decide +kernel⟩
theorem zc_C_32 : z_cwS "TwoSeals$Cipher" 32 mC_spread 1 := ⟨wcmC_spread, wn_C, wl_C_32, ws_C_spread, by decide, by decide, by decide +kernel⟩
theorem zc_C_35 : z_cwS "TwoSeals$Cipher" 35 mC_turned 2 := ⟨wcmC_turned, wn_C, wl_C_35, ws_C_turned, by decide, by decide, by decide +kernel⟩
theorem zc_C_39 : z_cwS "TwoSeals$Cipher" 39 mC_doubled 1 := ⟨wcmC_doubled, wn_C, wl_C_39, ws_C_doubled, by decide, by decide, by decide +kernel⟩
theorem zy_C_42 : z_cpw "TwoSeals$Cipher" 42 := ⟨wl_C_42, wt_arraycopy, ws_arraycopy, wn_java_lang_System⟩
theorem zc_C_48 : z_cwV "TwoSeals$Cipher" 48 mC_makeBoxedWord 2 := ⟨wcmC_makeBoxedWord, wn_C, wl_C_48, wi_C_makeBoxedWord, wv_C_C_makeBoxedWord, by decide, by decide, by decide +kernel⟩
theorem zc_C_52 : z_cwV "TwoSeals$Cipher" 52 mC_makeWord 1 := ⟨wcmC_makeWord, wn_C, wl_C_52, wi_C_makeWord, wv_C_C_makeWord, by decide, by decide, by decide +kernel⟩
theorem zc_C_56 : z_cwV "TwoSeals$Cipher" 56 mC_addWords 1 := ⟨wcmC_addWords, wn_C, wl_C_56, wi_C_addWords, wv_C_C_addWords, by decide, by decide, by decide +kernel⟩
theorem zc_C_59 : z_cwV "TwoSeals$Cipher" 59 mC_boxAndMove 0 := ⟨wcmC_boxAndMove, wn_C, wl_C_59, wi_C_boxAndMove, wv_C_C_boxAndMove, by decide, by decide, by decide +kernel⟩
theorem zc_C_62 : z_cwV "TwoSeals$Cipher" 62 mC_mix 0 := ⟨wcmC_mix, wn_C, wl_C_62, wi_C_mix, wv_C_C_mix, by decide, by decide, by decide +kernel⟩
theorem zf_H_9_1 : z_fw "TwoSeals$Hasher" 9 1 0 "TwoSeals$Hasher" zTH 9 "TwoSeals$Hasher" := ⟨rfl, by decide, zuH, z_in1 (i := 91) rfl (by decide +kernel), Or.inl rfl⟩
theorem zf_H_15_1 : z_fw "TwoSeals$Hasher" 15 1 1 "TwoSeals$Hasher" zTH 9 "TwoSeals$Hasher" := ⟨rfl, by decide, zuH, z_in1 (i := 92) rfl (by decide +kernel), Or.inl rfl⟩
theorem zf_H_21_1 : z_fw "TwoSeals$Hasher" 21 1 2 "TwoSeals$Hasher" zTH 9 "TwoSeals$Hasher" := ⟨rfl, by decide, zuH, z_in1 (i := 93) rfl (by decide +kernel), Or.inl rfl⟩
theorem zf_H_27_1 : z_fw "TwoSeals$Hasher" 27 1 3 "TwoSeals$Hasher" zTH 9 "TwoSeals$Hasher" := ⟨rfl, by decide, zuH, z_in1 (i := 94) rfl (by decide +kernel), Or.inl rfl⟩
theorem zf_H_30_1 : z_fw "TwoSeals$Hasher" 30 1 4 "TwoSeals$Hasher" zTH 9 "TwoSeals$Hasher" := ⟨rfl, by decide, zuH, z_in1 (i := 95) rfl (by decide +kernel), Or.inl rfl⟩
theorem zc_H_34 : z_cwV "TwoSeals$Hasher" 34 mH_readHalf 3 := ⟨wcmH_readHalf, wn_H, wl_H_34, wi_H_readHalf, wv_H_H_readHalf, by decide, by decide, by decide +kernel⟩
theorem zf_H_38_1 : z_fw "TwoSeals$Hasher" 38 1 5 "TwoSeals$Hasher" zTH 9 "TwoSeals$Hasher" := ⟨rfl, by decide, zuH, z_in1 (i := 96) rfl (by decide +kernel), Or.inl rfl⟩
theorem zp_H_38_1 : z_pw "TwoSeals$Hasher" 38 1 5 "TwoSeals$Hasher" zTH 9 "TwoSeals$Hasher" ztH .long := ⟨zf_H_38_1, ztH_ok, znH, rfl, by decide +kernel⟩
theorem zf_H_41_1 : z_fw "TwoSeals$Hasher" 41 1 6 "TwoSeals$Hasher" zTH 9 "TwoSeals$Hasher" := ⟨rfl, by decide, zuH, z_in1 (i := 97) rfl (by decide +kernel), Or.inl rfl⟩
theorem zp_H_41_1 : z_pw "TwoSeals$Hasher" 41 1 6 "TwoSeals$Hasher" zTH 9 "TwoSeals$Hasher" ztH .long := ⟨zf_H_41_1, ztH_ok, znH, rfl, by decide +kernel⟩
theorem zc_H_44 : z_cwV "TwoSeals$Hasher" 44 mH_putBesidesIntoKey 0 := ⟨wcmH_putBesidesIntoKey, wn_H, wl_H_44, wi_H_putBesidesIntoKey, wv_H_H_putBesidesIntoKey, by decide, by decide, by decide +kernel⟩
theorem zf_H_47_1 : z_fw "TwoSeals$Hasher" 47 1 7 "TwoSeals$Hasher" zTH 9 "TwoSeals$Hasher" := ⟨rfl, by decide, zuH, z_in1 (i := 98) rfl (by decide +kernel), Or.inl rfl⟩
theorem zp_H_47_1 : z_pw "TwoSeals$Hasher" 47 1 7 "TwoSeals$Hasher" zTH 9 "TwoSeals$Hasher" ztH .long := ⟨zf_H_47_1, ztH_ok, znH, rfl, by decide +kernel⟩
theorem zf_H_50_1 : z_fw "TwoSeals$Hasher" 50 1 8 "TwoSeals$Hasher" zTH 9 "TwoSeals$Hasher" := ⟨rfl, by decide, zuH, z_in1 (i := 99) rfl (by decide +kernel), Or.inl rfl⟩
theorem zp_H_50_1 : z_pw "TwoSeals$Hasher" 50 1 8 "TwoSeals$Hasher" zTH 9 "TwoSeals$Hasher" ztH .long := ⟨zf_H_50_1, ztH_ok, znH, rfl, by decide +kernel⟩
theorem zc_H_55 : z_cwV "TwoSeals$Hasher" 55 mH_multiplySumByKey 0 := ⟨wcmH_multiplySumByKey, wn_H, wl_H_55, wi_H_multiplySumByKey, wv_H_H_multiplySumByKey, by decide, by decide, by decide +kernel⟩
theorem zc_H_60 : z_cwV "TwoSeals$Hasher" 60 mH_putLength 2 := ⟨wcmH_putLength, wn_H, wl_H_60, wi_H_putLength, wv_H_H_putLength, by decide, by decide, by decide +kernel⟩
theorem zc_H_64 : z_cwV "TwoSeals$Hasher" 64 mH_add 2 := ⟨wcmH_add, wn_H, wl_H_64, wi_H_add, wv_H_H_add, by decide, by decide, by decide +kernel⟩
theorem zc_H_68 : z_cwV "TwoSeals$Hasher" 68 mH_writeHalf 3 := ⟨wcmH_writeHalf, wn_H, wl_H_68, wi_H_writeHalf, wv_H_H_writeHalf, by decide, by decide, by decide +kernel⟩
theorem zf_R_7_2 : z_fw "TwoSeals$Row" 7 2 0 "TwoSeals$Row" zTR 2 "TwoSeals$Row" := ⟨rfl, by decide, zuR, z_in1 (i := 32) rfl (by decide +kernel), Or.inl rfl⟩
theorem zf_R_13_2 : z_fw "TwoSeals$Row" 13 2 1 "TwoSeals$Row" zTR 2 "TwoSeals$Row" := ⟨rfl, by decide, zuR, z_in1 (i := 37) rfl (by decide +kernel), Or.inl rfl⟩
theorem zp_R_13_2 : z_pw "TwoSeals$Row" 13 2 1 "TwoSeals$Row" zTR 2 "TwoSeals$Row" ztR .int := ⟨zf_R_13_2, ztR_ok, znR, rfl, by decide +kernel⟩
theorem zy_R_17 : z_cpw "TwoSeals$Row" 17 := ⟨wl_R_17, wt_arraycopy, ws_arraycopy, wn_java_lang_System⟩
theorem zf_W_9_3 : z_fw "TwoSeals$Way" 9 3 0 "TwoSeals$WayOne" zTO 8 "TwoSeals$Way" := ⟨rfl, by decide, zuO, z_in1 (i := 131) rfl (by decide +kernel), Or.inl rfl⟩
theorem zf_W_9_4 : z_fw "TwoSeals$Way" 9 4 0 "TwoSeals$WayZero" zTZ 8 "TwoSeals$Way" := ⟨rfl, by decide, zuZ, z_in1 (i := 131) rfl (by decide +kernel), Or.inl rfl⟩
theorem zf_W_15_3 : z_fw "TwoSeals$Way" 15 3 1 "TwoSeals$WayOne" zTO 8 "TwoSeals$Way" := ⟨rfl, by decide, zuO, z_in1 (i := 136) rfl (by decide +kernel), Or.inl rfl⟩
theorem zf_W_15_4 : z_fw "TwoSeals$Way" 15 4 1 "TwoSeals$WayZero" zTZ 8 "TwoSeals$Way" := ⟨rfl, by decide, zuZ, z_in1 (i := 136) rfl (by decide +kernel), Or.inl rfl⟩
theorem zf_W_19_3 : z_fw "TwoSeals$Way" 19 3 2 "TwoSeals$WayOne" zTO 8 "TwoSeals$Way" := ⟨rfl, by decide, zuO, z_in1 (i := 139) rfl (by decide +kernel), Or.inl rfl⟩
theorem zf_W_19_4 : z_fw "TwoSeals$Way" 19 4 2 "TwoSeals$WayZero" zTZ 8 "TwoSeals$Way" := ⟨rfl, by decide, zuZ, z_in1 (i := 139) rfl (by decide +kernel), Or.inl rfl⟩
theorem zf_W_23_3 : z_fw "TwoSeals$Way" 23 3 3 "TwoSeals$WayOne" zTO 8 "TwoSeals$Way" := ⟨rfl, by decide, zuO, z_in1 (i := 144) rfl (by decide +kernel), Or.inl rfl⟩
theorem zf_W_23_4 : z_fw "TwoSeals$Way" 23 4 3 "TwoSeals$WayZero" zTZ 8 "TwoSeals$Way" := ⟨rfl, by decide, zuZ, z_in1 (i := 144) rfl (by decide +kernel), Or.inl rfl⟩
theorem zf_W_26_3 : z_fw "TwoSeals$Way" 26 3 4 "TwoSeals$WayOne" zTO 8 "TwoSeals$Way" := ⟨rfl, by decide, zuO, z_in1 (i := 149) rfl (by decide +kernel), Or.inl rfl⟩
theorem zf_W_26_4 : z_fw "TwoSeals$Way" 26 4 4 "TwoSeals$WayZero" zTZ 8 "TwoSeals$Way" := ⟨rfl, by decide, zuZ, z_in1 (i := 149) rfl (by decide +kernel), Or.inl rfl⟩
theorem zf_W_29_3 : z_fw "TwoSeals$Way" 29 3 5 "TwoSeals$WayOne" zTO 8 "TwoSeals$Way" := ⟨rfl, by decide, zuO, z_in1 (i := 154) rfl (by decide +kernel), Or.inl rfl⟩
theorem zf_W_29_4 : z_fw "TwoSeals$Way" 29 4 5 "TwoSeals$WayZero" zTZ 8 "TwoSeals$Way" := ⟨rfl, by decide, zuZ, z_in1 (i := 154) rfl (by decide +kernel), Or.inl rfl⟩
theorem zf_W_32_3 : z_fw "TwoSeals$Way" 32 3 6 "TwoSeals$WayOne" zTO 8 "TwoSeals$Way" := ⟨rfl, by decide, zuO, z_in1 (i := 159) rfl (by decide +kernel), Or.inl rfl⟩
theorem zf_W_32_4 : z_fw "TwoSeals$Way" 32 4 6 "TwoSeals$WayZero" zTZ 8 "TwoSeals$Way" := ⟨rfl, by decide, zuZ, z_in1 (i := 159) rfl (by decide +kernel), Or.inl rfl⟩
theorem zc_W_39 : z_cwV "TwoSeals$Way" 39 mC_encipher 2 := ⟨wcmC_encipher, wn_C, wl_W_39, wi_C_encipher, wv_C_C_encipher, by decide, by decide, by decide +kernel⟩
theorem zc_W_45 : z_cwV "TwoSeals$Way" 45 mH_begin 1 := ⟨wcmH_begin, wn_H, wl_W_45, wi_H_begin, wv_H_H_begin, by decide, by decide, by decide +kernel⟩
theorem zf_W_51_2 : z_fw "TwoSeals$Way" 51 2 0 "TwoSeals$Row" zTR 2 "TwoSeals$Row" := ⟨rfl, by decide, zuR, z_in1 (i := 36) rfl (by decide +kernel), Or.inl rfl⟩
theorem zf_W_56_2 : z_fw "TwoSeals$Way" 56 2 1 "TwoSeals$Row" zTR 2 "TwoSeals$Row" := ⟨rfl, by decide, zuR, z_in1 (i := 41) rfl (by decide +kernel), Or.inl rfl⟩
theorem zc_W_60 : z_cwV "TwoSeals$Way" 60 mH_add 2 := ⟨wcmH_add, wn_H, wl_W_60, wi_H_add, wv_H_H_add, by decide, by decide, by decide +kernel⟩
theorem zc_W_64 : z_cwV "TwoSeals$Way" 64 mH_addLengths 2 := ⟨wcmH_addLengths, wn_H, wl_W_64, wi_H_addLengths, wv_H_H_addLengths, by decide, by decide, by decide +kernel⟩
theorem zc_W_68 : z_cwV "TwoSeals$Way" 68 mH_write 1 := ⟨wcmH_write, wn_H, wl_W_68, wi_H_write, wv_H_H_write, by decide, by decide, by decide +kernel⟩
theorem zy_W_71 : z_cpw "TwoSeals$Way" 71 := ⟨wl_W_71, wt_arraycopy, ws_arraycopy, wn_java_lang_System⟩
theorem zp_W_56_2 : z_pw "TwoSeals$Way" 56 2 1 "TwoSeals$Row" zTR 2 "TwoSeals$Row" ztR .int := ⟨zf_W_56_2, ztR_ok, znR, rfl, by decide +kernel⟩
theorem zf_O_9_3 : z_fw "TwoSeals$WayOne" 9 3 7 "TwoSeals$WayOne" zTO 8 "TwoSeals$WayOne" := ⟨rfl, by decide, zuO, z_in1 (i := 187) rfl (by decide +kernel), Or.inl rfl⟩
theorem zf_O_15_3 : z_fw "TwoSeals$WayOne" 15 3 0 "TwoSeals$WayOne" zTO 8 "TwoSeals$WayOne" := ⟨rfl, by decide, zuO, z_in1 (i := 132) rfl (by decide +kernel), Or.inr wq_O_W_cipher⟩
theorem zf_O_19_2 : z_fw "TwoSeals$WayOne" 19 2 0 "TwoSeals$Row" zTR 2 "TwoSeals$Row" := ⟨rfl, by decide, zuR, z_in1 (i := 33) rfl (by decide +kernel), Or.inl rfl⟩
theorem zc_O_24 : z_cwV "TwoSeals$WayOne" 24 mC_useKey 1 := ⟨wcmC_useKey, wn_C, wl_O_24, wi_C_useKey, wv_C_C_useKey, by decide, by decide, by decide +kernel⟩
theorem zf_O_30_3 : z_fw "TwoSeals$WayOne" 30 3 2 "TwoSeals$WayOne" zTO 8 "TwoSeals$WayOne" := ⟨rfl, by decide, zuO, z_in1 (i := 140) rfl (by decide +kernel), Or.inr wq_O_W_hashKey⟩
theorem zc_O_33 : z_cwV "TwoSeals$WayOne" 33 mO_derive 4 := ⟨wcmO_derive, wn_O, wl_O_33, wi_O_derive, wv_O_O_derive, by decide, by decide, by decide +kernel⟩
theorem zf_O_37_3 : z_fw "TwoSeals$WayOne" 37 3 4 "TwoSeals$WayOne" zTO 8 "TwoSeals$WayOne" := ⟨rfl, by decide, zuO, z_in1 (i := 150) rfl (by decide +kernel), Or.inr wq_O_W_counted⟩
theorem zy_O_40 : z_cpw "TwoSeals$WayOne" 40 := ⟨wl_O_40, wt_arraycopy, ws_arraycopy, wn_java_lang_System⟩
theorem zf_O_46_3 : z_fw "TwoSeals$WayOne" 46 3 5 "TwoSeals$WayOne" zTO 8 "TwoSeals$WayOne" := ⟨rfl, by decide, zuO, z_in1 (i := 155) rfl (by decide +kernel), Or.inr wq_O_W_enciphered⟩
theorem zc_O_49 : z_cwV "TwoSeals$WayOne" 49 mC_encipher 2 := ⟨wcmC_encipher, wn_C, wl_O_49, wi_C_encipher, wv_C_C_encipher, by decide, by decide, by decide +kernel⟩
theorem zf_O_53_2 : z_fw "TwoSeals$WayOne" 53 2 1 "TwoSeals$Row" zTR 2 "TwoSeals$Row" := ⟨rfl, by decide, zuR, z_in1 (i := 40) rfl (by decide +kernel), Or.inl rfl⟩
theorem zc_O_57 : z_cwV "TwoSeals$WayOne" 57 mO_makeDue 3 := ⟨wcmO_makeDue, wn_O, wl_O_57, wi_O_makeDue, wv_O_O_makeDue, by decide, by decide, by decide +kernel⟩
theorem zf_O_61_3 : z_fw "TwoSeals$WayOne" 61 3 6 "TwoSeals$WayOne" zTO 8 "TwoSeals$WayOne" := ⟨rfl, by decide, zuO, z_in1 (i := 160) rfl (by decide +kernel), Or.inr wq_O_W_due⟩
theorem zf_O_64_3 : z_fw "TwoSeals$WayOne" 64 3 3 "TwoSeals$WayOne" zTO 8 "TwoSeals$WayOne" := ⟨rfl, by decide, zuO, z_in1 (i := 147) rfl (by decide +kernel), Or.inr wq_O_W_start⟩
theorem zp_O_53_2 : z_pw "TwoSeals$WayOne" 53 2 1 "TwoSeals$Row" zTR 2 "TwoSeals$Row" ztR .int := ⟨zf_O_53_2, ztR_ok, znR, rfl, by decide +kernel⟩
theorem zf_Z_9_4 : z_fw "TwoSeals$WayZero" 9 4 7 "TwoSeals$WayZero" zTZ 8 "TwoSeals$WayZero" := ⟨rfl, by decide, zuZ, z_in1 (i := 130) rfl (by decide +kernel), Or.inl rfl⟩
theorem zf_Z_15_4 : z_fw "TwoSeals$WayZero" 15 4 0 "TwoSeals$WayZero" zTZ 8 "TwoSeals$WayZero" := ⟨rfl, by decide, zuZ, z_in1 (i := 134) rfl (by decide +kernel), Or.inr wq_Z_W_cipher⟩
theorem zf_Z_19_2 : z_fw "TwoSeals$WayZero" 19 2 0 "TwoSeals$Row" zTR 2 "TwoSeals$Row" := ⟨rfl, by decide, zuR, z_in1 (i := 34) rfl (by decide +kernel), Or.inl rfl⟩
theorem zc_Z_24 : z_cwV "TwoSeals$WayZero" 24 mC_useKey 1 := ⟨wcmC_useKey, wn_C, wl_Z_24, wi_C_useKey, wv_C_C_useKey, by decide, by decide, by decide +kernel⟩
theorem zf_Z_30_4 : z_fw "TwoSeals$WayZero" 30 4 2 "TwoSeals$WayZero" zTZ 8 "TwoSeals$WayZero" := ⟨rfl, by decide, zuZ, z_in1 (i := 142) rfl (by decide +kernel), Or.inr wq_Z_W_hashKey⟩
theorem zc_Z_33 : z_cwV "TwoSeals$WayZero" 33 mC_encipher 2 := ⟨wcmC_encipher, wn_C, wl_Z_33, wi_C_encipher, wv_C_C_encipher, by decide, by decide, by decide +kernel⟩
theorem zf_Z_37_2 : z_fw "TwoSeals$WayZero" 37 2 1 "TwoSeals$Row" zTR 2 "TwoSeals$Row" := ⟨rfl, by decide, zuR, z_in1 (i := 39) rfl (by decide +kernel), Or.inl rfl⟩
theorem zf_Z_41_4 : z_fw "TwoSeals$WayZero" 41 4 3 "TwoSeals$WayZero" zTZ 8 "TwoSeals$WayZero" := ⟨rfl, by decide, zuZ, z_in1 (i := 145) rfl (by decide +kernel), Or.inr wq_Z_W_start⟩
theorem zy_Z_44 : z_cpw "TwoSeals$WayZero" 44 := ⟨wl_Z_44, wt_arraycopy, ws_arraycopy, wn_java_lang_System⟩
theorem zf_Z_50_4 : z_fw "TwoSeals$WayZero" 50 4 1 "TwoSeals$WayZero" zTZ 8 "TwoSeals$WayZero" := ⟨rfl, by decide, zuZ, z_in1 (i := 137) rfl (by decide +kernel), Or.inr wq_Z_W_hasher⟩
theorem zc_Z_54 : z_cwV "TwoSeals$WayZero" 54 mH_begin 1 := ⟨wcmH_begin, wn_H, wl_Z_54, wi_H_begin, wv_H_H_begin, by decide, by decide, by decide +kernel⟩
theorem zc_Z_59 : z_cwV "TwoSeals$WayZero" 59 mH_add 2 := ⟨wcmH_add, wn_H, wl_Z_59, wi_H_add, wv_H_H_add, by decide, by decide, by decide +kernel⟩
theorem zc_Z_63 : z_cwV "TwoSeals$WayZero" 63 mH_addLengths 2 := ⟨wcmH_addLengths, wn_H, wl_Z_63, wi_H_addLengths, wv_H_H_addLengths, by decide, by decide, by decide +kernel⟩
theorem zc_Z_67 : z_cwV "TwoSeals$WayZero" 67 mH_write 1 := ⟨wcmH_write, wn_H, wl_Z_67, wi_H_write, wv_H_H_write, by decide, by decide, by decide +kernel⟩
theorem zc_Z_74 : z_cwV "TwoSeals$WayZero" 74 mZ_makeDue 3 := ⟨wcmZ_makeDue, wn_Z, wl_Z_74, wi_Z_makeDue, wv_Z_Z_makeDue, by decide, by decide, by decide +kernel⟩
theorem zp_Z_37_2 : z_pw "TwoSeals$WayZero" 37 2 1 "TwoSeals$Row" zTR 2 "TwoSeals$Row" ztR .int := ⟨zf_Z_37_2, ztR_ok, znR, rfl, by decide +kernel⟩
theorem zf_Z_89_4 : z_fw "TwoSeals$WayZero" 89 4 5 "TwoSeals$WayZero" zTZ 8 "TwoSeals$WayZero" := ⟨rfl, by decide, zuZ, z_in1 (i := 157) rfl (by decide +kernel), Or.inr wq_Z_W_enciphered⟩
theorem zf_Z_92_4 : z_fw "TwoSeals$WayZero" 92 4 6 "TwoSeals$WayZero" zTZ 8 "TwoSeals$WayZero" := ⟨rfl, by decide, zuZ, z_in1 (i := 162) rfl (by decide +kernel), Or.inr wq_Z_W_due⟩
theorem zf_Z_95_4 : z_fw "TwoSeals$WayZero" 95 4 4 "TwoSeals$WayZero" zTZ 8 "TwoSeals$WayZero" := ⟨rfl, by decide, zuZ, z_in1 (i := 152) rfl (by decide +kernel), Or.inr wq_Z_W_counted⟩
end
section
theorem dS_init_0 : decode mS_init.2.1 0 = .ok (.aload_n 0, 1) := by decide +kernel
theorem dS_init_1 : decode mS_init.2.1 1 = .ok (.invokespecial 1, 3) := by decide +kernel
theorem dS_init_4 : decode mS_init.2.1 4 = .ok (.aload_n 0, 1) := by decide +kernel
theorem dS_init_5 : decode mS_init.2.1 5 = .ok (.iconst 4, 1) := by decide +kernel
theorem dS_init_6 : decode mS_init.2.1 6 = .ok (.anewarray 9, 3) := by decide +kernel
theorem dS_init_9 : decode mS_init.2.1 9 = .ok (.putfield 11, 3) := by decide +kernel
theorem dS_init_12 : decode mS_init.2.1 12 = .ok (.aload_n 0, 1) := by decide +kernel
theorem dS_init_13 : decode mS_init.2.1 13 = .ok (.getfield 11, 3) := by decide +kernel
theorem dS_init_16 : decode mS_init.2.1 16 = .ok (.iconst 0, 1) := by decide +kernel
theorem dS_init_17 : decode mS_init.2.1 17 = .ok (.new 9, 3) := by decide +kernel
theorem dS_init_20 : decode mS_init.2.1 20 = .ok (.dup, 1) := by decide +kernel
theorem dS_init_21 : decode mS_init.2.1 21 = .ok (.bipush 16, 2) := by decide +kernel
theorem dS_init_23 : decode mS_init.2.1 23 = .ok (.invokespecial 15, 3) := by decide +kernel
theorem dS_init_26 : decode mS_init.2.1 26 = .ok (.aastore, 1) := by decide +kernel
theorem dS_init_27 : decode mS_init.2.1 27 = .ok (.aload_n 0, 1) := by decide +kernel
theorem dS_init_28 : decode mS_init.2.1 28 = .ok (.getfield 11, 3) := by decide +kernel
theorem dS_init_31 : decode mS_init.2.1 31 = .ok (.iconst 1, 1) := by decide +kernel
theorem dS_init_32 : decode mS_init.2.1 32 = .ok (.new 9, 3) := by decide +kernel
theorem dS_init_35 : decode mS_init.2.1 35 = .ok (.dup, 1) := by decide +kernel
theorem dS_init_36 : decode mS_init.2.1 36 = .ok (.bipush 24, 2) := by decide +kernel
theorem dS_init_38 : decode mS_init.2.1 38 = .ok (.invokespecial 15, 3) := by decide +kernel
theorem dS_init_41 : decode mS_init.2.1 41 = .ok (.aastore, 1) := by decide +kernel
theorem dS_init_42 : decode mS_init.2.1 42 = .ok (.aload_n 0, 1) := by decide +kernel
theorem dS_init_43 : decode mS_init.2.1 43 = .ok (.getfield 11, 3) := by decide +kernel
theorem dS_init_46 : decode mS_init.2.1 46 = .ok (.iconst 2, 1) := by decide +kernel
theorem dS_init_47 : decode mS_init.2.1 47 = .ok (.new 9, 3) := by decide +kernel
theorem dS_init_50 : decode mS_init.2.1 50 = .ok (.dup, 1) := by decide +kernel
theorem dS_init_51 : decode mS_init.2.1 51 = .ok (.bipush 32, 2) := by decide +kernel
theorem dS_init_53 : decode mS_init.2.1 53 = .ok (.invokespecial 15, 3) := by decide +kernel
theorem dS_init_56 : decode mS_init.2.1 56 = .ok (.aastore, 1) := by decide +kernel
theorem dS_init_57 : decode mS_init.2.1 57 = .ok (.aload_n 0, 1) := by decide +kernel
theorem dS_init_58 : decode mS_init.2.1 58 = .ok (.getfield 11, 3) := by decide +kernel
theorem dS_init_61 : decode mS_init.2.1 61 = .ok (.iconst 3, 1) := by decide +kernel
theorem dS_init_62 : decode mS_init.2.1 62 = .ok (.new 9, 3) := by decide +kernel
theorem dS_init_65 : decode mS_init.2.1 65 = .ok (.dup, 1) := by decide +kernel
theorem dS_init_66 : decode mS_init.2.1 66 = .ok (.bipush 64, 2) := by decide +kernel
theorem dS_init_68 : decode mS_init.2.1 68 = .ok (.invokespecial 15, 3) := by decide +kernel
theorem dS_init_71 : decode mS_init.2.1 71 = .ok (.aastore, 1) := by decide +kernel
theorem dS_init_72 : decode mS_init.2.1 72 = .ok (.aload_n 0, 1) := by decide +kernel
theorem dS_init_73 : decode mS_init.2.1 73 = .ok (.new 9, 3) := by decide +kernel
theorem dS_init_76 : decode mS_init.2.1 76 = .ok (.dup, 1) := by decide +kernel
theorem dS_init_77 : decode mS_init.2.1 77 = .ok (.bipush 64, 2) := by decide +kernel
theorem dS_init_79 : decode mS_init.2.1 79 = .ok (.invokespecial 15, 3) := by decide +kernel
theorem dS_init_82 : decode mS_init.2.1 82 = .ok (.putfield 18, 3) := by decide +kernel
theorem dS_init_85 : decode mS_init.2.1 85 = .ok (.aload_n 0, 1) := by decide +kernel
theorem dS_init_86 : decode mS_init.2.1 86 = .ok (.new 9, 3) := by decide +kernel
theorem dS_init_89 : decode mS_init.2.1 89 = .ok (.dup, 1) := by decide +kernel
theorem dS_init_90 : decode mS_init.2.1 90 = .ok (.bipush 64, 2) := by decide +kernel
theorem dS_init_92 : decode mS_init.2.1 92 = .ok (.invokespecial 15, 3) := by decide +kernel
theorem dS_init_95 : decode mS_init.2.1 95 = .ok (.putfield 22, 3) := by decide +kernel
theorem dS_init_98 : decode mS_init.2.1 98 = .ok (.aload_n 0, 1) := by decide +kernel
theorem dS_init_99 : decode mS_init.2.1 99 = .ok (.new 25, 3) := by decide +kernel
theorem dS_init_102 : decode mS_init.2.1 102 = .ok (.dup, 1) := by decide +kernel
theorem dS_init_103 : decode mS_init.2.1 103 = .ok (.invokespecial 27, 3) := by decide +kernel
theorem dS_init_106 : decode mS_init.2.1 106 = .ok (.putfield 28, 3) := by decide +kernel
theorem dS_init_109 : decode mS_init.2.1 109 = .ok (.aload_n 0, 1) := by decide +kernel
theorem dS_init_110 : decode mS_init.2.1 110 = .ok (.iconst 2, 1) := by decide +kernel
theorem dS_init_111 : decode mS_init.2.1 111 = .ok (.anewarray 32, 3) := by decide +kernel
theorem dS_init_114 : decode mS_init.2.1 114 = .ok (.putfield 34, 3) := by decide +kernel
theorem dS_init_117 : decode mS_init.2.1 117 = .ok (.aload_n 0, 1) := by decide +kernel
theorem dS_init_118 : decode mS_init.2.1 118 = .ok (.getfield 34, 3) := by decide +kernel
theorem dS_init_121 : decode mS_init.2.1 121 = .ok (.iconst 0, 1) := by decide +kernel
theorem dS_init_122 : decode mS_init.2.1 122 = .ok (.new 32, 3) := by decide +kernel
theorem dS_init_125 : decode mS_init.2.1 125 = .ok (.dup, 1) := by decide +kernel
theorem dS_init_126 : decode mS_init.2.1 126 = .ok (.iconst 1, 1) := by decide +kernel
theorem dS_init_127 : decode mS_init.2.1 127 = .ok (.invokespecial 38, 3) := by decide +kernel
theorem dS_init_130 : decode mS_init.2.1 130 = .ok (.aastore, 1) := by decide +kernel
theorem dS_init_131 : decode mS_init.2.1 131 = .ok (.aload_n 0, 1) := by decide +kernel
theorem dS_init_132 : decode mS_init.2.1 132 = .ok (.getfield 34, 3) := by decide +kernel
theorem dS_init_135 : decode mS_init.2.1 135 = .ok (.iconst 1, 1) := by decide +kernel
theorem dS_init_136 : decode mS_init.2.1 136 = .ok (.new 32, 3) := by decide +kernel
theorem dS_init_139 : decode mS_init.2.1 139 = .ok (.dup, 1) := by decide +kernel
theorem dS_init_140 : decode mS_init.2.1 140 = .ok (.iconst 0, 1) := by decide +kernel
theorem dS_init_141 : decode mS_init.2.1 141 = .ok (.invokespecial 38, 3) := by decide +kernel
theorem dS_init_144 : decode mS_init.2.1 144 = .ok (.aastore, 1) := by decide +kernel
theorem dS_init_145 : decode mS_init.2.1 145 = .ok (.aload_n 0, 1) := by decide +kernel
theorem dS_init_146 : decode mS_init.2.1 146 = .ok (.iconst 2, 1) := by decide +kernel
theorem dS_init_147 : decode mS_init.2.1 147 = .ok (.anewarray 41, 3) := by decide +kernel
theorem dS_init_150 : decode mS_init.2.1 150 = .ok (.putfield 43, 3) := by decide +kernel
theorem dS_init_153 : decode mS_init.2.1 153 = .ok (.aload_n 0, 1) := by decide +kernel
theorem dS_init_154 : decode mS_init.2.1 154 = .ok (.getfield 43, 3) := by decide +kernel
theorem dS_init_157 : decode mS_init.2.1 157 = .ok (.iconst 0, 1) := by decide +kernel
theorem dS_init_158 : decode mS_init.2.1 158 = .ok (.new 47, 3) := by decide +kernel
theorem dS_init_161 : decode mS_init.2.1 161 = .ok (.dup, 1) := by decide +kernel
theorem dS_init_162 : decode mS_init.2.1 162 = .ok (.aload_n 0, 1) := by decide +kernel
theorem dS_init_163 : decode mS_init.2.1 163 = .ok (.getfield 28, 3) := by decide +kernel
theorem dS_init_166 : decode mS_init.2.1 166 = .ok (.aload_n 0, 1) := by decide +kernel
theorem dS_init_167 : decode mS_init.2.1 167 = .ok (.getfield 34, 3) := by decide +kernel
theorem dS_init_170 : decode mS_init.2.1 170 = .ok (.iconst 0, 1) := by decide +kernel
theorem dS_init_171 : decode mS_init.2.1 171 = .ok (.aaload, 1) := by decide +kernel
theorem dS_init_172 : decode mS_init.2.1 172 = .ok (.invokespecial 49, 3) := by decide +kernel
theorem dS_init_175 : decode mS_init.2.1 175 = .ok (.aastore, 1) := by decide +kernel
theorem dS_init_176 : decode mS_init.2.1 176 = .ok (.aload_n 0, 1) := by decide +kernel
theorem dS_init_177 : decode mS_init.2.1 177 = .ok (.getfield 43, 3) := by decide +kernel
theorem dS_init_180 : decode mS_init.2.1 180 = .ok (.iconst 1, 1) := by decide +kernel
theorem dS_init_181 : decode mS_init.2.1 181 = .ok (.new 52, 3) := by decide +kernel
theorem dS_init_184 : decode mS_init.2.1 184 = .ok (.dup, 1) := by decide +kernel
theorem dS_init_185 : decode mS_init.2.1 185 = .ok (.aload_n 0, 1) := by decide +kernel
theorem dS_init_186 : decode mS_init.2.1 186 = .ok (.getfield 28, 3) := by decide +kernel
theorem dS_init_189 : decode mS_init.2.1 189 = .ok (.aload_n 0, 1) := by decide +kernel
theorem dS_init_190 : decode mS_init.2.1 190 = .ok (.getfield 34, 3) := by decide +kernel
theorem dS_init_193 : decode mS_init.2.1 193 = .ok (.iconst 1, 1) := by decide +kernel
theorem dS_init_194 : decode mS_init.2.1 194 = .ok (.aaload, 1) := by decide +kernel
theorem dS_init_195 : decode mS_init.2.1 195 = .ok (.invokespecial 54, 3) := by decide +kernel
theorem dS_init_198 : decode mS_init.2.1 198 = .ok (.aastore, 1) := by decide +kernel
theorem dS_init_199 : decode mS_init.2.1 199 = .ok (.return_, 1) := by decide +kernel
theorem dS_type_0 : decode mS_type.2.1 0 = .ok (.iload_n 1, 1) := by decide +kernel
theorem dS_type_1 : decode mS_type.2.1 1 = .ok (.invokestatic 55, 3) := by decide +kernel
theorem dS_type_4 : decode mS_type.2.1 4 = .ok (.iload 4, 2) := by decide +kernel
theorem dS_type_6 : decode mS_type.2.1 6 = .ok (.iconst 1, 1) := by decide +kernel
theorem dS_type_7 : decode mS_type.2.1 7 = .ok (.if_icmp .lt 10, 3) := by decide +kernel
theorem dS_type_10 : decode mS_type.2.1 10 = .ok (.iload 4, 2) := by decide +kernel
theorem dS_type_12 : decode mS_type.2.1 12 = .ok (.bipush 8, 2) := by decide +kernel
theorem dS_type_14 : decode mS_type.2.1 14 = .ok (.if_icmp .le 13, 3) := by decide +kernel
theorem dS_type_17 : decode mS_type.2.1 17 = .ok (.new 58, 3) := by decide +kernel
theorem dS_type_20 : decode mS_type.2.1 20 = .ok (.dup, 1) := by decide +kernel
theorem dS_type_21 : decode mS_type.2.1 21 = .ok (.ldc 60, 2) := by decide +kernel
theorem dS_type_23 : decode mS_type.2.1 23 = .ok (.invokespecial 62, 3) := by decide +kernel
theorem dS_type_26 : decode mS_type.2.1 26 = .ok (.athrow, 1) := by decide +kernel
theorem dS_type_27 : decode mS_type.2.1 27 = .ok (.aload_n 0, 1) := by decide +kernel
theorem dS_type_28 : decode mS_type.2.1 28 = .ok (.getfield 11, 3) := by decide +kernel
theorem dS_type_31 : decode mS_type.2.1 31 = .ok (.iload_n 1, 1) := by decide +kernel
theorem dS_type_32 : decode mS_type.2.1 32 = .ok (.aaload, 1) := by decide +kernel
theorem dS_type_33 : decode mS_type.2.1 33 = .ok (.astore 5, 2) := by decide +kernel
theorem dS_type_35 : decode mS_type.2.1 35 = .ok (.aload 5, 2) := by decide +kernel
theorem dS_type_37 : decode mS_type.2.1 37 = .ok (.aload 5, 2) := by decide +kernel
theorem dS_type_39 : decode mS_type.2.1 39 = .ok (.getfield 65, 3) := by decide +kernel
theorem dS_type_42 : decode mS_type.2.1 42 = .ok (.iload 4, 2) := by decide +kernel
theorem dS_type_44 : decode mS_type.2.1 44 = .ok (.iadd, 1) := by decide +kernel
theorem dS_type_45 : decode mS_type.2.1 45 = .ok (.invokevirtual 69, 3) := by decide +kernel
theorem dS_type_48 : decode mS_type.2.1 48 = .ok (.ifCond .ne 13, 3) := by decide +kernel
theorem dS_type_51 : decode mS_type.2.1 51 = .ok (.new 73, 3) := by decide +kernel
theorem dS_type_54 : decode mS_type.2.1 54 = .ok (.dup, 1) := by decide +kernel
theorem dS_type_55 : decode mS_type.2.1 55 = .ok (.ldc 75, 2) := by decide +kernel
theorem dS_type_57 : decode mS_type.2.1 57 = .ok (.invokespecial 77, 3) := by decide +kernel
theorem dS_type_60 : decode mS_type.2.1 60 = .ok (.athrow, 1) := by decide +kernel
theorem dS_type_61 : decode mS_type.2.1 61 = .ok (.iload 4, 2) := by decide +kernel
theorem dS_type_63 : decode mS_type.2.1 63 = .ok (.iconst 1, 1) := by decide +kernel
theorem dS_type_64 : decode mS_type.2.1 64 = .ok (.isub, 1) := by decide +kernel
theorem dS_type_65 : decode mS_type.2.1 65 = .ok (.istore 6, 2) := by decide +kernel
theorem dS_type_67 : decode mS_type.2.1 67 = .ok (.iload 6, 2) := by decide +kernel
theorem dS_type_69 : decode mS_type.2.1 69 = .ok (.ifCond .lt 26, 3) := by decide +kernel
theorem dS_type_72 : decode mS_type.2.1 72 = .ok (.aload 5, 2) := by decide +kernel
theorem dS_type_74 : decode mS_type.2.1 74 = .ok (.lload_n 2, 1) := by decide +kernel
theorem dS_type_75 : decode mS_type.2.1 75 = .ok (.bipush 8, 2) := by decide +kernel
theorem dS_type_77 : decode mS_type.2.1 77 = .ok (.iload 6, 2) := by decide +kernel
theorem dS_type_79 : decode mS_type.2.1 79 = .ok (.imul, 1) := by decide +kernel
theorem dS_type_80 : decode mS_type.2.1 80 = .ok (.lushr, 1) := by decide +kernel
theorem dS_type_81 : decode mS_type.2.1 81 = .ok (.l2i, 1) := by decide +kernel
theorem dS_type_82 : decode mS_type.2.1 82 = .ok (.sipush 255, 3) := by decide +kernel
theorem dS_type_85 : decode mS_type.2.1 85 = .ok (.iand, 1) := by decide +kernel
theorem dS_type_86 : decode mS_type.2.1 86 = .ok (.invokevirtual 78, 3) := by decide +kernel
theorem dS_type_89 : decode mS_type.2.1 89 = .ok (.iinc 6 (-1), 3) := by decide +kernel
theorem dS_type_92 : decode mS_type.2.1 92 = .ok (.goto (-25), 3) := by decide +kernel
theorem dS_type_95 : decode mS_type.2.1 95 = .ok (.aload 5, 2) := by decide +kernel
theorem dS_type_97 : decode mS_type.2.1 97 = .ok (.getfield 65, 3) := by decide +kernel
theorem dS_type_100 : decode mS_type.2.1 100 = .ok (.ireturn, 1) := by decide +kernel
theorem dS_clear_0 : decode mS_clear.2.1 0 = .ok (.iload_n 1, 1) := by decide +kernel
theorem dS_clear_1 : decode mS_clear.2.1 1 = .ok (.invokestatic 55, 3) := by decide +kernel
theorem dS_clear_4 : decode mS_clear.2.1 4 = .ok (.aload_n 0, 1) := by decide +kernel
theorem dS_clear_5 : decode mS_clear.2.1 5 = .ok (.getfield 11, 3) := by decide +kernel
theorem dS_clear_8 : decode mS_clear.2.1 8 = .ok (.iload_n 1, 1) := by decide +kernel
theorem dS_clear_9 : decode mS_clear.2.1 9 = .ok (.aaload, 1) := by decide +kernel
theorem dS_clear_10 : decode mS_clear.2.1 10 = .ok (.getfield 65, 3) := by decide +kernel
theorem dS_clear_13 : decode mS_clear.2.1 13 = .ok (.istore_n 2, 1) := by decide +kernel
theorem dS_clear_14 : decode mS_clear.2.1 14 = .ok (.aload_n 0, 1) := by decide +kernel
theorem dS_clear_15 : decode mS_clear.2.1 15 = .ok (.getfield 11, 3) := by decide +kernel
theorem dS_clear_18 : decode mS_clear.2.1 18 = .ok (.iload_n 1, 1) := by decide +kernel
theorem dS_clear_19 : decode mS_clear.2.1 19 = .ok (.aaload, 1) := by decide +kernel
theorem dS_clear_20 : decode mS_clear.2.1 20 = .ok (.iconst 0, 1) := by decide +kernel
theorem dS_clear_21 : decode mS_clear.2.1 21 = .ok (.putfield 65, 3) := by decide +kernel
theorem dS_clear_24 : decode mS_clear.2.1 24 = .ok (.iload_n 2, 1) := by decide +kernel
theorem dS_clear_25 : decode mS_clear.2.1 25 = .ok (.ireturn, 1) := by decide +kernel
theorem dS_poke_0 : decode mS_poke.2.1 0 = .ok (.iload_n 1, 1) := by decide +kernel
theorem dS_poke_1 : decode mS_poke.2.1 1 = .ok (.invokestatic 55, 3) := by decide +kernel
theorem dS_poke_4 : decode mS_poke.2.1 4 = .ok (.iload_n 3, 1) := by decide +kernel
theorem dS_poke_5 : decode mS_poke.2.1 5 = .ok (.ifCond .lt 10, 3) := by decide +kernel
theorem dS_poke_8 : decode mS_poke.2.1 8 = .ok (.iload_n 3, 1) := by decide +kernel
theorem dS_poke_9 : decode mS_poke.2.1 9 = .ok (.sipush 255, 3) := by decide +kernel
theorem dS_poke_12 : decode mS_poke.2.1 12 = .ok (.if_icmp .le 13, 3) := by decide +kernel
theorem dS_poke_15 : decode mS_poke.2.1 15 = .ok (.new 58, 3) := by decide +kernel
theorem dS_poke_18 : decode mS_poke.2.1 18 = .ok (.dup, 1) := by decide +kernel
theorem dS_poke_19 : decode mS_poke.2.1 19 = .ok (.ldc 81, 2) := by decide +kernel
theorem dS_poke_21 : decode mS_poke.2.1 21 = .ok (.invokespecial 62, 3) := by decide +kernel
theorem dS_poke_24 : decode mS_poke.2.1 24 = .ok (.athrow, 1) := by decide +kernel
theorem dS_poke_25 : decode mS_poke.2.1 25 = .ok (.aload_n 0, 1) := by decide +kernel
theorem dS_poke_26 : decode mS_poke.2.1 26 = .ok (.getfield 11, 3) := by decide +kernel
theorem dS_poke_29 : decode mS_poke.2.1 29 = .ok (.iload_n 1, 1) := by decide +kernel
theorem dS_poke_30 : decode mS_poke.2.1 30 = .ok (.aaload, 1) := by decide +kernel
theorem dS_poke_31 : decode mS_poke.2.1 31 = .ok (.iload_n 2, 1) := by decide +kernel
theorem dS_poke_32 : decode mS_poke.2.1 32 = .ok (.invokevirtual 83, 3) := by decide +kernel
theorem dS_poke_35 : decode mS_poke.2.1 35 = .ok (.ifCond .ne 13, 3) := by decide +kernel
theorem dS_poke_38 : decode mS_poke.2.1 38 = .ok (.new 86, 3) := by decide +kernel
theorem dS_poke_41 : decode mS_poke.2.1 41 = .ok (.dup, 1) := by decide +kernel
theorem dS_poke_42 : decode mS_poke.2.1 42 = .ok (.ldc 88, 2) := by decide +kernel
theorem dS_poke_44 : decode mS_poke.2.1 44 = .ok (.invokespecial 90, 3) := by decide +kernel
theorem dS_poke_47 : decode mS_poke.2.1 47 = .ok (.athrow, 1) := by decide +kernel
theorem dS_poke_48 : decode mS_poke.2.1 48 = .ok (.aload_n 0, 1) := by decide +kernel
theorem dS_poke_49 : decode mS_poke.2.1 49 = .ok (.getfield 11, 3) := by decide +kernel
theorem dS_poke_52 : decode mS_poke.2.1 52 = .ok (.iload_n 1, 1) := by decide +kernel
theorem dS_poke_53 : decode mS_poke.2.1 53 = .ok (.aaload, 1) := by decide +kernel
theorem dS_poke_54 : decode mS_poke.2.1 54 = .ok (.getfield 91, 3) := by decide +kernel
theorem dS_poke_57 : decode mS_poke.2.1 57 = .ok (.iload_n 2, 1) := by decide +kernel
theorem dS_poke_58 : decode mS_poke.2.1 58 = .ok (.iload_n 3, 1) := by decide +kernel
theorem dS_poke_59 : decode mS_poke.2.1 59 = .ok (.iastore, 1) := by decide +kernel
theorem dS_poke_60 : decode mS_poke.2.1 60 = .ok (.return_, 1) := by decide +kernel
theorem dS_take_0 : decode mS_take.2.1 0 = .ok (.iload_n 1, 1) := by decide +kernel
theorem dS_take_1 : decode mS_take.2.1 1 = .ok (.invokestatic 55, 3) := by decide +kernel
theorem dS_take_4 : decode mS_take.2.1 4 = .ok (.aload_n 0, 1) := by decide +kernel
theorem dS_take_5 : decode mS_take.2.1 5 = .ok (.getfield 11, 3) := by decide +kernel
theorem dS_take_8 : decode mS_take.2.1 8 = .ok (.iload_n 1, 1) := by decide +kernel
theorem dS_take_9 : decode mS_take.2.1 9 = .ok (.aaload, 1) := by decide +kernel
theorem dS_take_10 : decode mS_take.2.1 10 = .ok (.aload_n 0, 1) := by decide +kernel
theorem dS_take_11 : decode mS_take.2.1 11 = .ok (.getfield 18, 3) := by decide +kernel
theorem dS_take_14 : decode mS_take.2.1 14 = .ok (.getfield 65, 3) := by decide +kernel
theorem dS_take_17 : decode mS_take.2.1 17 = .ok (.invokevirtual 69, 3) := by decide +kernel
theorem dS_take_20 : decode mS_take.2.1 20 = .ok (.ifCond .ne 13, 3) := by decide +kernel
theorem dS_take_23 : decode mS_take.2.1 23 = .ok (.new 73, 3) := by decide +kernel
theorem dS_take_26 : decode mS_take.2.1 26 = .ok (.dup, 1) := by decide +kernel
theorem dS_take_27 : decode mS_take.2.1 27 = .ok (.ldc 95, 2) := by decide +kernel
theorem dS_take_29 : decode mS_take.2.1 29 = .ok (.invokespecial 77, 3) := by decide +kernel
theorem dS_take_32 : decode mS_take.2.1 32 = .ok (.athrow, 1) := by decide +kernel
theorem dS_take_33 : decode mS_take.2.1 33 = .ok (.aload_n 0, 1) := by decide +kernel
theorem dS_take_34 : decode mS_take.2.1 34 = .ok (.getfield 11, 3) := by decide +kernel
theorem dS_take_37 : decode mS_take.2.1 37 = .ok (.iload_n 1, 1) := by decide +kernel
theorem dS_take_38 : decode mS_take.2.1 38 = .ok (.aaload, 1) := by decide +kernel
theorem dS_take_39 : decode mS_take.2.1 39 = .ok (.aload_n 0, 1) := by decide +kernel
theorem dS_take_40 : decode mS_take.2.1 40 = .ok (.getfield 18, 3) := by decide +kernel
theorem dS_take_43 : decode mS_take.2.1 43 = .ok (.invokevirtual 97, 3) := by decide +kernel
theorem dS_take_46 : decode mS_take.2.1 46 = .ok (.aload_n 0, 1) := by decide +kernel
theorem dS_take_47 : decode mS_take.2.1 47 = .ok (.getfield 18, 3) := by decide +kernel
theorem dS_take_50 : decode mS_take.2.1 50 = .ok (.getfield 65, 3) := by decide +kernel
theorem dS_take_53 : decode mS_take.2.1 53 = .ok (.ireturn, 1) := by decide +kernel
theorem dS_block_0 : decode mS_block.2.1 0 = .ok (.aload_n 0, 1) := by decide +kernel
theorem dS_block_1 : decode mS_block.2.1 1 = .ok (.getfield 11, 3) := by decide +kernel
theorem dS_block_4 : decode mS_block.2.1 4 = .ok (.iconst 0, 1) := by decide +kernel
theorem dS_block_5 : decode mS_block.2.1 5 = .ok (.aaload, 1) := by decide +kernel
theorem dS_block_6 : decode mS_block.2.1 6 = .ok (.getfield 65, 3) := by decide +kernel
theorem dS_block_9 : decode mS_block.2.1 9 = .ok (.bipush 16, 2) := by decide +kernel
theorem dS_block_11 : decode mS_block.2.1 11 = .ok (.if_icmp .ne 17, 3) := by decide +kernel
theorem dS_block_14 : decode mS_block.2.1 14 = .ok (.aload_n 0, 1) := by decide +kernel
theorem dS_block_15 : decode mS_block.2.1 15 = .ok (.getfield 11, 3) := by decide +kernel
theorem dS_block_18 : decode mS_block.2.1 18 = .ok (.iconst 3, 1) := by decide +kernel
theorem dS_block_19 : decode mS_block.2.1 19 = .ok (.aaload, 1) := by decide +kernel
theorem dS_block_20 : decode mS_block.2.1 20 = .ok (.getfield 65, 3) := by decide +kernel
theorem dS_block_23 : decode mS_block.2.1 23 = .ok (.bipush 16, 2) := by decide +kernel
theorem dS_block_25 : decode mS_block.2.1 25 = .ok (.if_icmp .eq 13, 3) := by decide +kernel
theorem dS_block_28 : decode mS_block.2.1 28 = .ok (.new 73, 3) := by decide +kernel
theorem dS_block_31 : decode mS_block.2.1 31 = .ok (.dup, 1) := by decide +kernel
theorem dS_block_32 : decode mS_block.2.1 32 = .ok (.ldc 101, 2) := by decide +kernel
theorem dS_block_34 : decode mS_block.2.1 34 = .ok (.invokespecial 77, 3) := by decide +kernel
theorem dS_block_37 : decode mS_block.2.1 37 = .ok (.athrow, 1) := by decide +kernel
theorem dS_block_38 : decode mS_block.2.1 38 = .ok (.aload_n 0, 1) := by decide +kernel
theorem dS_block_39 : decode mS_block.2.1 39 = .ok (.getfield 28, 3) := by decide +kernel
theorem dS_block_42 : decode mS_block.2.1 42 = .ok (.aload_n 0, 1) := by decide +kernel
theorem dS_block_43 : decode mS_block.2.1 43 = .ok (.getfield 11, 3) := by decide +kernel
theorem dS_block_46 : decode mS_block.2.1 46 = .ok (.iconst 0, 1) := by decide +kernel
theorem dS_block_47 : decode mS_block.2.1 47 = .ok (.aaload, 1) := by decide +kernel
theorem dS_block_48 : decode mS_block.2.1 48 = .ok (.getfield 91, 3) := by decide +kernel
theorem dS_block_51 : decode mS_block.2.1 51 = .ok (.invokevirtual 103, 3) := by decide +kernel
theorem dS_block_54 : decode mS_block.2.1 54 = .ok (.aload_n 0, 1) := by decide +kernel
theorem dS_block_55 : decode mS_block.2.1 55 = .ok (.getfield 28, 3) := by decide +kernel
theorem dS_block_58 : decode mS_block.2.1 58 = .ok (.aload_n 0, 1) := by decide +kernel
theorem dS_block_59 : decode mS_block.2.1 59 = .ok (.getfield 11, 3) := by decide +kernel
theorem dS_block_62 : decode mS_block.2.1 62 = .ok (.iconst 3, 1) := by decide +kernel
theorem dS_block_63 : decode mS_block.2.1 63 = .ok (.aaload, 1) := by decide +kernel
theorem dS_block_64 : decode mS_block.2.1 64 = .ok (.getfield 91, 3) := by decide +kernel
theorem dS_block_67 : decode mS_block.2.1 67 = .ok (.aload_n 0, 1) := by decide +kernel
theorem dS_block_68 : decode mS_block.2.1 68 = .ok (.getfield 18, 3) := by decide +kernel
theorem dS_block_71 : decode mS_block.2.1 71 = .ok (.getfield 91, 3) := by decide +kernel
theorem dS_block_74 : decode mS_block.2.1 74 = .ok (.invokevirtual 107, 3) := by decide +kernel
theorem dS_block_77 : decode mS_block.2.1 77 = .ok (.aload_n 0, 1) := by decide +kernel
theorem dS_block_78 : decode mS_block.2.1 78 = .ok (.getfield 18, 3) := by decide +kernel
theorem dS_block_81 : decode mS_block.2.1 81 = .ok (.bipush 16, 2) := by decide +kernel
theorem dS_block_83 : decode mS_block.2.1 83 = .ok (.putfield 65, 3) := by decide +kernel
theorem dS_block_86 : decode mS_block.2.1 86 = .ok (.return_, 1) := by decide +kernel
theorem dS_hash_0 : decode mS_hash.2.1 0 = .ok (.iload_n 1, 1) := by decide +kernel
theorem dS_hash_1 : decode mS_hash.2.1 1 = .ok (.invokestatic 111, 3) := by decide +kernel
theorem dS_hash_4 : decode mS_hash.2.1 4 = .ok (.aload_n 0, 1) := by decide +kernel
theorem dS_hash_5 : decode mS_hash.2.1 5 = .ok (.getfield 11, 3) := by decide +kernel
theorem dS_hash_8 : decode mS_hash.2.1 8 = .ok (.iconst 0, 1) := by decide +kernel
theorem dS_hash_9 : decode mS_hash.2.1 9 = .ok (.aaload, 1) := by decide +kernel
theorem dS_hash_10 : decode mS_hash.2.1 10 = .ok (.getfield 65, 3) := by decide +kernel
theorem dS_hash_13 : decode mS_hash.2.1 13 = .ok (.bipush 16, 2) := by decide +kernel
theorem dS_hash_15 : decode mS_hash.2.1 15 = .ok (.if_icmp .eq 13, 3) := by decide +kernel
theorem dS_hash_18 : decode mS_hash.2.1 18 = .ok (.new 73, 3) := by decide +kernel
theorem dS_hash_21 : decode mS_hash.2.1 21 = .ok (.dup, 1) := by decide +kernel
theorem dS_hash_22 : decode mS_hash.2.1 22 = .ok (.ldc 114, 2) := by decide +kernel
theorem dS_hash_24 : decode mS_hash.2.1 24 = .ok (.invokespecial 77, 3) := by decide +kernel
theorem dS_hash_27 : decode mS_hash.2.1 27 = .ok (.athrow, 1) := by decide +kernel
theorem dS_hash_28 : decode mS_hash.2.1 28 = .ok (.aload_n 0, 1) := by decide +kernel
theorem dS_hash_29 : decode mS_hash.2.1 29 = .ok (.getfield 34, 3) := by decide +kernel
theorem dS_hash_32 : decode mS_hash.2.1 32 = .ok (.iload_n 1, 1) := by decide +kernel
theorem dS_hash_33 : decode mS_hash.2.1 33 = .ok (.aaload, 1) := by decide +kernel
theorem dS_hash_34 : decode mS_hash.2.1 34 = .ok (.astore_n 2, 1) := by decide +kernel
theorem dS_hash_35 : decode mS_hash.2.1 35 = .ok (.aload_n 2, 1) := by decide +kernel
theorem dS_hash_36 : decode mS_hash.2.1 36 = .ok (.aload_n 0, 1) := by decide +kernel
theorem dS_hash_37 : decode mS_hash.2.1 37 = .ok (.getfield 11, 3) := by decide +kernel
theorem dS_hash_40 : decode mS_hash.2.1 40 = .ok (.iconst 0, 1) := by decide +kernel
theorem dS_hash_41 : decode mS_hash.2.1 41 = .ok (.aaload, 1) := by decide +kernel
theorem dS_hash_42 : decode mS_hash.2.1 42 = .ok (.getfield 91, 3) := by decide +kernel
theorem dS_hash_45 : decode mS_hash.2.1 45 = .ok (.invokevirtual 116, 3) := by decide +kernel
theorem dS_hash_48 : decode mS_hash.2.1 48 = .ok (.aload_n 2, 1) := by decide +kernel
theorem dS_hash_49 : decode mS_hash.2.1 49 = .ok (.aload_n 0, 1) := by decide +kernel
theorem dS_hash_50 : decode mS_hash.2.1 50 = .ok (.getfield 11, 3) := by decide +kernel
theorem dS_hash_53 : decode mS_hash.2.1 53 = .ok (.iconst 3, 1) := by decide +kernel
theorem dS_hash_54 : decode mS_hash.2.1 54 = .ok (.aaload, 1) := by decide +kernel
theorem dS_hash_55 : decode mS_hash.2.1 55 = .ok (.getfield 91, 3) := by decide +kernel
theorem dS_hash_58 : decode mS_hash.2.1 58 = .ok (.aload_n 0, 1) := by decide +kernel
theorem dS_hash_59 : decode mS_hash.2.1 59 = .ok (.getfield 11, 3) := by decide +kernel
theorem dS_hash_62 : decode mS_hash.2.1 62 = .ok (.iconst 3, 1) := by decide +kernel
theorem dS_hash_63 : decode mS_hash.2.1 63 = .ok (.aaload, 1) := by decide +kernel
theorem dS_hash_64 : decode mS_hash.2.1 64 = .ok (.getfield 65, 3) := by decide +kernel
theorem dS_hash_67 : decode mS_hash.2.1 67 = .ok (.invokevirtual 119, 3) := by decide +kernel
theorem dS_hash_70 : decode mS_hash.2.1 70 = .ok (.aload_n 2, 1) := by decide +kernel
theorem dS_hash_71 : decode mS_hash.2.1 71 = .ok (.aload_n 0, 1) := by decide +kernel
theorem dS_hash_72 : decode mS_hash.2.1 72 = .ok (.getfield 18, 3) := by decide +kernel
theorem dS_hash_75 : decode mS_hash.2.1 75 = .ok (.getfield 91, 3) := by decide +kernel
theorem dS_hash_78 : decode mS_hash.2.1 78 = .ok (.invokevirtual 123, 3) := by decide +kernel
theorem dS_hash_81 : decode mS_hash.2.1 81 = .ok (.aload_n 0, 1) := by decide +kernel
theorem dS_hash_82 : decode mS_hash.2.1 82 = .ok (.getfield 18, 3) := by decide +kernel
theorem dS_hash_85 : decode mS_hash.2.1 85 = .ok (.bipush 16, 2) := by decide +kernel
theorem dS_hash_87 : decode mS_hash.2.1 87 = .ok (.putfield 65, 3) := by decide +kernel
theorem dS_hash_90 : decode mS_hash.2.1 90 = .ok (.return_, 1) := by decide +kernel
theorem dS_seal_0 : decode mS_seal.2.1 0 = .ok (.iload_n 1, 1) := by decide +kernel
theorem dS_seal_1 : decode mS_seal.2.1 1 = .ok (.invokestatic 111, 3) := by decide +kernel
theorem dS_seal_4 : decode mS_seal.2.1 4 = .ok (.aload_n 0, 1) := by decide +kernel
theorem dS_seal_5 : decode mS_seal.2.1 5 = .ok (.iload_n 1, 1) := by decide +kernel
theorem dS_seal_6 : decode mS_seal.2.1 6 = .ok (.invokevirtual 126, 3) := by decide +kernel
theorem dS_seal_9 : decode mS_seal.2.1 9 = .ok (.aload_n 0, 1) := by decide +kernel
theorem dS_seal_10 : decode mS_seal.2.1 10 = .ok (.getfield 11, 3) := by decide +kernel
theorem dS_seal_13 : decode mS_seal.2.1 13 = .ok (.iconst 3, 1) := by decide +kernel
theorem dS_seal_14 : decode mS_seal.2.1 14 = .ok (.aaload, 1) := by decide +kernel
theorem dS_seal_15 : decode mS_seal.2.1 15 = .ok (.getfield 65, 3) := by decide +kernel
theorem dS_seal_18 : decode mS_seal.2.1 18 = .ok (.bipush 48, 2) := by decide +kernel
theorem dS_seal_20 : decode mS_seal.2.1 20 = .ok (.if_icmp .le 13, 3) := by decide +kernel
theorem dS_seal_23 : decode mS_seal.2.1 23 = .ok (.new 73, 3) := by decide +kernel
theorem dS_seal_26 : decode mS_seal.2.1 26 = .ok (.dup, 1) := by decide +kernel
theorem dS_seal_27 : decode mS_seal.2.1 27 = .ok (.ldc 129, 2) := by decide +kernel
theorem dS_seal_29 : decode mS_seal.2.1 29 = .ok (.invokespecial 77, 3) := by decide +kernel
theorem dS_seal_32 : decode mS_seal.2.1 32 = .ok (.athrow, 1) := by decide +kernel
theorem dS_seal_33 : decode mS_seal.2.1 33 = .ok (.aload_n 0, 1) := by decide +kernel
theorem dS_seal_34 : decode mS_seal.2.1 34 = .ok (.getfield 43, 3) := by decide +kernel
theorem dS_seal_37 : decode mS_seal.2.1 37 = .ok (.iload_n 1, 1) := by decide +kernel
theorem dS_seal_38 : decode mS_seal.2.1 38 = .ok (.aaload, 1) := by decide +kernel
theorem dS_seal_39 : decode mS_seal.2.1 39 = .ok (.aload_n 0, 1) := by decide +kernel
theorem dS_seal_40 : decode mS_seal.2.1 40 = .ok (.getfield 11, 3) := by decide +kernel
theorem dS_seal_43 : decode mS_seal.2.1 43 = .ok (.iconst 0, 1) := by decide +kernel
theorem dS_seal_44 : decode mS_seal.2.1 44 = .ok (.aaload, 1) := by decide +kernel
theorem dS_seal_45 : decode mS_seal.2.1 45 = .ok (.aload_n 0, 1) := by decide +kernel
theorem dS_seal_46 : decode mS_seal.2.1 46 = .ok (.getfield 11, 3) := by decide +kernel
theorem dS_seal_49 : decode mS_seal.2.1 49 = .ok (.iconst 1, 1) := by decide +kernel
theorem dS_seal_50 : decode mS_seal.2.1 50 = .ok (.aaload, 1) := by decide +kernel
theorem dS_seal_51 : decode mS_seal.2.1 51 = .ok (.invokevirtual 131, 3) := by decide +kernel
theorem dS_seal_54 : decode mS_seal.2.1 54 = .ok (.aload_n 0, 1) := by decide +kernel
theorem dS_seal_55 : decode mS_seal.2.1 55 = .ok (.getfield 43, 3) := by decide +kernel
theorem dS_seal_58 : decode mS_seal.2.1 58 = .ok (.iload_n 1, 1) := by decide +kernel
theorem dS_seal_59 : decode mS_seal.2.1 59 = .ok (.aaload, 1) := by decide +kernel
theorem dS_seal_60 : decode mS_seal.2.1 60 = .ok (.aload_n 0, 1) := by decide +kernel
theorem dS_seal_61 : decode mS_seal.2.1 61 = .ok (.getfield 11, 3) := by decide +kernel
theorem dS_seal_64 : decode mS_seal.2.1 64 = .ok (.aload_n 0, 1) := by decide +kernel
theorem dS_seal_65 : decode mS_seal.2.1 65 = .ok (.getfield 18, 3) := by decide +kernel
theorem dS_seal_68 : decode mS_seal.2.1 68 = .ok (.invokevirtual 134, 3) := by decide +kernel
theorem dS_seal_71 : decode mS_seal.2.1 71 = .ok (.aload_n 0, 1) := by decide +kernel
theorem dS_seal_72 : decode mS_seal.2.1 72 = .ok (.getfield 18, 3) := by decide +kernel
theorem dS_seal_75 : decode mS_seal.2.1 75 = .ok (.getfield 65, 3) := by decide +kernel
theorem dS_seal_78 : decode mS_seal.2.1 78 = .ok (.ireturn, 1) := by decide +kernel
theorem dS_open_0 : decode mS_open.2.1 0 = .ok (.iload_n 1, 1) := by decide +kernel
theorem dS_open_1 : decode mS_open.2.1 1 = .ok (.invokestatic 111, 3) := by decide +kernel
theorem dS_open_4 : decode mS_open.2.1 4 = .ok (.aload_n 0, 1) := by decide +kernel
theorem dS_open_5 : decode mS_open.2.1 5 = .ok (.iload_n 1, 1) := by decide +kernel
theorem dS_open_6 : decode mS_open.2.1 6 = .ok (.invokevirtual 126, 3) := by decide +kernel
theorem dS_open_9 : decode mS_open.2.1 9 = .ok (.aload_n 0, 1) := by decide +kernel
theorem dS_open_10 : decode mS_open.2.1 10 = .ok (.getfield 11, 3) := by decide +kernel
theorem dS_open_13 : decode mS_open.2.1 13 = .ok (.iconst 3, 1) := by decide +kernel
theorem dS_open_14 : decode mS_open.2.1 14 = .ok (.aaload, 1) := by decide +kernel
theorem dS_open_15 : decode mS_open.2.1 15 = .ok (.getfield 65, 3) := by decide +kernel
theorem dS_open_18 : decode mS_open.2.1 18 = .ok (.bipush 16, 2) := by decide +kernel
theorem dS_open_20 : decode mS_open.2.1 20 = .ok (.if_icmp .ge 13, 3) := by decide +kernel
theorem dS_open_23 : decode mS_open.2.1 23 = .ok (.new 73, 3) := by decide +kernel
theorem dS_open_26 : decode mS_open.2.1 26 = .ok (.dup, 1) := by decide +kernel
theorem dS_open_27 : decode mS_open.2.1 27 = .ok (.ldc 138, 2) := by decide +kernel
theorem dS_open_29 : decode mS_open.2.1 29 = .ok (.invokespecial 77, 3) := by decide +kernel
theorem dS_open_32 : decode mS_open.2.1 32 = .ok (.athrow, 1) := by decide +kernel
theorem dS_open_33 : decode mS_open.2.1 33 = .ok (.aload_n 0, 1) := by decide +kernel
theorem dS_open_34 : decode mS_open.2.1 34 = .ok (.getfield 43, 3) := by decide +kernel
theorem dS_open_37 : decode mS_open.2.1 37 = .ok (.iload_n 1, 1) := by decide +kernel
theorem dS_open_38 : decode mS_open.2.1 38 = .ok (.aaload, 1) := by decide +kernel
theorem dS_open_39 : decode mS_open.2.1 39 = .ok (.aload_n 0, 1) := by decide +kernel
theorem dS_open_40 : decode mS_open.2.1 40 = .ok (.getfield 11, 3) := by decide +kernel
theorem dS_open_43 : decode mS_open.2.1 43 = .ok (.iconst 0, 1) := by decide +kernel
theorem dS_open_44 : decode mS_open.2.1 44 = .ok (.aaload, 1) := by decide +kernel
theorem dS_open_45 : decode mS_open.2.1 45 = .ok (.aload_n 0, 1) := by decide +kernel
theorem dS_open_46 : decode mS_open.2.1 46 = .ok (.getfield 11, 3) := by decide +kernel
theorem dS_open_49 : decode mS_open.2.1 49 = .ok (.iconst 1, 1) := by decide +kernel
theorem dS_open_50 : decode mS_open.2.1 50 = .ok (.aaload, 1) := by decide +kernel
theorem dS_open_51 : decode mS_open.2.1 51 = .ok (.invokevirtual 131, 3) := by decide +kernel
theorem dS_open_54 : decode mS_open.2.1 54 = .ok (.aload_n 0, 1) := by decide +kernel
theorem dS_open_55 : decode mS_open.2.1 55 = .ok (.getfield 43, 3) := by decide +kernel
theorem dS_open_58 : decode mS_open.2.1 58 = .ok (.iload_n 1, 1) := by decide +kernel
theorem dS_open_59 : decode mS_open.2.1 59 = .ok (.aaload, 1) := by decide +kernel
theorem dS_open_60 : decode mS_open.2.1 60 = .ok (.aload_n 0, 1) := by decide +kernel
theorem dS_open_61 : decode mS_open.2.1 61 = .ok (.getfield 11, 3) := by decide +kernel
theorem dS_open_64 : decode mS_open.2.1 64 = .ok (.aload_n 0, 1) := by decide +kernel
theorem dS_open_65 : decode mS_open.2.1 65 = .ok (.getfield 22, 3) := by decide +kernel
theorem dS_open_68 : decode mS_open.2.1 68 = .ok (.invokevirtual 140, 3) := by decide +kernel
theorem dS_open_71 : decode mS_open.2.1 71 = .ok (.ifCond .ne 13, 3) := by decide +kernel
theorem dS_open_74 : decode mS_open.2.1 74 = .ok (.new 144, 3) := by decide +kernel
theorem dS_open_77 : decode mS_open.2.1 77 = .ok (.dup, 1) := by decide +kernel
theorem dS_open_78 : decode mS_open.2.1 78 = .ok (.ldc 146, 2) := by decide +kernel
theorem dS_open_80 : decode mS_open.2.1 80 = .ok (.invokespecial 148, 3) := by decide +kernel
theorem dS_open_83 : decode mS_open.2.1 83 = .ok (.athrow, 1) := by decide +kernel
theorem dS_open_84 : decode mS_open.2.1 84 = .ok (.aload_n 0, 1) := by decide +kernel
theorem dS_open_85 : decode mS_open.2.1 85 = .ok (.getfield 18, 3) := by decide +kernel
theorem dS_open_88 : decode mS_open.2.1 88 = .ok (.aload_n 0, 1) := by decide +kernel
theorem dS_open_89 : decode mS_open.2.1 89 = .ok (.getfield 22, 3) := by decide +kernel
theorem dS_open_92 : decode mS_open.2.1 92 = .ok (.invokevirtual 97, 3) := by decide +kernel
theorem dS_open_95 : decode mS_open.2.1 95 = .ok (.aload_n 0, 1) := by decide +kernel
theorem dS_open_96 : decode mS_open.2.1 96 = .ok (.getfield 18, 3) := by decide +kernel
theorem dS_open_99 : decode mS_open.2.1 99 = .ok (.getfield 65, 3) := by decide +kernel
theorem dS_open_102 : decode mS_open.2.1 102 = .ok (.ireturn, 1) := by decide +kernel
theorem dS_size_0 : decode mS_size.2.1 0 = .ok (.aload_n 0, 1) := by decide +kernel
theorem dS_size_1 : decode mS_size.2.1 1 = .ok (.getfield 18, 3) := by decide +kernel
theorem dS_size_4 : decode mS_size.2.1 4 = .ok (.getfield 65, 3) := by decide +kernel
theorem dS_size_7 : decode mS_size.2.1 7 = .ok (.ireturn, 1) := by decide +kernel
theorem dS_at_0 : decode mS_at.2.1 0 = .ok (.aload_n 0, 1) := by decide +kernel
theorem dS_at_1 : decode mS_at.2.1 1 = .ok (.getfield 18, 3) := by decide +kernel
theorem dS_at_4 : decode mS_at.2.1 4 = .ok (.iload_n 1, 1) := by decide +kernel
theorem dS_at_5 : decode mS_at.2.1 5 = .ok (.invokevirtual 83, 3) := by decide +kernel
theorem dS_at_8 : decode mS_at.2.1 8 = .ok (.ifCond .ne 13, 3) := by decide +kernel
theorem dS_at_11 : decode mS_at.2.1 11 = .ok (.new 86, 3) := by decide +kernel
theorem dS_at_14 : decode mS_at.2.1 14 = .ok (.dup, 1) := by decide +kernel
theorem dS_at_15 : decode mS_at.2.1 15 = .ok (.ldc 149, 2) := by decide +kernel
theorem dS_at_17 : decode mS_at.2.1 17 = .ok (.invokespecial 90, 3) := by decide +kernel
theorem dS_at_20 : decode mS_at.2.1 20 = .ok (.athrow, 1) := by decide +kernel
theorem dS_at_21 : decode mS_at.2.1 21 = .ok (.aload_n 0, 1) := by decide +kernel
theorem dS_at_22 : decode mS_at.2.1 22 = .ok (.getfield 18, 3) := by decide +kernel
theorem dS_at_25 : decode mS_at.2.1 25 = .ok (.getfield 91, 3) := by decide +kernel
theorem dS_at_28 : decode mS_at.2.1 28 = .ok (.iload_n 1, 1) := by decide +kernel
theorem dS_at_29 : decode mS_at.2.1 29 = .ok (.iaload, 1) := by decide +kernel
theorem dS_at_30 : decode mS_at.2.1 30 = .ok (.ireturn, 1) := by decide +kernel
theorem dS_requireRow_0 : decode mS_requireRow.2.1 0 = .ok (.iload_n 0, 1) := by decide +kernel
theorem dS_requireRow_1 : decode mS_requireRow.2.1 1 = .ok (.ifCond .lt 8, 3) := by decide +kernel
theorem dS_requireRow_4 : decode mS_requireRow.2.1 4 = .ok (.iload_n 0, 1) := by decide +kernel
theorem dS_requireRow_5 : decode mS_requireRow.2.1 5 = .ok (.iconst 4, 1) := by decide +kernel
theorem dS_requireRow_6 : decode mS_requireRow.2.1 6 = .ok (.if_icmp .lt 13, 3) := by decide +kernel
theorem dS_requireRow_9 : decode mS_requireRow.2.1 9 = .ok (.new 58, 3) := by decide +kernel
theorem dS_requireRow_12 : decode mS_requireRow.2.1 12 = .ok (.dup, 1) := by decide +kernel
theorem dS_requireRow_13 : decode mS_requireRow.2.1 13 = .ok (.ldc 151, 2) := by decide +kernel
theorem dS_requireRow_15 : decode mS_requireRow.2.1 15 = .ok (.invokespecial 62, 3) := by decide +kernel
theorem dS_requireRow_18 : decode mS_requireRow.2.1 18 = .ok (.athrow, 1) := by decide +kernel
theorem dS_requireRow_19 : decode mS_requireRow.2.1 19 = .ok (.return_, 1) := by decide +kernel
theorem dS_requireWay_0 : decode mS_requireWay.2.1 0 = .ok (.iload_n 0, 1) := by decide +kernel
theorem dS_requireWay_1 : decode mS_requireWay.2.1 1 = .ok (.ifCond .lt 8, 3) := by decide +kernel
theorem dS_requireWay_4 : decode mS_requireWay.2.1 4 = .ok (.iload_n 0, 1) := by decide +kernel
theorem dS_requireWay_5 : decode mS_requireWay.2.1 5 = .ok (.iconst 2, 1) := by decide +kernel
theorem dS_requireWay_6 : decode mS_requireWay.2.1 6 = .ok (.if_icmp .lt 13, 3) := by decide +kernel
theorem dS_requireWay_9 : decode mS_requireWay.2.1 9 = .ok (.new 58, 3) := by decide +kernel
theorem dS_requireWay_12 : decode mS_requireWay.2.1 12 = .ok (.dup, 1) := by decide +kernel
theorem dS_requireWay_13 : decode mS_requireWay.2.1 13 = .ok (.ldc 153, 2) := by decide +kernel
theorem dS_requireWay_15 : decode mS_requireWay.2.1 15 = .ok (.invokespecial 62, 3) := by decide +kernel
theorem dS_requireWay_18 : decode mS_requireWay.2.1 18 = .ok (.athrow, 1) := by decide +kernel
theorem dS_requireWay_19 : decode mS_requireWay.2.1 19 = .ok (.return_, 1) := by decide +kernel
theorem dS_requireKeyAndNonce_0 : decode mS_requireKeyAndNonce.2.1 0 = .ok (.aload_n 0, 1) := by decide +kernel
theorem dS_requireKeyAndNonce_1 : decode mS_requireKeyAndNonce.2.1 1 = .ok (.getfield 11, 3) := by decide +kernel
theorem dS_requireKeyAndNonce_4 : decode mS_requireKeyAndNonce.2.1 4 = .ok (.iconst 0, 1) := by decide +kernel
theorem dS_requireKeyAndNonce_5 : decode mS_requireKeyAndNonce.2.1 5 = .ok (.aaload, 1) := by decide +kernel
theorem dS_requireKeyAndNonce_6 : decode mS_requireKeyAndNonce.2.1 6 = .ok (.getfield 65, 3) := by decide +kernel
theorem dS_requireKeyAndNonce_9 : decode mS_requireKeyAndNonce.2.1 9 = .ok (.bipush 16, 2) := by decide +kernel
theorem dS_requireKeyAndNonce_11 : decode mS_requireKeyAndNonce.2.1 11 = .ok (.if_icmp .ne 24, 3) := by decide +kernel
theorem dS_requireKeyAndNonce_14 : decode mS_requireKeyAndNonce.2.1 14 = .ok (.aload_n 0, 1) := by decide +kernel
theorem dS_requireKeyAndNonce_15 : decode mS_requireKeyAndNonce.2.1 15 = .ok (.getfield 43, 3) := by decide +kernel
theorem dS_requireKeyAndNonce_18 : decode mS_requireKeyAndNonce.2.1 18 = .ok (.iload_n 1, 1) := by decide +kernel
theorem dS_requireKeyAndNonce_19 : decode mS_requireKeyAndNonce.2.1 19 = .ok (.aaload, 1) := by decide +kernel
theorem dS_requireKeyAndNonce_20 : decode mS_requireKeyAndNonce.2.1 20 = .ok (.aload_n 0, 1) := by decide +kernel
theorem dS_requireKeyAndNonce_21 : decode mS_requireKeyAndNonce.2.1 21 = .ok (.getfield 11, 3) := by decide +kernel
theorem dS_requireKeyAndNonce_24 : decode mS_requireKeyAndNonce.2.1 24 = .ok (.iconst 1, 1) := by decide +kernel
theorem dS_requireKeyAndNonce_25 : decode mS_requireKeyAndNonce.2.1 25 = .ok (.aaload, 1) := by decide +kernel
theorem dS_requireKeyAndNonce_26 : decode mS_requireKeyAndNonce.2.1 26 = .ok (.getfield 65, 3) := by decide +kernel
theorem dS_requireKeyAndNonce_29 : decode mS_requireKeyAndNonce.2.1 29 = .ok (.invokevirtual 155, 3) := by decide +kernel
theorem dS_requireKeyAndNonce_32 : decode mS_requireKeyAndNonce.2.1 32 = .ok (.ifCond .ne 13, 3) := by decide +kernel
theorem dS_requireKeyAndNonce_35 : decode mS_requireKeyAndNonce.2.1 35 = .ok (.new 73, 3) := by decide +kernel
theorem dS_requireKeyAndNonce_38 : decode mS_requireKeyAndNonce.2.1 38 = .ok (.dup, 1) := by decide +kernel
theorem dS_requireKeyAndNonce_39 : decode mS_requireKeyAndNonce.2.1 39 = .ok (.ldc 158, 2) := by decide +kernel
theorem dS_requireKeyAndNonce_41 : decode mS_requireKeyAndNonce.2.1 41 = .ok (.invokespecial 77, 3) := by decide +kernel
theorem dS_requireKeyAndNonce_44 : decode mS_requireKeyAndNonce.2.1 44 = .ok (.athrow, 1) := by decide +kernel
theorem dS_requireKeyAndNonce_45 : decode mS_requireKeyAndNonce.2.1 45 = .ok (.return_, 1) := by decide +kernel
theorem dC_init_0 : decode mC_init.2.1 0 = .ok (.aload_n 0, 1) := by decide +kernel
theorem dC_init_1 : decode mC_init.2.1 1 = .ok (.invokespecial 3, 3) := by decide +kernel
theorem dC_init_4 : decode mC_init.2.1 4 = .ok (.aload_n 0, 1) := by decide +kernel
theorem dC_init_5 : decode mC_init.2.1 5 = .ok (.invokestatic 9, 3) := by decide +kernel
theorem dC_init_8 : decode mC_init.2.1 8 = .ok (.putfield 15, 3) := by decide +kernel
theorem dC_init_11 : decode mC_init.2.1 11 = .ok (.aload_n 0, 1) := by decide +kernel
theorem dC_init_12 : decode mC_init.2.1 12 = .ok (.sipush 176, 3) := by decide +kernel
theorem dC_init_15 : decode mC_init.2.1 15 = .ok (.newarray .int, 2) := by decide +kernel
theorem dC_init_17 : decode mC_init.2.1 17 = .ok (.putfield 19, 3) := by decide +kernel
theorem dC_init_20 : decode mC_init.2.1 20 = .ok (.aload_n 0, 1) := by decide +kernel
theorem dC_init_21 : decode mC_init.2.1 21 = .ok (.bipush 16, 2) := by decide +kernel
theorem dC_init_23 : decode mC_init.2.1 23 = .ok (.newarray .int, 2) := by decide +kernel
theorem dC_init_25 : decode mC_init.2.1 25 = .ok (.putfield 22, 3) := by decide +kernel
theorem dC_init_28 : decode mC_init.2.1 28 = .ok (.aload_n 0, 1) := by decide +kernel
theorem dC_init_29 : decode mC_init.2.1 29 = .ok (.bipush 16, 2) := by decide +kernel
theorem dC_init_31 : decode mC_init.2.1 31 = .ok (.newarray .int, 2) := by decide +kernel
theorem dC_init_33 : decode mC_init.2.1 33 = .ok (.putfield 25, 3) := by decide +kernel
theorem dC_init_36 : decode mC_init.2.1 36 = .ok (.return_, 1) := by decide +kernel
theorem dC_makeBox_0 : decode mC_makeBox.2.1 0 = .ok (.sipush 256, 3) := by decide +kernel
theorem dC_makeBox_3 : decode mC_makeBox.2.1 3 = .ok (.newarray .int, 2) := by decide +kernel
theorem dC_makeBox_5 : decode mC_makeBox.2.1 5 = .ok (.astore_n 0, 1) := by decide +kernel
theorem dC_makeBox_6 : decode mC_makeBox.2.1 6 = .ok (.sipush 256, 3) := by decide +kernel
theorem dC_makeBox_9 : decode mC_makeBox.2.1 9 = .ok (.newarray .int, 2) := by decide +kernel
theorem dC_makeBox_11 : decode mC_makeBox.2.1 11 = .ok (.astore_n 1, 1) := by decide +kernel
theorem dC_makeBox_12 : decode mC_makeBox.2.1 12 = .ok (.aload_n 1, 1) := by decide +kernel
theorem dC_makeBox_13 : decode mC_makeBox.2.1 13 = .ok (.iconst 0, 1) := by decide +kernel
theorem dC_makeBox_14 : decode mC_makeBox.2.1 14 = .ok (.iconst 1, 1) := by decide +kernel
theorem dC_makeBox_15 : decode mC_makeBox.2.1 15 = .ok (.iastore, 1) := by decide +kernel
theorem dC_makeBox_16 : decode mC_makeBox.2.1 16 = .ok (.iconst 1, 1) := by decide +kernel
theorem dC_makeBox_17 : decode mC_makeBox.2.1 17 = .ok (.istore_n 2, 1) := by decide +kernel
theorem dC_makeBox_18 : decode mC_makeBox.2.1 18 = .ok (.iload_n 2, 1) := by decide +kernel
theorem dC_makeBox_19 : decode mC_makeBox.2.1 19 = .ok (.sipush 256, 3) := by decide +kernel
theorem dC_makeBox_22 : decode mC_makeBox.2.1 22 = .ok (.if_icmp .ge 20, 3) := by decide +kernel
theorem dC_makeBox_25 : decode mC_makeBox.2.1 25 = .ok (.aload_n 1, 1) := by decide +kernel
theorem dC_makeBox_26 : decode mC_makeBox.2.1 26 = .ok (.iload_n 2, 1) := by decide +kernel
theorem dC_makeBox_27 : decode mC_makeBox.2.1 27 = .ok (.aload_n 1, 1) := by decide +kernel
theorem dC_makeBox_28 : decode mC_makeBox.2.1 28 = .ok (.iload_n 2, 1) := by decide +kernel
theorem dC_makeBox_29 : decode mC_makeBox.2.1 29 = .ok (.iconst 1, 1) := by decide +kernel
theorem dC_makeBox_30 : decode mC_makeBox.2.1 30 = .ok (.isub, 1) := by decide +kernel
theorem dC_makeBox_31 : decode mC_makeBox.2.1 31 = .ok (.iaload, 1) := by decide +kernel
theorem dC_makeBox_32 : decode mC_makeBox.2.1 32 = .ok (.invokestatic 28, 3) := by decide +kernel
theorem dC_makeBox_35 : decode mC_makeBox.2.1 35 = .ok (.iastore, 1) := by decide +kernel
theorem dC_makeBox_36 : decode mC_makeBox.2.1 36 = .ok (.iinc 2 1, 3) := by decide +kernel
theorem dC_makeBox_39 : decode mC_makeBox.2.1 39 = .ok (.goto (-21), 3) := by decide +kernel
theorem dC_makeBox_42 : decode mC_makeBox.2.1 42 = .ok (.iconst 0, 1) := by decide +kernel
theorem dC_makeBox_43 : decode mC_makeBox.2.1 43 = .ok (.istore_n 2, 1) := by decide +kernel
theorem dC_makeBox_44 : decode mC_makeBox.2.1 44 = .ok (.iload_n 2, 1) := by decide +kernel
theorem dC_makeBox_45 : decode mC_makeBox.2.1 45 = .ok (.sipush 255, 3) := by decide +kernel
theorem dC_makeBox_48 : decode mC_makeBox.2.1 48 = .ok (.if_icmp .ge 24, 3) := by decide +kernel
theorem dC_makeBox_51 : decode mC_makeBox.2.1 51 = .ok (.aload_n 0, 1) := by decide +kernel
theorem dC_makeBox_52 : decode mC_makeBox.2.1 52 = .ok (.aload_n 1, 1) := by decide +kernel
theorem dC_makeBox_53 : decode mC_makeBox.2.1 53 = .ok (.iload_n 2, 1) := by decide +kernel
theorem dC_makeBox_54 : decode mC_makeBox.2.1 54 = .ok (.iaload, 1) := by decide +kernel
theorem dC_makeBox_55 : decode mC_makeBox.2.1 55 = .ok (.aload_n 1, 1) := by decide +kernel
theorem dC_makeBox_56 : decode mC_makeBox.2.1 56 = .ok (.sipush 255, 3) := by decide +kernel
theorem dC_makeBox_59 : decode mC_makeBox.2.1 59 = .ok (.iload_n 2, 1) := by decide +kernel
theorem dC_makeBox_60 : decode mC_makeBox.2.1 60 = .ok (.isub, 1) := by decide +kernel
theorem dC_makeBox_61 : decode mC_makeBox.2.1 61 = .ok (.iaload, 1) := by decide +kernel
theorem dC_makeBox_62 : decode mC_makeBox.2.1 62 = .ok (.invokestatic 32, 3) := by decide +kernel
theorem dC_makeBox_65 : decode mC_makeBox.2.1 65 = .ok (.iastore, 1) := by decide +kernel
theorem dC_makeBox_66 : decode mC_makeBox.2.1 66 = .ok (.iinc 2 1, 3) := by decide +kernel
theorem dC_makeBox_69 : decode mC_makeBox.2.1 69 = .ok (.goto (-25), 3) := by decide +kernel
theorem dC_makeBox_72 : decode mC_makeBox.2.1 72 = .ok (.aload_n 0, 1) := by decide +kernel
theorem dC_makeBox_73 : decode mC_makeBox.2.1 73 = .ok (.iconst 0, 1) := by decide +kernel
theorem dC_makeBox_74 : decode mC_makeBox.2.1 74 = .ok (.iconst 0, 1) := by decide +kernel
theorem dC_makeBox_75 : decode mC_makeBox.2.1 75 = .ok (.invokestatic 32, 3) := by decide +kernel
theorem dC_makeBox_78 : decode mC_makeBox.2.1 78 = .ok (.iastore, 1) := by decide +kernel
theorem dC_makeBox_79 : decode mC_makeBox.2.1 79 = .ok (.aload_n 0, 1) := by decide +kernel
theorem dC_makeBox_80 : decode mC_makeBox.2.1 80 = .ok (.areturn, 1) := by decide +kernel
theorem dC_spread_0 : decode mC_spread.2.1 0 = .ok (.iload_n 0, 1) := by decide +kernel
theorem dC_spread_1 : decode mC_spread.2.1 1 = .ok (.iload_n 0, 1) := by decide +kernel
theorem dC_spread_2 : decode mC_spread.2.1 2 = .ok (.iconst 1, 1) := by decide +kernel
theorem dC_spread_3 : decode mC_spread.2.1 3 = .ok (.invokestatic 35, 3) := by decide +kernel
theorem dC_spread_6 : decode mC_spread.2.1 6 = .ok (.ixor, 1) := by decide +kernel
theorem dC_spread_7 : decode mC_spread.2.1 7 = .ok (.iload_n 0, 1) := by decide +kernel
theorem dC_spread_8 : decode mC_spread.2.1 8 = .ok (.iconst 2, 1) := by decide +kernel
theorem dC_spread_9 : decode mC_spread.2.1 9 = .ok (.invokestatic 35, 3) := by decide +kernel
theorem dC_spread_12 : decode mC_spread.2.1 12 = .ok (.ixor, 1) := by decide +kernel
theorem dC_spread_13 : decode mC_spread.2.1 13 = .ok (.iload_n 0, 1) := by decide +kernel
theorem dC_spread_14 : decode mC_spread.2.1 14 = .ok (.iconst 3, 1) := by decide +kernel
theorem dC_spread_15 : decode mC_spread.2.1 15 = .ok (.invokestatic 35, 3) := by decide +kernel
theorem dC_spread_18 : decode mC_spread.2.1 18 = .ok (.ixor, 1) := by decide +kernel
theorem dC_spread_19 : decode mC_spread.2.1 19 = .ok (.iload_n 0, 1) := by decide +kernel
theorem dC_spread_20 : decode mC_spread.2.1 20 = .ok (.iconst 4, 1) := by decide +kernel
theorem dC_spread_21 : decode mC_spread.2.1 21 = .ok (.invokestatic 35, 3) := by decide +kernel
theorem dC_spread_24 : decode mC_spread.2.1 24 = .ok (.ixor, 1) := by decide +kernel
theorem dC_spread_25 : decode mC_spread.2.1 25 = .ok (.bipush 99, 2) := by decide +kernel
theorem dC_spread_27 : decode mC_spread.2.1 27 = .ok (.ixor, 1) := by decide +kernel
theorem dC_spread_28 : decode mC_spread.2.1 28 = .ok (.ireturn, 1) := by decide +kernel
theorem dC_turned_0 : decode mC_turned.2.1 0 = .ok (.iload_n 0, 1) := by decide +kernel
theorem dC_turned_1 : decode mC_turned.2.1 1 = .ok (.iload_n 1, 1) := by decide +kernel
theorem dC_turned_2 : decode mC_turned.2.1 2 = .ok (.ishl, 1) := by decide +kernel
theorem dC_turned_3 : decode mC_turned.2.1 3 = .ok (.iload_n 0, 1) := by decide +kernel
theorem dC_turned_4 : decode mC_turned.2.1 4 = .ok (.bipush 8, 2) := by decide +kernel
theorem dC_turned_6 : decode mC_turned.2.1 6 = .ok (.iload_n 1, 1) := by decide +kernel
theorem dC_turned_7 : decode mC_turned.2.1 7 = .ok (.isub, 1) := by decide +kernel
theorem dC_turned_8 : decode mC_turned.2.1 8 = .ok (.ishr, 1) := by decide +kernel
theorem dC_turned_9 : decode mC_turned.2.1 9 = .ok (.ior, 1) := by decide +kernel
theorem dC_turned_10 : decode mC_turned.2.1 10 = .ok (.sipush 255, 3) := by decide +kernel
theorem dC_turned_13 : decode mC_turned.2.1 13 = .ok (.iand, 1) := by decide +kernel
theorem dC_turned_14 : decode mC_turned.2.1 14 = .ok (.ireturn, 1) := by decide +kernel
theorem dC_doubled_0 : decode mC_doubled.2.1 0 = .ok (.iconst 2, 1) := by decide +kernel
theorem dC_doubled_1 : decode mC_doubled.2.1 1 = .ok (.iload_n 0, 1) := by decide +kernel
theorem dC_doubled_2 : decode mC_doubled.2.1 2 = .ok (.imul, 1) := by decide +kernel
theorem dC_doubled_3 : decode mC_doubled.2.1 3 = .ok (.istore_n 1, 1) := by decide +kernel
theorem dC_doubled_4 : decode mC_doubled.2.1 4 = .ok (.iload_n 1, 1) := by decide +kernel
theorem dC_doubled_5 : decode mC_doubled.2.1 5 = .ok (.sipush 255, 3) := by decide +kernel
theorem dC_doubled_8 : decode mC_doubled.2.1 8 = .ok (.if_icmp .le 11, 3) := by decide +kernel
theorem dC_doubled_11 : decode mC_doubled.2.1 11 = .ok (.iload_n 1, 1) := by decide +kernel
theorem dC_doubled_12 : decode mC_doubled.2.1 12 = .ok (.sipush 283, 3) := by decide +kernel
theorem dC_doubled_15 : decode mC_doubled.2.1 15 = .ok (.ixor, 1) := by decide +kernel
theorem dC_doubled_16 : decode mC_doubled.2.1 16 = .ok (.goto 4, 3) := by decide +kernel
theorem dC_doubled_19 : decode mC_doubled.2.1 19 = .ok (.iload_n 1, 1) := by decide +kernel
theorem dC_doubled_20 : decode mC_doubled.2.1 20 = .ok (.ireturn, 1) := by decide +kernel
theorem dC_tripled_0 : decode mC_tripled.2.1 0 = .ok (.iload_n 0, 1) := by decide +kernel
theorem dC_tripled_1 : decode mC_tripled.2.1 1 = .ok (.invokestatic 39, 3) := by decide +kernel
theorem dC_tripled_4 : decode mC_tripled.2.1 4 = .ok (.iload_n 0, 1) := by decide +kernel
theorem dC_tripled_5 : decode mC_tripled.2.1 5 = .ok (.ixor, 1) := by decide +kernel
theorem dC_tripled_6 : decode mC_tripled.2.1 6 = .ok (.ireturn, 1) := by decide +kernel
theorem dC_useKey_0 : decode mC_useKey.2.1 0 = .ok (.aload_n 1, 1) := by decide +kernel
theorem dC_useKey_1 : decode mC_useKey.2.1 1 = .ok (.iconst 0, 1) := by decide +kernel
theorem dC_useKey_2 : decode mC_useKey.2.1 2 = .ok (.aload_n 0, 1) := by decide +kernel
theorem dC_useKey_3 : decode mC_useKey.2.1 3 = .ok (.getfield 19, 3) := by decide +kernel
theorem dC_useKey_6 : decode mC_useKey.2.1 6 = .ok (.iconst 0, 1) := by decide +kernel
theorem dC_useKey_7 : decode mC_useKey.2.1 7 = .ok (.bipush 16, 2) := by decide +kernel
theorem dC_useKey_9 : decode mC_useKey.2.1 9 = .ok (.invokestatic 42, 3) := by decide +kernel
theorem dC_useKey_12 : decode mC_useKey.2.1 12 = .ok (.iconst 1, 1) := by decide +kernel
theorem dC_useKey_13 : decode mC_useKey.2.1 13 = .ok (.istore_n 2, 1) := by decide +kernel
theorem dC_useKey_14 : decode mC_useKey.2.1 14 = .ok (.iconst 4, 1) := by decide +kernel
theorem dC_useKey_15 : decode mC_useKey.2.1 15 = .ok (.istore_n 3, 1) := by decide +kernel
theorem dC_useKey_16 : decode mC_useKey.2.1 16 = .ok (.iload_n 3, 1) := by decide +kernel
theorem dC_useKey_17 : decode mC_useKey.2.1 17 = .ok (.bipush 44, 2) := by decide +kernel
theorem dC_useKey_19 : decode mC_useKey.2.1 19 = .ok (.if_icmp .ge 34, 3) := by decide +kernel
theorem dC_useKey_22 : decode mC_useKey.2.1 22 = .ok (.iload_n 3, 1) := by decide +kernel
theorem dC_useKey_23 : decode mC_useKey.2.1 23 = .ok (.iconst 4, 1) := by decide +kernel
theorem dC_useKey_24 : decode mC_useKey.2.1 24 = .ok (.irem, 1) := by decide +kernel
theorem dC_useKey_25 : decode mC_useKey.2.1 25 = .ok (.ifCond .ne 17, 3) := by decide +kernel
theorem dC_useKey_28 : decode mC_useKey.2.1 28 = .ok (.aload_n 0, 1) := by decide +kernel
theorem dC_useKey_29 : decode mC_useKey.2.1 29 = .ok (.iload_n 3, 1) := by decide +kernel
theorem dC_useKey_30 : decode mC_useKey.2.1 30 = .ok (.iload_n 2, 1) := by decide +kernel
theorem dC_useKey_31 : decode mC_useKey.2.1 31 = .ok (.invokevirtual 48, 3) := by decide +kernel
theorem dC_useKey_34 : decode mC_useKey.2.1 34 = .ok (.iload_n 2, 1) := by decide +kernel
theorem dC_useKey_35 : decode mC_useKey.2.1 35 = .ok (.invokestatic 39, 3) := by decide +kernel
theorem dC_useKey_38 : decode mC_useKey.2.1 38 = .ok (.istore_n 2, 1) := by decide +kernel
theorem dC_useKey_39 : decode mC_useKey.2.1 39 = .ok (.goto 8, 3) := by decide +kernel
theorem dC_useKey_42 : decode mC_useKey.2.1 42 = .ok (.aload_n 0, 1) := by decide +kernel
theorem dC_useKey_43 : decode mC_useKey.2.1 43 = .ok (.iload_n 3, 1) := by decide +kernel
theorem dC_useKey_44 : decode mC_useKey.2.1 44 = .ok (.invokevirtual 52, 3) := by decide +kernel
theorem dC_useKey_47 : decode mC_useKey.2.1 47 = .ok (.iinc 3 1, 3) := by decide +kernel
theorem dC_useKey_50 : decode mC_useKey.2.1 50 = .ok (.goto (-34), 3) := by decide +kernel
theorem dC_useKey_53 : decode mC_useKey.2.1 53 = .ok (.return_, 1) := by decide +kernel
theorem dC_makeWord_0 : decode mC_makeWord.2.1 0 = .ok (.iconst 0, 1) := by decide +kernel
theorem dC_makeWord_1 : decode mC_makeWord.2.1 1 = .ok (.istore_n 2, 1) := by decide +kernel
theorem dC_makeWord_2 : decode mC_makeWord.2.1 2 = .ok (.iload_n 2, 1) := by decide +kernel
theorem dC_makeWord_3 : decode mC_makeWord.2.1 3 = .ok (.iconst 4, 1) := by decide +kernel
theorem dC_makeWord_4 : decode mC_makeWord.2.1 4 = .ok (.if_icmp .ge 44, 3) := by decide +kernel
theorem dC_makeWord_7 : decode mC_makeWord.2.1 7 = .ok (.aload_n 0, 1) := by decide +kernel
theorem dC_makeWord_8 : decode mC_makeWord.2.1 8 = .ok (.getfield 19, 3) := by decide +kernel
theorem dC_makeWord_11 : decode mC_makeWord.2.1 11 = .ok (.iconst 4, 1) := by decide +kernel
theorem dC_makeWord_12 : decode mC_makeWord.2.1 12 = .ok (.iload_n 1, 1) := by decide +kernel
theorem dC_makeWord_13 : decode mC_makeWord.2.1 13 = .ok (.imul, 1) := by decide +kernel
theorem dC_makeWord_14 : decode mC_makeWord.2.1 14 = .ok (.iload_n 2, 1) := by decide +kernel
theorem dC_makeWord_15 : decode mC_makeWord.2.1 15 = .ok (.iadd, 1) := by decide +kernel
theorem dC_makeWord_16 : decode mC_makeWord.2.1 16 = .ok (.aload_n 0, 1) := by decide +kernel
theorem dC_makeWord_17 : decode mC_makeWord.2.1 17 = .ok (.getfield 19, 3) := by decide +kernel
theorem dC_makeWord_20 : decode mC_makeWord.2.1 20 = .ok (.iconst 4, 1) := by decide +kernel
theorem dC_makeWord_21 : decode mC_makeWord.2.1 21 = .ok (.iload_n 1, 1) := by decide +kernel
theorem dC_makeWord_22 : decode mC_makeWord.2.1 22 = .ok (.iconst 4, 1) := by decide +kernel
theorem dC_makeWord_23 : decode mC_makeWord.2.1 23 = .ok (.isub, 1) := by decide +kernel
theorem dC_makeWord_24 : decode mC_makeWord.2.1 24 = .ok (.imul, 1) := by decide +kernel
theorem dC_makeWord_25 : decode mC_makeWord.2.1 25 = .ok (.iload_n 2, 1) := by decide +kernel
theorem dC_makeWord_26 : decode mC_makeWord.2.1 26 = .ok (.iadd, 1) := by decide +kernel
theorem dC_makeWord_27 : decode mC_makeWord.2.1 27 = .ok (.iaload, 1) := by decide +kernel
theorem dC_makeWord_28 : decode mC_makeWord.2.1 28 = .ok (.aload_n 0, 1) := by decide +kernel
theorem dC_makeWord_29 : decode mC_makeWord.2.1 29 = .ok (.getfield 19, 3) := by decide +kernel
theorem dC_makeWord_32 : decode mC_makeWord.2.1 32 = .ok (.iconst 4, 1) := by decide +kernel
theorem dC_makeWord_33 : decode mC_makeWord.2.1 33 = .ok (.iload_n 1, 1) := by decide +kernel
theorem dC_makeWord_34 : decode mC_makeWord.2.1 34 = .ok (.iconst 1, 1) := by decide +kernel
theorem dC_makeWord_35 : decode mC_makeWord.2.1 35 = .ok (.isub, 1) := by decide +kernel
theorem dC_makeWord_36 : decode mC_makeWord.2.1 36 = .ok (.imul, 1) := by decide +kernel
theorem dC_makeWord_37 : decode mC_makeWord.2.1 37 = .ok (.iload_n 2, 1) := by decide +kernel
theorem dC_makeWord_38 : decode mC_makeWord.2.1 38 = .ok (.iadd, 1) := by decide +kernel
theorem dC_makeWord_39 : decode mC_makeWord.2.1 39 = .ok (.iaload, 1) := by decide +kernel
theorem dC_makeWord_40 : decode mC_makeWord.2.1 40 = .ok (.ixor, 1) := by decide +kernel
theorem dC_makeWord_41 : decode mC_makeWord.2.1 41 = .ok (.iastore, 1) := by decide +kernel
theorem dC_makeWord_42 : decode mC_makeWord.2.1 42 = .ok (.iinc 2 1, 3) := by decide +kernel
theorem dC_makeWord_45 : decode mC_makeWord.2.1 45 = .ok (.goto (-43), 3) := by decide +kernel
theorem dC_makeWord_48 : decode mC_makeWord.2.1 48 = .ok (.return_, 1) := by decide +kernel
theorem dC_makeBoxedWord_0 : decode mC_makeBoxedWord.2.1 0 = .ok (.iconst 0, 1) := by decide +kernel
theorem dC_makeBoxedWord_1 : decode mC_makeBoxedWord.2.1 1 = .ok (.istore_n 3, 1) := by decide +kernel
theorem dC_makeBoxedWord_2 : decode mC_makeBoxedWord.2.1 2 = .ok (.iload_n 3, 1) := by decide +kernel
theorem dC_makeBoxedWord_3 : decode mC_makeBoxedWord.2.1 3 = .ok (.iconst 4, 1) := by decide +kernel
theorem dC_makeBoxedWord_4 : decode mC_makeBoxedWord.2.1 4 = .ok (.if_icmp .ge 53, 3) := by decide +kernel
theorem dC_makeBoxedWord_7 : decode mC_makeBoxedWord.2.1 7 = .ok (.aload_n 0, 1) := by decide +kernel
theorem dC_makeBoxedWord_8 : decode mC_makeBoxedWord.2.1 8 = .ok (.getfield 19, 3) := by decide +kernel
theorem dC_makeBoxedWord_11 : decode mC_makeBoxedWord.2.1 11 = .ok (.iconst 4, 1) := by decide +kernel
theorem dC_makeBoxedWord_12 : decode mC_makeBoxedWord.2.1 12 = .ok (.iload_n 1, 1) := by decide +kernel
theorem dC_makeBoxedWord_13 : decode mC_makeBoxedWord.2.1 13 = .ok (.imul, 1) := by decide +kernel
theorem dC_makeBoxedWord_14 : decode mC_makeBoxedWord.2.1 14 = .ok (.iload_n 3, 1) := by decide +kernel
theorem dC_makeBoxedWord_15 : decode mC_makeBoxedWord.2.1 15 = .ok (.iadd, 1) := by decide +kernel
theorem dC_makeBoxedWord_16 : decode mC_makeBoxedWord.2.1 16 = .ok (.aload_n 0, 1) := by decide +kernel
theorem dC_makeBoxedWord_17 : decode mC_makeBoxedWord.2.1 17 = .ok (.getfield 19, 3) := by decide +kernel
theorem dC_makeBoxedWord_20 : decode mC_makeBoxedWord.2.1 20 = .ok (.iconst 4, 1) := by decide +kernel
theorem dC_makeBoxedWord_21 : decode mC_makeBoxedWord.2.1 21 = .ok (.iload_n 1, 1) := by decide +kernel
theorem dC_makeBoxedWord_22 : decode mC_makeBoxedWord.2.1 22 = .ok (.iconst 4, 1) := by decide +kernel
theorem dC_makeBoxedWord_23 : decode mC_makeBoxedWord.2.1 23 = .ok (.isub, 1) := by decide +kernel
theorem dC_makeBoxedWord_24 : decode mC_makeBoxedWord.2.1 24 = .ok (.imul, 1) := by decide +kernel
theorem dC_makeBoxedWord_25 : decode mC_makeBoxedWord.2.1 25 = .ok (.iload_n 3, 1) := by decide +kernel
theorem dC_makeBoxedWord_26 : decode mC_makeBoxedWord.2.1 26 = .ok (.iadd, 1) := by decide +kernel
theorem dC_makeBoxedWord_27 : decode mC_makeBoxedWord.2.1 27 = .ok (.iaload, 1) := by decide +kernel
theorem dC_makeBoxedWord_28 : decode mC_makeBoxedWord.2.1 28 = .ok (.aload_n 0, 1) := by decide +kernel
theorem dC_makeBoxedWord_29 : decode mC_makeBoxedWord.2.1 29 = .ok (.getfield 15, 3) := by decide +kernel
theorem dC_makeBoxedWord_32 : decode mC_makeBoxedWord.2.1 32 = .ok (.aload_n 0, 1) := by decide +kernel
theorem dC_makeBoxedWord_33 : decode mC_makeBoxedWord.2.1 33 = .ok (.getfield 19, 3) := by decide +kernel
theorem dC_makeBoxedWord_36 : decode mC_makeBoxedWord.2.1 36 = .ok (.iconst 4, 1) := by decide +kernel
theorem dC_makeBoxedWord_37 : decode mC_makeBoxedWord.2.1 37 = .ok (.iload_n 1, 1) := by decide +kernel
theorem dC_makeBoxedWord_38 : decode mC_makeBoxedWord.2.1 38 = .ok (.iconst 1, 1) := by decide +kernel
theorem dC_makeBoxedWord_39 : decode mC_makeBoxedWord.2.1 39 = .ok (.isub, 1) := by decide +kernel
theorem dC_makeBoxedWord_40 : decode mC_makeBoxedWord.2.1 40 = .ok (.imul, 1) := by decide +kernel
theorem dC_makeBoxedWord_41 : decode mC_makeBoxedWord.2.1 41 = .ok (.iload_n 3, 1) := by decide +kernel
theorem dC_makeBoxedWord_42 : decode mC_makeBoxedWord.2.1 42 = .ok (.iconst 1, 1) := by decide +kernel
theorem dC_makeBoxedWord_43 : decode mC_makeBoxedWord.2.1 43 = .ok (.iadd, 1) := by decide +kernel
theorem dC_makeBoxedWord_44 : decode mC_makeBoxedWord.2.1 44 = .ok (.iconst 4, 1) := by decide +kernel
theorem dC_makeBoxedWord_45 : decode mC_makeBoxedWord.2.1 45 = .ok (.irem, 1) := by decide +kernel
theorem dC_makeBoxedWord_46 : decode mC_makeBoxedWord.2.1 46 = .ok (.iadd, 1) := by decide +kernel
theorem dC_makeBoxedWord_47 : decode mC_makeBoxedWord.2.1 47 = .ok (.iaload, 1) := by decide +kernel
theorem dC_makeBoxedWord_48 : decode mC_makeBoxedWord.2.1 48 = .ok (.iaload, 1) := by decide +kernel
theorem dC_makeBoxedWord_49 : decode mC_makeBoxedWord.2.1 49 = .ok (.ixor, 1) := by decide +kernel
theorem dC_makeBoxedWord_50 : decode mC_makeBoxedWord.2.1 50 = .ok (.iastore, 1) := by decide +kernel
theorem dC_makeBoxedWord_51 : decode mC_makeBoxedWord.2.1 51 = .ok (.iinc 3 1, 3) := by decide +kernel
theorem dC_makeBoxedWord_54 : decode mC_makeBoxedWord.2.1 54 = .ok (.goto (-52), 3) := by decide +kernel
theorem dC_makeBoxedWord_57 : decode mC_makeBoxedWord.2.1 57 = .ok (.aload_n 0, 1) := by decide +kernel
theorem dC_makeBoxedWord_58 : decode mC_makeBoxedWord.2.1 58 = .ok (.getfield 19, 3) := by decide +kernel
theorem dC_makeBoxedWord_61 : decode mC_makeBoxedWord.2.1 61 = .ok (.iconst 4, 1) := by decide +kernel
theorem dC_makeBoxedWord_62 : decode mC_makeBoxedWord.2.1 62 = .ok (.iload_n 1, 1) := by decide +kernel
theorem dC_makeBoxedWord_63 : decode mC_makeBoxedWord.2.1 63 = .ok (.imul, 1) := by decide +kernel
theorem dC_makeBoxedWord_64 : decode mC_makeBoxedWord.2.1 64 = .ok (.dup2, 1) := by decide +kernel
theorem dC_makeBoxedWord_65 : decode mC_makeBoxedWord.2.1 65 = .ok (.iaload, 1) := by decide +kernel
theorem dC_makeBoxedWord_66 : decode mC_makeBoxedWord.2.1 66 = .ok (.iload_n 2, 1) := by decide +kernel
theorem dC_makeBoxedWord_67 : decode mC_makeBoxedWord.2.1 67 = .ok (.ixor, 1) := by decide +kernel
theorem dC_makeBoxedWord_68 : decode mC_makeBoxedWord.2.1 68 = .ok (.iastore, 1) := by decide +kernel
theorem dC_makeBoxedWord_69 : decode mC_makeBoxedWord.2.1 69 = .ok (.return_, 1) := by decide +kernel
theorem dC_encipher_0 : decode mC_encipher.2.1 0 = .ok (.aload_n 1, 1) := by decide +kernel
theorem dC_encipher_1 : decode mC_encipher.2.1 1 = .ok (.iconst 0, 1) := by decide +kernel
theorem dC_encipher_2 : decode mC_encipher.2.1 2 = .ok (.aload_n 0, 1) := by decide +kernel
theorem dC_encipher_3 : decode mC_encipher.2.1 3 = .ok (.getfield 22, 3) := by decide +kernel
theorem dC_encipher_6 : decode mC_encipher.2.1 6 = .ok (.iconst 0, 1) := by decide +kernel
theorem dC_encipher_7 : decode mC_encipher.2.1 7 = .ok (.bipush 16, 2) := by decide +kernel
theorem dC_encipher_9 : decode mC_encipher.2.1 9 = .ok (.invokestatic 42, 3) := by decide +kernel
theorem dC_encipher_12 : decode mC_encipher.2.1 12 = .ok (.aload_n 0, 1) := by decide +kernel
theorem dC_encipher_13 : decode mC_encipher.2.1 13 = .ok (.iconst 0, 1) := by decide +kernel
theorem dC_encipher_14 : decode mC_encipher.2.1 14 = .ok (.invokevirtual 56, 3) := by decide +kernel
theorem dC_encipher_17 : decode mC_encipher.2.1 17 = .ok (.iconst 1, 1) := by decide +kernel
theorem dC_encipher_18 : decode mC_encipher.2.1 18 = .ok (.istore_n 3, 1) := by decide +kernel
theorem dC_encipher_19 : decode mC_encipher.2.1 19 = .ok (.iload_n 3, 1) := by decide +kernel
theorem dC_encipher_20 : decode mC_encipher.2.1 20 = .ok (.bipush 10, 2) := by decide +kernel
theorem dC_encipher_22 : decode mC_encipher.2.1 22 = .ok (.if_icmp .gt 46, 3) := by decide +kernel
theorem dC_encipher_25 : decode mC_encipher.2.1 25 = .ok (.aload_n 0, 1) := by decide +kernel
theorem dC_encipher_26 : decode mC_encipher.2.1 26 = .ok (.invokevirtual 59, 3) := by decide +kernel
theorem dC_encipher_29 : decode mC_encipher.2.1 29 = .ok (.iload_n 3, 1) := by decide +kernel
theorem dC_encipher_30 : decode mC_encipher.2.1 30 = .ok (.bipush 10, 2) := by decide +kernel
theorem dC_encipher_32 : decode mC_encipher.2.1 32 = .ok (.if_icmp .ge 10, 3) := by decide +kernel
theorem dC_encipher_35 : decode mC_encipher.2.1 35 = .ok (.aload_n 0, 1) := by decide +kernel
theorem dC_encipher_36 : decode mC_encipher.2.1 36 = .ok (.invokevirtual 62, 3) := by decide +kernel
theorem dC_encipher_39 : decode mC_encipher.2.1 39 = .ok (.goto 18, 3) := by decide +kernel
theorem dC_encipher_42 : decode mC_encipher.2.1 42 = .ok (.aload_n 0, 1) := by decide +kernel
theorem dC_encipher_43 : decode mC_encipher.2.1 43 = .ok (.getfield 25, 3) := by decide +kernel
theorem dC_encipher_46 : decode mC_encipher.2.1 46 = .ok (.iconst 0, 1) := by decide +kernel
theorem dC_encipher_47 : decode mC_encipher.2.1 47 = .ok (.aload_n 0, 1) := by decide +kernel
theorem dC_encipher_48 : decode mC_encipher.2.1 48 = .ok (.getfield 22, 3) := by decide +kernel
theorem dC_encipher_51 : decode mC_encipher.2.1 51 = .ok (.iconst 0, 1) := by decide +kernel
theorem dC_encipher_52 : decode mC_encipher.2.1 52 = .ok (.bipush 16, 2) := by decide +kernel
theorem dC_encipher_54 : decode mC_encipher.2.1 54 = .ok (.invokestatic 42, 3) := by decide +kernel
theorem dC_encipher_57 : decode mC_encipher.2.1 57 = .ok (.aload_n 0, 1) := by decide +kernel
theorem dC_encipher_58 : decode mC_encipher.2.1 58 = .ok (.iload_n 3, 1) := by decide +kernel
theorem dC_encipher_59 : decode mC_encipher.2.1 59 = .ok (.invokevirtual 56, 3) := by decide +kernel
theorem dC_encipher_62 : decode mC_encipher.2.1 62 = .ok (.iinc 3 1, 3) := by decide +kernel
theorem dC_encipher_65 : decode mC_encipher.2.1 65 = .ok (.goto (-46), 3) := by decide +kernel
theorem dC_encipher_68 : decode mC_encipher.2.1 68 = .ok (.aload_n 0, 1) := by decide +kernel
theorem dC_encipher_69 : decode mC_encipher.2.1 69 = .ok (.getfield 22, 3) := by decide +kernel
theorem dC_encipher_72 : decode mC_encipher.2.1 72 = .ok (.iconst 0, 1) := by decide +kernel
theorem dC_encipher_73 : decode mC_encipher.2.1 73 = .ok (.aload_n 2, 1) := by decide +kernel
theorem dC_encipher_74 : decode mC_encipher.2.1 74 = .ok (.iconst 0, 1) := by decide +kernel
theorem dC_encipher_75 : decode mC_encipher.2.1 75 = .ok (.bipush 16, 2) := by decide +kernel
theorem dC_encipher_77 : decode mC_encipher.2.1 77 = .ok (.invokestatic 42, 3) := by decide +kernel
theorem dC_encipher_80 : decode mC_encipher.2.1 80 = .ok (.return_, 1) := by decide +kernel
theorem dC_addWords_0 : decode mC_addWords.2.1 0 = .ok (.iconst 0, 1) := by decide +kernel
theorem dC_addWords_1 : decode mC_addWords.2.1 1 = .ok (.istore_n 2, 1) := by decide +kernel
theorem dC_addWords_2 : decode mC_addWords.2.1 2 = .ok (.iload_n 2, 1) := by decide +kernel
theorem dC_addWords_3 : decode mC_addWords.2.1 3 = .ok (.bipush 16, 2) := by decide +kernel
theorem dC_addWords_5 : decode mC_addWords.2.1 5 = .ok (.if_icmp .ge 29, 3) := by decide +kernel
theorem dC_addWords_8 : decode mC_addWords.2.1 8 = .ok (.aload_n 0, 1) := by decide +kernel
theorem dC_addWords_9 : decode mC_addWords.2.1 9 = .ok (.getfield 22, 3) := by decide +kernel
theorem dC_addWords_12 : decode mC_addWords.2.1 12 = .ok (.iload_n 2, 1) := by decide +kernel
theorem dC_addWords_13 : decode mC_addWords.2.1 13 = .ok (.dup2, 1) := by decide +kernel
theorem dC_addWords_14 : decode mC_addWords.2.1 14 = .ok (.iaload, 1) := by decide +kernel
theorem dC_addWords_15 : decode mC_addWords.2.1 15 = .ok (.aload_n 0, 1) := by decide +kernel
theorem dC_addWords_16 : decode mC_addWords.2.1 16 = .ok (.getfield 19, 3) := by decide +kernel
theorem dC_addWords_19 : decode mC_addWords.2.1 19 = .ok (.bipush 16, 2) := by decide +kernel
theorem dC_addWords_21 : decode mC_addWords.2.1 21 = .ok (.iload_n 1, 1) := by decide +kernel
theorem dC_addWords_22 : decode mC_addWords.2.1 22 = .ok (.imul, 1) := by decide +kernel
theorem dC_addWords_23 : decode mC_addWords.2.1 23 = .ok (.iload_n 2, 1) := by decide +kernel
theorem dC_addWords_24 : decode mC_addWords.2.1 24 = .ok (.iadd, 1) := by decide +kernel
theorem dC_addWords_25 : decode mC_addWords.2.1 25 = .ok (.iaload, 1) := by decide +kernel
theorem dC_addWords_26 : decode mC_addWords.2.1 26 = .ok (.ixor, 1) := by decide +kernel
theorem dC_addWords_27 : decode mC_addWords.2.1 27 = .ok (.iastore, 1) := by decide +kernel
theorem dC_addWords_28 : decode mC_addWords.2.1 28 = .ok (.iinc 2 1, 3) := by decide +kernel
theorem dC_addWords_31 : decode mC_addWords.2.1 31 = .ok (.goto (-29), 3) := by decide +kernel
theorem dC_addWords_34 : decode mC_addWords.2.1 34 = .ok (.return_, 1) := by decide +kernel
theorem dC_boxAndMove_0 : decode mC_boxAndMove.2.1 0 = .ok (.iconst 0, 1) := by decide +kernel
theorem dC_boxAndMove_1 : decode mC_boxAndMove.2.1 1 = .ok (.istore_n 1, 1) := by decide +kernel
theorem dC_boxAndMove_2 : decode mC_boxAndMove.2.1 2 = .ok (.iload_n 1, 1) := by decide +kernel
theorem dC_boxAndMove_3 : decode mC_boxAndMove.2.1 3 = .ok (.iconst 4, 1) := by decide +kernel
theorem dC_boxAndMove_4 : decode mC_boxAndMove.2.1 4 = .ok (.if_icmp .ge 51, 3) := by decide +kernel
theorem dC_boxAndMove_7 : decode mC_boxAndMove.2.1 7 = .ok (.iconst 0, 1) := by decide +kernel
theorem dC_boxAndMove_8 : decode mC_boxAndMove.2.1 8 = .ok (.istore_n 2, 1) := by decide +kernel
theorem dC_boxAndMove_9 : decode mC_boxAndMove.2.1 9 = .ok (.iload_n 2, 1) := by decide +kernel
theorem dC_boxAndMove_10 : decode mC_boxAndMove.2.1 10 = .ok (.iconst 4, 1) := by decide +kernel
theorem dC_boxAndMove_11 : decode mC_boxAndMove.2.1 11 = .ok (.if_icmp .ge 38, 3) := by decide +kernel
theorem dC_boxAndMove_14 : decode mC_boxAndMove.2.1 14 = .ok (.aload_n 0, 1) := by decide +kernel
theorem dC_boxAndMove_15 : decode mC_boxAndMove.2.1 15 = .ok (.getfield 25, 3) := by decide +kernel
theorem dC_boxAndMove_18 : decode mC_boxAndMove.2.1 18 = .ok (.iconst 4, 1) := by decide +kernel
theorem dC_boxAndMove_19 : decode mC_boxAndMove.2.1 19 = .ok (.iload_n 1, 1) := by decide +kernel
theorem dC_boxAndMove_20 : decode mC_boxAndMove.2.1 20 = .ok (.imul, 1) := by decide +kernel
theorem dC_boxAndMove_21 : decode mC_boxAndMove.2.1 21 = .ok (.iload_n 2, 1) := by decide +kernel
theorem dC_boxAndMove_22 : decode mC_boxAndMove.2.1 22 = .ok (.iadd, 1) := by decide +kernel
theorem dC_boxAndMove_23 : decode mC_boxAndMove.2.1 23 = .ok (.aload_n 0, 1) := by decide +kernel
theorem dC_boxAndMove_24 : decode mC_boxAndMove.2.1 24 = .ok (.getfield 15, 3) := by decide +kernel
theorem dC_boxAndMove_27 : decode mC_boxAndMove.2.1 27 = .ok (.aload_n 0, 1) := by decide +kernel
theorem dC_boxAndMove_28 : decode mC_boxAndMove.2.1 28 = .ok (.getfield 22, 3) := by decide +kernel
theorem dC_boxAndMove_31 : decode mC_boxAndMove.2.1 31 = .ok (.iconst 4, 1) := by decide +kernel
theorem dC_boxAndMove_32 : decode mC_boxAndMove.2.1 32 = .ok (.iload_n 1, 1) := by decide +kernel
theorem dC_boxAndMove_33 : decode mC_boxAndMove.2.1 33 = .ok (.iload_n 2, 1) := by decide +kernel
theorem dC_boxAndMove_34 : decode mC_boxAndMove.2.1 34 = .ok (.iadd, 1) := by decide +kernel
theorem dC_boxAndMove_35 : decode mC_boxAndMove.2.1 35 = .ok (.iconst 4, 1) := by decide +kernel
theorem dC_boxAndMove_36 : decode mC_boxAndMove.2.1 36 = .ok (.irem, 1) := by decide +kernel
theorem dC_boxAndMove_37 : decode mC_boxAndMove.2.1 37 = .ok (.imul, 1) := by decide +kernel
theorem dC_boxAndMove_38 : decode mC_boxAndMove.2.1 38 = .ok (.iload_n 2, 1) := by decide +kernel
theorem dC_boxAndMove_39 : decode mC_boxAndMove.2.1 39 = .ok (.iadd, 1) := by decide +kernel
theorem dC_boxAndMove_40 : decode mC_boxAndMove.2.1 40 = .ok (.iaload, 1) := by decide +kernel
theorem dC_boxAndMove_41 : decode mC_boxAndMove.2.1 41 = .ok (.iaload, 1) := by decide +kernel
theorem dC_boxAndMove_42 : decode mC_boxAndMove.2.1 42 = .ok (.iastore, 1) := by decide +kernel
theorem dC_boxAndMove_43 : decode mC_boxAndMove.2.1 43 = .ok (.iinc 2 1, 3) := by decide +kernel
theorem dC_boxAndMove_46 : decode mC_boxAndMove.2.1 46 = .ok (.goto (-37), 3) := by decide +kernel
theorem dC_boxAndMove_49 : decode mC_boxAndMove.2.1 49 = .ok (.iinc 1 1, 3) := by decide +kernel
theorem dC_boxAndMove_52 : decode mC_boxAndMove.2.1 52 = .ok (.goto (-50), 3) := by decide +kernel
theorem dC_boxAndMove_55 : decode mC_boxAndMove.2.1 55 = .ok (.return_, 1) := by decide +kernel
theorem dC_mix_0 : decode mC_mix.2.1 0 = .ok (.iconst 0, 1) := by decide +kernel
theorem dC_mix_1 : decode mC_mix.2.1 1 = .ok (.istore_n 1, 1) := by decide +kernel
theorem dC_mix_2 : decode mC_mix.2.1 2 = .ok (.iload_n 1, 1) := by decide +kernel
theorem dC_mix_3 : decode mC_mix.2.1 3 = .ok (.iconst 4, 1) := by decide +kernel
theorem dC_mix_4 : decode mC_mix.2.1 4 = .ok (.if_icmp .ge 93, 3) := by decide +kernel
theorem dC_mix_7 : decode mC_mix.2.1 7 = .ok (.iconst 0, 1) := by decide +kernel
theorem dC_mix_8 : decode mC_mix.2.1 8 = .ok (.istore_n 2, 1) := by decide +kernel
theorem dC_mix_9 : decode mC_mix.2.1 9 = .ok (.iload_n 2, 1) := by decide +kernel
theorem dC_mix_10 : decode mC_mix.2.1 10 = .ok (.iconst 4, 1) := by decide +kernel
theorem dC_mix_11 : decode mC_mix.2.1 11 = .ok (.if_icmp .ge 80, 3) := by decide +kernel
theorem dC_mix_14 : decode mC_mix.2.1 14 = .ok (.aload_n 0, 1) := by decide +kernel
theorem dC_mix_15 : decode mC_mix.2.1 15 = .ok (.getfield 22, 3) := by decide +kernel
theorem dC_mix_18 : decode mC_mix.2.1 18 = .ok (.iconst 4, 1) := by decide +kernel
theorem dC_mix_19 : decode mC_mix.2.1 19 = .ok (.iload_n 1, 1) := by decide +kernel
theorem dC_mix_20 : decode mC_mix.2.1 20 = .ok (.imul, 1) := by decide +kernel
theorem dC_mix_21 : decode mC_mix.2.1 21 = .ok (.iload_n 2, 1) := by decide +kernel
theorem dC_mix_22 : decode mC_mix.2.1 22 = .ok (.iadd, 1) := by decide +kernel
theorem dC_mix_23 : decode mC_mix.2.1 23 = .ok (.aload_n 0, 1) := by decide +kernel
theorem dC_mix_24 : decode mC_mix.2.1 24 = .ok (.getfield 25, 3) := by decide +kernel
theorem dC_mix_27 : decode mC_mix.2.1 27 = .ok (.iconst 4, 1) := by decide +kernel
theorem dC_mix_28 : decode mC_mix.2.1 28 = .ok (.iload_n 1, 1) := by decide +kernel
theorem dC_mix_29 : decode mC_mix.2.1 29 = .ok (.imul, 1) := by decide +kernel
theorem dC_mix_30 : decode mC_mix.2.1 30 = .ok (.iload_n 2, 1) := by decide +kernel
theorem dC_mix_31 : decode mC_mix.2.1 31 = .ok (.iadd, 1) := by decide +kernel
theorem dC_mix_32 : decode mC_mix.2.1 32 = .ok (.iaload, 1) := by decide +kernel
theorem dC_mix_33 : decode mC_mix.2.1 33 = .ok (.invokestatic 39, 3) := by decide +kernel
theorem dC_mix_36 : decode mC_mix.2.1 36 = .ok (.aload_n 0, 1) := by decide +kernel
theorem dC_mix_37 : decode mC_mix.2.1 37 = .ok (.getfield 25, 3) := by decide +kernel
theorem dC_mix_40 : decode mC_mix.2.1 40 = .ok (.iconst 4, 1) := by decide +kernel
theorem dC_mix_41 : decode mC_mix.2.1 41 = .ok (.iload_n 1, 1) := by decide +kernel
theorem dC_mix_42 : decode mC_mix.2.1 42 = .ok (.imul, 1) := by decide +kernel
theorem dC_mix_43 : decode mC_mix.2.1 43 = .ok (.iload_n 2, 1) := by decide +kernel
theorem dC_mix_44 : decode mC_mix.2.1 44 = .ok (.iconst 1, 1) := by decide +kernel
theorem dC_mix_45 : decode mC_mix.2.1 45 = .ok (.iadd, 1) := by decide +kernel
theorem dC_mix_46 : decode mC_mix.2.1 46 = .ok (.iconst 4, 1) := by decide +kernel
theorem dC_mix_47 : decode mC_mix.2.1 47 = .ok (.irem, 1) := by decide +kernel
theorem dC_mix_48 : decode mC_mix.2.1 48 = .ok (.iadd, 1) := by decide +kernel
theorem dC_mix_49 : decode mC_mix.2.1 49 = .ok (.iaload, 1) := by decide +kernel
theorem dC_mix_50 : decode mC_mix.2.1 50 = .ok (.invokestatic 28, 3) := by decide +kernel
theorem dC_mix_53 : decode mC_mix.2.1 53 = .ok (.ixor, 1) := by decide +kernel
theorem dC_mix_54 : decode mC_mix.2.1 54 = .ok (.aload_n 0, 1) := by decide +kernel
theorem dC_mix_55 : decode mC_mix.2.1 55 = .ok (.getfield 25, 3) := by decide +kernel
theorem dC_mix_58 : decode mC_mix.2.1 58 = .ok (.iconst 4, 1) := by decide +kernel
theorem dC_mix_59 : decode mC_mix.2.1 59 = .ok (.iload_n 1, 1) := by decide +kernel
theorem dC_mix_60 : decode mC_mix.2.1 60 = .ok (.imul, 1) := by decide +kernel
theorem dC_mix_61 : decode mC_mix.2.1 61 = .ok (.iload_n 2, 1) := by decide +kernel
theorem dC_mix_62 : decode mC_mix.2.1 62 = .ok (.iconst 2, 1) := by decide +kernel
theorem dC_mix_63 : decode mC_mix.2.1 63 = .ok (.iadd, 1) := by decide +kernel
theorem dC_mix_64 : decode mC_mix.2.1 64 = .ok (.iconst 4, 1) := by decide +kernel
theorem dC_mix_65 : decode mC_mix.2.1 65 = .ok (.irem, 1) := by decide +kernel
theorem dC_mix_66 : decode mC_mix.2.1 66 = .ok (.iadd, 1) := by decide +kernel
theorem dC_mix_67 : decode mC_mix.2.1 67 = .ok (.iaload, 1) := by decide +kernel
theorem dC_mix_68 : decode mC_mix.2.1 68 = .ok (.ixor, 1) := by decide +kernel
theorem dC_mix_69 : decode mC_mix.2.1 69 = .ok (.aload_n 0, 1) := by decide +kernel
theorem dC_mix_70 : decode mC_mix.2.1 70 = .ok (.getfield 25, 3) := by decide +kernel
theorem dC_mix_73 : decode mC_mix.2.1 73 = .ok (.iconst 4, 1) := by decide +kernel
theorem dC_mix_74 : decode mC_mix.2.1 74 = .ok (.iload_n 1, 1) := by decide +kernel
theorem dC_mix_75 : decode mC_mix.2.1 75 = .ok (.imul, 1) := by decide +kernel
theorem dC_mix_76 : decode mC_mix.2.1 76 = .ok (.iload_n 2, 1) := by decide +kernel
theorem dC_mix_77 : decode mC_mix.2.1 77 = .ok (.iconst 3, 1) := by decide +kernel
theorem dC_mix_78 : decode mC_mix.2.1 78 = .ok (.iadd, 1) := by decide +kernel
theorem dC_mix_79 : decode mC_mix.2.1 79 = .ok (.iconst 4, 1) := by decide +kernel
theorem dC_mix_80 : decode mC_mix.2.1 80 = .ok (.irem, 1) := by decide +kernel
theorem dC_mix_81 : decode mC_mix.2.1 81 = .ok (.iadd, 1) := by decide +kernel
theorem dC_mix_82 : decode mC_mix.2.1 82 = .ok (.iaload, 1) := by decide +kernel
theorem dC_mix_83 : decode mC_mix.2.1 83 = .ok (.ixor, 1) := by decide +kernel
theorem dC_mix_84 : decode mC_mix.2.1 84 = .ok (.iastore, 1) := by decide +kernel
theorem dC_mix_85 : decode mC_mix.2.1 85 = .ok (.iinc 2 1, 3) := by decide +kernel
theorem dC_mix_88 : decode mC_mix.2.1 88 = .ok (.goto (-79), 3) := by decide +kernel
theorem dC_mix_91 : decode mC_mix.2.1 91 = .ok (.iinc 1 1, 3) := by decide +kernel
theorem dC_mix_94 : decode mC_mix.2.1 94 = .ok (.goto (-92), 3) := by decide +kernel
theorem dC_mix_97 : decode mC_mix.2.1 97 = .ok (.return_, 1) := by decide +kernel
theorem dH_init_0 : decode mH_init.2.1 0 = .ok (.aload_n 0, 1) := by decide +kernel
theorem dH_init_1 : decode mH_init.2.1 1 = .ok (.invokespecial 3, 3) := by decide +kernel
theorem dH_init_4 : decode mH_init.2.1 4 = .ok (.aload_n 0, 1) := by decide +kernel
theorem dH_init_5 : decode mH_init.2.1 5 = .ok (.iload_n 1, 1) := by decide +kernel
theorem dH_init_6 : decode mH_init.2.1 6 = .ok (.putfield 9, 3) := by decide +kernel
theorem dH_init_9 : decode mH_init.2.1 9 = .ok (.aload_n 0, 1) := by decide +kernel
theorem dH_init_10 : decode mH_init.2.1 10 = .ok (.iload_n 1, 1) := by decide +kernel
theorem dH_init_11 : decode mH_init.2.1 11 = .ok (.ifCond .eq 8, 3) := by decide +kernel
theorem dH_init_14 : decode mH_init.2.1 14 = .ok (.bipush 7, 2) := by decide +kernel
theorem dH_init_16 : decode mH_init.2.1 16 = .ok (.goto 4, 3) := by decide +kernel
theorem dH_init_19 : decode mH_init.2.1 19 = .ok (.iconst 0, 1) := by decide +kernel
theorem dH_init_20 : decode mH_init.2.1 20 = .ok (.putfield 15, 3) := by decide +kernel
theorem dH_init_23 : decode mH_init.2.1 23 = .ok (.aload_n 0, 1) := by decide +kernel
theorem dH_init_24 : decode mH_init.2.1 24 = .ok (.iload_n 1, 1) := by decide +kernel
theorem dH_init_25 : decode mH_init.2.1 25 = .ok (.ifCond .eq 7, 3) := by decide +kernel
theorem dH_init_28 : decode mH_init.2.1 28 = .ok (.lconst 0, 1) := by decide +kernel
theorem dH_init_29 : decode mH_init.2.1 29 = .ok (.goto 6, 3) := by decide +kernel
theorem dH_init_32 : decode mH_init.2.1 32 = .ok (.ldc2_w 19, 3) := by decide +kernel
theorem dH_init_35 : decode mH_init.2.1 35 = .ok (.putfield 21, 3) := by decide +kernel
theorem dH_init_38 : decode mH_init.2.1 38 = .ok (.aload_n 0, 1) := by decide +kernel
theorem dH_init_39 : decode mH_init.2.1 39 = .ok (.iload_n 1, 1) := by decide +kernel
theorem dH_init_40 : decode mH_init.2.1 40 = .ok (.ifCond .eq 9, 3) := by decide +kernel
theorem dH_init_43 : decode mH_init.2.1 43 = .ok (.ldc2_w 25, 3) := by decide +kernel
theorem dH_init_46 : decode mH_init.2.1 46 = .ok (.goto 4, 3) := by decide +kernel
theorem dH_init_49 : decode mH_init.2.1 49 = .ok (.lconst 1, 1) := by decide +kernel
theorem dH_init_50 : decode mH_init.2.1 50 = .ok (.putfield 27, 3) := by decide +kernel
theorem dH_init_53 : decode mH_init.2.1 53 = .ok (.aload_n 0, 1) := by decide +kernel
theorem dH_init_54 : decode mH_init.2.1 54 = .ok (.bipush 16, 2) := by decide +kernel
theorem dH_init_56 : decode mH_init.2.1 56 = .ok (.newarray .int, 2) := by decide +kernel
theorem dH_init_58 : decode mH_init.2.1 58 = .ok (.putfield 30, 3) := by decide +kernel
theorem dH_init_61 : decode mH_init.2.1 61 = .ok (.return_, 1) := by decide +kernel
theorem dH_begin_0 : decode mH_begin.2.1 0 = .ok (.aload_n 0, 1) := by decide +kernel
theorem dH_begin_1 : decode mH_begin.2.1 1 = .ok (.aload_n 0, 1) := by decide +kernel
theorem dH_begin_2 : decode mH_begin.2.1 2 = .ok (.aload_n 1, 1) := by decide +kernel
theorem dH_begin_3 : decode mH_begin.2.1 3 = .ok (.bipush 8, 2) := by decide +kernel
theorem dH_begin_5 : decode mH_begin.2.1 5 = .ok (.bipush 16, 2) := by decide +kernel
theorem dH_begin_7 : decode mH_begin.2.1 7 = .ok (.invokevirtual 34, 3) := by decide +kernel
theorem dH_begin_10 : decode mH_begin.2.1 10 = .ok (.putfield 38, 3) := by decide +kernel
theorem dH_begin_13 : decode mH_begin.2.1 13 = .ok (.aload_n 0, 1) := by decide +kernel
theorem dH_begin_14 : decode mH_begin.2.1 14 = .ok (.aload_n 0, 1) := by decide +kernel
theorem dH_begin_15 : decode mH_begin.2.1 15 = .ok (.aload_n 1, 1) := by decide +kernel
theorem dH_begin_16 : decode mH_begin.2.1 16 = .ok (.iconst 0, 1) := by decide +kernel
theorem dH_begin_17 : decode mH_begin.2.1 17 = .ok (.bipush 16, 2) := by decide +kernel
theorem dH_begin_19 : decode mH_begin.2.1 19 = .ok (.invokevirtual 34, 3) := by decide +kernel
theorem dH_begin_22 : decode mH_begin.2.1 22 = .ok (.putfield 41, 3) := by decide +kernel
theorem dH_begin_25 : decode mH_begin.2.1 25 = .ok (.aload_n 0, 1) := by decide +kernel
theorem dH_begin_26 : decode mH_begin.2.1 26 = .ok (.getfield 9, 3) := by decide +kernel
theorem dH_begin_29 : decode mH_begin.2.1 29 = .ok (.ifCond .ne 7, 3) := by decide +kernel
theorem dH_begin_32 : decode mH_begin.2.1 32 = .ok (.aload_n 0, 1) := by decide +kernel
theorem dH_begin_33 : decode mH_begin.2.1 33 = .ok (.invokevirtual 44, 3) := by decide +kernel
theorem dH_begin_36 : decode mH_begin.2.1 36 = .ok (.aload_n 0, 1) := by decide +kernel
theorem dH_begin_37 : decode mH_begin.2.1 37 = .ok (.lconst 0, 1) := by decide +kernel
theorem dH_begin_38 : decode mH_begin.2.1 38 = .ok (.putfield 47, 3) := by decide +kernel
theorem dH_begin_41 : decode mH_begin.2.1 41 = .ok (.aload_n 0, 1) := by decide +kernel
theorem dH_begin_42 : decode mH_begin.2.1 42 = .ok (.lconst 0, 1) := by decide +kernel
theorem dH_begin_43 : decode mH_begin.2.1 43 = .ok (.putfield 50, 3) := by decide +kernel
theorem dH_begin_46 : decode mH_begin.2.1 46 = .ok (.return_, 1) := by decide +kernel
theorem dH_putBesidesIntoKey_0 : decode mH_putBesidesIntoKey.2.1 0 = .ok (.aload_n 0, 1) := by decide +kernel
theorem dH_putBesidesIntoKey_1 : decode mH_putBesidesIntoKey.2.1 1 = .ok (.ldc2_w 53, 3) := by decide +kernel
theorem dH_putBesidesIntoKey_4 : decode mH_putBesidesIntoKey.2.1 4 = .ok (.putfield 47, 3) := by decide +kernel
theorem dH_putBesidesIntoKey_7 : decode mH_putBesidesIntoKey.2.1 7 = .ok (.aload_n 0, 1) := by decide +kernel
theorem dH_putBesidesIntoKey_8 : decode mH_putBesidesIntoKey.2.1 8 = .ok (.lconst 1, 1) := by decide +kernel
theorem dH_putBesidesIntoKey_9 : decode mH_putBesidesIntoKey.2.1 9 = .ok (.putfield 50, 3) := by decide +kernel
theorem dH_putBesidesIntoKey_12 : decode mH_putBesidesIntoKey.2.1 12 = .ok (.aload_n 0, 1) := by decide +kernel
theorem dH_putBesidesIntoKey_13 : decode mH_putBesidesIntoKey.2.1 13 = .ok (.invokevirtual 55, 3) := by decide +kernel
theorem dH_putBesidesIntoKey_16 : decode mH_putBesidesIntoKey.2.1 16 = .ok (.aload_n 0, 1) := by decide +kernel
theorem dH_putBesidesIntoKey_17 : decode mH_putBesidesIntoKey.2.1 17 = .ok (.aload_n 0, 1) := by decide +kernel
theorem dH_putBesidesIntoKey_18 : decode mH_putBesidesIntoKey.2.1 18 = .ok (.getfield 47, 3) := by decide +kernel
theorem dH_putBesidesIntoKey_21 : decode mH_putBesidesIntoKey.2.1 21 = .ok (.putfield 38, 3) := by decide +kernel
theorem dH_putBesidesIntoKey_24 : decode mH_putBesidesIntoKey.2.1 24 = .ok (.aload_n 0, 1) := by decide +kernel
theorem dH_putBesidesIntoKey_25 : decode mH_putBesidesIntoKey.2.1 25 = .ok (.aload_n 0, 1) := by decide +kernel
theorem dH_putBesidesIntoKey_26 : decode mH_putBesidesIntoKey.2.1 26 = .ok (.getfield 50, 3) := by decide +kernel
theorem dH_putBesidesIntoKey_29 : decode mH_putBesidesIntoKey.2.1 29 = .ok (.putfield 41, 3) := by decide +kernel
theorem dH_putBesidesIntoKey_32 : decode mH_putBesidesIntoKey.2.1 32 = .ok (.return_, 1) := by decide +kernel
theorem dH_add_0 : decode mH_add.2.1 0 = .ok (.iconst 0, 1) := by decide +kernel
theorem dH_add_1 : decode mH_add.2.1 1 = .ok (.istore_n 3, 1) := by decide +kernel
theorem dH_add_2 : decode mH_add.2.1 2 = .ok (.iload_n 3, 1) := by decide +kernel
theorem dH_add_3 : decode mH_add.2.1 3 = .ok (.iload_n 2, 1) := by decide +kernel
theorem dH_add_4 : decode mH_add.2.1 4 = .ok (.if_icmp .ge 48, 3) := by decide +kernel
theorem dH_add_7 : decode mH_add.2.1 7 = .ok (.aload_n 0, 1) := by decide +kernel
theorem dH_add_8 : decode mH_add.2.1 8 = .ok (.dup, 1) := by decide +kernel
theorem dH_add_9 : decode mH_add.2.1 9 = .ok (.getfield 50, 3) := by decide +kernel
theorem dH_add_12 : decode mH_add.2.1 12 = .ok (.aload_n 0, 1) := by decide +kernel
theorem dH_add_13 : decode mH_add.2.1 13 = .ok (.aload_n 1, 1) := by decide +kernel
theorem dH_add_14 : decode mH_add.2.1 14 = .ok (.iload_n 3, 1) := by decide +kernel
theorem dH_add_15 : decode mH_add.2.1 15 = .ok (.iload_n 2, 1) := by decide +kernel
theorem dH_add_16 : decode mH_add.2.1 16 = .ok (.invokevirtual 34, 3) := by decide +kernel
theorem dH_add_19 : decode mH_add.2.1 19 = .ok (.lxor, 1) := by decide +kernel
theorem dH_add_20 : decode mH_add.2.1 20 = .ok (.putfield 50, 3) := by decide +kernel
theorem dH_add_23 : decode mH_add.2.1 23 = .ok (.aload_n 0, 1) := by decide +kernel
theorem dH_add_24 : decode mH_add.2.1 24 = .ok (.dup, 1) := by decide +kernel
theorem dH_add_25 : decode mH_add.2.1 25 = .ok (.getfield 47, 3) := by decide +kernel
theorem dH_add_28 : decode mH_add.2.1 28 = .ok (.aload_n 0, 1) := by decide +kernel
theorem dH_add_29 : decode mH_add.2.1 29 = .ok (.aload_n 1, 1) := by decide +kernel
theorem dH_add_30 : decode mH_add.2.1 30 = .ok (.iload_n 3, 1) := by decide +kernel
theorem dH_add_31 : decode mH_add.2.1 31 = .ok (.bipush 8, 2) := by decide +kernel
theorem dH_add_33 : decode mH_add.2.1 33 = .ok (.iadd, 1) := by decide +kernel
theorem dH_add_34 : decode mH_add.2.1 34 = .ok (.iload_n 2, 1) := by decide +kernel
theorem dH_add_35 : decode mH_add.2.1 35 = .ok (.invokevirtual 34, 3) := by decide +kernel
theorem dH_add_38 : decode mH_add.2.1 38 = .ok (.lxor, 1) := by decide +kernel
theorem dH_add_39 : decode mH_add.2.1 39 = .ok (.putfield 47, 3) := by decide +kernel
theorem dH_add_42 : decode mH_add.2.1 42 = .ok (.aload_n 0, 1) := by decide +kernel
theorem dH_add_43 : decode mH_add.2.1 43 = .ok (.invokevirtual 55, 3) := by decide +kernel
theorem dH_add_46 : decode mH_add.2.1 46 = .ok (.iinc 3 16, 3) := by decide +kernel
theorem dH_add_49 : decode mH_add.2.1 49 = .ok (.goto (-47), 3) := by decide +kernel
theorem dH_add_52 : decode mH_add.2.1 52 = .ok (.return_, 1) := by decide +kernel
theorem dH_addLengths_0 : decode mH_addLengths.2.1 0 = .ok (.aload_n 0, 1) := by decide +kernel
theorem dH_addLengths_1 : decode mH_addLengths.2.1 1 = .ok (.iconst 0, 1) := by decide +kernel
theorem dH_addLengths_2 : decode mH_addLengths.2.1 2 = .ok (.ldc2_w 58, 3) := by decide +kernel
theorem dH_addLengths_5 : decode mH_addLengths.2.1 5 = .ok (.iload_n 1, 1) := by decide +kernel
theorem dH_addLengths_6 : decode mH_addLengths.2.1 6 = .ok (.i2l, 1) := by decide +kernel
theorem dH_addLengths_7 : decode mH_addLengths.2.1 7 = .ok (.lmul, 1) := by decide +kernel
theorem dH_addLengths_8 : decode mH_addLengths.2.1 8 = .ok (.invokevirtual 60, 3) := by decide +kernel
theorem dH_addLengths_11 : decode mH_addLengths.2.1 11 = .ok (.aload_n 0, 1) := by decide +kernel
theorem dH_addLengths_12 : decode mH_addLengths.2.1 12 = .ok (.bipush 8, 2) := by decide +kernel
theorem dH_addLengths_14 : decode mH_addLengths.2.1 14 = .ok (.ldc2_w 58, 3) := by decide +kernel
theorem dH_addLengths_17 : decode mH_addLengths.2.1 17 = .ok (.iload_n 2, 1) := by decide +kernel
theorem dH_addLengths_18 : decode mH_addLengths.2.1 18 = .ok (.i2l, 1) := by decide +kernel
theorem dH_addLengths_19 : decode mH_addLengths.2.1 19 = .ok (.lmul, 1) := by decide +kernel
theorem dH_addLengths_20 : decode mH_addLengths.2.1 20 = .ok (.invokevirtual 60, 3) := by decide +kernel
theorem dH_addLengths_23 : decode mH_addLengths.2.1 23 = .ok (.aload_n 0, 1) := by decide +kernel
theorem dH_addLengths_24 : decode mH_addLengths.2.1 24 = .ok (.aload_n 0, 1) := by decide +kernel
theorem dH_addLengths_25 : decode mH_addLengths.2.1 25 = .ok (.getfield 30, 3) := by decide +kernel
theorem dH_addLengths_28 : decode mH_addLengths.2.1 28 = .ok (.bipush 16, 2) := by decide +kernel
theorem dH_addLengths_30 : decode mH_addLengths.2.1 30 = .ok (.invokevirtual 64, 3) := by decide +kernel
theorem dH_addLengths_33 : decode mH_addLengths.2.1 33 = .ok (.return_, 1) := by decide +kernel
theorem dH_putLength_0 : decode mH_putLength.2.1 0 = .ok (.iconst 0, 1) := by decide +kernel
theorem dH_putLength_1 : decode mH_putLength.2.1 1 = .ok (.istore 4, 2) := by decide +kernel
theorem dH_putLength_3 : decode mH_putLength.2.1 3 = .ok (.iload 4, 2) := by decide +kernel
theorem dH_putLength_5 : decode mH_putLength.2.1 5 = .ok (.bipush 8, 2) := by decide +kernel
theorem dH_putLength_7 : decode mH_putLength.2.1 7 = .ok (.if_icmp .ge 49, 3) := by decide +kernel
theorem dH_putLength_10 : decode mH_putLength.2.1 10 = .ok (.aload_n 0, 1) := by decide +kernel
theorem dH_putLength_11 : decode mH_putLength.2.1 11 = .ok (.getfield 9, 3) := by decide +kernel
theorem dH_putLength_14 : decode mH_putLength.2.1 14 = .ok (.ifCond .eq 11, 3) := by decide +kernel
theorem dH_putLength_17 : decode mH_putLength.2.1 17 = .ok (.bipush 7, 2) := by decide +kernel
theorem dH_putLength_19 : decode mH_putLength.2.1 19 = .ok (.iload 4, 2) := by decide +kernel
theorem dH_putLength_21 : decode mH_putLength.2.1 21 = .ok (.isub, 1) := by decide +kernel
theorem dH_putLength_22 : decode mH_putLength.2.1 22 = .ok (.goto 5, 3) := by decide +kernel
theorem dH_putLength_25 : decode mH_putLength.2.1 25 = .ok (.iload 4, 2) := by decide +kernel
theorem dH_putLength_27 : decode mH_putLength.2.1 27 = .ok (.istore 5, 2) := by decide +kernel
theorem dH_putLength_29 : decode mH_putLength.2.1 29 = .ok (.aload_n 0, 1) := by decide +kernel
theorem dH_putLength_30 : decode mH_putLength.2.1 30 = .ok (.getfield 30, 3) := by decide +kernel
theorem dH_putLength_33 : decode mH_putLength.2.1 33 = .ok (.iload_n 1, 1) := by decide +kernel
theorem dH_putLength_34 : decode mH_putLength.2.1 34 = .ok (.iload 5, 2) := by decide +kernel
theorem dH_putLength_36 : decode mH_putLength.2.1 36 = .ok (.iadd, 1) := by decide +kernel
theorem dH_putLength_37 : decode mH_putLength.2.1 37 = .ok (.lload_n 2, 1) := by decide +kernel
theorem dH_putLength_38 : decode mH_putLength.2.1 38 = .ok (.bipush 8, 2) := by decide +kernel
theorem dH_putLength_40 : decode mH_putLength.2.1 40 = .ok (.iload 4, 2) := by decide +kernel
theorem dH_putLength_42 : decode mH_putLength.2.1 42 = .ok (.imul, 1) := by decide +kernel
theorem dH_putLength_43 : decode mH_putLength.2.1 43 = .ok (.lushr, 1) := by decide +kernel
theorem dH_putLength_44 : decode mH_putLength.2.1 44 = .ok (.l2i, 1) := by decide +kernel
theorem dH_putLength_45 : decode mH_putLength.2.1 45 = .ok (.sipush 255, 3) := by decide +kernel
theorem dH_putLength_48 : decode mH_putLength.2.1 48 = .ok (.iand, 1) := by decide +kernel
theorem dH_putLength_49 : decode mH_putLength.2.1 49 = .ok (.iastore, 1) := by decide +kernel
theorem dH_putLength_50 : decode mH_putLength.2.1 50 = .ok (.iinc 4 1, 3) := by decide +kernel
theorem dH_putLength_53 : decode mH_putLength.2.1 53 = .ok (.goto (-50), 3) := by decide +kernel
theorem dH_putLength_56 : decode mH_putLength.2.1 56 = .ok (.return_, 1) := by decide +kernel
theorem dH_write_0 : decode mH_write.2.1 0 = .ok (.aload_n 0, 1) := by decide +kernel
theorem dH_write_1 : decode mH_write.2.1 1 = .ok (.aload_n 0, 1) := by decide +kernel
theorem dH_write_2 : decode mH_write.2.1 2 = .ok (.getfield 50, 3) := by decide +kernel
theorem dH_write_5 : decode mH_write.2.1 5 = .ok (.aload_n 1, 1) := by decide +kernel
theorem dH_write_6 : decode mH_write.2.1 6 = .ok (.iconst 0, 1) := by decide +kernel
theorem dH_write_7 : decode mH_write.2.1 7 = .ok (.invokevirtual 68, 3) := by decide +kernel
theorem dH_write_10 : decode mH_write.2.1 10 = .ok (.aload_n 0, 1) := by decide +kernel
theorem dH_write_11 : decode mH_write.2.1 11 = .ok (.aload_n 0, 1) := by decide +kernel
theorem dH_write_12 : decode mH_write.2.1 12 = .ok (.getfield 47, 3) := by decide +kernel
theorem dH_write_15 : decode mH_write.2.1 15 = .ok (.aload_n 1, 1) := by decide +kernel
theorem dH_write_16 : decode mH_write.2.1 16 = .ok (.bipush 8, 2) := by decide +kernel
theorem dH_write_18 : decode mH_write.2.1 18 = .ok (.invokevirtual 68, 3) := by decide +kernel
theorem dH_write_21 : decode mH_write.2.1 21 = .ok (.return_, 1) := by decide +kernel
theorem dH_readHalf_0 : decode mH_readHalf.2.1 0 = .ok (.lconst 0, 1) := by decide +kernel
theorem dH_readHalf_1 : decode mH_readHalf.2.1 1 = .ok (.lstore 4, 2) := by decide +kernel
theorem dH_readHalf_3 : decode mH_readHalf.2.1 3 = .ok (.iconst 0, 1) := by decide +kernel
theorem dH_readHalf_4 : decode mH_readHalf.2.1 4 = .ok (.istore 6, 2) := by decide +kernel
theorem dH_readHalf_6 : decode mH_readHalf.2.1 6 = .ok (.iload 6, 2) := by decide +kernel
theorem dH_readHalf_8 : decode mH_readHalf.2.1 8 = .ok (.bipush 64, 2) := by decide +kernel
theorem dH_readHalf_10 : decode mH_readHalf.2.1 10 = .ok (.if_icmp .ge 55, 3) := by decide +kernel
theorem dH_readHalf_13 : decode mH_readHalf.2.1 13 = .ok (.iload_n 2, 1) := by decide +kernel
theorem dH_readHalf_14 : decode mH_readHalf.2.1 14 = .ok (.iload 6, 2) := by decide +kernel
theorem dH_readHalf_16 : decode mH_readHalf.2.1 16 = .ok (.bipush 8, 2) := by decide +kernel
theorem dH_readHalf_18 : decode mH_readHalf.2.1 18 = .ok (.idiv, 1) := by decide +kernel
theorem dH_readHalf_19 : decode mH_readHalf.2.1 19 = .ok (.iadd, 1) := by decide +kernel
theorem dH_readHalf_20 : decode mH_readHalf.2.1 20 = .ok (.iload_n 3, 1) := by decide +kernel
theorem dH_readHalf_21 : decode mH_readHalf.2.1 21 = .ok (.if_icmp .ge 44, 3) := by decide +kernel
theorem dH_readHalf_24 : decode mH_readHalf.2.1 24 = .ok (.aload_n 1, 1) := by decide +kernel
theorem dH_readHalf_25 : decode mH_readHalf.2.1 25 = .ok (.iload_n 2, 1) := by decide +kernel
theorem dH_readHalf_26 : decode mH_readHalf.2.1 26 = .ok (.iload 6, 2) := by decide +kernel
theorem dH_readHalf_28 : decode mH_readHalf.2.1 28 = .ok (.bipush 8, 2) := by decide +kernel
theorem dH_readHalf_30 : decode mH_readHalf.2.1 30 = .ok (.idiv, 1) := by decide +kernel
theorem dH_readHalf_31 : decode mH_readHalf.2.1 31 = .ok (.iadd, 1) := by decide +kernel
theorem dH_readHalf_32 : decode mH_readHalf.2.1 32 = .ok (.iaload, 1) := by decide +kernel
theorem dH_readHalf_33 : decode mH_readHalf.2.1 33 = .ok (.iload 6, 2) := by decide +kernel
theorem dH_readHalf_35 : decode mH_readHalf.2.1 35 = .ok (.bipush 8, 2) := by decide +kernel
theorem dH_readHalf_37 : decode mH_readHalf.2.1 37 = .ok (.irem, 1) := by decide +kernel
theorem dH_readHalf_38 : decode mH_readHalf.2.1 38 = .ok (.aload_n 0, 1) := by decide +kernel
theorem dH_readHalf_39 : decode mH_readHalf.2.1 39 = .ok (.getfield 15, 3) := by decide +kernel
theorem dH_readHalf_42 : decode mH_readHalf.2.1 42 = .ok (.ixor, 1) := by decide +kernel
theorem dH_readHalf_43 : decode mH_readHalf.2.1 43 = .ok (.ishr, 1) := by decide +kernel
theorem dH_readHalf_44 : decode mH_readHalf.2.1 44 = .ok (.iconst 1, 1) := by decide +kernel
theorem dH_readHalf_45 : decode mH_readHalf.2.1 45 = .ok (.iand, 1) := by decide +kernel
theorem dH_readHalf_46 : decode mH_readHalf.2.1 46 = .ok (.i2l, 1) := by decide +kernel
theorem dH_readHalf_47 : decode mH_readHalf.2.1 47 = .ok (.lstore 7, 2) := by decide +kernel
theorem dH_readHalf_49 : decode mH_readHalf.2.1 49 = .ok (.lload 4, 2) := by decide +kernel
theorem dH_readHalf_51 : decode mH_readHalf.2.1 51 = .ok (.lload 7, 2) := by decide +kernel
theorem dH_readHalf_53 : decode mH_readHalf.2.1 53 = .ok (.iload 6, 2) := by decide +kernel
theorem dH_readHalf_55 : decode mH_readHalf.2.1 55 = .ok (.lshl, 1) := by decide +kernel
theorem dH_readHalf_56 : decode mH_readHalf.2.1 56 = .ok (.lor, 1) := by decide +kernel
theorem dH_readHalf_57 : decode mH_readHalf.2.1 57 = .ok (.lstore 4, 2) := by decide +kernel
theorem dH_readHalf_59 : decode mH_readHalf.2.1 59 = .ok (.iinc 6 1, 3) := by decide +kernel
theorem dH_readHalf_62 : decode mH_readHalf.2.1 62 = .ok (.goto (-56), 3) := by decide +kernel
theorem dH_readHalf_65 : decode mH_readHalf.2.1 65 = .ok (.lload 4, 2) := by decide +kernel
theorem dH_readHalf_67 : decode mH_readHalf.2.1 67 = .ok (.lreturn, 1) := by decide +kernel
theorem dH_writeHalf_0 : decode mH_writeHalf.2.1 0 = .ok (.iconst 0, 1) := by decide +kernel
theorem dH_writeHalf_1 : decode mH_writeHalf.2.1 1 = .ok (.istore 5, 2) := by decide +kernel
theorem dH_writeHalf_3 : decode mH_writeHalf.2.1 3 = .ok (.iload 5, 2) := by decide +kernel
theorem dH_writeHalf_5 : decode mH_writeHalf.2.1 5 = .ok (.bipush 8, 2) := by decide +kernel
theorem dH_writeHalf_7 : decode mH_writeHalf.2.1 7 = .ok (.if_icmp .ge 17, 3) := by decide +kernel
theorem dH_writeHalf_10 : decode mH_writeHalf.2.1 10 = .ok (.aload_n 3, 1) := by decide +kernel
theorem dH_writeHalf_11 : decode mH_writeHalf.2.1 11 = .ok (.iload 4, 2) := by decide +kernel
theorem dH_writeHalf_13 : decode mH_writeHalf.2.1 13 = .ok (.iload 5, 2) := by decide +kernel
theorem dH_writeHalf_15 : decode mH_writeHalf.2.1 15 = .ok (.iadd, 1) := by decide +kernel
theorem dH_writeHalf_16 : decode mH_writeHalf.2.1 16 = .ok (.iconst 0, 1) := by decide +kernel
theorem dH_writeHalf_17 : decode mH_writeHalf.2.1 17 = .ok (.iastore, 1) := by decide +kernel
theorem dH_writeHalf_18 : decode mH_writeHalf.2.1 18 = .ok (.iinc 5 1, 3) := by decide +kernel
theorem dH_writeHalf_21 : decode mH_writeHalf.2.1 21 = .ok (.goto (-18), 3) := by decide +kernel
theorem dH_writeHalf_24 : decode mH_writeHalf.2.1 24 = .ok (.iconst 0, 1) := by decide +kernel
theorem dH_writeHalf_25 : decode mH_writeHalf.2.1 25 = .ok (.istore 5, 2) := by decide +kernel
theorem dH_writeHalf_27 : decode mH_writeHalf.2.1 27 = .ok (.iload 5, 2) := by decide +kernel
theorem dH_writeHalf_29 : decode mH_writeHalf.2.1 29 = .ok (.bipush 64, 2) := by decide +kernel
theorem dH_writeHalf_31 : decode mH_writeHalf.2.1 31 = .ok (.if_icmp .ge 44, 3) := by decide +kernel
theorem dH_writeHalf_34 : decode mH_writeHalf.2.1 34 = .ok (.lload_n 1, 1) := by decide +kernel
theorem dH_writeHalf_35 : decode mH_writeHalf.2.1 35 = .ok (.iload 5, 2) := by decide +kernel
theorem dH_writeHalf_37 : decode mH_writeHalf.2.1 37 = .ok (.lushr, 1) := by decide +kernel
theorem dH_writeHalf_38 : decode mH_writeHalf.2.1 38 = .ok (.l2i, 1) := by decide +kernel
theorem dH_writeHalf_39 : decode mH_writeHalf.2.1 39 = .ok (.iconst 1, 1) := by decide +kernel
theorem dH_writeHalf_40 : decode mH_writeHalf.2.1 40 = .ok (.iand, 1) := by decide +kernel
theorem dH_writeHalf_41 : decode mH_writeHalf.2.1 41 = .ok (.istore 6, 2) := by decide +kernel
theorem dH_writeHalf_43 : decode mH_writeHalf.2.1 43 = .ok (.aload_n 3, 1) := by decide +kernel
theorem dH_writeHalf_44 : decode mH_writeHalf.2.1 44 = .ok (.iload 4, 2) := by decide +kernel
theorem dH_writeHalf_46 : decode mH_writeHalf.2.1 46 = .ok (.iload 5, 2) := by decide +kernel
theorem dH_writeHalf_48 : decode mH_writeHalf.2.1 48 = .ok (.bipush 8, 2) := by decide +kernel
theorem dH_writeHalf_50 : decode mH_writeHalf.2.1 50 = .ok (.idiv, 1) := by decide +kernel
theorem dH_writeHalf_51 : decode mH_writeHalf.2.1 51 = .ok (.iadd, 1) := by decide +kernel
theorem dH_writeHalf_52 : decode mH_writeHalf.2.1 52 = .ok (.dup2, 1) := by decide +kernel
theorem dH_writeHalf_53 : decode mH_writeHalf.2.1 53 = .ok (.iaload, 1) := by decide +kernel
theorem dH_writeHalf_54 : decode mH_writeHalf.2.1 54 = .ok (.iload 6, 2) := by decide +kernel
theorem dH_writeHalf_56 : decode mH_writeHalf.2.1 56 = .ok (.iload 5, 2) := by decide +kernel
theorem dH_writeHalf_58 : decode mH_writeHalf.2.1 58 = .ok (.bipush 8, 2) := by decide +kernel
theorem dH_writeHalf_60 : decode mH_writeHalf.2.1 60 = .ok (.irem, 1) := by decide +kernel
theorem dH_writeHalf_61 : decode mH_writeHalf.2.1 61 = .ok (.aload_n 0, 1) := by decide +kernel
theorem dH_writeHalf_62 : decode mH_writeHalf.2.1 62 = .ok (.getfield 15, 3) := by decide +kernel
theorem dH_writeHalf_65 : decode mH_writeHalf.2.1 65 = .ok (.ixor, 1) := by decide +kernel
theorem dH_writeHalf_66 : decode mH_writeHalf.2.1 66 = .ok (.ishl, 1) := by decide +kernel
theorem dH_writeHalf_67 : decode mH_writeHalf.2.1 67 = .ok (.ior, 1) := by decide +kernel
theorem dH_writeHalf_68 : decode mH_writeHalf.2.1 68 = .ok (.iastore, 1) := by decide +kernel
theorem dH_writeHalf_69 : decode mH_writeHalf.2.1 69 = .ok (.iinc 5 1, 3) := by decide +kernel
theorem dH_writeHalf_72 : decode mH_writeHalf.2.1 72 = .ok (.goto (-45), 3) := by decide +kernel
theorem dH_writeHalf_75 : decode mH_writeHalf.2.1 75 = .ok (.return_, 1) := by decide +kernel
theorem dH_multiplySumByKey_0 : decode mH_multiplySumByKey.2.1 0 = .ok (.aload_n 0, 1) := by decide +kernel
theorem dH_multiplySumByKey_1 : decode mH_multiplySumByKey.2.1 1 = .ok (.getfield 38, 3) := by decide +kernel
theorem dH_multiplySumByKey_4 : decode mH_multiplySumByKey.2.1 4 = .ok (.lstore_n 1, 1) := by decide +kernel
theorem dH_multiplySumByKey_5 : decode mH_multiplySumByKey.2.1 5 = .ok (.aload_n 0, 1) := by decide +kernel
theorem dH_multiplySumByKey_6 : decode mH_multiplySumByKey.2.1 6 = .ok (.getfield 41, 3) := by decide +kernel
theorem dH_multiplySumByKey_9 : decode mH_multiplySumByKey.2.1 9 = .ok (.lstore_n 3, 1) := by decide +kernel
theorem dH_multiplySumByKey_10 : decode mH_multiplySumByKey.2.1 10 = .ok (.lconst 0, 1) := by decide +kernel
theorem dH_multiplySumByKey_11 : decode mH_multiplySumByKey.2.1 11 = .ok (.lstore 5, 2) := by decide +kernel
theorem dH_multiplySumByKey_13 : decode mH_multiplySumByKey.2.1 13 = .ok (.lconst 0, 1) := by decide +kernel
theorem dH_multiplySumByKey_14 : decode mH_multiplySumByKey.2.1 14 = .ok (.lstore 7, 2) := by decide +kernel
theorem dH_multiplySumByKey_16 : decode mH_multiplySumByKey.2.1 16 = .ok (.iconst 0, 1) := by decide +kernel
theorem dH_multiplySumByKey_17 : decode mH_multiplySumByKey.2.1 17 = .ok (.istore 9, 2) := by decide +kernel
theorem dH_multiplySumByKey_19 : decode mH_multiplySumByKey.2.1 19 = .ok (.iload 9, 2) := by decide +kernel
theorem dH_multiplySumByKey_21 : decode mH_multiplySumByKey.2.1 21 = .ok (.sipush 128, 3) := by decide +kernel
theorem dH_multiplySumByKey_24 : decode mH_multiplySumByKey.2.1 24 = .ok (.if_icmp .ge 101, 3) := by decide +kernel
theorem dH_multiplySumByKey_27 : decode mH_multiplySumByKey.2.1 27 = .ok (.iload 9, 2) := by decide +kernel
theorem dH_multiplySumByKey_29 : decode mH_multiplySumByKey.2.1 29 = .ok (.bipush 64, 2) := by decide +kernel
theorem dH_multiplySumByKey_31 : decode mH_multiplySumByKey.2.1 31 = .ok (.if_icmp .ge 10, 3) := by decide +kernel
theorem dH_multiplySumByKey_34 : decode mH_multiplySumByKey.2.1 34 = .ok (.aload_n 0, 1) := by decide +kernel
theorem dH_multiplySumByKey_35 : decode mH_multiplySumByKey.2.1 35 = .ok (.getfield 50, 3) := by decide +kernel
theorem dH_multiplySumByKey_38 : decode mH_multiplySumByKey.2.1 38 = .ok (.goto 7, 3) := by decide +kernel
theorem dH_multiplySumByKey_41 : decode mH_multiplySumByKey.2.1 41 = .ok (.aload_n 0, 1) := by decide +kernel
theorem dH_multiplySumByKey_42 : decode mH_multiplySumByKey.2.1 42 = .ok (.getfield 47, 3) := by decide +kernel
theorem dH_multiplySumByKey_45 : decode mH_multiplySumByKey.2.1 45 = .ok (.lstore 10, 2) := by decide +kernel
theorem dH_multiplySumByKey_47 : decode mH_multiplySumByKey.2.1 47 = .ok (.lload 10, 2) := by decide +kernel
theorem dH_multiplySumByKey_49 : decode mH_multiplySumByKey.2.1 49 = .ok (.iload 9, 2) := by decide +kernel
theorem dH_multiplySumByKey_51 : decode mH_multiplySumByKey.2.1 51 = .ok (.bipush 64, 2) := by decide +kernel
theorem dH_multiplySumByKey_53 : decode mH_multiplySumByKey.2.1 53 = .ok (.irem, 1) := by decide +kernel
theorem dH_multiplySumByKey_54 : decode mH_multiplySumByKey.2.1 54 = .ok (.lushr, 1) := by decide +kernel
theorem dH_multiplySumByKey_55 : decode mH_multiplySumByKey.2.1 55 = .ok (.lconst 1, 1) := by decide +kernel
theorem dH_multiplySumByKey_56 : decode mH_multiplySumByKey.2.1 56 = .ok (.land, 1) := by decide +kernel
theorem dH_multiplySumByKey_57 : decode mH_multiplySumByKey.2.1 57 = .ok (.lconst 0, 1) := by decide +kernel
theorem dH_multiplySumByKey_58 : decode mH_multiplySumByKey.2.1 58 = .ok (.lcmp, 1) := by decide +kernel
theorem dH_multiplySumByKey_59 : decode mH_multiplySumByKey.2.1 59 = .ok (.ifCond .eq 15, 3) := by decide +kernel
theorem dH_multiplySumByKey_62 : decode mH_multiplySumByKey.2.1 62 = .ok (.lload 5, 2) := by decide +kernel
theorem dH_multiplySumByKey_64 : decode mH_multiplySumByKey.2.1 64 = .ok (.lload_n 1, 1) := by decide +kernel
theorem dH_multiplySumByKey_65 : decode mH_multiplySumByKey.2.1 65 = .ok (.lxor, 1) := by decide +kernel
theorem dH_multiplySumByKey_66 : decode mH_multiplySumByKey.2.1 66 = .ok (.lstore 5, 2) := by decide +kernel
theorem dH_multiplySumByKey_68 : decode mH_multiplySumByKey.2.1 68 = .ok (.lload 7, 2) := by decide +kernel
theorem dH_multiplySumByKey_70 : decode mH_multiplySumByKey.2.1 70 = .ok (.lload_n 3, 1) := by decide +kernel
theorem dH_multiplySumByKey_71 : decode mH_multiplySumByKey.2.1 71 = .ok (.lxor, 1) := by decide +kernel
theorem dH_multiplySumByKey_72 : decode mH_multiplySumByKey.2.1 72 = .ok (.lstore 7, 2) := by decide +kernel
theorem dH_multiplySumByKey_74 : decode mH_multiplySumByKey.2.1 74 = .ok (.lload_n 1, 1) := by decide +kernel
theorem dH_multiplySumByKey_75 : decode mH_multiplySumByKey.2.1 75 = .ok (.lconst 0, 1) := by decide +kernel
theorem dH_multiplySumByKey_76 : decode mH_multiplySumByKey.2.1 76 = .ok (.lcmp, 1) := by decide +kernel
theorem dH_multiplySumByKey_77 : decode mH_multiplySumByKey.2.1 77 = .ok (.ifCond .ge 7, 3) := by decide +kernel
theorem dH_multiplySumByKey_80 : decode mH_multiplySumByKey.2.1 80 = .ok (.iconst 1, 1) := by decide +kernel
theorem dH_multiplySumByKey_81 : decode mH_multiplySumByKey.2.1 81 = .ok (.goto 4, 3) := by decide +kernel
theorem dH_multiplySumByKey_84 : decode mH_multiplySumByKey.2.1 84 = .ok (.iconst 0, 1) := by decide +kernel
theorem dH_multiplySumByKey_85 : decode mH_multiplySumByKey.2.1 85 = .ok (.istore 12, 2) := by decide +kernel
theorem dH_multiplySumByKey_87 : decode mH_multiplySumByKey.2.1 87 = .ok (.lload_n 1, 1) := by decide +kernel
theorem dH_multiplySumByKey_88 : decode mH_multiplySumByKey.2.1 88 = .ok (.iconst 1, 1) := by decide +kernel
theorem dH_multiplySumByKey_89 : decode mH_multiplySumByKey.2.1 89 = .ok (.lshl, 1) := by decide +kernel
theorem dH_multiplySumByKey_90 : decode mH_multiplySumByKey.2.1 90 = .ok (.lload_n 3, 1) := by decide +kernel
theorem dH_multiplySumByKey_91 : decode mH_multiplySumByKey.2.1 91 = .ok (.bipush 63, 2) := by decide +kernel
theorem dH_multiplySumByKey_93 : decode mH_multiplySumByKey.2.1 93 = .ok (.lushr, 1) := by decide +kernel
theorem dH_multiplySumByKey_94 : decode mH_multiplySumByKey.2.1 94 = .ok (.lor, 1) := by decide +kernel
theorem dH_multiplySumByKey_95 : decode mH_multiplySumByKey.2.1 95 = .ok (.lstore_n 1, 1) := by decide +kernel
theorem dH_multiplySumByKey_96 : decode mH_multiplySumByKey.2.1 96 = .ok (.lload_n 3, 1) := by decide +kernel
theorem dH_multiplySumByKey_97 : decode mH_multiplySumByKey.2.1 97 = .ok (.iconst 1, 1) := by decide +kernel
theorem dH_multiplySumByKey_98 : decode mH_multiplySumByKey.2.1 98 = .ok (.lshl, 1) := by decide +kernel
theorem dH_multiplySumByKey_99 : decode mH_multiplySumByKey.2.1 99 = .ok (.lstore_n 3, 1) := by decide +kernel
theorem dH_multiplySumByKey_100 : decode mH_multiplySumByKey.2.1 100 = .ok (.iload 12, 2) := by decide +kernel
theorem dH_multiplySumByKey_102 : decode mH_multiplySumByKey.2.1 102 = .ok (.ifCond .eq 17, 3) := by decide +kernel
theorem dH_multiplySumByKey_105 : decode mH_multiplySumByKey.2.1 105 = .ok (.lload_n 1, 1) := by decide +kernel
theorem dH_multiplySumByKey_106 : decode mH_multiplySumByKey.2.1 106 = .ok (.aload_n 0, 1) := by decide +kernel
theorem dH_multiplySumByKey_107 : decode mH_multiplySumByKey.2.1 107 = .ok (.getfield 21, 3) := by decide +kernel
theorem dH_multiplySumByKey_110 : decode mH_multiplySumByKey.2.1 110 = .ok (.lxor, 1) := by decide +kernel
theorem dH_multiplySumByKey_111 : decode mH_multiplySumByKey.2.1 111 = .ok (.lstore_n 1, 1) := by decide +kernel
theorem dH_multiplySumByKey_112 : decode mH_multiplySumByKey.2.1 112 = .ok (.lload_n 3, 1) := by decide +kernel
theorem dH_multiplySumByKey_113 : decode mH_multiplySumByKey.2.1 113 = .ok (.aload_n 0, 1) := by decide +kernel
theorem dH_multiplySumByKey_114 : decode mH_multiplySumByKey.2.1 114 = .ok (.getfield 27, 3) := by decide +kernel
theorem dH_multiplySumByKey_117 : decode mH_multiplySumByKey.2.1 117 = .ok (.lxor, 1) := by decide +kernel
theorem dH_multiplySumByKey_118 : decode mH_multiplySumByKey.2.1 118 = .ok (.lstore_n 3, 1) := by decide +kernel
theorem dH_multiplySumByKey_119 : decode mH_multiplySumByKey.2.1 119 = .ok (.iinc 9 1, 3) := by decide +kernel
theorem dH_multiplySumByKey_122 : decode mH_multiplySumByKey.2.1 122 = .ok (.goto (-103), 3) := by decide +kernel
theorem dH_multiplySumByKey_125 : decode mH_multiplySumByKey.2.1 125 = .ok (.aload_n 0, 1) := by decide +kernel
theorem dH_multiplySumByKey_126 : decode mH_multiplySumByKey.2.1 126 = .ok (.lload 5, 2) := by decide +kernel
theorem dH_multiplySumByKey_128 : decode mH_multiplySumByKey.2.1 128 = .ok (.putfield 47, 3) := by decide +kernel
theorem dH_multiplySumByKey_131 : decode mH_multiplySumByKey.2.1 131 = .ok (.aload_n 0, 1) := by decide +kernel
theorem dH_multiplySumByKey_132 : decode mH_multiplySumByKey.2.1 132 = .ok (.lload 7, 2) := by decide +kernel
theorem dH_multiplySumByKey_134 : decode mH_multiplySumByKey.2.1 134 = .ok (.putfield 50, 3) := by decide +kernel
theorem dH_multiplySumByKey_137 : decode mH_multiplySumByKey.2.1 137 = .ok (.return_, 1) := by decide +kernel
theorem dR_init_0 : decode mR_init.2.1 0 = .ok (.aload_n 0, 1) := by decide +kernel
theorem dR_init_1 : decode mR_init.2.1 1 = .ok (.invokespecial 1, 3) := by decide +kernel
theorem dR_init_4 : decode mR_init.2.1 4 = .ok (.aload_n 0, 1) := by decide +kernel
theorem dR_init_5 : decode mR_init.2.1 5 = .ok (.iload_n 1, 1) := by decide +kernel
theorem dR_init_6 : decode mR_init.2.1 6 = .ok (.newarray .int, 2) := by decide +kernel
theorem dR_init_8 : decode mR_init.2.1 8 = .ok (.putfield 7, 3) := by decide +kernel
theorem dR_init_11 : decode mR_init.2.1 11 = .ok (.aload_n 0, 1) := by decide +kernel
theorem dR_init_12 : decode mR_init.2.1 12 = .ok (.iconst 0, 1) := by decide +kernel
theorem dR_init_13 : decode mR_init.2.1 13 = .ok (.putfield 13, 3) := by decide +kernel
theorem dR_init_16 : decode mR_init.2.1 16 = .ok (.return_, 1) := by decide +kernel
theorem dR_hasRoomFor_0 : decode mR_hasRoomFor.2.1 0 = .ok (.iload_n 1, 1) := by decide +kernel
theorem dR_hasRoomFor_1 : decode mR_hasRoomFor.2.1 1 = .ok (.aload_n 0, 1) := by decide +kernel
theorem dR_hasRoomFor_2 : decode mR_hasRoomFor.2.1 2 = .ok (.getfield 7, 3) := by decide +kernel
theorem dR_hasRoomFor_5 : decode mR_hasRoomFor.2.1 5 = .ok (.arraylength, 1) := by decide +kernel
theorem dR_hasRoomFor_6 : decode mR_hasRoomFor.2.1 6 = .ok (.if_icmp .gt 7, 3) := by decide +kernel
theorem dR_hasRoomFor_9 : decode mR_hasRoomFor.2.1 9 = .ok (.iconst 1, 1) := by decide +kernel
theorem dR_hasRoomFor_10 : decode mR_hasRoomFor.2.1 10 = .ok (.goto 4, 3) := by decide +kernel
theorem dR_hasRoomFor_13 : decode mR_hasRoomFor.2.1 13 = .ok (.iconst 0, 1) := by decide +kernel
theorem dR_hasRoomFor_14 : decode mR_hasRoomFor.2.1 14 = .ok (.ireturn, 1) := by decide +kernel
theorem dR_has_0 : decode mR_has.2.1 0 = .ok (.iload_n 1, 1) := by decide +kernel
theorem dR_has_1 : decode mR_has.2.1 1 = .ok (.ifCond .lt 15, 3) := by decide +kernel
theorem dR_has_4 : decode mR_has.2.1 4 = .ok (.iload_n 1, 1) := by decide +kernel
theorem dR_has_5 : decode mR_has.2.1 5 = .ok (.aload_n 0, 1) := by decide +kernel
theorem dR_has_6 : decode mR_has.2.1 6 = .ok (.getfield 13, 3) := by decide +kernel
theorem dR_has_9 : decode mR_has.2.1 9 = .ok (.if_icmp .ge 7, 3) := by decide +kernel
theorem dR_has_12 : decode mR_has.2.1 12 = .ok (.iconst 1, 1) := by decide +kernel
theorem dR_has_13 : decode mR_has.2.1 13 = .ok (.goto 4, 3) := by decide +kernel
theorem dR_has_16 : decode mR_has.2.1 16 = .ok (.iconst 0, 1) := by decide +kernel
theorem dR_has_17 : decode mR_has.2.1 17 = .ok (.ireturn, 1) := by decide +kernel
theorem dR_append_0 : decode mR_append.2.1 0 = .ok (.aload_n 0, 1) := by decide +kernel
theorem dR_append_1 : decode mR_append.2.1 1 = .ok (.getfield 7, 3) := by decide +kernel
theorem dR_append_4 : decode mR_append.2.1 4 = .ok (.aload_n 0, 1) := by decide +kernel
theorem dR_append_5 : decode mR_append.2.1 5 = .ok (.getfield 13, 3) := by decide +kernel
theorem dR_append_8 : decode mR_append.2.1 8 = .ok (.iload_n 1, 1) := by decide +kernel
theorem dR_append_9 : decode mR_append.2.1 9 = .ok (.iastore, 1) := by decide +kernel
theorem dR_append_10 : decode mR_append.2.1 10 = .ok (.aload_n 0, 1) := by decide +kernel
theorem dR_append_11 : decode mR_append.2.1 11 = .ok (.dup, 1) := by decide +kernel
theorem dR_append_12 : decode mR_append.2.1 12 = .ok (.getfield 13, 3) := by decide +kernel
theorem dR_append_15 : decode mR_append.2.1 15 = .ok (.iconst 1, 1) := by decide +kernel
theorem dR_append_16 : decode mR_append.2.1 16 = .ok (.iadd, 1) := by decide +kernel
theorem dR_append_17 : decode mR_append.2.1 17 = .ok (.putfield 13, 3) := by decide +kernel
theorem dR_append_20 : decode mR_append.2.1 20 = .ok (.return_, 1) := by decide +kernel
theorem dR_become_0 : decode mR_become.2.1 0 = .ok (.aload_n 1, 1) := by decide +kernel
theorem dR_become_1 : decode mR_become.2.1 1 = .ok (.getfield 7, 3) := by decide +kernel
theorem dR_become_4 : decode mR_become.2.1 4 = .ok (.iconst 0, 1) := by decide +kernel
theorem dR_become_5 : decode mR_become.2.1 5 = .ok (.aload_n 0, 1) := by decide +kernel
theorem dR_become_6 : decode mR_become.2.1 6 = .ok (.getfield 7, 3) := by decide +kernel
theorem dR_become_9 : decode mR_become.2.1 9 = .ok (.iconst 0, 1) := by decide +kernel
theorem dR_become_10 : decode mR_become.2.1 10 = .ok (.aload_n 1, 1) := by decide +kernel
theorem dR_become_11 : decode mR_become.2.1 11 = .ok (.getfield 13, 3) := by decide +kernel
theorem dR_become_14 : decode mR_become.2.1 14 = .ok (.invokestatic 17, 3) := by decide +kernel
theorem dR_become_17 : decode mR_become.2.1 17 = .ok (.aload_n 0, 1) := by decide +kernel
theorem dR_become_18 : decode mR_become.2.1 18 = .ok (.aload_n 1, 1) := by decide +kernel
theorem dR_become_19 : decode mR_become.2.1 19 = .ok (.getfield 13, 3) := by decide +kernel
theorem dR_become_22 : decode mR_become.2.1 22 = .ok (.putfield 13, 3) := by decide +kernel
theorem dR_become_25 : decode mR_become.2.1 25 = .ok (.return_, 1) := by decide +kernel
theorem dW_init_0 : decode mW_init.2.1 0 = .ok (.aload_n 0, 1) := by decide +kernel
theorem dW_init_1 : decode mW_init.2.1 1 = .ok (.invokespecial 3, 3) := by decide +kernel
theorem dW_init_4 : decode mW_init.2.1 4 = .ok (.aload_n 0, 1) := by decide +kernel
theorem dW_init_5 : decode mW_init.2.1 5 = .ok (.aload_n 1, 1) := by decide +kernel
theorem dW_init_6 : decode mW_init.2.1 6 = .ok (.putfield 9, 3) := by decide +kernel
theorem dW_init_9 : decode mW_init.2.1 9 = .ok (.aload_n 0, 1) := by decide +kernel
theorem dW_init_10 : decode mW_init.2.1 10 = .ok (.aload_n 2, 1) := by decide +kernel
theorem dW_init_11 : decode mW_init.2.1 11 = .ok (.putfield 15, 3) := by decide +kernel
theorem dW_init_14 : decode mW_init.2.1 14 = .ok (.aload_n 0, 1) := by decide +kernel
theorem dW_init_15 : decode mW_init.2.1 15 = .ok (.bipush 16, 2) := by decide +kernel
theorem dW_init_17 : decode mW_init.2.1 17 = .ok (.newarray .int, 2) := by decide +kernel
theorem dW_init_19 : decode mW_init.2.1 19 = .ok (.putfield 19, 3) := by decide +kernel
theorem dW_init_22 : decode mW_init.2.1 22 = .ok (.aload_n 0, 1) := by decide +kernel
theorem dW_init_23 : decode mW_init.2.1 23 = .ok (.bipush 16, 2) := by decide +kernel
theorem dW_init_25 : decode mW_init.2.1 25 = .ok (.newarray .int, 2) := by decide +kernel
theorem dW_init_27 : decode mW_init.2.1 27 = .ok (.putfield 23, 3) := by decide +kernel
theorem dW_init_30 : decode mW_init.2.1 30 = .ok (.aload_n 0, 1) := by decide +kernel
theorem dW_init_31 : decode mW_init.2.1 31 = .ok (.bipush 16, 2) := by decide +kernel
theorem dW_init_33 : decode mW_init.2.1 33 = .ok (.newarray .int, 2) := by decide +kernel
theorem dW_init_35 : decode mW_init.2.1 35 = .ok (.putfield 26, 3) := by decide +kernel
theorem dW_init_38 : decode mW_init.2.1 38 = .ok (.aload_n 0, 1) := by decide +kernel
theorem dW_init_39 : decode mW_init.2.1 39 = .ok (.bipush 16, 2) := by decide +kernel
theorem dW_init_41 : decode mW_init.2.1 41 = .ok (.newarray .int, 2) := by decide +kernel
theorem dW_init_43 : decode mW_init.2.1 43 = .ok (.putfield 29, 3) := by decide +kernel
theorem dW_init_46 : decode mW_init.2.1 46 = .ok (.aload_n 0, 1) := by decide +kernel
theorem dW_init_47 : decode mW_init.2.1 47 = .ok (.bipush 16, 2) := by decide +kernel
theorem dW_init_49 : decode mW_init.2.1 49 = .ok (.newarray .int, 2) := by decide +kernel
theorem dW_init_51 : decode mW_init.2.1 51 = .ok (.putfield 32, 3) := by decide +kernel
theorem dW_init_54 : decode mW_init.2.1 54 = .ok (.return_, 1) := by decide +kernel
theorem dW_cipherText_0 : decode mW_cipherText.2.1 0 = .ok (.iconst 0, 1) := by decide +kernel
theorem dW_cipherText_1 : decode mW_cipherText.2.1 1 = .ok (.istore 4, 2) := by decide +kernel
theorem dW_cipherText_3 : decode mW_cipherText.2.1 3 = .ok (.iload 4, 2) := by decide +kernel
theorem dW_cipherText_5 : decode mW_cipherText.2.1 5 = .ok (.iload_n 2, 1) := by decide +kernel
theorem dW_cipherText_6 : decode mW_cipherText.2.1 6 = .ok (.if_icmp .ge 80, 3) := by decide +kernel
theorem dW_cipherText_9 : decode mW_cipherText.2.1 9 = .ok (.aload_n 0, 1) := by decide +kernel
theorem dW_cipherText_10 : decode mW_cipherText.2.1 10 = .ok (.iload 4, 2) := by decide +kernel
theorem dW_cipherText_12 : decode mW_cipherText.2.1 12 = .ok (.bipush 16, 2) := by decide +kernel
theorem dW_cipherText_14 : decode mW_cipherText.2.1 14 = .ok (.idiv, 1) := by decide +kernel
theorem dW_cipherText_15 : decode mW_cipherText.2.1 15 = .ok (.invokevirtual 35, 3) := by decide +kernel
theorem dW_cipherText_18 : decode mW_cipherText.2.1 18 = .ok (.aload_n 0, 1) := by decide +kernel
theorem dW_cipherText_19 : decode mW_cipherText.2.1 19 = .ok (.getfield 9, 3) := by decide +kernel
theorem dW_cipherText_22 : decode mW_cipherText.2.1 22 = .ok (.aload_n 0, 1) := by decide +kernel
theorem dW_cipherText_23 : decode mW_cipherText.2.1 23 = .ok (.getfield 26, 3) := by decide +kernel
theorem dW_cipherText_26 : decode mW_cipherText.2.1 26 = .ok (.aload_n 0, 1) := by decide +kernel
theorem dW_cipherText_27 : decode mW_cipherText.2.1 27 = .ok (.getfield 29, 3) := by decide +kernel
theorem dW_cipherText_30 : decode mW_cipherText.2.1 30 = .ok (.invokevirtual 39, 3) := by decide +kernel
theorem dW_cipherText_33 : decode mW_cipherText.2.1 33 = .ok (.iconst 0, 1) := by decide +kernel
theorem dW_cipherText_34 : decode mW_cipherText.2.1 34 = .ok (.istore 5, 2) := by decide +kernel
theorem dW_cipherText_36 : decode mW_cipherText.2.1 36 = .ok (.iload 5, 2) := by decide +kernel
theorem dW_cipherText_38 : decode mW_cipherText.2.1 38 = .ok (.bipush 16, 2) := by decide +kernel
theorem dW_cipherText_40 : decode mW_cipherText.2.1 40 = .ok (.if_icmp .ge 40, 3) := by decide +kernel
theorem dW_cipherText_43 : decode mW_cipherText.2.1 43 = .ok (.iload 4, 2) := by decide +kernel
theorem dW_cipherText_45 : decode mW_cipherText.2.1 45 = .ok (.iload 5, 2) := by decide +kernel
theorem dW_cipherText_47 : decode mW_cipherText.2.1 47 = .ok (.iadd, 1) := by decide +kernel
theorem dW_cipherText_48 : decode mW_cipherText.2.1 48 = .ok (.iload_n 2, 1) := by decide +kernel
theorem dW_cipherText_49 : decode mW_cipherText.2.1 49 = .ok (.if_icmp .ge 31, 3) := by decide +kernel
theorem dW_cipherText_52 : decode mW_cipherText.2.1 52 = .ok (.aload_n 3, 1) := by decide +kernel
theorem dW_cipherText_53 : decode mW_cipherText.2.1 53 = .ok (.iload 4, 2) := by decide +kernel
theorem dW_cipherText_55 : decode mW_cipherText.2.1 55 = .ok (.iload 5, 2) := by decide +kernel
theorem dW_cipherText_57 : decode mW_cipherText.2.1 57 = .ok (.iadd, 1) := by decide +kernel
theorem dW_cipherText_58 : decode mW_cipherText.2.1 58 = .ok (.aload_n 1, 1) := by decide +kernel
theorem dW_cipherText_59 : decode mW_cipherText.2.1 59 = .ok (.iload 4, 2) := by decide +kernel
theorem dW_cipherText_61 : decode mW_cipherText.2.1 61 = .ok (.iload 5, 2) := by decide +kernel
theorem dW_cipherText_63 : decode mW_cipherText.2.1 63 = .ok (.iadd, 1) := by decide +kernel
theorem dW_cipherText_64 : decode mW_cipherText.2.1 64 = .ok (.iaload, 1) := by decide +kernel
theorem dW_cipherText_65 : decode mW_cipherText.2.1 65 = .ok (.aload_n 0, 1) := by decide +kernel
theorem dW_cipherText_66 : decode mW_cipherText.2.1 66 = .ok (.getfield 29, 3) := by decide +kernel
theorem dW_cipherText_69 : decode mW_cipherText.2.1 69 = .ok (.iload 5, 2) := by decide +kernel
theorem dW_cipherText_71 : decode mW_cipherText.2.1 71 = .ok (.iaload, 1) := by decide +kernel
theorem dW_cipherText_72 : decode mW_cipherText.2.1 72 = .ok (.ixor, 1) := by decide +kernel
theorem dW_cipherText_73 : decode mW_cipherText.2.1 73 = .ok (.iastore, 1) := by decide +kernel
theorem dW_cipherText_74 : decode mW_cipherText.2.1 74 = .ok (.iinc 5 1, 3) := by decide +kernel
theorem dW_cipherText_77 : decode mW_cipherText.2.1 77 = .ok (.goto (-41), 3) := by decide +kernel
theorem dW_cipherText_80 : decode mW_cipherText.2.1 80 = .ok (.iinc 4 16, 3) := by decide +kernel
theorem dW_cipherText_83 : decode mW_cipherText.2.1 83 = .ok (.goto (-80), 3) := by decide +kernel
theorem dW_cipherText_86 : decode mW_cipherText.2.1 86 = .ok (.return_, 1) := by decide +kernel
theorem dW_hashWithAside_0 : decode mW_hashWithAside.2.1 0 = .ok (.aload_n 0, 1) := by decide +kernel
theorem dW_hashWithAside_1 : decode mW_hashWithAside.2.1 1 = .ok (.getfield 15, 3) := by decide +kernel
theorem dW_hashWithAside_4 : decode mW_hashWithAside.2.1 4 = .ok (.aload_n 0, 1) := by decide +kernel
theorem dW_hashWithAside_5 : decode mW_hashWithAside.2.1 5 = .ok (.getfield 19, 3) := by decide +kernel
theorem dW_hashWithAside_8 : decode mW_hashWithAside.2.1 8 = .ok (.invokevirtual 45, 3) := by decide +kernel
theorem dW_hashWithAside_11 : decode mW_hashWithAside.2.1 11 = .ok (.aload_n 0, 1) := by decide +kernel
theorem dW_hashWithAside_12 : decode mW_hashWithAside.2.1 12 = .ok (.getfield 15, 3) := by decide +kernel
theorem dW_hashWithAside_15 : decode mW_hashWithAside.2.1 15 = .ok (.aload_n 1, 1) := by decide +kernel
theorem dW_hashWithAside_16 : decode mW_hashWithAside.2.1 16 = .ok (.getfield 51, 3) := by decide +kernel
theorem dW_hashWithAside_19 : decode mW_hashWithAside.2.1 19 = .ok (.aload_n 1, 1) := by decide +kernel
theorem dW_hashWithAside_20 : decode mW_hashWithAside.2.1 20 = .ok (.getfield 56, 3) := by decide +kernel
theorem dW_hashWithAside_23 : decode mW_hashWithAside.2.1 23 = .ok (.invokevirtual 60, 3) := by decide +kernel
theorem dW_hashWithAside_26 : decode mW_hashWithAside.2.1 26 = .ok (.aload_n 0, 1) := by decide +kernel
theorem dW_hashWithAside_27 : decode mW_hashWithAside.2.1 27 = .ok (.getfield 15, 3) := by decide +kernel
theorem dW_hashWithAside_30 : decode mW_hashWithAside.2.1 30 = .ok (.aload_n 2, 1) := by decide +kernel
theorem dW_hashWithAside_31 : decode mW_hashWithAside.2.1 31 = .ok (.iload_n 3, 1) := by decide +kernel
theorem dW_hashWithAside_32 : decode mW_hashWithAside.2.1 32 = .ok (.invokevirtual 60, 3) := by decide +kernel
theorem dW_hashWithAside_35 : decode mW_hashWithAside.2.1 35 = .ok (.aload_n 0, 1) := by decide +kernel
theorem dW_hashWithAside_36 : decode mW_hashWithAside.2.1 36 = .ok (.getfield 15, 3) := by decide +kernel
theorem dW_hashWithAside_39 : decode mW_hashWithAside.2.1 39 = .ok (.aload_n 1, 1) := by decide +kernel
theorem dW_hashWithAside_40 : decode mW_hashWithAside.2.1 40 = .ok (.getfield 56, 3) := by decide +kernel
theorem dW_hashWithAside_43 : decode mW_hashWithAside.2.1 43 = .ok (.iload_n 3, 1) := by decide +kernel
theorem dW_hashWithAside_44 : decode mW_hashWithAside.2.1 44 = .ok (.invokevirtual 64, 3) := by decide +kernel
theorem dW_hashWithAside_47 : decode mW_hashWithAside.2.1 47 = .ok (.aload_n 0, 1) := by decide +kernel
theorem dW_hashWithAside_48 : decode mW_hashWithAside.2.1 48 = .ok (.getfield 15, 3) := by decide +kernel
theorem dW_hashWithAside_51 : decode mW_hashWithAside.2.1 51 = .ok (.aload_n 0, 1) := by decide +kernel
theorem dW_hashWithAside_52 : decode mW_hashWithAside.2.1 52 = .ok (.getfield 32, 3) := by decide +kernel
theorem dW_hashWithAside_55 : decode mW_hashWithAside.2.1 55 = .ok (.invokevirtual 68, 3) := by decide +kernel
theorem dW_hashWithAside_58 : decode mW_hashWithAside.2.1 58 = .ok (.return_, 1) := by decide +kernel
theorem dW_appendDue_0 : decode mW_appendDue.2.1 0 = .ok (.aload_n 0, 1) := by decide +kernel
theorem dW_appendDue_1 : decode mW_appendDue.2.1 1 = .ok (.getfield 32, 3) := by decide +kernel
theorem dW_appendDue_4 : decode mW_appendDue.2.1 4 = .ok (.iconst 0, 1) := by decide +kernel
theorem dW_appendDue_5 : decode mW_appendDue.2.1 5 = .ok (.aload_n 1, 1) := by decide +kernel
theorem dW_appendDue_6 : decode mW_appendDue.2.1 6 = .ok (.getfield 51, 3) := by decide +kernel
theorem dW_appendDue_9 : decode mW_appendDue.2.1 9 = .ok (.iload_n 2, 1) := by decide +kernel
theorem dW_appendDue_10 : decode mW_appendDue.2.1 10 = .ok (.bipush 16, 2) := by decide +kernel
theorem dW_appendDue_12 : decode mW_appendDue.2.1 12 = .ok (.invokestatic 71, 3) := by decide +kernel
theorem dW_appendDue_15 : decode mW_appendDue.2.1 15 = .ok (.aload_n 1, 1) := by decide +kernel
theorem dW_appendDue_16 : decode mW_appendDue.2.1 16 = .ok (.iload_n 2, 1) := by decide +kernel
theorem dW_appendDue_17 : decode mW_appendDue.2.1 17 = .ok (.bipush 16, 2) := by decide +kernel
theorem dW_appendDue_19 : decode mW_appendDue.2.1 19 = .ok (.iadd, 1) := by decide +kernel
theorem dW_appendDue_20 : decode mW_appendDue.2.1 20 = .ok (.putfield 56, 3) := by decide +kernel
theorem dW_appendDue_23 : decode mW_appendDue.2.1 23 = .ok (.return_, 1) := by decide +kernel
theorem dW_endsInDue_0 : decode mW_endsInDue.2.1 0 = .ok (.iconst 0, 1) := by decide +kernel
theorem dW_endsInDue_1 : decode mW_endsInDue.2.1 1 = .ok (.istore_n 2, 1) := by decide +kernel
theorem dW_endsInDue_2 : decode mW_endsInDue.2.1 2 = .ok (.iconst 0, 1) := by decide +kernel
theorem dW_endsInDue_3 : decode mW_endsInDue.2.1 3 = .ok (.istore_n 3, 1) := by decide +kernel
theorem dW_endsInDue_4 : decode mW_endsInDue.2.1 4 = .ok (.iload_n 3, 1) := by decide +kernel
theorem dW_endsInDue_5 : decode mW_endsInDue.2.1 5 = .ok (.bipush 16, 2) := by decide +kernel
theorem dW_endsInDue_7 : decode mW_endsInDue.2.1 7 = .ok (.if_icmp .ge 33, 3) := by decide +kernel
theorem dW_endsInDue_10 : decode mW_endsInDue.2.1 10 = .ok (.iload_n 2, 1) := by decide +kernel
theorem dW_endsInDue_11 : decode mW_endsInDue.2.1 11 = .ok (.aload_n 1, 1) := by decide +kernel
theorem dW_endsInDue_12 : decode mW_endsInDue.2.1 12 = .ok (.getfield 51, 3) := by decide +kernel
theorem dW_endsInDue_15 : decode mW_endsInDue.2.1 15 = .ok (.aload_n 1, 1) := by decide +kernel
theorem dW_endsInDue_16 : decode mW_endsInDue.2.1 16 = .ok (.getfield 56, 3) := by decide +kernel
theorem dW_endsInDue_19 : decode mW_endsInDue.2.1 19 = .ok (.bipush 16, 2) := by decide +kernel
theorem dW_endsInDue_21 : decode mW_endsInDue.2.1 21 = .ok (.isub, 1) := by decide +kernel
theorem dW_endsInDue_22 : decode mW_endsInDue.2.1 22 = .ok (.iload_n 3, 1) := by decide +kernel
theorem dW_endsInDue_23 : decode mW_endsInDue.2.1 23 = .ok (.iadd, 1) := by decide +kernel
theorem dW_endsInDue_24 : decode mW_endsInDue.2.1 24 = .ok (.iaload, 1) := by decide +kernel
theorem dW_endsInDue_25 : decode mW_endsInDue.2.1 25 = .ok (.aload_n 0, 1) := by decide +kernel
theorem dW_endsInDue_26 : decode mW_endsInDue.2.1 26 = .ok (.getfield 32, 3) := by decide +kernel
theorem dW_endsInDue_29 : decode mW_endsInDue.2.1 29 = .ok (.iload_n 3, 1) := by decide +kernel
theorem dW_endsInDue_30 : decode mW_endsInDue.2.1 30 = .ok (.iaload, 1) := by decide +kernel
theorem dW_endsInDue_31 : decode mW_endsInDue.2.1 31 = .ok (.ixor, 1) := by decide +kernel
theorem dW_endsInDue_32 : decode mW_endsInDue.2.1 32 = .ok (.ior, 1) := by decide +kernel
theorem dW_endsInDue_33 : decode mW_endsInDue.2.1 33 = .ok (.istore_n 2, 1) := by decide +kernel
theorem dW_endsInDue_34 : decode mW_endsInDue.2.1 34 = .ok (.iinc 3 1, 3) := by decide +kernel
theorem dW_endsInDue_37 : decode mW_endsInDue.2.1 37 = .ok (.goto (-33), 3) := by decide +kernel
theorem dW_endsInDue_40 : decode mW_endsInDue.2.1 40 = .ok (.iload_n 2, 1) := by decide +kernel
theorem dW_endsInDue_41 : decode mW_endsInDue.2.1 41 = .ok (.ifCond .ne 7, 3) := by decide +kernel
theorem dW_endsInDue_44 : decode mW_endsInDue.2.1 44 = .ok (.iconst 1, 1) := by decide +kernel
theorem dW_endsInDue_45 : decode mW_endsInDue.2.1 45 = .ok (.goto 4, 3) := by decide +kernel
theorem dW_endsInDue_48 : decode mW_endsInDue.2.1 48 = .ok (.iconst 0, 1) := by decide +kernel
theorem dW_endsInDue_49 : decode mW_endsInDue.2.1 49 = .ok (.ireturn, 1) := by decide +kernel
theorem dO_init_0 : decode mO_init.2.1 0 = .ok (.aload_n 0, 1) := by decide +kernel
theorem dO_init_1 : decode mO_init.2.1 1 = .ok (.aload_n 1, 1) := by decide +kernel
theorem dO_init_2 : decode mO_init.2.1 2 = .ok (.aload_n 2, 1) := by decide +kernel
theorem dO_init_3 : decode mO_init.2.1 3 = .ok (.invokespecial 3, 3) := by decide +kernel
theorem dO_init_6 : decode mO_init.2.1 6 = .ok (.aload_n 0, 1) := by decide +kernel
theorem dO_init_7 : decode mO_init.2.1 7 = .ok (.bipush 16, 2) := by decide +kernel
theorem dO_init_9 : decode mO_init.2.1 9 = .ok (.newarray .int, 2) := by decide +kernel
theorem dO_init_11 : decode mO_init.2.1 11 = .ok (.putfield 9, 3) := by decide +kernel
theorem dO_init_14 : decode mO_init.2.1 14 = .ok (.return_, 1) := by decide +kernel
theorem dO_takesNonceOf_0 : decode mO_takesNonceOf.2.1 0 = .ok (.iload_n 1, 1) := by decide +kernel
theorem dO_takesNonceOf_1 : decode mO_takesNonceOf.2.1 1 = .ok (.bipush 12, 2) := by decide +kernel
theorem dO_takesNonceOf_3 : decode mO_takesNonceOf.2.1 3 = .ok (.if_icmp .ne 7, 3) := by decide +kernel
theorem dO_takesNonceOf_6 : decode mO_takesNonceOf.2.1 6 = .ok (.iconst 1, 1) := by decide +kernel
theorem dO_takesNonceOf_7 : decode mO_takesNonceOf.2.1 7 = .ok (.goto 4, 3) := by decide +kernel
theorem dO_takesNonceOf_10 : decode mO_takesNonceOf.2.1 10 = .ok (.iconst 0, 1) := by decide +kernel
theorem dO_takesNonceOf_11 : decode mO_takesNonceOf.2.1 11 = .ok (.ireturn, 1) := by decide +kernel
theorem dO_useKey_0 : decode mO_useKey.2.1 0 = .ok (.aload_n 0, 1) := by decide +kernel
theorem dO_useKey_1 : decode mO_useKey.2.1 1 = .ok (.getfield 15, 3) := by decide +kernel
theorem dO_useKey_4 : decode mO_useKey.2.1 4 = .ok (.aload_n 1, 1) := by decide +kernel
theorem dO_useKey_5 : decode mO_useKey.2.1 5 = .ok (.getfield 19, 3) := by decide +kernel
theorem dO_useKey_8 : decode mO_useKey.2.1 8 = .ok (.invokevirtual 24, 3) := by decide +kernel
theorem dO_useKey_11 : decode mO_useKey.2.1 11 = .ok (.aload_n 0, 1) := by decide +kernel
theorem dO_useKey_12 : decode mO_useKey.2.1 12 = .ok (.iconst 0, 1) := by decide +kernel
theorem dO_useKey_13 : decode mO_useKey.2.1 13 = .ok (.aload_n 2, 1) := by decide +kernel
theorem dO_useKey_14 : decode mO_useKey.2.1 14 = .ok (.aload_n 0, 1) := by decide +kernel
theorem dO_useKey_15 : decode mO_useKey.2.1 15 = .ok (.getfield 30, 3) := by decide +kernel
theorem dO_useKey_18 : decode mO_useKey.2.1 18 = .ok (.iconst 0, 1) := by decide +kernel
theorem dO_useKey_19 : decode mO_useKey.2.1 19 = .ok (.invokevirtual 33, 3) := by decide +kernel
theorem dO_useKey_22 : decode mO_useKey.2.1 22 = .ok (.aload_n 0, 1) := by decide +kernel
theorem dO_useKey_23 : decode mO_useKey.2.1 23 = .ok (.iconst 1, 1) := by decide +kernel
theorem dO_useKey_24 : decode mO_useKey.2.1 24 = .ok (.aload_n 2, 1) := by decide +kernel
theorem dO_useKey_25 : decode mO_useKey.2.1 25 = .ok (.aload_n 0, 1) := by decide +kernel
theorem dO_useKey_26 : decode mO_useKey.2.1 26 = .ok (.getfield 30, 3) := by decide +kernel
theorem dO_useKey_29 : decode mO_useKey.2.1 29 = .ok (.bipush 8, 2) := by decide +kernel
theorem dO_useKey_31 : decode mO_useKey.2.1 31 = .ok (.invokevirtual 33, 3) := by decide +kernel
theorem dO_useKey_34 : decode mO_useKey.2.1 34 = .ok (.aload_n 0, 1) := by decide +kernel
theorem dO_useKey_35 : decode mO_useKey.2.1 35 = .ok (.iconst 2, 1) := by decide +kernel
theorem dO_useKey_36 : decode mO_useKey.2.1 36 = .ok (.aload_n 2, 1) := by decide +kernel
theorem dO_useKey_37 : decode mO_useKey.2.1 37 = .ok (.aload_n 0, 1) := by decide +kernel
theorem dO_useKey_38 : decode mO_useKey.2.1 38 = .ok (.getfield 9, 3) := by decide +kernel
theorem dO_useKey_41 : decode mO_useKey.2.1 41 = .ok (.iconst 0, 1) := by decide +kernel
theorem dO_useKey_42 : decode mO_useKey.2.1 42 = .ok (.invokevirtual 33, 3) := by decide +kernel
theorem dO_useKey_45 : decode mO_useKey.2.1 45 = .ok (.aload_n 0, 1) := by decide +kernel
theorem dO_useKey_46 : decode mO_useKey.2.1 46 = .ok (.iconst 3, 1) := by decide +kernel
theorem dO_useKey_47 : decode mO_useKey.2.1 47 = .ok (.aload_n 2, 1) := by decide +kernel
theorem dO_useKey_48 : decode mO_useKey.2.1 48 = .ok (.aload_n 0, 1) := by decide +kernel
theorem dO_useKey_49 : decode mO_useKey.2.1 49 = .ok (.getfield 9, 3) := by decide +kernel
theorem dO_useKey_52 : decode mO_useKey.2.1 52 = .ok (.bipush 8, 2) := by decide +kernel
theorem dO_useKey_54 : decode mO_useKey.2.1 54 = .ok (.invokevirtual 33, 3) := by decide +kernel
theorem dO_useKey_57 : decode mO_useKey.2.1 57 = .ok (.aload_n 0, 1) := by decide +kernel
theorem dO_useKey_58 : decode mO_useKey.2.1 58 = .ok (.getfield 15, 3) := by decide +kernel
theorem dO_useKey_61 : decode mO_useKey.2.1 61 = .ok (.aload_n 0, 1) := by decide +kernel
theorem dO_useKey_62 : decode mO_useKey.2.1 62 = .ok (.getfield 9, 3) := by decide +kernel
theorem dO_useKey_65 : decode mO_useKey.2.1 65 = .ok (.invokevirtual 24, 3) := by decide +kernel
theorem dO_useKey_68 : decode mO_useKey.2.1 68 = .ok (.return_, 1) := by decide +kernel
theorem dO_derive_0 : decode mO_derive.2.1 0 = .ok (.iconst 4, 1) := by decide +kernel
theorem dO_derive_1 : decode mO_derive.2.1 1 = .ok (.istore 5, 2) := by decide +kernel
theorem dO_derive_3 : decode mO_derive.2.1 3 = .ok (.iconst 0, 1) := by decide +kernel
theorem dO_derive_4 : decode mO_derive.2.1 4 = .ok (.istore 6, 2) := by decide +kernel
theorem dO_derive_6 : decode mO_derive.2.1 6 = .ok (.iload 6, 2) := by decide +kernel
theorem dO_derive_8 : decode mO_derive.2.1 8 = .ok (.iload 5, 2) := by decide +kernel
theorem dO_derive_10 : decode mO_derive.2.1 10 = .ok (.if_icmp .ge 17, 3) := by decide +kernel
theorem dO_derive_13 : decode mO_derive.2.1 13 = .ok (.aload_n 0, 1) := by decide +kernel
theorem dO_derive_14 : decode mO_derive.2.1 14 = .ok (.getfield 37, 3) := by decide +kernel
theorem dO_derive_17 : decode mO_derive.2.1 17 = .ok (.iload 6, 2) := by decide +kernel
theorem dO_derive_19 : decode mO_derive.2.1 19 = .ok (.iconst 0, 1) := by decide +kernel
theorem dO_derive_20 : decode mO_derive.2.1 20 = .ok (.iastore, 1) := by decide +kernel
theorem dO_derive_21 : decode mO_derive.2.1 21 = .ok (.iinc 6 1, 3) := by decide +kernel
theorem dO_derive_24 : decode mO_derive.2.1 24 = .ok (.goto (-18), 3) := by decide +kernel
theorem dO_derive_27 : decode mO_derive.2.1 27 = .ok (.aload_n 0, 1) := by decide +kernel
theorem dO_derive_28 : decode mO_derive.2.1 28 = .ok (.getfield 37, 3) := by decide +kernel
theorem dO_derive_31 : decode mO_derive.2.1 31 = .ok (.iconst 0, 1) := by decide +kernel
theorem dO_derive_32 : decode mO_derive.2.1 32 = .ok (.iload_n 1, 1) := by decide +kernel
theorem dO_derive_33 : decode mO_derive.2.1 33 = .ok (.iastore, 1) := by decide +kernel
theorem dO_derive_34 : decode mO_derive.2.1 34 = .ok (.aload_n 2, 1) := by decide +kernel
theorem dO_derive_35 : decode mO_derive.2.1 35 = .ok (.getfield 19, 3) := by decide +kernel
theorem dO_derive_38 : decode mO_derive.2.1 38 = .ok (.iconst 0, 1) := by decide +kernel
theorem dO_derive_39 : decode mO_derive.2.1 39 = .ok (.aload_n 0, 1) := by decide +kernel
theorem dO_derive_40 : decode mO_derive.2.1 40 = .ok (.getfield 37, 3) := by decide +kernel
theorem dO_derive_43 : decode mO_derive.2.1 43 = .ok (.iload 5, 2) := by decide +kernel
theorem dO_derive_45 : decode mO_derive.2.1 45 = .ok (.bipush 12, 2) := by decide +kernel
theorem dO_derive_47 : decode mO_derive.2.1 47 = .ok (.invokestatic 40, 3) := by decide +kernel
theorem dO_derive_50 : decode mO_derive.2.1 50 = .ok (.aload_n 0, 1) := by decide +kernel
theorem dO_derive_51 : decode mO_derive.2.1 51 = .ok (.getfield 15, 3) := by decide +kernel
theorem dO_derive_54 : decode mO_derive.2.1 54 = .ok (.aload_n 0, 1) := by decide +kernel
theorem dO_derive_55 : decode mO_derive.2.1 55 = .ok (.getfield 37, 3) := by decide +kernel
theorem dO_derive_58 : decode mO_derive.2.1 58 = .ok (.aload_n 0, 1) := by decide +kernel
theorem dO_derive_59 : decode mO_derive.2.1 59 = .ok (.getfield 46, 3) := by decide +kernel
theorem dO_derive_62 : decode mO_derive.2.1 62 = .ok (.invokevirtual 49, 3) := by decide +kernel
theorem dO_derive_65 : decode mO_derive.2.1 65 = .ok (.aload_n 0, 1) := by decide +kernel
theorem dO_derive_66 : decode mO_derive.2.1 66 = .ok (.getfield 46, 3) := by decide +kernel
theorem dO_derive_69 : decode mO_derive.2.1 69 = .ok (.iconst 0, 1) := by decide +kernel
theorem dO_derive_70 : decode mO_derive.2.1 70 = .ok (.aload_n 3, 1) := by decide +kernel
theorem dO_derive_71 : decode mO_derive.2.1 71 = .ok (.iload 4, 2) := by decide +kernel
theorem dO_derive_73 : decode mO_derive.2.1 73 = .ok (.bipush 8, 2) := by decide +kernel
theorem dO_derive_75 : decode mO_derive.2.1 75 = .ok (.invokestatic 40, 3) := by decide +kernel
theorem dO_derive_78 : decode mO_derive.2.1 78 = .ok (.return_, 1) := by decide +kernel
theorem dO_sealText_0 : decode mO_sealText.2.1 0 = .ok (.aload_n 1, 1) := by decide +kernel
theorem dO_sealText_1 : decode mO_sealText.2.1 1 = .ok (.iconst 3, 1) := by decide +kernel
theorem dO_sealText_2 : decode mO_sealText.2.1 2 = .ok (.aaload, 1) := by decide +kernel
theorem dO_sealText_3 : decode mO_sealText.2.1 3 = .ok (.getfield 53, 3) := by decide +kernel
theorem dO_sealText_6 : decode mO_sealText.2.1 6 = .ok (.istore_n 3, 1) := by decide +kernel
theorem dO_sealText_7 : decode mO_sealText.2.1 7 = .ok (.aload_n 0, 1) := by decide +kernel
theorem dO_sealText_8 : decode mO_sealText.2.1 8 = .ok (.aload_n 1, 1) := by decide +kernel
theorem dO_sealText_9 : decode mO_sealText.2.1 9 = .ok (.aload_n 1, 1) := by decide +kernel
theorem dO_sealText_10 : decode mO_sealText.2.1 10 = .ok (.iconst 3, 1) := by decide +kernel
theorem dO_sealText_11 : decode mO_sealText.2.1 11 = .ok (.aaload, 1) := by decide +kernel
theorem dO_sealText_12 : decode mO_sealText.2.1 12 = .ok (.getfield 19, 3) := by decide +kernel
theorem dO_sealText_15 : decode mO_sealText.2.1 15 = .ok (.iload_n 3, 1) := by decide +kernel
theorem dO_sealText_16 : decode mO_sealText.2.1 16 = .ok (.invokevirtual 57, 3) := by decide +kernel
theorem dO_sealText_19 : decode mO_sealText.2.1 19 = .ok (.aload_n 0, 1) := by decide +kernel
theorem dO_sealText_20 : decode mO_sealText.2.1 20 = .ok (.getfield 61, 3) := by decide +kernel
theorem dO_sealText_23 : decode mO_sealText.2.1 23 = .ok (.iconst 0, 1) := by decide +kernel
theorem dO_sealText_24 : decode mO_sealText.2.1 24 = .ok (.aload_n 0, 1) := by decide +kernel
theorem dO_sealText_25 : decode mO_sealText.2.1 25 = .ok (.getfield 64, 3) := by decide +kernel
theorem dO_sealText_28 : decode mO_sealText.2.1 28 = .ok (.iconst 0, 1) := by decide +kernel
theorem dO_sealText_29 : decode mO_sealText.2.1 29 = .ok (.bipush 16, 2) := by decide +kernel
theorem dO_sealText_31 : decode mO_sealText.2.1 31 = .ok (.invokestatic 40, 3) := by decide +kernel
theorem dO_sealText_34 : decode mO_sealText.2.1 34 = .ok (.aload_n 0, 1) := by decide +kernel
theorem dO_sealText_35 : decode mO_sealText.2.1 35 = .ok (.aload_n 1, 1) := by decide +kernel
theorem dO_sealText_36 : decode mO_sealText.2.1 36 = .ok (.iconst 3, 1) := by decide +kernel
theorem dO_sealText_37 : decode mO_sealText.2.1 37 = .ok (.aaload, 1) := by decide +kernel
theorem dO_sealText_38 : decode mO_sealText.2.1 38 = .ok (.getfield 19, 3) := by decide +kernel
theorem dO_sealText_41 : decode mO_sealText.2.1 41 = .ok (.iload_n 3, 1) := by decide +kernel
theorem dO_sealText_42 : decode mO_sealText.2.1 42 = .ok (.aload_n 2, 1) := by decide +kernel
theorem dO_sealText_43 : decode mO_sealText.2.1 43 = .ok (.getfield 19, 3) := by decide +kernel
theorem dO_sealText_46 : decode mO_sealText.2.1 46 = .ok (.invokevirtual 67, 3) := by decide +kernel
theorem dO_sealText_49 : decode mO_sealText.2.1 49 = .ok (.aload_n 0, 1) := by decide +kernel
theorem dO_sealText_50 : decode mO_sealText.2.1 50 = .ok (.aload_n 2, 1) := by decide +kernel
theorem dO_sealText_51 : decode mO_sealText.2.1 51 = .ok (.iload_n 3, 1) := by decide +kernel
theorem dO_sealText_52 : decode mO_sealText.2.1 52 = .ok (.invokevirtual 71, 3) := by decide +kernel
theorem dO_sealText_55 : decode mO_sealText.2.1 55 = .ok (.return_, 1) := by decide +kernel
theorem dO_openText_0 : decode mO_openText.2.1 0 = .ok (.aload_n 1, 1) := by decide +kernel
theorem dO_openText_1 : decode mO_openText.2.1 1 = .ok (.iconst 3, 1) := by decide +kernel
theorem dO_openText_2 : decode mO_openText.2.1 2 = .ok (.aaload, 1) := by decide +kernel
theorem dO_openText_3 : decode mO_openText.2.1 3 = .ok (.getfield 53, 3) := by decide +kernel
theorem dO_openText_6 : decode mO_openText.2.1 6 = .ok (.bipush 16, 2) := by decide +kernel
theorem dO_openText_8 : decode mO_openText.2.1 8 = .ok (.isub, 1) := by decide +kernel
theorem dO_openText_9 : decode mO_openText.2.1 9 = .ok (.istore_n 3, 1) := by decide +kernel
theorem dO_openText_10 : decode mO_openText.2.1 10 = .ok (.aload_n 1, 1) := by decide +kernel
theorem dO_openText_11 : decode mO_openText.2.1 11 = .ok (.iconst 3, 1) := by decide +kernel
theorem dO_openText_12 : decode mO_openText.2.1 12 = .ok (.aaload, 1) := by decide +kernel
theorem dO_openText_13 : decode mO_openText.2.1 13 = .ok (.getfield 19, 3) := by decide +kernel
theorem dO_openText_16 : decode mO_openText.2.1 16 = .ok (.iload_n 3, 1) := by decide +kernel
theorem dO_openText_17 : decode mO_openText.2.1 17 = .ok (.aload_n 0, 1) := by decide +kernel
theorem dO_openText_18 : decode mO_openText.2.1 18 = .ok (.getfield 64, 3) := by decide +kernel
theorem dO_openText_21 : decode mO_openText.2.1 21 = .ok (.iconst 0, 1) := by decide +kernel
theorem dO_openText_22 : decode mO_openText.2.1 22 = .ok (.bipush 16, 2) := by decide +kernel
theorem dO_openText_24 : decode mO_openText.2.1 24 = .ok (.invokestatic 40, 3) := by decide +kernel
theorem dO_openText_27 : decode mO_openText.2.1 27 = .ok (.aload_n 0, 1) := by decide +kernel
theorem dO_openText_28 : decode mO_openText.2.1 28 = .ok (.aload_n 1, 1) := by decide +kernel
theorem dO_openText_29 : decode mO_openText.2.1 29 = .ok (.iconst 3, 1) := by decide +kernel
theorem dO_openText_30 : decode mO_openText.2.1 30 = .ok (.aaload, 1) := by decide +kernel
theorem dO_openText_31 : decode mO_openText.2.1 31 = .ok (.getfield 19, 3) := by decide +kernel
theorem dO_openText_34 : decode mO_openText.2.1 34 = .ok (.iload_n 3, 1) := by decide +kernel
theorem dO_openText_35 : decode mO_openText.2.1 35 = .ok (.aload_n 2, 1) := by decide +kernel
theorem dO_openText_36 : decode mO_openText.2.1 36 = .ok (.getfield 19, 3) := by decide +kernel
theorem dO_openText_39 : decode mO_openText.2.1 39 = .ok (.invokevirtual 67, 3) := by decide +kernel
theorem dO_openText_42 : decode mO_openText.2.1 42 = .ok (.aload_n 2, 1) := by decide +kernel
theorem dO_openText_43 : decode mO_openText.2.1 43 = .ok (.iload_n 3, 1) := by decide +kernel
theorem dO_openText_44 : decode mO_openText.2.1 44 = .ok (.putfield 53, 3) := by decide +kernel
theorem dO_openText_47 : decode mO_openText.2.1 47 = .ok (.aload_n 0, 1) := by decide +kernel
theorem dO_openText_48 : decode mO_openText.2.1 48 = .ok (.aload_n 1, 1) := by decide +kernel
theorem dO_openText_49 : decode mO_openText.2.1 49 = .ok (.aload_n 2, 1) := by decide +kernel
theorem dO_openText_50 : decode mO_openText.2.1 50 = .ok (.getfield 19, 3) := by decide +kernel
theorem dO_openText_53 : decode mO_openText.2.1 53 = .ok (.iload_n 3, 1) := by decide +kernel
theorem dO_openText_54 : decode mO_openText.2.1 54 = .ok (.invokevirtual 57, 3) := by decide +kernel
theorem dO_openText_57 : decode mO_openText.2.1 57 = .ok (.aload_n 0, 1) := by decide +kernel
theorem dO_openText_58 : decode mO_openText.2.1 58 = .ok (.aload_n 1, 1) := by decide +kernel
theorem dO_openText_59 : decode mO_openText.2.1 59 = .ok (.iconst 3, 1) := by decide +kernel
theorem dO_openText_60 : decode mO_openText.2.1 60 = .ok (.aaload, 1) := by decide +kernel
theorem dO_openText_61 : decode mO_openText.2.1 61 = .ok (.invokevirtual 75, 3) := by decide +kernel
theorem dO_openText_64 : decode mO_openText.2.1 64 = .ok (.ireturn, 1) := by decide +kernel
theorem dO_makeDue_0 : decode mO_makeDue.2.1 0 = .ok (.aload_n 0, 1) := by decide +kernel
theorem dO_makeDue_1 : decode mO_makeDue.2.1 1 = .ok (.aload_n 1, 1) := by decide +kernel
theorem dO_makeDue_2 : decode mO_makeDue.2.1 2 = .ok (.iconst 2, 1) := by decide +kernel
theorem dO_makeDue_3 : decode mO_makeDue.2.1 3 = .ok (.aaload, 1) := by decide +kernel
theorem dO_makeDue_4 : decode mO_makeDue.2.1 4 = .ok (.aload_n 2, 1) := by decide +kernel
theorem dO_makeDue_5 : decode mO_makeDue.2.1 5 = .ok (.iload_n 3, 1) := by decide +kernel
theorem dO_makeDue_6 : decode mO_makeDue.2.1 6 = .ok (.invokevirtual 79, 3) := by decide +kernel
theorem dO_makeDue_9 : decode mO_makeDue.2.1 9 = .ok (.iconst 0, 1) := by decide +kernel
theorem dO_makeDue_10 : decode mO_makeDue.2.1 10 = .ok (.istore 4, 2) := by decide +kernel
theorem dO_makeDue_12 : decode mO_makeDue.2.1 12 = .ok (.iload 4, 2) := by decide +kernel
theorem dO_makeDue_14 : decode mO_makeDue.2.1 14 = .ok (.bipush 12, 2) := by decide +kernel
theorem dO_makeDue_16 : decode mO_makeDue.2.1 16 = .ok (.if_icmp .ge 28, 3) := by decide +kernel
theorem dO_makeDue_19 : decode mO_makeDue.2.1 19 = .ok (.aload_n 0, 1) := by decide +kernel
theorem dO_makeDue_20 : decode mO_makeDue.2.1 20 = .ok (.getfield 61, 3) := by decide +kernel
theorem dO_makeDue_23 : decode mO_makeDue.2.1 23 = .ok (.iload 4, 2) := by decide +kernel
theorem dO_makeDue_25 : decode mO_makeDue.2.1 25 = .ok (.dup2, 1) := by decide +kernel
theorem dO_makeDue_26 : decode mO_makeDue.2.1 26 = .ok (.iaload, 1) := by decide +kernel
theorem dO_makeDue_27 : decode mO_makeDue.2.1 27 = .ok (.aload_n 1, 1) := by decide +kernel
theorem dO_makeDue_28 : decode mO_makeDue.2.1 28 = .ok (.iconst 1, 1) := by decide +kernel
theorem dO_makeDue_29 : decode mO_makeDue.2.1 29 = .ok (.aaload, 1) := by decide +kernel
theorem dO_makeDue_30 : decode mO_makeDue.2.1 30 = .ok (.getfield 19, 3) := by decide +kernel
theorem dO_makeDue_33 : decode mO_makeDue.2.1 33 = .ok (.iload 4, 2) := by decide +kernel
theorem dO_makeDue_35 : decode mO_makeDue.2.1 35 = .ok (.iaload, 1) := by decide +kernel
theorem dO_makeDue_36 : decode mO_makeDue.2.1 36 = .ok (.ixor, 1) := by decide +kernel
theorem dO_makeDue_37 : decode mO_makeDue.2.1 37 = .ok (.iastore, 1) := by decide +kernel
theorem dO_makeDue_38 : decode mO_makeDue.2.1 38 = .ok (.iinc 4 1, 3) := by decide +kernel
theorem dO_makeDue_41 : decode mO_makeDue.2.1 41 = .ok (.goto (-29), 3) := by decide +kernel
theorem dO_makeDue_44 : decode mO_makeDue.2.1 44 = .ok (.aload_n 0, 1) := by decide +kernel
theorem dO_makeDue_45 : decode mO_makeDue.2.1 45 = .ok (.getfield 61, 3) := by decide +kernel
theorem dO_makeDue_48 : decode mO_makeDue.2.1 48 = .ok (.bipush 15, 2) := by decide +kernel
theorem dO_makeDue_50 : decode mO_makeDue.2.1 50 = .ok (.dup2, 1) := by decide +kernel
theorem dO_makeDue_51 : decode mO_makeDue.2.1 51 = .ok (.iaload, 1) := by decide +kernel
theorem dO_makeDue_52 : decode mO_makeDue.2.1 52 = .ok (.bipush 127, 2) := by decide +kernel
theorem dO_makeDue_54 : decode mO_makeDue.2.1 54 = .ok (.iand, 1) := by decide +kernel
theorem dO_makeDue_55 : decode mO_makeDue.2.1 55 = .ok (.iastore, 1) := by decide +kernel
theorem dO_makeDue_56 : decode mO_makeDue.2.1 56 = .ok (.aload_n 0, 1) := by decide +kernel
theorem dO_makeDue_57 : decode mO_makeDue.2.1 57 = .ok (.getfield 15, 3) := by decide +kernel
theorem dO_makeDue_60 : decode mO_makeDue.2.1 60 = .ok (.aload_n 0, 1) := by decide +kernel
theorem dO_makeDue_61 : decode mO_makeDue.2.1 61 = .ok (.getfield 61, 3) := by decide +kernel
theorem dO_makeDue_64 : decode mO_makeDue.2.1 64 = .ok (.aload_n 0, 1) := by decide +kernel
theorem dO_makeDue_65 : decode mO_makeDue.2.1 65 = .ok (.getfield 61, 3) := by decide +kernel
theorem dO_makeDue_68 : decode mO_makeDue.2.1 68 = .ok (.invokevirtual 49, 3) := by decide +kernel
theorem dO_makeDue_71 : decode mO_makeDue.2.1 71 = .ok (.return_, 1) := by decide +kernel
theorem dO_count_0 : decode mO_count.2.1 0 = .ok (.aload_n 0, 1) := by decide +kernel
theorem dO_count_1 : decode mO_count.2.1 1 = .ok (.getfield 64, 3) := by decide +kernel
theorem dO_count_4 : decode mO_count.2.1 4 = .ok (.iconst 0, 1) := by decide +kernel
theorem dO_count_5 : decode mO_count.2.1 5 = .ok (.aload_n 0, 1) := by decide +kernel
theorem dO_count_6 : decode mO_count.2.1 6 = .ok (.getfield 37, 3) := by decide +kernel
theorem dO_count_9 : decode mO_count.2.1 9 = .ok (.iconst 0, 1) := by decide +kernel
theorem dO_count_10 : decode mO_count.2.1 10 = .ok (.bipush 16, 2) := by decide +kernel
theorem dO_count_12 : decode mO_count.2.1 12 = .ok (.invokestatic 40, 3) := by decide +kernel
theorem dO_count_15 : decode mO_count.2.1 15 = .ok (.aload_n 0, 1) := by decide +kernel
theorem dO_count_16 : decode mO_count.2.1 16 = .ok (.getfield 37, 3) := by decide +kernel
theorem dO_count_19 : decode mO_count.2.1 19 = .ok (.bipush 15, 2) := by decide +kernel
theorem dO_count_21 : decode mO_count.2.1 21 = .ok (.dup2, 1) := by decide +kernel
theorem dO_count_22 : decode mO_count.2.1 22 = .ok (.iaload, 1) := by decide +kernel
theorem dO_count_23 : decode mO_count.2.1 23 = .ok (.sipush 128, 3) := by decide +kernel
theorem dO_count_26 : decode mO_count.2.1 26 = .ok (.ior, 1) := by decide +kernel
theorem dO_count_27 : decode mO_count.2.1 27 = .ok (.iastore, 1) := by decide +kernel
theorem dO_count_28 : decode mO_count.2.1 28 = .ok (.iconst 0, 1) := by decide +kernel
theorem dO_count_29 : decode mO_count.2.1 29 = .ok (.istore_n 2, 1) := by decide +kernel
theorem dO_count_30 : decode mO_count.2.1 30 = .ok (.iconst 3, 1) := by decide +kernel
theorem dO_count_31 : decode mO_count.2.1 31 = .ok (.istore_n 3, 1) := by decide +kernel
theorem dO_count_32 : decode mO_count.2.1 32 = .ok (.iload_n 3, 1) := by decide +kernel
theorem dO_count_33 : decode mO_count.2.1 33 = .ok (.ifCond .lt 21, 3) := by decide +kernel
theorem dO_count_36 : decode mO_count.2.1 36 = .ok (.iload_n 2, 1) := by decide +kernel
theorem dO_count_37 : decode mO_count.2.1 37 = .ok (.bipush 8, 2) := by decide +kernel
theorem dO_count_39 : decode mO_count.2.1 39 = .ok (.ishl, 1) := by decide +kernel
theorem dO_count_40 : decode mO_count.2.1 40 = .ok (.aload_n 0, 1) := by decide +kernel
theorem dO_count_41 : decode mO_count.2.1 41 = .ok (.getfield 64, 3) := by decide +kernel
theorem dO_count_44 : decode mO_count.2.1 44 = .ok (.iload_n 3, 1) := by decide +kernel
theorem dO_count_45 : decode mO_count.2.1 45 = .ok (.iaload, 1) := by decide +kernel
theorem dO_count_46 : decode mO_count.2.1 46 = .ok (.ior, 1) := by decide +kernel
theorem dO_count_47 : decode mO_count.2.1 47 = .ok (.istore_n 2, 1) := by decide +kernel
theorem dO_count_48 : decode mO_count.2.1 48 = .ok (.iinc 3 (-1), 3) := by decide +kernel
theorem dO_count_51 : decode mO_count.2.1 51 = .ok (.goto (-19), 3) := by decide +kernel
theorem dO_count_54 : decode mO_count.2.1 54 = .ok (.iload_n 2, 1) := by decide +kernel
theorem dO_count_55 : decode mO_count.2.1 55 = .ok (.iload_n 1, 1) := by decide +kernel
theorem dO_count_56 : decode mO_count.2.1 56 = .ok (.iadd, 1) := by decide +kernel
theorem dO_count_57 : decode mO_count.2.1 57 = .ok (.istore_n 2, 1) := by decide +kernel
theorem dO_count_58 : decode mO_count.2.1 58 = .ok (.iconst 0, 1) := by decide +kernel
theorem dO_count_59 : decode mO_count.2.1 59 = .ok (.istore_n 3, 1) := by decide +kernel
theorem dO_count_60 : decode mO_count.2.1 60 = .ok (.iload_n 3, 1) := by decide +kernel
theorem dO_count_61 : decode mO_count.2.1 61 = .ok (.iconst 4, 1) := by decide +kernel
theorem dO_count_62 : decode mO_count.2.1 62 = .ok (.if_icmp .ge 25, 3) := by decide +kernel
theorem dO_count_65 : decode mO_count.2.1 65 = .ok (.aload_n 0, 1) := by decide +kernel
theorem dO_count_66 : decode mO_count.2.1 66 = .ok (.getfield 37, 3) := by decide +kernel
theorem dO_count_69 : decode mO_count.2.1 69 = .ok (.iload_n 3, 1) := by decide +kernel
theorem dO_count_70 : decode mO_count.2.1 70 = .ok (.iload_n 2, 1) := by decide +kernel
theorem dO_count_71 : decode mO_count.2.1 71 = .ok (.sipush 255, 3) := by decide +kernel
theorem dO_count_74 : decode mO_count.2.1 74 = .ok (.iand, 1) := by decide +kernel
theorem dO_count_75 : decode mO_count.2.1 75 = .ok (.iastore, 1) := by decide +kernel
theorem dO_count_76 : decode mO_count.2.1 76 = .ok (.iload_n 2, 1) := by decide +kernel
theorem dO_count_77 : decode mO_count.2.1 77 = .ok (.bipush 8, 2) := by decide +kernel
theorem dO_count_79 : decode mO_count.2.1 79 = .ok (.iushr, 1) := by decide +kernel
theorem dO_count_80 : decode mO_count.2.1 80 = .ok (.istore_n 2, 1) := by decide +kernel
theorem dO_count_81 : decode mO_count.2.1 81 = .ok (.iinc 3 1, 3) := by decide +kernel
theorem dO_count_84 : decode mO_count.2.1 84 = .ok (.goto (-24), 3) := by decide +kernel
theorem dO_count_87 : decode mO_count.2.1 87 = .ok (.return_, 1) := by decide +kernel
theorem dZ_init_0 : decode mZ_init.2.1 0 = .ok (.aload_n 0, 1) := by decide +kernel
theorem dZ_init_1 : decode mZ_init.2.1 1 = .ok (.aload_n 1, 1) := by decide +kernel
theorem dZ_init_2 : decode mZ_init.2.1 2 = .ok (.aload_n 2, 1) := by decide +kernel
theorem dZ_init_3 : decode mZ_init.2.1 3 = .ok (.invokespecial 3, 3) := by decide +kernel
theorem dZ_init_6 : decode mZ_init.2.1 6 = .ok (.aload_n 0, 1) := by decide +kernel
theorem dZ_init_7 : decode mZ_init.2.1 7 = .ok (.bipush 16, 2) := by decide +kernel
theorem dZ_init_9 : decode mZ_init.2.1 9 = .ok (.newarray .int, 2) := by decide +kernel
theorem dZ_init_11 : decode mZ_init.2.1 11 = .ok (.putfield 9, 3) := by decide +kernel
theorem dZ_init_14 : decode mZ_init.2.1 14 = .ok (.return_, 1) := by decide +kernel
theorem dZ_takesNonceOf_0 : decode mZ_takesNonceOf.2.1 0 = .ok (.iload_n 1, 1) := by decide +kernel
theorem dZ_takesNonceOf_1 : decode mZ_takesNonceOf.2.1 1 = .ok (.iconst 1, 1) := by decide +kernel
theorem dZ_takesNonceOf_2 : decode mZ_takesNonceOf.2.1 2 = .ok (.if_icmp .lt 7, 3) := by decide +kernel
theorem dZ_takesNonceOf_5 : decode mZ_takesNonceOf.2.1 5 = .ok (.iconst 1, 1) := by decide +kernel
theorem dZ_takesNonceOf_6 : decode mZ_takesNonceOf.2.1 6 = .ok (.goto 4, 3) := by decide +kernel
theorem dZ_takesNonceOf_9 : decode mZ_takesNonceOf.2.1 9 = .ok (.iconst 0, 1) := by decide +kernel
theorem dZ_takesNonceOf_10 : decode mZ_takesNonceOf.2.1 10 = .ok (.ireturn, 1) := by decide +kernel
theorem dZ_useKey_0 : decode mZ_useKey.2.1 0 = .ok (.aload_n 0, 1) := by decide +kernel
theorem dZ_useKey_1 : decode mZ_useKey.2.1 1 = .ok (.getfield 15, 3) := by decide +kernel
theorem dZ_useKey_4 : decode mZ_useKey.2.1 4 = .ok (.aload_n 1, 1) := by decide +kernel
theorem dZ_useKey_5 : decode mZ_useKey.2.1 5 = .ok (.getfield 19, 3) := by decide +kernel
theorem dZ_useKey_8 : decode mZ_useKey.2.1 8 = .ok (.invokevirtual 24, 3) := by decide +kernel
theorem dZ_useKey_11 : decode mZ_useKey.2.1 11 = .ok (.aload_n 0, 1) := by decide +kernel
theorem dZ_useKey_12 : decode mZ_useKey.2.1 12 = .ok (.getfield 15, 3) := by decide +kernel
theorem dZ_useKey_15 : decode mZ_useKey.2.1 15 = .ok (.aload_n 0, 1) := by decide +kernel
theorem dZ_useKey_16 : decode mZ_useKey.2.1 16 = .ok (.getfield 9, 3) := by decide +kernel
theorem dZ_useKey_19 : decode mZ_useKey.2.1 19 = .ok (.aload_n 0, 1) := by decide +kernel
theorem dZ_useKey_20 : decode mZ_useKey.2.1 20 = .ok (.getfield 30, 3) := by decide +kernel
theorem dZ_useKey_23 : decode mZ_useKey.2.1 23 = .ok (.invokevirtual 33, 3) := by decide +kernel
theorem dZ_useKey_26 : decode mZ_useKey.2.1 26 = .ok (.aload_n 2, 1) := by decide +kernel
theorem dZ_useKey_27 : decode mZ_useKey.2.1 27 = .ok (.getfield 37, 3) := by decide +kernel
theorem dZ_useKey_30 : decode mZ_useKey.2.1 30 = .ok (.bipush 12, 2) := by decide +kernel
theorem dZ_useKey_32 : decode mZ_useKey.2.1 32 = .ok (.if_icmp .ne 44, 3) := by decide +kernel
theorem dZ_useKey_35 : decode mZ_useKey.2.1 35 = .ok (.aload_n 2, 1) := by decide +kernel
theorem dZ_useKey_36 : decode mZ_useKey.2.1 36 = .ok (.getfield 19, 3) := by decide +kernel
theorem dZ_useKey_39 : decode mZ_useKey.2.1 39 = .ok (.iconst 0, 1) := by decide +kernel
theorem dZ_useKey_40 : decode mZ_useKey.2.1 40 = .ok (.aload_n 0, 1) := by decide +kernel
theorem dZ_useKey_41 : decode mZ_useKey.2.1 41 = .ok (.getfield 41, 3) := by decide +kernel
theorem dZ_useKey_44 : decode mZ_useKey.2.1 44 = .ok (.iconst 0, 1) := by decide +kernel
theorem dZ_useKey_45 : decode mZ_useKey.2.1 45 = .ok (.bipush 12, 2) := by decide +kernel
theorem dZ_useKey_47 : decode mZ_useKey.2.1 47 = .ok (.invokestatic 44, 3) := by decide +kernel
theorem dZ_useKey_50 : decode mZ_useKey.2.1 50 = .ok (.aload_n 0, 1) := by decide +kernel
theorem dZ_useKey_51 : decode mZ_useKey.2.1 51 = .ok (.getfield 9, 3) := by decide +kernel
theorem dZ_useKey_54 : decode mZ_useKey.2.1 54 = .ok (.iconst 0, 1) := by decide +kernel
theorem dZ_useKey_55 : decode mZ_useKey.2.1 55 = .ok (.aload_n 0, 1) := by decide +kernel
theorem dZ_useKey_56 : decode mZ_useKey.2.1 56 = .ok (.getfield 41, 3) := by decide +kernel
theorem dZ_useKey_59 : decode mZ_useKey.2.1 59 = .ok (.bipush 12, 2) := by decide +kernel
theorem dZ_useKey_61 : decode mZ_useKey.2.1 61 = .ok (.iconst 4, 1) := by decide +kernel
theorem dZ_useKey_62 : decode mZ_useKey.2.1 62 = .ok (.invokestatic 44, 3) := by decide +kernel
theorem dZ_useKey_65 : decode mZ_useKey.2.1 65 = .ok (.aload_n 0, 1) := by decide +kernel
theorem dZ_useKey_66 : decode mZ_useKey.2.1 66 = .ok (.getfield 41, 3) := by decide +kernel
theorem dZ_useKey_69 : decode mZ_useKey.2.1 69 = .ok (.bipush 15, 2) := by decide +kernel
theorem dZ_useKey_71 : decode mZ_useKey.2.1 71 = .ok (.iconst 1, 1) := by decide +kernel
theorem dZ_useKey_72 : decode mZ_useKey.2.1 72 = .ok (.iastore, 1) := by decide +kernel
theorem dZ_useKey_73 : decode mZ_useKey.2.1 73 = .ok (.goto 52, 3) := by decide +kernel
theorem dZ_useKey_76 : decode mZ_useKey.2.1 76 = .ok (.aload_n 0, 1) := by decide +kernel
theorem dZ_useKey_77 : decode mZ_useKey.2.1 77 = .ok (.getfield 50, 3) := by decide +kernel
theorem dZ_useKey_80 : decode mZ_useKey.2.1 80 = .ok (.aload_n 0, 1) := by decide +kernel
theorem dZ_useKey_81 : decode mZ_useKey.2.1 81 = .ok (.getfield 30, 3) := by decide +kernel
theorem dZ_useKey_84 : decode mZ_useKey.2.1 84 = .ok (.invokevirtual 54, 3) := by decide +kernel
theorem dZ_useKey_87 : decode mZ_useKey.2.1 87 = .ok (.aload_n 0, 1) := by decide +kernel
theorem dZ_useKey_88 : decode mZ_useKey.2.1 88 = .ok (.getfield 50, 3) := by decide +kernel
theorem dZ_useKey_91 : decode mZ_useKey.2.1 91 = .ok (.aload_n 2, 1) := by decide +kernel
theorem dZ_useKey_92 : decode mZ_useKey.2.1 92 = .ok (.getfield 19, 3) := by decide +kernel
theorem dZ_useKey_95 : decode mZ_useKey.2.1 95 = .ok (.aload_n 2, 1) := by decide +kernel
theorem dZ_useKey_96 : decode mZ_useKey.2.1 96 = .ok (.getfield 37, 3) := by decide +kernel
theorem dZ_useKey_99 : decode mZ_useKey.2.1 99 = .ok (.invokevirtual 59, 3) := by decide +kernel
theorem dZ_useKey_102 : decode mZ_useKey.2.1 102 = .ok (.aload_n 0, 1) := by decide +kernel
theorem dZ_useKey_103 : decode mZ_useKey.2.1 103 = .ok (.getfield 50, 3) := by decide +kernel
theorem dZ_useKey_106 : decode mZ_useKey.2.1 106 = .ok (.iconst 0, 1) := by decide +kernel
theorem dZ_useKey_107 : decode mZ_useKey.2.1 107 = .ok (.aload_n 2, 1) := by decide +kernel
theorem dZ_useKey_108 : decode mZ_useKey.2.1 108 = .ok (.getfield 37, 3) := by decide +kernel
theorem dZ_useKey_111 : decode mZ_useKey.2.1 111 = .ok (.invokevirtual 63, 3) := by decide +kernel
theorem dZ_useKey_114 : decode mZ_useKey.2.1 114 = .ok (.aload_n 0, 1) := by decide +kernel
theorem dZ_useKey_115 : decode mZ_useKey.2.1 115 = .ok (.getfield 50, 3) := by decide +kernel
theorem dZ_useKey_118 : decode mZ_useKey.2.1 118 = .ok (.aload_n 0, 1) := by decide +kernel
theorem dZ_useKey_119 : decode mZ_useKey.2.1 119 = .ok (.getfield 41, 3) := by decide +kernel
theorem dZ_useKey_122 : decode mZ_useKey.2.1 122 = .ok (.invokevirtual 67, 3) := by decide +kernel
theorem dZ_useKey_125 : decode mZ_useKey.2.1 125 = .ok (.return_, 1) := by decide +kernel
theorem dZ_sealText_0 : decode mZ_sealText.2.1 0 = .ok (.aload_n 1, 1) := by decide +kernel
theorem dZ_sealText_1 : decode mZ_sealText.2.1 1 = .ok (.iconst 3, 1) := by decide +kernel
theorem dZ_sealText_2 : decode mZ_sealText.2.1 2 = .ok (.aaload, 1) := by decide +kernel
theorem dZ_sealText_3 : decode mZ_sealText.2.1 3 = .ok (.getfield 37, 3) := by decide +kernel
theorem dZ_sealText_6 : decode mZ_sealText.2.1 6 = .ok (.istore_n 3, 1) := by decide +kernel
theorem dZ_sealText_7 : decode mZ_sealText.2.1 7 = .ok (.aload_n 0, 1) := by decide +kernel
theorem dZ_sealText_8 : decode mZ_sealText.2.1 8 = .ok (.aload_n 1, 1) := by decide +kernel
theorem dZ_sealText_9 : decode mZ_sealText.2.1 9 = .ok (.iconst 3, 1) := by decide +kernel
theorem dZ_sealText_10 : decode mZ_sealText.2.1 10 = .ok (.aaload, 1) := by decide +kernel
theorem dZ_sealText_11 : decode mZ_sealText.2.1 11 = .ok (.getfield 19, 3) := by decide +kernel
theorem dZ_sealText_14 : decode mZ_sealText.2.1 14 = .ok (.iload_n 3, 1) := by decide +kernel
theorem dZ_sealText_15 : decode mZ_sealText.2.1 15 = .ok (.aload_n 2, 1) := by decide +kernel
theorem dZ_sealText_16 : decode mZ_sealText.2.1 16 = .ok (.getfield 19, 3) := by decide +kernel
theorem dZ_sealText_19 : decode mZ_sealText.2.1 19 = .ok (.invokevirtual 70, 3) := by decide +kernel
theorem dZ_sealText_22 : decode mZ_sealText.2.1 22 = .ok (.aload_n 0, 1) := by decide +kernel
theorem dZ_sealText_23 : decode mZ_sealText.2.1 23 = .ok (.aload_n 1, 1) := by decide +kernel
theorem dZ_sealText_24 : decode mZ_sealText.2.1 24 = .ok (.iconst 2, 1) := by decide +kernel
theorem dZ_sealText_25 : decode mZ_sealText.2.1 25 = .ok (.aaload, 1) := by decide +kernel
theorem dZ_sealText_26 : decode mZ_sealText.2.1 26 = .ok (.aload_n 2, 1) := by decide +kernel
theorem dZ_sealText_27 : decode mZ_sealText.2.1 27 = .ok (.getfield 19, 3) := by decide +kernel
theorem dZ_sealText_30 : decode mZ_sealText.2.1 30 = .ok (.iload_n 3, 1) := by decide +kernel
theorem dZ_sealText_31 : decode mZ_sealText.2.1 31 = .ok (.invokevirtual 74, 3) := by decide +kernel
theorem dZ_sealText_34 : decode mZ_sealText.2.1 34 = .ok (.aload_n 0, 1) := by decide +kernel
theorem dZ_sealText_35 : decode mZ_sealText.2.1 35 = .ok (.aload_n 2, 1) := by decide +kernel
theorem dZ_sealText_36 : decode mZ_sealText.2.1 36 = .ok (.iload_n 3, 1) := by decide +kernel
theorem dZ_sealText_37 : decode mZ_sealText.2.1 37 = .ok (.invokevirtual 78, 3) := by decide +kernel
theorem dZ_sealText_40 : decode mZ_sealText.2.1 40 = .ok (.return_, 1) := by decide +kernel
theorem dZ_openText_0 : decode mZ_openText.2.1 0 = .ok (.aload_n 1, 1) := by decide +kernel
theorem dZ_openText_1 : decode mZ_openText.2.1 1 = .ok (.iconst 3, 1) := by decide +kernel
theorem dZ_openText_2 : decode mZ_openText.2.1 2 = .ok (.aaload, 1) := by decide +kernel
theorem dZ_openText_3 : decode mZ_openText.2.1 3 = .ok (.getfield 37, 3) := by decide +kernel
theorem dZ_openText_6 : decode mZ_openText.2.1 6 = .ok (.bipush 16, 2) := by decide +kernel
theorem dZ_openText_8 : decode mZ_openText.2.1 8 = .ok (.isub, 1) := by decide +kernel
theorem dZ_openText_9 : decode mZ_openText.2.1 9 = .ok (.istore_n 3, 1) := by decide +kernel
theorem dZ_openText_10 : decode mZ_openText.2.1 10 = .ok (.aload_n 0, 1) := by decide +kernel
theorem dZ_openText_11 : decode mZ_openText.2.1 11 = .ok (.aload_n 1, 1) := by decide +kernel
theorem dZ_openText_12 : decode mZ_openText.2.1 12 = .ok (.iconst 2, 1) := by decide +kernel
theorem dZ_openText_13 : decode mZ_openText.2.1 13 = .ok (.aaload, 1) := by decide +kernel
theorem dZ_openText_14 : decode mZ_openText.2.1 14 = .ok (.aload_n 1, 1) := by decide +kernel
theorem dZ_openText_15 : decode mZ_openText.2.1 15 = .ok (.iconst 3, 1) := by decide +kernel
theorem dZ_openText_16 : decode mZ_openText.2.1 16 = .ok (.aaload, 1) := by decide +kernel
theorem dZ_openText_17 : decode mZ_openText.2.1 17 = .ok (.getfield 19, 3) := by decide +kernel
theorem dZ_openText_20 : decode mZ_openText.2.1 20 = .ok (.iload_n 3, 1) := by decide +kernel
theorem dZ_openText_21 : decode mZ_openText.2.1 21 = .ok (.invokevirtual 74, 3) := by decide +kernel
theorem dZ_openText_24 : decode mZ_openText.2.1 24 = .ok (.aload_n 0, 1) := by decide +kernel
theorem dZ_openText_25 : decode mZ_openText.2.1 25 = .ok (.aload_n 1, 1) := by decide +kernel
theorem dZ_openText_26 : decode mZ_openText.2.1 26 = .ok (.iconst 3, 1) := by decide +kernel
theorem dZ_openText_27 : decode mZ_openText.2.1 27 = .ok (.aaload, 1) := by decide +kernel
theorem dZ_openText_28 : decode mZ_openText.2.1 28 = .ok (.getfield 19, 3) := by decide +kernel
theorem dZ_openText_31 : decode mZ_openText.2.1 31 = .ok (.iload_n 3, 1) := by decide +kernel
theorem dZ_openText_32 : decode mZ_openText.2.1 32 = .ok (.aload_n 2, 1) := by decide +kernel
theorem dZ_openText_33 : decode mZ_openText.2.1 33 = .ok (.getfield 19, 3) := by decide +kernel
theorem dZ_openText_36 : decode mZ_openText.2.1 36 = .ok (.invokevirtual 70, 3) := by decide +kernel
theorem dZ_openText_39 : decode mZ_openText.2.1 39 = .ok (.aload_n 2, 1) := by decide +kernel
theorem dZ_openText_40 : decode mZ_openText.2.1 40 = .ok (.iload_n 3, 1) := by decide +kernel
theorem dZ_openText_41 : decode mZ_openText.2.1 41 = .ok (.putfield 37, 3) := by decide +kernel
theorem dZ_openText_44 : decode mZ_openText.2.1 44 = .ok (.aload_n 0, 1) := by decide +kernel
theorem dZ_openText_45 : decode mZ_openText.2.1 45 = .ok (.aload_n 1, 1) := by decide +kernel
theorem dZ_openText_46 : decode mZ_openText.2.1 46 = .ok (.iconst 3, 1) := by decide +kernel
theorem dZ_openText_47 : decode mZ_openText.2.1 47 = .ok (.aaload, 1) := by decide +kernel
theorem dZ_openText_48 : decode mZ_openText.2.1 48 = .ok (.invokevirtual 82, 3) := by decide +kernel
theorem dZ_openText_51 : decode mZ_openText.2.1 51 = .ok (.ireturn, 1) := by decide +kernel
theorem dZ_makeDue_0 : decode mZ_makeDue.2.1 0 = .ok (.aload_n 0, 1) := by decide +kernel
theorem dZ_makeDue_1 : decode mZ_makeDue.2.1 1 = .ok (.aload_n 1, 1) := by decide +kernel
theorem dZ_makeDue_2 : decode mZ_makeDue.2.1 2 = .ok (.aload_n 2, 1) := by decide +kernel
theorem dZ_makeDue_3 : decode mZ_makeDue.2.1 3 = .ok (.iload_n 3, 1) := by decide +kernel
theorem dZ_makeDue_4 : decode mZ_makeDue.2.1 4 = .ok (.invokevirtual 86, 3) := by decide +kernel
theorem dZ_makeDue_7 : decode mZ_makeDue.2.1 7 = .ok (.aload_n 0, 1) := by decide +kernel
theorem dZ_makeDue_8 : decode mZ_makeDue.2.1 8 = .ok (.getfield 15, 3) := by decide +kernel
theorem dZ_makeDue_11 : decode mZ_makeDue.2.1 11 = .ok (.aload_n 0, 1) := by decide +kernel
theorem dZ_makeDue_12 : decode mZ_makeDue.2.1 12 = .ok (.getfield 41, 3) := by decide +kernel
theorem dZ_makeDue_15 : decode mZ_makeDue.2.1 15 = .ok (.aload_n 0, 1) := by decide +kernel
theorem dZ_makeDue_16 : decode mZ_makeDue.2.1 16 = .ok (.getfield 89, 3) := by decide +kernel
theorem dZ_makeDue_19 : decode mZ_makeDue.2.1 19 = .ok (.invokevirtual 33, 3) := by decide +kernel
theorem dZ_makeDue_22 : decode mZ_makeDue.2.1 22 = .ok (.iconst 0, 1) := by decide +kernel
theorem dZ_makeDue_23 : decode mZ_makeDue.2.1 23 = .ok (.istore 4, 2) := by decide +kernel
theorem dZ_makeDue_25 : decode mZ_makeDue.2.1 25 = .ok (.iload 4, 2) := by decide +kernel
theorem dZ_makeDue_27 : decode mZ_makeDue.2.1 27 = .ok (.bipush 16, 2) := by decide +kernel
theorem dZ_makeDue_29 : decode mZ_makeDue.2.1 29 = .ok (.if_icmp .ge 26, 3) := by decide +kernel
theorem dZ_makeDue_32 : decode mZ_makeDue.2.1 32 = .ok (.aload_n 0, 1) := by decide +kernel
theorem dZ_makeDue_33 : decode mZ_makeDue.2.1 33 = .ok (.getfield 92, 3) := by decide +kernel
theorem dZ_makeDue_36 : decode mZ_makeDue.2.1 36 = .ok (.iload 4, 2) := by decide +kernel
theorem dZ_makeDue_38 : decode mZ_makeDue.2.1 38 = .ok (.dup2, 1) := by decide +kernel
theorem dZ_makeDue_39 : decode mZ_makeDue.2.1 39 = .ok (.iaload, 1) := by decide +kernel
theorem dZ_makeDue_40 : decode mZ_makeDue.2.1 40 = .ok (.aload_n 0, 1) := by decide +kernel
theorem dZ_makeDue_41 : decode mZ_makeDue.2.1 41 = .ok (.getfield 89, 3) := by decide +kernel
theorem dZ_makeDue_44 : decode mZ_makeDue.2.1 44 = .ok (.iload 4, 2) := by decide +kernel
theorem dZ_makeDue_46 : decode mZ_makeDue.2.1 46 = .ok (.iaload, 1) := by decide +kernel
theorem dZ_makeDue_47 : decode mZ_makeDue.2.1 47 = .ok (.ixor, 1) := by decide +kernel
theorem dZ_makeDue_48 : decode mZ_makeDue.2.1 48 = .ok (.iastore, 1) := by decide +kernel
theorem dZ_makeDue_49 : decode mZ_makeDue.2.1 49 = .ok (.iinc 4 1, 3) := by decide +kernel
theorem dZ_makeDue_52 : decode mZ_makeDue.2.1 52 = .ok (.goto (-27), 3) := by decide +kernel
theorem dZ_makeDue_55 : decode mZ_makeDue.2.1 55 = .ok (.return_, 1) := by decide +kernel
theorem dZ_count_0 : decode mZ_count.2.1 0 = .ok (.aload_n 0, 1) := by decide +kernel
theorem dZ_count_1 : decode mZ_count.2.1 1 = .ok (.getfield 41, 3) := by decide +kernel
theorem dZ_count_4 : decode mZ_count.2.1 4 = .ok (.iconst 0, 1) := by decide +kernel
theorem dZ_count_5 : decode mZ_count.2.1 5 = .ok (.aload_n 0, 1) := by decide +kernel
theorem dZ_count_6 : decode mZ_count.2.1 6 = .ok (.getfield 95, 3) := by decide +kernel
theorem dZ_count_9 : decode mZ_count.2.1 9 = .ok (.iconst 0, 1) := by decide +kernel
theorem dZ_count_10 : decode mZ_count.2.1 10 = .ok (.bipush 16, 2) := by decide +kernel
theorem dZ_count_12 : decode mZ_count.2.1 12 = .ok (.invokestatic 44, 3) := by decide +kernel
theorem dZ_count_15 : decode mZ_count.2.1 15 = .ok (.iconst 0, 1) := by decide +kernel
theorem dZ_count_16 : decode mZ_count.2.1 16 = .ok (.istore_n 2, 1) := by decide +kernel
theorem dZ_count_17 : decode mZ_count.2.1 17 = .ok (.bipush 12, 2) := by decide +kernel
theorem dZ_count_19 : decode mZ_count.2.1 19 = .ok (.istore_n 3, 1) := by decide +kernel
theorem dZ_count_20 : decode mZ_count.2.1 20 = .ok (.iload_n 3, 1) := by decide +kernel
theorem dZ_count_21 : decode mZ_count.2.1 21 = .ok (.bipush 16, 2) := by decide +kernel
theorem dZ_count_23 : decode mZ_count.2.1 23 = .ok (.if_icmp .ge 21, 3) := by decide +kernel
theorem dZ_count_26 : decode mZ_count.2.1 26 = .ok (.iload_n 2, 1) := by decide +kernel
theorem dZ_count_27 : decode mZ_count.2.1 27 = .ok (.bipush 8, 2) := by decide +kernel
theorem dZ_count_29 : decode mZ_count.2.1 29 = .ok (.ishl, 1) := by decide +kernel
theorem dZ_count_30 : decode mZ_count.2.1 30 = .ok (.aload_n 0, 1) := by decide +kernel
theorem dZ_count_31 : decode mZ_count.2.1 31 = .ok (.getfield 41, 3) := by decide +kernel
theorem dZ_count_34 : decode mZ_count.2.1 34 = .ok (.iload_n 3, 1) := by decide +kernel
theorem dZ_count_35 : decode mZ_count.2.1 35 = .ok (.iaload, 1) := by decide +kernel
theorem dZ_count_36 : decode mZ_count.2.1 36 = .ok (.ior, 1) := by decide +kernel
theorem dZ_count_37 : decode mZ_count.2.1 37 = .ok (.istore_n 2, 1) := by decide +kernel
theorem dZ_count_38 : decode mZ_count.2.1 38 = .ok (.iinc 3 1, 3) := by decide +kernel
theorem dZ_count_41 : decode mZ_count.2.1 41 = .ok (.goto (-21), 3) := by decide +kernel
theorem dZ_count_44 : decode mZ_count.2.1 44 = .ok (.iload_n 2, 1) := by decide +kernel
theorem dZ_count_45 : decode mZ_count.2.1 45 = .ok (.iload_n 1, 1) := by decide +kernel
theorem dZ_count_46 : decode mZ_count.2.1 46 = .ok (.iconst 1, 1) := by decide +kernel
theorem dZ_count_47 : decode mZ_count.2.1 47 = .ok (.iadd, 1) := by decide +kernel
theorem dZ_count_48 : decode mZ_count.2.1 48 = .ok (.iadd, 1) := by decide +kernel
theorem dZ_count_49 : decode mZ_count.2.1 49 = .ok (.istore_n 2, 1) := by decide +kernel
theorem dZ_count_50 : decode mZ_count.2.1 50 = .ok (.bipush 15, 2) := by decide +kernel
theorem dZ_count_52 : decode mZ_count.2.1 52 = .ok (.istore_n 3, 1) := by decide +kernel
theorem dZ_count_53 : decode mZ_count.2.1 53 = .ok (.iload_n 3, 1) := by decide +kernel
theorem dZ_count_54 : decode mZ_count.2.1 54 = .ok (.bipush 12, 2) := by decide +kernel
theorem dZ_count_56 : decode mZ_count.2.1 56 = .ok (.if_icmp .lt 25, 3) := by decide +kernel
theorem dZ_count_59 : decode mZ_count.2.1 59 = .ok (.aload_n 0, 1) := by decide +kernel
theorem dZ_count_60 : decode mZ_count.2.1 60 = .ok (.getfield 95, 3) := by decide +kernel
theorem dZ_count_63 : decode mZ_count.2.1 63 = .ok (.iload_n 3, 1) := by decide +kernel
theorem dZ_count_64 : decode mZ_count.2.1 64 = .ok (.iload_n 2, 1) := by decide +kernel
theorem dZ_count_65 : decode mZ_count.2.1 65 = .ok (.sipush 255, 3) := by decide +kernel
theorem dZ_count_68 : decode mZ_count.2.1 68 = .ok (.iand, 1) := by decide +kernel
theorem dZ_count_69 : decode mZ_count.2.1 69 = .ok (.iastore, 1) := by decide +kernel
theorem dZ_count_70 : decode mZ_count.2.1 70 = .ok (.iload_n 2, 1) := by decide +kernel
theorem dZ_count_71 : decode mZ_count.2.1 71 = .ok (.bipush 8, 2) := by decide +kernel
theorem dZ_count_73 : decode mZ_count.2.1 73 = .ok (.iushr, 1) := by decide +kernel
theorem dZ_count_74 : decode mZ_count.2.1 74 = .ok (.istore_n 2, 1) := by decide +kernel
theorem dZ_count_75 : decode mZ_count.2.1 75 = .ok (.iinc 3 (-1), 3) := by decide +kernel
theorem dZ_count_78 : decode mZ_count.2.1 78 = .ok (.goto (-25), 3) := by decide +kernel
theorem dZ_count_81 : decode mZ_count.2.1 81 = .ok (.return_, 1) := by decide +kernel
end
section
theorem dM_init_0 : decode mM_init.2.1 0 = .ok (.aload_n 0, 1) := by decide +kernel
theorem dM_init_1 : decode mM_init.2.1 1 = .ok (.invokespecial 1, 3) := by decide +kernel
theorem dM_init_4 : decode mM_init.2.1 4 = .ok (.aload_n 0, 1) := by decide +kernel
theorem dM_init_5 : decode mM_init.2.1 5 = .ok (.sipush 320, 3) := by decide +kernel
theorem dM_init_8 : decode mM_init.2.1 8 = .ok (.newarray .int, 2) := by decide +kernel
theorem dM_init_10 : decode mM_init.2.1 10 = .ok (.putfield 7, 3) := by decide +kernel
theorem dM_init_13 : decode mM_init.2.1 13 = .ok (.aload_n 0, 1) := by decide +kernel
theorem dM_init_14 : decode mM_init.2.1 14 = .ok (.iconst 4, 1) := by decide +kernel
theorem dM_init_15 : decode mM_init.2.1 15 = .ok (.newarray .int, 2) := by decide +kernel
theorem dM_init_17 : decode mM_init.2.1 17 = .ok (.putfield 13, 3) := by decide +kernel
theorem dM_init_20 : decode mM_init.2.1 20 = .ok (.aload_n 0, 1) := by decide +kernel
theorem dM_init_21 : decode mM_init.2.1 21 = .ok (.bipush 64, 2) := by decide +kernel
theorem dM_init_23 : decode mM_init.2.1 23 = .ok (.newarray .int, 2) := by decide +kernel
theorem dM_init_25 : decode mM_init.2.1 25 = .ok (.putfield 16, 3) := by decide +kernel
theorem dM_init_28 : decode mM_init.2.1 28 = .ok (.aload_n 0, 1) := by decide +kernel
theorem dM_init_29 : decode mM_init.2.1 29 = .ok (.sipush 176, 3) := by decide +kernel
theorem dM_init_32 : decode mM_init.2.1 32 = .ok (.newarray .int, 2) := by decide +kernel
theorem dM_init_34 : decode mM_init.2.1 34 = .ok (.putfield 19, 3) := by decide +kernel
theorem dM_init_37 : decode mM_init.2.1 37 = .ok (.aload_n 0, 1) := by decide +kernel
theorem dM_init_38 : decode mM_init.2.1 38 = .ok (.bipush 16, 2) := by decide +kernel
theorem dM_init_40 : decode mM_init.2.1 40 = .ok (.newarray .int, 2) := by decide +kernel
theorem dM_init_42 : decode mM_init.2.1 42 = .ok (.putfield 22, 3) := by decide +kernel
theorem dM_init_45 : decode mM_init.2.1 45 = .ok (.aload_n 0, 1) := by decide +kernel
theorem dM_init_46 : decode mM_init.2.1 46 = .ok (.bipush 16, 2) := by decide +kernel
theorem dM_init_48 : decode mM_init.2.1 48 = .ok (.newarray .int, 2) := by decide +kernel
theorem dM_init_50 : decode mM_init.2.1 50 = .ok (.putfield 25, 3) := by decide +kernel
theorem dM_init_53 : decode mM_init.2.1 53 = .ok (.aload_n 0, 1) := by decide +kernel
theorem dM_init_54 : decode mM_init.2.1 54 = .ok (.sipush 256, 3) := by decide +kernel
theorem dM_init_57 : decode mM_init.2.1 57 = .ok (.newarray .int, 2) := by decide +kernel
theorem dM_init_59 : decode mM_init.2.1 59 = .ok (.putfield 28, 3) := by decide +kernel
theorem dM_init_62 : decode mM_init.2.1 62 = .ok (.aload_n 0, 1) := by decide +kernel
theorem dM_init_63 : decode mM_init.2.1 63 = .ok (.bipush 16, 2) := by decide +kernel
theorem dM_init_65 : decode mM_init.2.1 65 = .ok (.newarray .int, 2) := by decide +kernel
theorem dM_init_67 : decode mM_init.2.1 67 = .ok (.putfield 31, 3) := by decide +kernel
theorem dM_init_70 : decode mM_init.2.1 70 = .ok (.aload_n 0, 1) := by decide +kernel
theorem dM_init_71 : decode mM_init.2.1 71 = .ok (.bipush 16, 2) := by decide +kernel
theorem dM_init_73 : decode mM_init.2.1 73 = .ok (.newarray .int, 2) := by decide +kernel
theorem dM_init_75 : decode mM_init.2.1 75 = .ok (.putfield 34, 3) := by decide +kernel
theorem dM_init_78 : decode mM_init.2.1 78 = .ok (.aload_n 0, 1) := by decide +kernel
theorem dM_init_79 : decode mM_init.2.1 79 = .ok (.sipush 128, 3) := by decide +kernel
theorem dM_init_82 : decode mM_init.2.1 82 = .ok (.newarray .int, 2) := by decide +kernel
theorem dM_init_84 : decode mM_init.2.1 84 = .ok (.putfield 37, 3) := by decide +kernel
theorem dM_init_87 : decode mM_init.2.1 87 = .ok (.aload_n 0, 1) := by decide +kernel
theorem dM_init_88 : decode mM_init.2.1 88 = .ok (.sipush 128, 3) := by decide +kernel
theorem dM_init_91 : decode mM_init.2.1 91 = .ok (.newarray .int, 2) := by decide +kernel
theorem dM_init_93 : decode mM_init.2.1 93 = .ok (.putfield 40, 3) := by decide +kernel
theorem dM_init_96 : decode mM_init.2.1 96 = .ok (.aload_n 0, 1) := by decide +kernel
theorem dM_init_97 : decode mM_init.2.1 97 = .ok (.sipush 256, 3) := by decide +kernel
theorem dM_init_100 : decode mM_init.2.1 100 = .ok (.newarray .int, 2) := by decide +kernel
theorem dM_init_102 : decode mM_init.2.1 102 = .ok (.putfield 43, 3) := by decide +kernel
theorem dM_init_105 : decode mM_init.2.1 105 = .ok (.aload_n 0, 1) := by decide +kernel
theorem dM_init_106 : decode mM_init.2.1 106 = .ok (.bipush 16, 2) := by decide +kernel
theorem dM_init_108 : decode mM_init.2.1 108 = .ok (.newarray .int, 2) := by decide +kernel
theorem dM_init_110 : decode mM_init.2.1 110 = .ok (.putfield 46, 3) := by decide +kernel
theorem dM_init_113 : decode mM_init.2.1 113 = .ok (.aload_n 0, 1) := by decide +kernel
theorem dM_init_114 : decode mM_init.2.1 114 = .ok (.bipush 16, 2) := by decide +kernel
theorem dM_init_116 : decode mM_init.2.1 116 = .ok (.newarray .int, 2) := by decide +kernel
theorem dM_init_118 : decode mM_init.2.1 118 = .ok (.putfield 49, 3) := by decide +kernel
theorem dM_init_121 : decode mM_init.2.1 121 = .ok (.iconst 0, 1) := by decide +kernel
theorem dM_init_122 : decode mM_init.2.1 122 = .ok (.istore_n 1, 1) := by decide +kernel
theorem dM_init_123 : decode mM_init.2.1 123 = .ok (.iload_n 1, 1) := by decide +kernel
theorem dM_init_124 : decode mM_init.2.1 124 = .ok (.sipush 256, 3) := by decide +kernel
theorem dM_init_127 : decode mM_init.2.1 127 = .ok (.if_icmp .ge 64, 3) := by decide +kernel
theorem dM_init_130 : decode mM_init.2.1 130 = .ok (.iconst 0, 1) := by decide +kernel
theorem dM_init_131 : decode mM_init.2.1 131 = .ok (.istore_n 2, 1) := by decide +kernel
theorem dM_init_132 : decode mM_init.2.1 132 = .ok (.iload_n 1, 1) := by decide +kernel
theorem dM_init_133 : decode mM_init.2.1 133 = .ok (.ifCond .le 18, 3) := by decide +kernel
theorem dM_init_136 : decode mM_init.2.1 136 = .ok (.iload_n 1, 1) := by decide +kernel
theorem dM_init_137 : decode mM_init.2.1 137 = .ok (.iload_n 2, 1) := by decide +kernel
theorem dM_init_138 : decode mM_init.2.1 138 = .ok (.invokestatic 52, 3) := by decide +kernel
theorem dM_init_141 : decode mM_init.2.1 141 = .ok (.iconst 1, 1) := by decide +kernel
theorem dM_init_142 : decode mM_init.2.1 142 = .ok (.if_icmp .eq 9, 3) := by decide +kernel
theorem dM_init_145 : decode mM_init.2.1 145 = .ok (.iinc 2 1, 3) := by decide +kernel
theorem dM_init_148 : decode mM_init.2.1 148 = .ok (.goto (-16), 3) := by decide +kernel
theorem dM_init_151 : decode mM_init.2.1 151 = .ok (.aload_n 0, 1) := by decide +kernel
theorem dM_init_152 : decode mM_init.2.1 152 = .ok (.getfield 28, 3) := by decide +kernel
theorem dM_init_155 : decode mM_init.2.1 155 = .ok (.iload_n 1, 1) := by decide +kernel
theorem dM_init_156 : decode mM_init.2.1 156 = .ok (.iload_n 2, 1) := by decide +kernel
theorem dM_init_157 : decode mM_init.2.1 157 = .ok (.iload_n 2, 1) := by decide +kernel
theorem dM_init_158 : decode mM_init.2.1 158 = .ok (.iconst 1, 1) := by decide +kernel
theorem dM_init_159 : decode mM_init.2.1 159 = .ok (.invokestatic 56, 3) := by decide +kernel
theorem dM_init_162 : decode mM_init.2.1 162 = .ok (.ixor, 1) := by decide +kernel
theorem dM_init_163 : decode mM_init.2.1 163 = .ok (.iload_n 2, 1) := by decide +kernel
theorem dM_init_164 : decode mM_init.2.1 164 = .ok (.iconst 2, 1) := by decide +kernel
theorem dM_init_165 : decode mM_init.2.1 165 = .ok (.invokestatic 56, 3) := by decide +kernel
theorem dM_init_168 : decode mM_init.2.1 168 = .ok (.ixor, 1) := by decide +kernel
theorem dM_init_169 : decode mM_init.2.1 169 = .ok (.iload_n 2, 1) := by decide +kernel
theorem dM_init_170 : decode mM_init.2.1 170 = .ok (.iconst 3, 1) := by decide +kernel
theorem dM_init_171 : decode mM_init.2.1 171 = .ok (.invokestatic 56, 3) := by decide +kernel
theorem dM_init_174 : decode mM_init.2.1 174 = .ok (.ixor, 1) := by decide +kernel
theorem dM_init_175 : decode mM_init.2.1 175 = .ok (.iload_n 2, 1) := by decide +kernel
theorem dM_init_176 : decode mM_init.2.1 176 = .ok (.iconst 4, 1) := by decide +kernel
theorem dM_init_177 : decode mM_init.2.1 177 = .ok (.invokestatic 56, 3) := by decide +kernel
theorem dM_init_180 : decode mM_init.2.1 180 = .ok (.ixor, 1) := by decide +kernel
theorem dM_init_181 : decode mM_init.2.1 181 = .ok (.bipush 99, 2) := by decide +kernel
theorem dM_init_183 : decode mM_init.2.1 183 = .ok (.ixor, 1) := by decide +kernel
theorem dM_init_184 : decode mM_init.2.1 184 = .ok (.iastore, 1) := by decide +kernel
theorem dM_init_185 : decode mM_init.2.1 185 = .ok (.iinc 1 1, 3) := by decide +kernel
theorem dM_init_188 : decode mM_init.2.1 188 = .ok (.goto (-65), 3) := by decide +kernel
theorem dM_init_191 : decode mM_init.2.1 191 = .ok (.return_, 1) := by decide +kernel
theorem dM_thrown_0 : decode mM_thrown.2.1 0 = .ok (.aload_n 0, 1) := by decide +kernel
theorem dM_thrown_1 : decode mM_thrown.2.1 1 = .ok (.getfield 59, 3) := by decide +kernel
theorem dM_thrown_4 : decode mM_thrown.2.1 4 = .ok (.ireturn, 1) := by decide +kernel
theorem dM_doubled_0 : decode mM_doubled.2.1 0 = .ok (.iload_n 0, 1) := by decide +kernel
theorem dM_doubled_1 : decode mM_doubled.2.1 1 = .ok (.bipush 127, 2) := by decide +kernel
theorem dM_doubled_3 : decode mM_doubled.2.1 3 = .ok (.if_icmp .le 13, 3) := by decide +kernel
theorem dM_doubled_6 : decode mM_doubled.2.1 6 = .ok (.iconst 2, 1) := by decide +kernel
theorem dM_doubled_7 : decode mM_doubled.2.1 7 = .ok (.iload_n 0, 1) := by decide +kernel
theorem dM_doubled_8 : decode mM_doubled.2.1 8 = .ok (.imul, 1) := by decide +kernel
theorem dM_doubled_9 : decode mM_doubled.2.1 9 = .ok (.sipush 283, 3) := by decide +kernel
theorem dM_doubled_12 : decode mM_doubled.2.1 12 = .ok (.ixor, 1) := by decide +kernel
theorem dM_doubled_13 : decode mM_doubled.2.1 13 = .ok (.goto 6, 3) := by decide +kernel
theorem dM_doubled_16 : decode mM_doubled.2.1 16 = .ok (.iconst 2, 1) := by decide +kernel
theorem dM_doubled_17 : decode mM_doubled.2.1 17 = .ok (.iload_n 0, 1) := by decide +kernel
theorem dM_doubled_18 : decode mM_doubled.2.1 18 = .ok (.imul, 1) := by decide +kernel
theorem dM_doubled_19 : decode mM_doubled.2.1 19 = .ok (.ireturn, 1) := by decide +kernel
theorem dM_times_0 : decode mM_times.2.1 0 = .ok (.iconst 0, 1) := by decide +kernel
theorem dM_times_1 : decode mM_times.2.1 1 = .ok (.istore_n 2, 1) := by decide +kernel
theorem dM_times_2 : decode mM_times.2.1 2 = .ok (.iload_n 0, 1) := by decide +kernel
theorem dM_times_3 : decode mM_times.2.1 3 = .ok (.istore_n 3, 1) := by decide +kernel
theorem dM_times_4 : decode mM_times.2.1 4 = .ok (.iconst 0, 1) := by decide +kernel
theorem dM_times_5 : decode mM_times.2.1 5 = .ok (.istore 4, 2) := by decide +kernel
theorem dM_times_7 : decode mM_times.2.1 7 = .ok (.iload 4, 2) := by decide +kernel
theorem dM_times_9 : decode mM_times.2.1 9 = .ok (.bipush 8, 2) := by decide +kernel
theorem dM_times_11 : decode mM_times.2.1 11 = .ok (.if_icmp .ge 32, 3) := by decide +kernel
theorem dM_times_14 : decode mM_times.2.1 14 = .ok (.iload_n 1, 1) := by decide +kernel
theorem dM_times_15 : decode mM_times.2.1 15 = .ok (.iload 4, 2) := by decide +kernel
theorem dM_times_17 : decode mM_times.2.1 17 = .ok (.ishr, 1) := by decide +kernel
theorem dM_times_18 : decode mM_times.2.1 18 = .ok (.iconst 1, 1) := by decide +kernel
theorem dM_times_19 : decode mM_times.2.1 19 = .ok (.iand, 1) := by decide +kernel
theorem dM_times_20 : decode mM_times.2.1 20 = .ok (.iconst 1, 1) := by decide +kernel
theorem dM_times_21 : decode mM_times.2.1 21 = .ok (.if_icmp .ne 9, 3) := by decide +kernel
theorem dM_times_24 : decode mM_times.2.1 24 = .ok (.iload_n 2, 1) := by decide +kernel
theorem dM_times_25 : decode mM_times.2.1 25 = .ok (.iload_n 3, 1) := by decide +kernel
theorem dM_times_26 : decode mM_times.2.1 26 = .ok (.ixor, 1) := by decide +kernel
theorem dM_times_27 : decode mM_times.2.1 27 = .ok (.goto 4, 3) := by decide +kernel
theorem dM_times_30 : decode mM_times.2.1 30 = .ok (.iload_n 2, 1) := by decide +kernel
theorem dM_times_31 : decode mM_times.2.1 31 = .ok (.istore_n 2, 1) := by decide +kernel
theorem dM_times_32 : decode mM_times.2.1 32 = .ok (.iload_n 3, 1) := by decide +kernel
theorem dM_times_33 : decode mM_times.2.1 33 = .ok (.invokestatic 63, 3) := by decide +kernel
theorem dM_times_36 : decode mM_times.2.1 36 = .ok (.istore_n 3, 1) := by decide +kernel
theorem dM_times_37 : decode mM_times.2.1 37 = .ok (.iinc 4 1, 3) := by decide +kernel
theorem dM_times_40 : decode mM_times.2.1 40 = .ok (.goto (-33), 3) := by decide +kernel
theorem dM_times_43 : decode mM_times.2.1 43 = .ok (.iload_n 2, 1) := by decide +kernel
theorem dM_times_44 : decode mM_times.2.1 44 = .ok (.ireturn, 1) := by decide +kernel
theorem dM_turned_0 : decode mM_turned.2.1 0 = .ok (.iload_n 0, 1) := by decide +kernel
theorem dM_turned_1 : decode mM_turned.2.1 1 = .ok (.iload_n 1, 1) := by decide +kernel
theorem dM_turned_2 : decode mM_turned.2.1 2 = .ok (.ishl, 1) := by decide +kernel
theorem dM_turned_3 : decode mM_turned.2.1 3 = .ok (.iload_n 0, 1) := by decide +kernel
theorem dM_turned_4 : decode mM_turned.2.1 4 = .ok (.bipush 8, 2) := by decide +kernel
theorem dM_turned_6 : decode mM_turned.2.1 6 = .ok (.iload_n 1, 1) := by decide +kernel
theorem dM_turned_7 : decode mM_turned.2.1 7 = .ok (.isub, 1) := by decide +kernel
theorem dM_turned_8 : decode mM_turned.2.1 8 = .ok (.ishr, 1) := by decide +kernel
theorem dM_turned_9 : decode mM_turned.2.1 9 = .ok (.ior, 1) := by decide +kernel
theorem dM_turned_10 : decode mM_turned.2.1 10 = .ok (.sipush 255, 3) := by decide +kernel
theorem dM_turned_13 : decode mM_turned.2.1 13 = .ok (.iand, 1) := by decide +kernel
theorem dM_turned_14 : decode mM_turned.2.1 14 = .ok (.ireturn, 1) := by decide +kernel
theorem dM_expand_0 : decode mM_expand.2.1 0 = .ok (.iconst 0, 1) := by decide +kernel
theorem dM_expand_1 : decode mM_expand.2.1 1 = .ok (.istore_n 1, 1) := by decide +kernel
theorem dM_expand_2 : decode mM_expand.2.1 2 = .ok (.iload_n 1, 1) := by decide +kernel
theorem dM_expand_3 : decode mM_expand.2.1 3 = .ok (.bipush 16, 2) := by decide +kernel
theorem dM_expand_5 : decode mM_expand.2.1 5 = .ok (.if_icmp .ge 21, 3) := by decide +kernel
theorem dM_expand_8 : decode mM_expand.2.1 8 = .ok (.aload_n 0, 1) := by decide +kernel
theorem dM_expand_9 : decode mM_expand.2.1 9 = .ok (.getfield 19, 3) := by decide +kernel
theorem dM_expand_12 : decode mM_expand.2.1 12 = .ok (.iload_n 1, 1) := by decide +kernel
theorem dM_expand_13 : decode mM_expand.2.1 13 = .ok (.aload_n 0, 1) := by decide +kernel
theorem dM_expand_14 : decode mM_expand.2.1 14 = .ok (.getfield 31, 3) := by decide +kernel
theorem dM_expand_17 : decode mM_expand.2.1 17 = .ok (.iload_n 1, 1) := by decide +kernel
theorem dM_expand_18 : decode mM_expand.2.1 18 = .ok (.iaload, 1) := by decide +kernel
theorem dM_expand_19 : decode mM_expand.2.1 19 = .ok (.iastore, 1) := by decide +kernel
theorem dM_expand_20 : decode mM_expand.2.1 20 = .ok (.iinc 1 1, 3) := by decide +kernel
theorem dM_expand_23 : decode mM_expand.2.1 23 = .ok (.goto (-21), 3) := by decide +kernel
theorem dM_expand_26 : decode mM_expand.2.1 26 = .ok (.iconst 1, 1) := by decide +kernel
theorem dM_expand_27 : decode mM_expand.2.1 27 = .ok (.istore_n 1, 1) := by decide +kernel
theorem dM_expand_28 : decode mM_expand.2.1 28 = .ok (.iconst 4, 1) := by decide +kernel
theorem dM_expand_29 : decode mM_expand.2.1 29 = .ok (.istore_n 2, 1) := by decide +kernel
theorem dM_expand_30 : decode mM_expand.2.1 30 = .ok (.iload_n 2, 1) := by decide +kernel
theorem dM_expand_31 : decode mM_expand.2.1 31 = .ok (.bipush 44, 2) := by decide +kernel
theorem dM_expand_33 : decode mM_expand.2.1 33 = .ok (.if_icmp .ge 121, 3) := by decide +kernel
theorem dM_expand_36 : decode mM_expand.2.1 36 = .ok (.iconst 0, 1) := by decide +kernel
theorem dM_expand_37 : decode mM_expand.2.1 37 = .ok (.istore_n 3, 1) := by decide +kernel
theorem dM_expand_38 : decode mM_expand.2.1 38 = .ok (.iload_n 3, 1) := by decide +kernel
theorem dM_expand_39 : decode mM_expand.2.1 39 = .ok (.iconst 4, 1) := by decide +kernel
theorem dM_expand_40 : decode mM_expand.2.1 40 = .ok (.if_icmp .ge 79, 3) := by decide +kernel
theorem dM_expand_43 : decode mM_expand.2.1 43 = .ok (.iload_n 2, 1) := by decide +kernel
theorem dM_expand_44 : decode mM_expand.2.1 44 = .ok (.iconst 4, 1) := by decide +kernel
theorem dM_expand_45 : decode mM_expand.2.1 45 = .ok (.irem, 1) := by decide +kernel
theorem dM_expand_46 : decode mM_expand.2.1 46 = .ok (.ifCond .ne 27, 3) := by decide +kernel
theorem dM_expand_49 : decode mM_expand.2.1 49 = .ok (.aload_n 0, 1) := by decide +kernel
theorem dM_expand_50 : decode mM_expand.2.1 50 = .ok (.getfield 28, 3) := by decide +kernel
theorem dM_expand_53 : decode mM_expand.2.1 53 = .ok (.aload_n 0, 1) := by decide +kernel
theorem dM_expand_54 : decode mM_expand.2.1 54 = .ok (.getfield 19, 3) := by decide +kernel
theorem dM_expand_57 : decode mM_expand.2.1 57 = .ok (.iconst 4, 1) := by decide +kernel
theorem dM_expand_58 : decode mM_expand.2.1 58 = .ok (.iload_n 2, 1) := by decide +kernel
theorem dM_expand_59 : decode mM_expand.2.1 59 = .ok (.imul, 1) := by decide +kernel
theorem dM_expand_60 : decode mM_expand.2.1 60 = .ok (.iconst 4, 1) := by decide +kernel
theorem dM_expand_61 : decode mM_expand.2.1 61 = .ok (.isub, 1) := by decide +kernel
theorem dM_expand_62 : decode mM_expand.2.1 62 = .ok (.iload_n 3, 1) := by decide +kernel
theorem dM_expand_63 : decode mM_expand.2.1 63 = .ok (.iconst 1, 1) := by decide +kernel
theorem dM_expand_64 : decode mM_expand.2.1 64 = .ok (.iadd, 1) := by decide +kernel
theorem dM_expand_65 : decode mM_expand.2.1 65 = .ok (.iconst 4, 1) := by decide +kernel
theorem dM_expand_66 : decode mM_expand.2.1 66 = .ok (.irem, 1) := by decide +kernel
theorem dM_expand_67 : decode mM_expand.2.1 67 = .ok (.iadd, 1) := by decide +kernel
theorem dM_expand_68 : decode mM_expand.2.1 68 = .ok (.iaload, 1) := by decide +kernel
theorem dM_expand_69 : decode mM_expand.2.1 69 = .ok (.iaload, 1) := by decide +kernel
theorem dM_expand_70 : decode mM_expand.2.1 70 = .ok (.goto 15, 3) := by decide +kernel
theorem dM_expand_73 : decode mM_expand.2.1 73 = .ok (.aload_n 0, 1) := by decide +kernel
theorem dM_expand_74 : decode mM_expand.2.1 74 = .ok (.getfield 19, 3) := by decide +kernel
theorem dM_expand_77 : decode mM_expand.2.1 77 = .ok (.iconst 4, 1) := by decide +kernel
theorem dM_expand_78 : decode mM_expand.2.1 78 = .ok (.iload_n 2, 1) := by decide +kernel
theorem dM_expand_79 : decode mM_expand.2.1 79 = .ok (.imul, 1) := by decide +kernel
theorem dM_expand_80 : decode mM_expand.2.1 80 = .ok (.iconst 4, 1) := by decide +kernel
theorem dM_expand_81 : decode mM_expand.2.1 81 = .ok (.isub, 1) := by decide +kernel
theorem dM_expand_82 : decode mM_expand.2.1 82 = .ok (.iload_n 3, 1) := by decide +kernel
theorem dM_expand_83 : decode mM_expand.2.1 83 = .ok (.iadd, 1) := by decide +kernel
theorem dM_expand_84 : decode mM_expand.2.1 84 = .ok (.iaload, 1) := by decide +kernel
theorem dM_expand_85 : decode mM_expand.2.1 85 = .ok (.istore 4, 2) := by decide +kernel
theorem dM_expand_87 : decode mM_expand.2.1 87 = .ok (.aload_n 0, 1) := by decide +kernel
theorem dM_expand_88 : decode mM_expand.2.1 88 = .ok (.getfield 19, 3) := by decide +kernel
theorem dM_expand_91 : decode mM_expand.2.1 91 = .ok (.iconst 4, 1) := by decide +kernel
theorem dM_expand_92 : decode mM_expand.2.1 92 = .ok (.iload_n 2, 1) := by decide +kernel
theorem dM_expand_93 : decode mM_expand.2.1 93 = .ok (.imul, 1) := by decide +kernel
theorem dM_expand_94 : decode mM_expand.2.1 94 = .ok (.iload_n 3, 1) := by decide +kernel
theorem dM_expand_95 : decode mM_expand.2.1 95 = .ok (.iadd, 1) := by decide +kernel
theorem dM_expand_96 : decode mM_expand.2.1 96 = .ok (.aload_n 0, 1) := by decide +kernel
theorem dM_expand_97 : decode mM_expand.2.1 97 = .ok (.getfield 19, 3) := by decide +kernel
theorem dM_expand_100 : decode mM_expand.2.1 100 = .ok (.iconst 4, 1) := by decide +kernel
theorem dM_expand_101 : decode mM_expand.2.1 101 = .ok (.iload_n 2, 1) := by decide +kernel
theorem dM_expand_102 : decode mM_expand.2.1 102 = .ok (.imul, 1) := by decide +kernel
theorem dM_expand_103 : decode mM_expand.2.1 103 = .ok (.bipush 16, 2) := by decide +kernel
theorem dM_expand_105 : decode mM_expand.2.1 105 = .ok (.isub, 1) := by decide +kernel
theorem dM_expand_106 : decode mM_expand.2.1 106 = .ok (.iload_n 3, 1) := by decide +kernel
theorem dM_expand_107 : decode mM_expand.2.1 107 = .ok (.iadd, 1) := by decide +kernel
theorem dM_expand_108 : decode mM_expand.2.1 108 = .ok (.iaload, 1) := by decide +kernel
theorem dM_expand_109 : decode mM_expand.2.1 109 = .ok (.iload 4, 2) := by decide +kernel
theorem dM_expand_111 : decode mM_expand.2.1 111 = .ok (.ixor, 1) := by decide +kernel
theorem dM_expand_112 : decode mM_expand.2.1 112 = .ok (.iastore, 1) := by decide +kernel
theorem dM_expand_113 : decode mM_expand.2.1 113 = .ok (.iinc 3 1, 3) := by decide +kernel
theorem dM_expand_116 : decode mM_expand.2.1 116 = .ok (.goto (-78), 3) := by decide +kernel
theorem dM_expand_119 : decode mM_expand.2.1 119 = .ok (.iload_n 2, 1) := by decide +kernel
theorem dM_expand_120 : decode mM_expand.2.1 120 = .ok (.iconst 4, 1) := by decide +kernel
theorem dM_expand_121 : decode mM_expand.2.1 121 = .ok (.irem, 1) := by decide +kernel
theorem dM_expand_122 : decode mM_expand.2.1 122 = .ok (.ifCond .ne 26, 3) := by decide +kernel
theorem dM_expand_125 : decode mM_expand.2.1 125 = .ok (.aload_n 0, 1) := by decide +kernel
theorem dM_expand_126 : decode mM_expand.2.1 126 = .ok (.getfield 19, 3) := by decide +kernel
theorem dM_expand_129 : decode mM_expand.2.1 129 = .ok (.iconst 4, 1) := by decide +kernel
theorem dM_expand_130 : decode mM_expand.2.1 130 = .ok (.iload_n 2, 1) := by decide +kernel
theorem dM_expand_131 : decode mM_expand.2.1 131 = .ok (.imul, 1) := by decide +kernel
theorem dM_expand_132 : decode mM_expand.2.1 132 = .ok (.aload_n 0, 1) := by decide +kernel
theorem dM_expand_133 : decode mM_expand.2.1 133 = .ok (.getfield 19, 3) := by decide +kernel
theorem dM_expand_136 : decode mM_expand.2.1 136 = .ok (.iconst 4, 1) := by decide +kernel
theorem dM_expand_137 : decode mM_expand.2.1 137 = .ok (.iload_n 2, 1) := by decide +kernel
theorem dM_expand_138 : decode mM_expand.2.1 138 = .ok (.imul, 1) := by decide +kernel
theorem dM_expand_139 : decode mM_expand.2.1 139 = .ok (.iaload, 1) := by decide +kernel
theorem dM_expand_140 : decode mM_expand.2.1 140 = .ok (.iload_n 1, 1) := by decide +kernel
theorem dM_expand_141 : decode mM_expand.2.1 141 = .ok (.ixor, 1) := by decide +kernel
theorem dM_expand_142 : decode mM_expand.2.1 142 = .ok (.iastore, 1) := by decide +kernel
theorem dM_expand_143 : decode mM_expand.2.1 143 = .ok (.iload_n 1, 1) := by decide +kernel
theorem dM_expand_144 : decode mM_expand.2.1 144 = .ok (.invokestatic 63, 3) := by decide +kernel
theorem dM_expand_147 : decode mM_expand.2.1 147 = .ok (.istore_n 1, 1) := by decide +kernel
theorem dM_expand_148 : decode mM_expand.2.1 148 = .ok (.iinc 2 1, 3) := by decide +kernel
theorem dM_expand_151 : decode mM_expand.2.1 151 = .ok (.goto (-121), 3) := by decide +kernel
theorem dM_expand_154 : decode mM_expand.2.1 154 = .ok (.return_, 1) := by decide +kernel
theorem dM_addWords_0 : decode mM_addWords.2.1 0 = .ok (.iconst 0, 1) := by decide +kernel
theorem dM_addWords_1 : decode mM_addWords.2.1 1 = .ok (.istore_n 2, 1) := by decide +kernel
theorem dM_addWords_2 : decode mM_addWords.2.1 2 = .ok (.iload_n 2, 1) := by decide +kernel
theorem dM_addWords_3 : decode mM_addWords.2.1 3 = .ok (.bipush 16, 2) := by decide +kernel
theorem dM_addWords_5 : decode mM_addWords.2.1 5 = .ok (.if_icmp .ge 33, 3) := by decide +kernel
theorem dM_addWords_8 : decode mM_addWords.2.1 8 = .ok (.aload_n 0, 1) := by decide +kernel
theorem dM_addWords_9 : decode mM_addWords.2.1 9 = .ok (.getfield 22, 3) := by decide +kernel
theorem dM_addWords_12 : decode mM_addWords.2.1 12 = .ok (.iload_n 2, 1) := by decide +kernel
theorem dM_addWords_13 : decode mM_addWords.2.1 13 = .ok (.aload_n 0, 1) := by decide +kernel
theorem dM_addWords_14 : decode mM_addWords.2.1 14 = .ok (.getfield 22, 3) := by decide +kernel
theorem dM_addWords_17 : decode mM_addWords.2.1 17 = .ok (.iload_n 2, 1) := by decide +kernel
theorem dM_addWords_18 : decode mM_addWords.2.1 18 = .ok (.iaload, 1) := by decide +kernel
theorem dM_addWords_19 : decode mM_addWords.2.1 19 = .ok (.aload_n 0, 1) := by decide +kernel
theorem dM_addWords_20 : decode mM_addWords.2.1 20 = .ok (.getfield 19, 3) := by decide +kernel
theorem dM_addWords_23 : decode mM_addWords.2.1 23 = .ok (.bipush 16, 2) := by decide +kernel
theorem dM_addWords_25 : decode mM_addWords.2.1 25 = .ok (.iload_n 1, 1) := by decide +kernel
theorem dM_addWords_26 : decode mM_addWords.2.1 26 = .ok (.imul, 1) := by decide +kernel
theorem dM_addWords_27 : decode mM_addWords.2.1 27 = .ok (.iload_n 2, 1) := by decide +kernel
theorem dM_addWords_28 : decode mM_addWords.2.1 28 = .ok (.iadd, 1) := by decide +kernel
theorem dM_addWords_29 : decode mM_addWords.2.1 29 = .ok (.iaload, 1) := by decide +kernel
theorem dM_addWords_30 : decode mM_addWords.2.1 30 = .ok (.ixor, 1) := by decide +kernel
theorem dM_addWords_31 : decode mM_addWords.2.1 31 = .ok (.iastore, 1) := by decide +kernel
theorem dM_addWords_32 : decode mM_addWords.2.1 32 = .ok (.iinc 2 1, 3) := by decide +kernel
theorem dM_addWords_35 : decode mM_addWords.2.1 35 = .ok (.goto (-33), 3) := by decide +kernel
theorem dM_addWords_38 : decode mM_addWords.2.1 38 = .ok (.return_, 1) := by decide +kernel
theorem dM_encipher_0 : decode mM_encipher.2.1 0 = .ok (.aload_n 0, 1) := by decide +kernel
theorem dM_encipher_1 : decode mM_encipher.2.1 1 = .ok (.invokevirtual 67, 3) := by decide +kernel
theorem dM_encipher_4 : decode mM_encipher.2.1 4 = .ok (.iconst 0, 1) := by decide +kernel
theorem dM_encipher_5 : decode mM_encipher.2.1 5 = .ok (.istore_n 1, 1) := by decide +kernel
theorem dM_encipher_6 : decode mM_encipher.2.1 6 = .ok (.iload_n 1, 1) := by decide +kernel
theorem dM_encipher_7 : decode mM_encipher.2.1 7 = .ok (.bipush 16, 2) := by decide +kernel
theorem dM_encipher_9 : decode mM_encipher.2.1 9 = .ok (.if_icmp .ge 21, 3) := by decide +kernel
theorem dM_encipher_12 : decode mM_encipher.2.1 12 = .ok (.aload_n 0, 1) := by decide +kernel
theorem dM_encipher_13 : decode mM_encipher.2.1 13 = .ok (.getfield 22, 3) := by decide +kernel
theorem dM_encipher_16 : decode mM_encipher.2.1 16 = .ok (.iload_n 1, 1) := by decide +kernel
theorem dM_encipher_17 : decode mM_encipher.2.1 17 = .ok (.aload_n 0, 1) := by decide +kernel
theorem dM_encipher_18 : decode mM_encipher.2.1 18 = .ok (.getfield 34, 3) := by decide +kernel
theorem dM_encipher_21 : decode mM_encipher.2.1 21 = .ok (.iload_n 1, 1) := by decide +kernel
theorem dM_encipher_22 : decode mM_encipher.2.1 22 = .ok (.iaload, 1) := by decide +kernel
theorem dM_encipher_23 : decode mM_encipher.2.1 23 = .ok (.iastore, 1) := by decide +kernel
theorem dM_encipher_24 : decode mM_encipher.2.1 24 = .ok (.iinc 1 1, 3) := by decide +kernel
theorem dM_encipher_27 : decode mM_encipher.2.1 27 = .ok (.goto (-21), 3) := by decide +kernel
theorem dM_encipher_30 : decode mM_encipher.2.1 30 = .ok (.aload_n 0, 1) := by decide +kernel
theorem dM_encipher_31 : decode mM_encipher.2.1 31 = .ok (.iconst 0, 1) := by decide +kernel
theorem dM_encipher_32 : decode mM_encipher.2.1 32 = .ok (.invokevirtual 70, 3) := by decide +kernel
theorem dM_encipher_35 : decode mM_encipher.2.1 35 = .ok (.iconst 1, 1) := by decide +kernel
theorem dM_encipher_36 : decode mM_encipher.2.1 36 = .ok (.istore_n 1, 1) := by decide +kernel
theorem dM_encipher_37 : decode mM_encipher.2.1 37 = .ok (.iload_n 1, 1) := by decide +kernel
theorem dM_encipher_38 : decode mM_encipher.2.1 38 = .ok (.bipush 10, 2) := by decide +kernel
theorem dM_encipher_40 : decode mM_encipher.2.1 40 = .ok (.if_icmp .gt 130, 3) := by decide +kernel
theorem dM_encipher_43 : decode mM_encipher.2.1 43 = .ok (.iconst 0, 1) := by decide +kernel
theorem dM_encipher_44 : decode mM_encipher.2.1 44 = .ok (.istore_n 2, 1) := by decide +kernel
theorem dM_encipher_45 : decode mM_encipher.2.1 45 = .ok (.iload_n 2, 1) := by decide +kernel
theorem dM_encipher_46 : decode mM_encipher.2.1 46 = .ok (.iconst 4, 1) := by decide +kernel
theorem dM_encipher_47 : decode mM_encipher.2.1 47 = .ok (.if_icmp .ge 51, 3) := by decide +kernel
theorem dM_encipher_50 : decode mM_encipher.2.1 50 = .ok (.iconst 0, 1) := by decide +kernel
theorem dM_encipher_51 : decode mM_encipher.2.1 51 = .ok (.istore_n 3, 1) := by decide +kernel
theorem dM_encipher_52 : decode mM_encipher.2.1 52 = .ok (.iload_n 3, 1) := by decide +kernel
theorem dM_encipher_53 : decode mM_encipher.2.1 53 = .ok (.iconst 4, 1) := by decide +kernel
theorem dM_encipher_54 : decode mM_encipher.2.1 54 = .ok (.if_icmp .ge 38, 3) := by decide +kernel
theorem dM_encipher_57 : decode mM_encipher.2.1 57 = .ok (.aload_n 0, 1) := by decide +kernel
theorem dM_encipher_58 : decode mM_encipher.2.1 58 = .ok (.getfield 25, 3) := by decide +kernel
theorem dM_encipher_61 : decode mM_encipher.2.1 61 = .ok (.iconst 4, 1) := by decide +kernel
theorem dM_encipher_62 : decode mM_encipher.2.1 62 = .ok (.iload_n 2, 1) := by decide +kernel
theorem dM_encipher_63 : decode mM_encipher.2.1 63 = .ok (.imul, 1) := by decide +kernel
theorem dM_encipher_64 : decode mM_encipher.2.1 64 = .ok (.iload_n 3, 1) := by decide +kernel
theorem dM_encipher_65 : decode mM_encipher.2.1 65 = .ok (.iadd, 1) := by decide +kernel
theorem dM_encipher_66 : decode mM_encipher.2.1 66 = .ok (.aload_n 0, 1) := by decide +kernel
theorem dM_encipher_67 : decode mM_encipher.2.1 67 = .ok (.getfield 28, 3) := by decide +kernel
theorem dM_encipher_70 : decode mM_encipher.2.1 70 = .ok (.aload_n 0, 1) := by decide +kernel
theorem dM_encipher_71 : decode mM_encipher.2.1 71 = .ok (.getfield 22, 3) := by decide +kernel
theorem dM_encipher_74 : decode mM_encipher.2.1 74 = .ok (.iconst 4, 1) := by decide +kernel
theorem dM_encipher_75 : decode mM_encipher.2.1 75 = .ok (.iload_n 2, 1) := by decide +kernel
theorem dM_encipher_76 : decode mM_encipher.2.1 76 = .ok (.iload_n 3, 1) := by decide +kernel
theorem dM_encipher_77 : decode mM_encipher.2.1 77 = .ok (.iadd, 1) := by decide +kernel
theorem dM_encipher_78 : decode mM_encipher.2.1 78 = .ok (.iconst 4, 1) := by decide +kernel
theorem dM_encipher_79 : decode mM_encipher.2.1 79 = .ok (.irem, 1) := by decide +kernel
theorem dM_encipher_80 : decode mM_encipher.2.1 80 = .ok (.imul, 1) := by decide +kernel
theorem dM_encipher_81 : decode mM_encipher.2.1 81 = .ok (.iload_n 3, 1) := by decide +kernel
theorem dM_encipher_82 : decode mM_encipher.2.1 82 = .ok (.iadd, 1) := by decide +kernel
theorem dM_encipher_83 : decode mM_encipher.2.1 83 = .ok (.iaload, 1) := by decide +kernel
theorem dM_encipher_84 : decode mM_encipher.2.1 84 = .ok (.iaload, 1) := by decide +kernel
theorem dM_encipher_85 : decode mM_encipher.2.1 85 = .ok (.iastore, 1) := by decide +kernel
theorem dM_encipher_86 : decode mM_encipher.2.1 86 = .ok (.iinc 3 1, 3) := by decide +kernel
theorem dM_encipher_89 : decode mM_encipher.2.1 89 = .ok (.goto (-37), 3) := by decide +kernel
theorem dM_encipher_92 : decode mM_encipher.2.1 92 = .ok (.iinc 2 1, 3) := by decide +kernel
theorem dM_encipher_95 : decode mM_encipher.2.1 95 = .ok (.goto (-50), 3) := by decide +kernel
theorem dM_encipher_98 : decode mM_encipher.2.1 98 = .ok (.iconst 0, 1) := by decide +kernel
theorem dM_encipher_99 : decode mM_encipher.2.1 99 = .ok (.istore_n 2, 1) := by decide +kernel
theorem dM_encipher_100 : decode mM_encipher.2.1 100 = .ok (.iload_n 2, 1) := by decide +kernel
theorem dM_encipher_101 : decode mM_encipher.2.1 101 = .ok (.iconst 4, 1) := by decide +kernel
theorem dM_encipher_102 : decode mM_encipher.2.1 102 = .ok (.if_icmp .ge 57, 3) := by decide +kernel
theorem dM_encipher_105 : decode mM_encipher.2.1 105 = .ok (.iconst 0, 1) := by decide +kernel
theorem dM_encipher_106 : decode mM_encipher.2.1 106 = .ok (.istore_n 3, 1) := by decide +kernel
theorem dM_encipher_107 : decode mM_encipher.2.1 107 = .ok (.iload_n 3, 1) := by decide +kernel
theorem dM_encipher_108 : decode mM_encipher.2.1 108 = .ok (.iconst 4, 1) := by decide +kernel
theorem dM_encipher_109 : decode mM_encipher.2.1 109 = .ok (.if_icmp .ge 44, 3) := by decide +kernel
theorem dM_encipher_112 : decode mM_encipher.2.1 112 = .ok (.aload_n 0, 1) := by decide +kernel
theorem dM_encipher_113 : decode mM_encipher.2.1 113 = .ok (.getfield 22, 3) := by decide +kernel
theorem dM_encipher_116 : decode mM_encipher.2.1 116 = .ok (.iconst 4, 1) := by decide +kernel
theorem dM_encipher_117 : decode mM_encipher.2.1 117 = .ok (.iload_n 2, 1) := by decide +kernel
theorem dM_encipher_118 : decode mM_encipher.2.1 118 = .ok (.imul, 1) := by decide +kernel
theorem dM_encipher_119 : decode mM_encipher.2.1 119 = .ok (.iload_n 3, 1) := by decide +kernel
theorem dM_encipher_120 : decode mM_encipher.2.1 120 = .ok (.iadd, 1) := by decide +kernel
theorem dM_encipher_121 : decode mM_encipher.2.1 121 = .ok (.iload_n 1, 1) := by decide +kernel
theorem dM_encipher_122 : decode mM_encipher.2.1 122 = .ok (.bipush 10, 2) := by decide +kernel
theorem dM_encipher_124 : decode mM_encipher.2.1 124 = .ok (.if_icmp .ne 16, 3) := by decide +kernel
theorem dM_encipher_127 : decode mM_encipher.2.1 127 = .ok (.aload_n 0, 1) := by decide +kernel
theorem dM_encipher_128 : decode mM_encipher.2.1 128 = .ok (.getfield 25, 3) := by decide +kernel
theorem dM_encipher_131 : decode mM_encipher.2.1 131 = .ok (.iconst 4, 1) := by decide +kernel
theorem dM_encipher_132 : decode mM_encipher.2.1 132 = .ok (.iload_n 2, 1) := by decide +kernel
theorem dM_encipher_133 : decode mM_encipher.2.1 133 = .ok (.imul, 1) := by decide +kernel
theorem dM_encipher_134 : decode mM_encipher.2.1 134 = .ok (.iload_n 3, 1) := by decide +kernel
theorem dM_encipher_135 : decode mM_encipher.2.1 135 = .ok (.iadd, 1) := by decide +kernel
theorem dM_encipher_136 : decode mM_encipher.2.1 136 = .ok (.iaload, 1) := by decide +kernel
theorem dM_encipher_137 : decode mM_encipher.2.1 137 = .ok (.goto 9, 3) := by decide +kernel
theorem dM_encipher_140 : decode mM_encipher.2.1 140 = .ok (.aload_n 0, 1) := by decide +kernel
theorem dM_encipher_141 : decode mM_encipher.2.1 141 = .ok (.iload_n 2, 1) := by decide +kernel
theorem dM_encipher_142 : decode mM_encipher.2.1 142 = .ok (.iload_n 3, 1) := by decide +kernel
theorem dM_encipher_143 : decode mM_encipher.2.1 143 = .ok (.invokevirtual 74, 3) := by decide +kernel
theorem dM_encipher_146 : decode mM_encipher.2.1 146 = .ok (.iastore, 1) := by decide +kernel
theorem dM_encipher_147 : decode mM_encipher.2.1 147 = .ok (.iinc 3 1, 3) := by decide +kernel
theorem dM_encipher_150 : decode mM_encipher.2.1 150 = .ok (.goto (-43), 3) := by decide +kernel
theorem dM_encipher_153 : decode mM_encipher.2.1 153 = .ok (.iinc 2 1, 3) := by decide +kernel
theorem dM_encipher_156 : decode mM_encipher.2.1 156 = .ok (.goto (-56), 3) := by decide +kernel
theorem dM_encipher_159 : decode mM_encipher.2.1 159 = .ok (.aload_n 0, 1) := by decide +kernel
theorem dM_encipher_160 : decode mM_encipher.2.1 160 = .ok (.iload_n 1, 1) := by decide +kernel
theorem dM_encipher_161 : decode mM_encipher.2.1 161 = .ok (.invokevirtual 70, 3) := by decide +kernel
theorem dM_encipher_164 : decode mM_encipher.2.1 164 = .ok (.iinc 1 1, 3) := by decide +kernel
theorem dM_encipher_167 : decode mM_encipher.2.1 167 = .ok (.goto (-130), 3) := by decide +kernel
theorem dM_encipher_170 : decode mM_encipher.2.1 170 = .ok (.iconst 0, 1) := by decide +kernel
theorem dM_encipher_171 : decode mM_encipher.2.1 171 = .ok (.istore_n 1, 1) := by decide +kernel
theorem dM_encipher_172 : decode mM_encipher.2.1 172 = .ok (.iload_n 1, 1) := by decide +kernel
theorem dM_encipher_173 : decode mM_encipher.2.1 173 = .ok (.bipush 16, 2) := by decide +kernel
theorem dM_encipher_175 : decode mM_encipher.2.1 175 = .ok (.if_icmp .ge 21, 3) := by decide +kernel
theorem dM_encipher_178 : decode mM_encipher.2.1 178 = .ok (.aload_n 0, 1) := by decide +kernel
theorem dM_encipher_179 : decode mM_encipher.2.1 179 = .ok (.getfield 34, 3) := by decide +kernel
theorem dM_encipher_182 : decode mM_encipher.2.1 182 = .ok (.iload_n 1, 1) := by decide +kernel
theorem dM_encipher_183 : decode mM_encipher.2.1 183 = .ok (.aload_n 0, 1) := by decide +kernel
theorem dM_encipher_184 : decode mM_encipher.2.1 184 = .ok (.getfield 22, 3) := by decide +kernel
theorem dM_encipher_187 : decode mM_encipher.2.1 187 = .ok (.iload_n 1, 1) := by decide +kernel
theorem dM_encipher_188 : decode mM_encipher.2.1 188 = .ok (.iaload, 1) := by decide +kernel
theorem dM_encipher_189 : decode mM_encipher.2.1 189 = .ok (.iastore, 1) := by decide +kernel
theorem dM_encipher_190 : decode mM_encipher.2.1 190 = .ok (.iinc 1 1, 3) := by decide +kernel
theorem dM_encipher_193 : decode mM_encipher.2.1 193 = .ok (.goto (-21), 3) := by decide +kernel
theorem dM_encipher_196 : decode mM_encipher.2.1 196 = .ok (.return_, 1) := by decide +kernel
theorem dM_mixed_0 : decode mM_mixed.2.1 0 = .ok (.aload_n 0, 1) := by decide +kernel
theorem dM_mixed_1 : decode mM_mixed.2.1 1 = .ok (.getfield 25, 3) := by decide +kernel
theorem dM_mixed_4 : decode mM_mixed.2.1 4 = .ok (.iconst 4, 1) := by decide +kernel
theorem dM_mixed_5 : decode mM_mixed.2.1 5 = .ok (.iload_n 1, 1) := by decide +kernel
theorem dM_mixed_6 : decode mM_mixed.2.1 6 = .ok (.imul, 1) := by decide +kernel
theorem dM_mixed_7 : decode mM_mixed.2.1 7 = .ok (.iload_n 2, 1) := by decide +kernel
theorem dM_mixed_8 : decode mM_mixed.2.1 8 = .ok (.iadd, 1) := by decide +kernel
theorem dM_mixed_9 : decode mM_mixed.2.1 9 = .ok (.iaload, 1) := by decide +kernel
theorem dM_mixed_10 : decode mM_mixed.2.1 10 = .ok (.istore_n 3, 1) := by decide +kernel
theorem dM_mixed_11 : decode mM_mixed.2.1 11 = .ok (.aload_n 0, 1) := by decide +kernel
theorem dM_mixed_12 : decode mM_mixed.2.1 12 = .ok (.getfield 25, 3) := by decide +kernel
theorem dM_mixed_15 : decode mM_mixed.2.1 15 = .ok (.iconst 4, 1) := by decide +kernel
theorem dM_mixed_16 : decode mM_mixed.2.1 16 = .ok (.iload_n 1, 1) := by decide +kernel
theorem dM_mixed_17 : decode mM_mixed.2.1 17 = .ok (.imul, 1) := by decide +kernel
theorem dM_mixed_18 : decode mM_mixed.2.1 18 = .ok (.iload_n 2, 1) := by decide +kernel
theorem dM_mixed_19 : decode mM_mixed.2.1 19 = .ok (.iconst 1, 1) := by decide +kernel
theorem dM_mixed_20 : decode mM_mixed.2.1 20 = .ok (.iadd, 1) := by decide +kernel
theorem dM_mixed_21 : decode mM_mixed.2.1 21 = .ok (.iconst 4, 1) := by decide +kernel
theorem dM_mixed_22 : decode mM_mixed.2.1 22 = .ok (.irem, 1) := by decide +kernel
theorem dM_mixed_23 : decode mM_mixed.2.1 23 = .ok (.iadd, 1) := by decide +kernel
theorem dM_mixed_24 : decode mM_mixed.2.1 24 = .ok (.iaload, 1) := by decide +kernel
theorem dM_mixed_25 : decode mM_mixed.2.1 25 = .ok (.istore 4, 2) := by decide +kernel
theorem dM_mixed_27 : decode mM_mixed.2.1 27 = .ok (.iconst 2, 1) := by decide +kernel
theorem dM_mixed_28 : decode mM_mixed.2.1 28 = .ok (.iload_n 3, 1) := by decide +kernel
theorem dM_mixed_29 : decode mM_mixed.2.1 29 = .ok (.invokestatic 52, 3) := by decide +kernel
theorem dM_mixed_32 : decode mM_mixed.2.1 32 = .ok (.iconst 3, 1) := by decide +kernel
theorem dM_mixed_33 : decode mM_mixed.2.1 33 = .ok (.iload 4, 2) := by decide +kernel
theorem dM_mixed_35 : decode mM_mixed.2.1 35 = .ok (.invokestatic 52, 3) := by decide +kernel
theorem dM_mixed_38 : decode mM_mixed.2.1 38 = .ok (.ixor, 1) := by decide +kernel
theorem dM_mixed_39 : decode mM_mixed.2.1 39 = .ok (.aload_n 0, 1) := by decide +kernel
theorem dM_mixed_40 : decode mM_mixed.2.1 40 = .ok (.getfield 25, 3) := by decide +kernel
theorem dM_mixed_43 : decode mM_mixed.2.1 43 = .ok (.iconst 4, 1) := by decide +kernel
theorem dM_mixed_44 : decode mM_mixed.2.1 44 = .ok (.iload_n 1, 1) := by decide +kernel
theorem dM_mixed_45 : decode mM_mixed.2.1 45 = .ok (.imul, 1) := by decide +kernel
theorem dM_mixed_46 : decode mM_mixed.2.1 46 = .ok (.iload_n 2, 1) := by decide +kernel
theorem dM_mixed_47 : decode mM_mixed.2.1 47 = .ok (.iconst 2, 1) := by decide +kernel
theorem dM_mixed_48 : decode mM_mixed.2.1 48 = .ok (.iadd, 1) := by decide +kernel
theorem dM_mixed_49 : decode mM_mixed.2.1 49 = .ok (.iconst 4, 1) := by decide +kernel
theorem dM_mixed_50 : decode mM_mixed.2.1 50 = .ok (.irem, 1) := by decide +kernel
theorem dM_mixed_51 : decode mM_mixed.2.1 51 = .ok (.iadd, 1) := by decide +kernel
theorem dM_mixed_52 : decode mM_mixed.2.1 52 = .ok (.iaload, 1) := by decide +kernel
theorem dM_mixed_53 : decode mM_mixed.2.1 53 = .ok (.ixor, 1) := by decide +kernel
theorem dM_mixed_54 : decode mM_mixed.2.1 54 = .ok (.aload_n 0, 1) := by decide +kernel
theorem dM_mixed_55 : decode mM_mixed.2.1 55 = .ok (.getfield 25, 3) := by decide +kernel
theorem dM_mixed_58 : decode mM_mixed.2.1 58 = .ok (.iconst 4, 1) := by decide +kernel
theorem dM_mixed_59 : decode mM_mixed.2.1 59 = .ok (.iload_n 1, 1) := by decide +kernel
theorem dM_mixed_60 : decode mM_mixed.2.1 60 = .ok (.imul, 1) := by decide +kernel
theorem dM_mixed_61 : decode mM_mixed.2.1 61 = .ok (.iload_n 2, 1) := by decide +kernel
theorem dM_mixed_62 : decode mM_mixed.2.1 62 = .ok (.iconst 3, 1) := by decide +kernel
theorem dM_mixed_63 : decode mM_mixed.2.1 63 = .ok (.iadd, 1) := by decide +kernel
theorem dM_mixed_64 : decode mM_mixed.2.1 64 = .ok (.iconst 4, 1) := by decide +kernel
theorem dM_mixed_65 : decode mM_mixed.2.1 65 = .ok (.irem, 1) := by decide +kernel
theorem dM_mixed_66 : decode mM_mixed.2.1 66 = .ok (.iadd, 1) := by decide +kernel
theorem dM_mixed_67 : decode mM_mixed.2.1 67 = .ok (.iaload, 1) := by decide +kernel
theorem dM_mixed_68 : decode mM_mixed.2.1 68 = .ok (.ixor, 1) := by decide +kernel
theorem dM_mixed_69 : decode mM_mixed.2.1 69 = .ok (.ireturn, 1) := by decide +kernel
theorem dM_bit_0 : decode mM_bit.2.1 0 = .ok (.iload_n 0, 1) := by decide +kernel
theorem dM_bit_1 : decode mM_bit.2.1 1 = .ok (.ifCond .ne 14, 3) := by decide +kernel
theorem dM_bit_4 : decode mM_bit.2.1 4 = .ok (.iload_n 1, 1) := by decide +kernel
theorem dM_bit_5 : decode mM_bit.2.1 5 = .ok (.bipush 7, 2) := by decide +kernel
theorem dM_bit_7 : decode mM_bit.2.1 7 = .ok (.iload_n 2, 1) := by decide +kernel
theorem dM_bit_8 : decode mM_bit.2.1 8 = .ok (.isub, 1) := by decide +kernel
theorem dM_bit_9 : decode mM_bit.2.1 9 = .ok (.ishr, 1) := by decide +kernel
theorem dM_bit_10 : decode mM_bit.2.1 10 = .ok (.iconst 1, 1) := by decide +kernel
theorem dM_bit_11 : decode mM_bit.2.1 11 = .ok (.iand, 1) := by decide +kernel
theorem dM_bit_12 : decode mM_bit.2.1 12 = .ok (.goto 8, 3) := by decide +kernel
theorem dM_bit_15 : decode mM_bit.2.1 15 = .ok (.iload_n 1, 1) := by decide +kernel
theorem dM_bit_16 : decode mM_bit.2.1 16 = .ok (.iload_n 2, 1) := by decide +kernel
theorem dM_bit_17 : decode mM_bit.2.1 17 = .ok (.ishr, 1) := by decide +kernel
theorem dM_bit_18 : decode mM_bit.2.1 18 = .ok (.iconst 1, 1) := by decide +kernel
theorem dM_bit_19 : decode mM_bit.2.1 19 = .ok (.iand, 1) := by decide +kernel
theorem dM_bit_20 : decode mM_bit.2.1 20 = .ok (.ireturn, 1) := by decide +kernel
theorem dM_reduce_0 : decode mM_reduce.2.1 0 = .ok (.sipush 255, 3) := by decide +kernel
theorem dM_reduce_3 : decode mM_reduce.2.1 3 = .ok (.istore_n 2, 1) := by decide +kernel
theorem dM_reduce_4 : decode mM_reduce.2.1 4 = .ok (.iload_n 2, 1) := by decide +kernel
theorem dM_reduce_5 : decode mM_reduce.2.1 5 = .ok (.sipush 128, 3) := by decide +kernel
theorem dM_reduce_8 : decode mM_reduce.2.1 8 = .ok (.if_icmp .lt 169, 3) := by decide +kernel
theorem dM_reduce_11 : decode mM_reduce.2.1 11 = .ok (.aload_n 0, 1) := by decide +kernel
theorem dM_reduce_12 : decode mM_reduce.2.1 12 = .ok (.getfield 43, 3) := by decide +kernel
theorem dM_reduce_15 : decode mM_reduce.2.1 15 = .ok (.iload_n 2, 1) := by decide +kernel
theorem dM_reduce_16 : decode mM_reduce.2.1 16 = .ok (.iaload, 1) := by decide +kernel
theorem dM_reduce_17 : decode mM_reduce.2.1 17 = .ok (.iconst 1, 1) := by decide +kernel
theorem dM_reduce_18 : decode mM_reduce.2.1 18 = .ok (.if_icmp .ne 153, 3) := by decide +kernel
theorem dM_reduce_21 : decode mM_reduce.2.1 21 = .ok (.iload_n 2, 1) := by decide +kernel
theorem dM_reduce_22 : decode mM_reduce.2.1 22 = .ok (.sipush 128, 3) := by decide +kernel
theorem dM_reduce_25 : decode mM_reduce.2.1 25 = .ok (.isub, 1) := by decide +kernel
theorem dM_reduce_26 : decode mM_reduce.2.1 26 = .ok (.istore_n 3, 1) := by decide +kernel
theorem dM_reduce_27 : decode mM_reduce.2.1 27 = .ok (.aload_n 0, 1) := by decide +kernel
theorem dM_reduce_28 : decode mM_reduce.2.1 28 = .ok (.getfield 43, 3) := by decide +kernel
theorem dM_reduce_31 : decode mM_reduce.2.1 31 = .ok (.iload_n 2, 1) := by decide +kernel
theorem dM_reduce_32 : decode mM_reduce.2.1 32 = .ok (.iconst 0, 1) := by decide +kernel
theorem dM_reduce_33 : decode mM_reduce.2.1 33 = .ok (.iastore, 1) := by decide +kernel
theorem dM_reduce_34 : decode mM_reduce.2.1 34 = .ok (.aload_n 0, 1) := by decide +kernel
theorem dM_reduce_35 : decode mM_reduce.2.1 35 = .ok (.getfield 43, 3) := by decide +kernel
theorem dM_reduce_38 : decode mM_reduce.2.1 38 = .ok (.iload_n 3, 1) := by decide +kernel
theorem dM_reduce_39 : decode mM_reduce.2.1 39 = .ok (.aload_n 0, 1) := by decide +kernel
theorem dM_reduce_40 : decode mM_reduce.2.1 40 = .ok (.getfield 43, 3) := by decide +kernel
theorem dM_reduce_43 : decode mM_reduce.2.1 43 = .ok (.iload_n 3, 1) := by decide +kernel
theorem dM_reduce_44 : decode mM_reduce.2.1 44 = .ok (.iaload, 1) := by decide +kernel
theorem dM_reduce_45 : decode mM_reduce.2.1 45 = .ok (.iconst 1, 1) := by decide +kernel
theorem dM_reduce_46 : decode mM_reduce.2.1 46 = .ok (.ixor, 1) := by decide +kernel
theorem dM_reduce_47 : decode mM_reduce.2.1 47 = .ok (.iastore, 1) := by decide +kernel
theorem dM_reduce_48 : decode mM_reduce.2.1 48 = .ok (.iload_n 1, 1) := by decide +kernel
theorem dM_reduce_49 : decode mM_reduce.2.1 49 = .ok (.ifCond .ne 62, 3) := by decide +kernel
theorem dM_reduce_52 : decode mM_reduce.2.1 52 = .ok (.aload_n 0, 1) := by decide +kernel
theorem dM_reduce_53 : decode mM_reduce.2.1 53 = .ok (.getfield 43, 3) := by decide +kernel
theorem dM_reduce_56 : decode mM_reduce.2.1 56 = .ok (.iload_n 3, 1) := by decide +kernel
theorem dM_reduce_57 : decode mM_reduce.2.1 57 = .ok (.bipush 7, 2) := by decide +kernel
theorem dM_reduce_59 : decode mM_reduce.2.1 59 = .ok (.iadd, 1) := by decide +kernel
theorem dM_reduce_60 : decode mM_reduce.2.1 60 = .ok (.aload_n 0, 1) := by decide +kernel
theorem dM_reduce_61 : decode mM_reduce.2.1 61 = .ok (.getfield 43, 3) := by decide +kernel
theorem dM_reduce_64 : decode mM_reduce.2.1 64 = .ok (.iload_n 3, 1) := by decide +kernel
theorem dM_reduce_65 : decode mM_reduce.2.1 65 = .ok (.bipush 7, 2) := by decide +kernel
theorem dM_reduce_67 : decode mM_reduce.2.1 67 = .ok (.iadd, 1) := by decide +kernel
theorem dM_reduce_68 : decode mM_reduce.2.1 68 = .ok (.iaload, 1) := by decide +kernel
theorem dM_reduce_69 : decode mM_reduce.2.1 69 = .ok (.iconst 1, 1) := by decide +kernel
theorem dM_reduce_70 : decode mM_reduce.2.1 70 = .ok (.ixor, 1) := by decide +kernel
theorem dM_reduce_71 : decode mM_reduce.2.1 71 = .ok (.iastore, 1) := by decide +kernel
theorem dM_reduce_72 : decode mM_reduce.2.1 72 = .ok (.aload_n 0, 1) := by decide +kernel
theorem dM_reduce_73 : decode mM_reduce.2.1 73 = .ok (.getfield 43, 3) := by decide +kernel
theorem dM_reduce_76 : decode mM_reduce.2.1 76 = .ok (.iload_n 3, 1) := by decide +kernel
theorem dM_reduce_77 : decode mM_reduce.2.1 77 = .ok (.iconst 2, 1) := by decide +kernel
theorem dM_reduce_78 : decode mM_reduce.2.1 78 = .ok (.iadd, 1) := by decide +kernel
theorem dM_reduce_79 : decode mM_reduce.2.1 79 = .ok (.aload_n 0, 1) := by decide +kernel
theorem dM_reduce_80 : decode mM_reduce.2.1 80 = .ok (.getfield 43, 3) := by decide +kernel
theorem dM_reduce_83 : decode mM_reduce.2.1 83 = .ok (.iload_n 3, 1) := by decide +kernel
theorem dM_reduce_84 : decode mM_reduce.2.1 84 = .ok (.iconst 2, 1) := by decide +kernel
theorem dM_reduce_85 : decode mM_reduce.2.1 85 = .ok (.iadd, 1) := by decide +kernel
theorem dM_reduce_86 : decode mM_reduce.2.1 86 = .ok (.iaload, 1) := by decide +kernel
theorem dM_reduce_87 : decode mM_reduce.2.1 87 = .ok (.iconst 1, 1) := by decide +kernel
theorem dM_reduce_88 : decode mM_reduce.2.1 88 = .ok (.ixor, 1) := by decide +kernel
theorem dM_reduce_89 : decode mM_reduce.2.1 89 = .ok (.iastore, 1) := by decide +kernel
theorem dM_reduce_90 : decode mM_reduce.2.1 90 = .ok (.aload_n 0, 1) := by decide +kernel
theorem dM_reduce_91 : decode mM_reduce.2.1 91 = .ok (.getfield 43, 3) := by decide +kernel
theorem dM_reduce_94 : decode mM_reduce.2.1 94 = .ok (.iload_n 3, 1) := by decide +kernel
theorem dM_reduce_95 : decode mM_reduce.2.1 95 = .ok (.iconst 1, 1) := by decide +kernel
theorem dM_reduce_96 : decode mM_reduce.2.1 96 = .ok (.iadd, 1) := by decide +kernel
theorem dM_reduce_97 : decode mM_reduce.2.1 97 = .ok (.aload_n 0, 1) := by decide +kernel
theorem dM_reduce_98 : decode mM_reduce.2.1 98 = .ok (.getfield 43, 3) := by decide +kernel
theorem dM_reduce_101 : decode mM_reduce.2.1 101 = .ok (.iload_n 3, 1) := by decide +kernel
theorem dM_reduce_102 : decode mM_reduce.2.1 102 = .ok (.iconst 1, 1) := by decide +kernel
theorem dM_reduce_103 : decode mM_reduce.2.1 103 = .ok (.iadd, 1) := by decide +kernel
theorem dM_reduce_104 : decode mM_reduce.2.1 104 = .ok (.iaload, 1) := by decide +kernel
theorem dM_reduce_105 : decode mM_reduce.2.1 105 = .ok (.iconst 1, 1) := by decide +kernel
theorem dM_reduce_106 : decode mM_reduce.2.1 106 = .ok (.ixor, 1) := by decide +kernel
theorem dM_reduce_107 : decode mM_reduce.2.1 107 = .ok (.iastore, 1) := by decide +kernel
theorem dM_reduce_108 : decode mM_reduce.2.1 108 = .ok (.goto 63, 3) := by decide +kernel
theorem dM_reduce_111 : decode mM_reduce.2.1 111 = .ok (.aload_n 0, 1) := by decide +kernel
theorem dM_reduce_112 : decode mM_reduce.2.1 112 = .ok (.getfield 43, 3) := by decide +kernel
theorem dM_reduce_115 : decode mM_reduce.2.1 115 = .ok (.iload_n 3, 1) := by decide +kernel
theorem dM_reduce_116 : decode mM_reduce.2.1 116 = .ok (.bipush 127, 2) := by decide +kernel
theorem dM_reduce_118 : decode mM_reduce.2.1 118 = .ok (.iadd, 1) := by decide +kernel
theorem dM_reduce_119 : decode mM_reduce.2.1 119 = .ok (.aload_n 0, 1) := by decide +kernel
theorem dM_reduce_120 : decode mM_reduce.2.1 120 = .ok (.getfield 43, 3) := by decide +kernel
theorem dM_reduce_123 : decode mM_reduce.2.1 123 = .ok (.iload_n 3, 1) := by decide +kernel
theorem dM_reduce_124 : decode mM_reduce.2.1 124 = .ok (.bipush 127, 2) := by decide +kernel
theorem dM_reduce_126 : decode mM_reduce.2.1 126 = .ok (.iadd, 1) := by decide +kernel
theorem dM_reduce_127 : decode mM_reduce.2.1 127 = .ok (.iaload, 1) := by decide +kernel
theorem dM_reduce_128 : decode mM_reduce.2.1 128 = .ok (.iconst 1, 1) := by decide +kernel
theorem dM_reduce_129 : decode mM_reduce.2.1 129 = .ok (.ixor, 1) := by decide +kernel
theorem dM_reduce_130 : decode mM_reduce.2.1 130 = .ok (.iastore, 1) := by decide +kernel
theorem dM_reduce_131 : decode mM_reduce.2.1 131 = .ok (.aload_n 0, 1) := by decide +kernel
theorem dM_reduce_132 : decode mM_reduce.2.1 132 = .ok (.getfield 43, 3) := by decide +kernel
theorem dM_reduce_135 : decode mM_reduce.2.1 135 = .ok (.iload_n 3, 1) := by decide +kernel
theorem dM_reduce_136 : decode mM_reduce.2.1 136 = .ok (.bipush 126, 2) := by decide +kernel
theorem dM_reduce_138 : decode mM_reduce.2.1 138 = .ok (.iadd, 1) := by decide +kernel
theorem dM_reduce_139 : decode mM_reduce.2.1 139 = .ok (.aload_n 0, 1) := by decide +kernel
theorem dM_reduce_140 : decode mM_reduce.2.1 140 = .ok (.getfield 43, 3) := by decide +kernel
theorem dM_reduce_143 : decode mM_reduce.2.1 143 = .ok (.iload_n 3, 1) := by decide +kernel
theorem dM_reduce_144 : decode mM_reduce.2.1 144 = .ok (.bipush 126, 2) := by decide +kernel
theorem dM_reduce_146 : decode mM_reduce.2.1 146 = .ok (.iadd, 1) := by decide +kernel
theorem dM_reduce_147 : decode mM_reduce.2.1 147 = .ok (.iaload, 1) := by decide +kernel
theorem dM_reduce_148 : decode mM_reduce.2.1 148 = .ok (.iconst 1, 1) := by decide +kernel
theorem dM_reduce_149 : decode mM_reduce.2.1 149 = .ok (.ixor, 1) := by decide +kernel
theorem dM_reduce_150 : decode mM_reduce.2.1 150 = .ok (.iastore, 1) := by decide +kernel
theorem dM_reduce_151 : decode mM_reduce.2.1 151 = .ok (.aload_n 0, 1) := by decide +kernel
theorem dM_reduce_152 : decode mM_reduce.2.1 152 = .ok (.getfield 43, 3) := by decide +kernel
theorem dM_reduce_155 : decode mM_reduce.2.1 155 = .ok (.iload_n 3, 1) := by decide +kernel
theorem dM_reduce_156 : decode mM_reduce.2.1 156 = .ok (.bipush 121, 2) := by decide +kernel
theorem dM_reduce_158 : decode mM_reduce.2.1 158 = .ok (.iadd, 1) := by decide +kernel
theorem dM_reduce_159 : decode mM_reduce.2.1 159 = .ok (.aload_n 0, 1) := by decide +kernel
theorem dM_reduce_160 : decode mM_reduce.2.1 160 = .ok (.getfield 43, 3) := by decide +kernel
theorem dM_reduce_163 : decode mM_reduce.2.1 163 = .ok (.iload_n 3, 1) := by decide +kernel
theorem dM_reduce_164 : decode mM_reduce.2.1 164 = .ok (.bipush 121, 2) := by decide +kernel
theorem dM_reduce_166 : decode mM_reduce.2.1 166 = .ok (.iadd, 1) := by decide +kernel
theorem dM_reduce_167 : decode mM_reduce.2.1 167 = .ok (.iaload, 1) := by decide +kernel
theorem dM_reduce_168 : decode mM_reduce.2.1 168 = .ok (.iconst 1, 1) := by decide +kernel
theorem dM_reduce_169 : decode mM_reduce.2.1 169 = .ok (.ixor, 1) := by decide +kernel
theorem dM_reduce_170 : decode mM_reduce.2.1 170 = .ok (.iastore, 1) := by decide +kernel
theorem dM_reduce_171 : decode mM_reduce.2.1 171 = .ok (.iinc 2 (-1), 3) := by decide +kernel
theorem dM_reduce_174 : decode mM_reduce.2.1 174 = .ok (.goto (-170), 3) := by decide +kernel
theorem dM_reduce_177 : decode mM_reduce.2.1 177 = .ok (.return_, 1) := by decide +kernel
theorem dM_clearProduct_0 : decode mM_clearProduct.2.1 0 = .ok (.iconst 0, 1) := by decide +kernel
theorem dM_clearProduct_1 : decode mM_clearProduct.2.1 1 = .ok (.istore_n 1, 1) := by decide +kernel
theorem dM_clearProduct_2 : decode mM_clearProduct.2.1 2 = .ok (.iload_n 1, 1) := by decide +kernel
theorem dM_clearProduct_3 : decode mM_clearProduct.2.1 3 = .ok (.sipush 256, 3) := by decide +kernel
theorem dM_clearProduct_6 : decode mM_clearProduct.2.1 6 = .ok (.if_icmp .ge 16, 3) := by decide +kernel
theorem dM_clearProduct_9 : decode mM_clearProduct.2.1 9 = .ok (.aload_n 0, 1) := by decide +kernel
theorem dM_clearProduct_10 : decode mM_clearProduct.2.1 10 = .ok (.getfield 43, 3) := by decide +kernel
theorem dM_clearProduct_13 : decode mM_clearProduct.2.1 13 = .ok (.iload_n 1, 1) := by decide +kernel
theorem dM_clearProduct_14 : decode mM_clearProduct.2.1 14 = .ok (.iconst 0, 1) := by decide +kernel
theorem dM_clearProduct_15 : decode mM_clearProduct.2.1 15 = .ok (.iastore, 1) := by decide +kernel
theorem dM_clearProduct_16 : decode mM_clearProduct.2.1 16 = .ok (.iinc 1 1, 3) := by decide +kernel
theorem dM_clearProduct_19 : decode mM_clearProduct.2.1 19 = .ok (.goto (-17), 3) := by decide +kernel
theorem dM_clearProduct_22 : decode mM_clearProduct.2.1 22 = .ok (.return_, 1) := by decide +kernel
theorem dM_multiply_0 : decode mM_multiply.2.1 0 = .ok (.aload_n 0, 1) := by decide +kernel
theorem dM_multiply_1 : decode mM_multiply.2.1 1 = .ok (.invokevirtual 77, 3) := by decide +kernel
theorem dM_multiply_4 : decode mM_multiply.2.1 4 = .ok (.iconst 0, 1) := by decide +kernel
theorem dM_multiply_5 : decode mM_multiply.2.1 5 = .ok (.istore_n 2, 1) := by decide +kernel
theorem dM_multiply_6 : decode mM_multiply.2.1 6 = .ok (.iload_n 2, 1) := by decide +kernel
theorem dM_multiply_7 : decode mM_multiply.2.1 7 = .ok (.sipush 128, 3) := by decide +kernel
theorem dM_multiply_10 : decode mM_multiply.2.1 10 = .ok (.if_icmp .ge 57, 3) := by decide +kernel
theorem dM_multiply_13 : decode mM_multiply.2.1 13 = .ok (.iconst 0, 1) := by decide +kernel
theorem dM_multiply_14 : decode mM_multiply.2.1 14 = .ok (.istore_n 3, 1) := by decide +kernel
theorem dM_multiply_15 : decode mM_multiply.2.1 15 = .ok (.iload_n 3, 1) := by decide +kernel
theorem dM_multiply_16 : decode mM_multiply.2.1 16 = .ok (.sipush 128, 3) := by decide +kernel
theorem dM_multiply_19 : decode mM_multiply.2.1 19 = .ok (.if_icmp .ge 42, 3) := by decide +kernel
theorem dM_multiply_22 : decode mM_multiply.2.1 22 = .ok (.aload_n 0, 1) := by decide +kernel
theorem dM_multiply_23 : decode mM_multiply.2.1 23 = .ok (.getfield 37, 3) := by decide +kernel
theorem dM_multiply_26 : decode mM_multiply.2.1 26 = .ok (.iload_n 2, 1) := by decide +kernel
theorem dM_multiply_27 : decode mM_multiply.2.1 27 = .ok (.iaload, 1) := by decide +kernel
theorem dM_multiply_28 : decode mM_multiply.2.1 28 = .ok (.iconst 1, 1) := by decide +kernel
theorem dM_multiply_29 : decode mM_multiply.2.1 29 = .ok (.if_icmp .ne 32, 3) := by decide +kernel
theorem dM_multiply_32 : decode mM_multiply.2.1 32 = .ok (.aload_n 0, 1) := by decide +kernel
theorem dM_multiply_33 : decode mM_multiply.2.1 33 = .ok (.getfield 43, 3) := by decide +kernel
theorem dM_multiply_36 : decode mM_multiply.2.1 36 = .ok (.iload_n 2, 1) := by decide +kernel
theorem dM_multiply_37 : decode mM_multiply.2.1 37 = .ok (.iload_n 3, 1) := by decide +kernel
theorem dM_multiply_38 : decode mM_multiply.2.1 38 = .ok (.iadd, 1) := by decide +kernel
theorem dM_multiply_39 : decode mM_multiply.2.1 39 = .ok (.aload_n 0, 1) := by decide +kernel
theorem dM_multiply_40 : decode mM_multiply.2.1 40 = .ok (.getfield 43, 3) := by decide +kernel
theorem dM_multiply_43 : decode mM_multiply.2.1 43 = .ok (.iload_n 2, 1) := by decide +kernel
theorem dM_multiply_44 : decode mM_multiply.2.1 44 = .ok (.iload_n 3, 1) := by decide +kernel
theorem dM_multiply_45 : decode mM_multiply.2.1 45 = .ok (.iadd, 1) := by decide +kernel
theorem dM_multiply_46 : decode mM_multiply.2.1 46 = .ok (.iaload, 1) := by decide +kernel
theorem dM_multiply_47 : decode mM_multiply.2.1 47 = .ok (.aload_n 0, 1) := by decide +kernel
theorem dM_multiply_48 : decode mM_multiply.2.1 48 = .ok (.getfield 40, 3) := by decide +kernel
theorem dM_multiply_51 : decode mM_multiply.2.1 51 = .ok (.iload_n 3, 1) := by decide +kernel
theorem dM_multiply_52 : decode mM_multiply.2.1 52 = .ok (.iaload, 1) := by decide +kernel
theorem dM_multiply_53 : decode mM_multiply.2.1 53 = .ok (.ixor, 1) := by decide +kernel
theorem dM_multiply_54 : decode mM_multiply.2.1 54 = .ok (.iastore, 1) := by decide +kernel
theorem dM_multiply_55 : decode mM_multiply.2.1 55 = .ok (.iinc 3 1, 3) := by decide +kernel
theorem dM_multiply_58 : decode mM_multiply.2.1 58 = .ok (.goto (-43), 3) := by decide +kernel
theorem dM_multiply_61 : decode mM_multiply.2.1 61 = .ok (.iinc 2 1, 3) := by decide +kernel
theorem dM_multiply_64 : decode mM_multiply.2.1 64 = .ok (.goto (-58), 3) := by decide +kernel
theorem dM_multiply_67 : decode mM_multiply.2.1 67 = .ok (.aload_n 0, 1) := by decide +kernel
theorem dM_multiply_68 : decode mM_multiply.2.1 68 = .ok (.iload_n 1, 1) := by decide +kernel
theorem dM_multiply_69 : decode mM_multiply.2.1 69 = .ok (.invokevirtual 80, 3) := by decide +kernel
theorem dM_multiply_72 : decode mM_multiply.2.1 72 = .ok (.iconst 0, 1) := by decide +kernel
theorem dM_multiply_73 : decode mM_multiply.2.1 73 = .ok (.istore_n 2, 1) := by decide +kernel
theorem dM_multiply_74 : decode mM_multiply.2.1 74 = .ok (.iload_n 2, 1) := by decide +kernel
theorem dM_multiply_75 : decode mM_multiply.2.1 75 = .ok (.sipush 128, 3) := by decide +kernel
theorem dM_multiply_78 : decode mM_multiply.2.1 78 = .ok (.if_icmp .ge 21, 3) := by decide +kernel
theorem dM_multiply_81 : decode mM_multiply.2.1 81 = .ok (.aload_n 0, 1) := by decide +kernel
theorem dM_multiply_82 : decode mM_multiply.2.1 82 = .ok (.getfield 37, 3) := by decide +kernel
theorem dM_multiply_85 : decode mM_multiply.2.1 85 = .ok (.iload_n 2, 1) := by decide +kernel
theorem dM_multiply_86 : decode mM_multiply.2.1 86 = .ok (.aload_n 0, 1) := by decide +kernel
theorem dM_multiply_87 : decode mM_multiply.2.1 87 = .ok (.getfield 43, 3) := by decide +kernel
theorem dM_multiply_90 : decode mM_multiply.2.1 90 = .ok (.iload_n 2, 1) := by decide +kernel
theorem dM_multiply_91 : decode mM_multiply.2.1 91 = .ok (.iaload, 1) := by decide +kernel
theorem dM_multiply_92 : decode mM_multiply.2.1 92 = .ok (.iastore, 1) := by decide +kernel
theorem dM_multiply_93 : decode mM_multiply.2.1 93 = .ok (.iinc 2 1, 3) := by decide +kernel
theorem dM_multiply_96 : decode mM_multiply.2.1 96 = .ok (.goto (-22), 3) := by decide +kernel
theorem dM_multiply_99 : decode mM_multiply.2.1 99 = .ok (.return_, 1) := by decide +kernel
theorem dM_addShifted_0 : decode mM_addShifted.2.1 0 = .ok (.iconst 0, 1) := by decide +kernel
theorem dM_addShifted_1 : decode mM_addShifted.2.1 1 = .ok (.istore_n 2, 1) := by decide +kernel
theorem dM_addShifted_2 : decode mM_addShifted.2.1 2 = .ok (.iload_n 2, 1) := by decide +kernel
theorem dM_addShifted_3 : decode mM_addShifted.2.1 3 = .ok (.sipush 128, 3) := by decide +kernel
theorem dM_addShifted_6 : decode mM_addShifted.2.1 6 = .ok (.if_icmp .ge 32, 3) := by decide +kernel
theorem dM_addShifted_9 : decode mM_addShifted.2.1 9 = .ok (.aload_n 0, 1) := by decide +kernel
theorem dM_addShifted_10 : decode mM_addShifted.2.1 10 = .ok (.getfield 43, 3) := by decide +kernel
theorem dM_addShifted_13 : decode mM_addShifted.2.1 13 = .ok (.iload_n 2, 1) := by decide +kernel
theorem dM_addShifted_14 : decode mM_addShifted.2.1 14 = .ok (.iload_n 1, 1) := by decide +kernel
theorem dM_addShifted_15 : decode mM_addShifted.2.1 15 = .ok (.iadd, 1) := by decide +kernel
theorem dM_addShifted_16 : decode mM_addShifted.2.1 16 = .ok (.aload_n 0, 1) := by decide +kernel
theorem dM_addShifted_17 : decode mM_addShifted.2.1 17 = .ok (.getfield 43, 3) := by decide +kernel
theorem dM_addShifted_20 : decode mM_addShifted.2.1 20 = .ok (.iload_n 2, 1) := by decide +kernel
theorem dM_addShifted_21 : decode mM_addShifted.2.1 21 = .ok (.iload_n 1, 1) := by decide +kernel
theorem dM_addShifted_22 : decode mM_addShifted.2.1 22 = .ok (.iadd, 1) := by decide +kernel
theorem dM_addShifted_23 : decode mM_addShifted.2.1 23 = .ok (.iaload, 1) := by decide +kernel
theorem dM_addShifted_24 : decode mM_addShifted.2.1 24 = .ok (.aload_n 0, 1) := by decide +kernel
theorem dM_addShifted_25 : decode mM_addShifted.2.1 25 = .ok (.getfield 40, 3) := by decide +kernel
theorem dM_addShifted_28 : decode mM_addShifted.2.1 28 = .ok (.iload_n 2, 1) := by decide +kernel
theorem dM_addShifted_29 : decode mM_addShifted.2.1 29 = .ok (.iaload, 1) := by decide +kernel
theorem dM_addShifted_30 : decode mM_addShifted.2.1 30 = .ok (.ixor, 1) := by decide +kernel
theorem dM_addShifted_31 : decode mM_addShifted.2.1 31 = .ok (.iastore, 1) := by decide +kernel
theorem dM_addShifted_32 : decode mM_addShifted.2.1 32 = .ok (.iinc 2 1, 3) := by decide +kernel
theorem dM_addShifted_35 : decode mM_addShifted.2.1 35 = .ok (.goto (-33), 3) := by decide +kernel
theorem dM_addShifted_38 : decode mM_addShifted.2.1 38 = .ok (.return_, 1) := by decide +kernel
theorem dM_beginHash_0 : decode mM_beginHash.2.1 0 = .ok (.iconst 0, 1) := by decide +kernel
theorem dM_beginHash_1 : decode mM_beginHash.2.1 1 = .ok (.istore_n 2, 1) := by decide +kernel
theorem dM_beginHash_2 : decode mM_beginHash.2.1 2 = .ok (.iload_n 2, 1) := by decide +kernel
theorem dM_beginHash_3 : decode mM_beginHash.2.1 3 = .ok (.sipush 128, 3) := by decide +kernel
theorem dM_beginHash_6 : decode mM_beginHash.2.1 6 = .ok (.if_icmp .ge 39, 3) := by decide +kernel
theorem dM_beginHash_9 : decode mM_beginHash.2.1 9 = .ok (.aload_n 0, 1) := by decide +kernel
theorem dM_beginHash_10 : decode mM_beginHash.2.1 10 = .ok (.getfield 37, 3) := by decide +kernel
theorem dM_beginHash_13 : decode mM_beginHash.2.1 13 = .ok (.iload_n 2, 1) := by decide +kernel
theorem dM_beginHash_14 : decode mM_beginHash.2.1 14 = .ok (.iconst 0, 1) := by decide +kernel
theorem dM_beginHash_15 : decode mM_beginHash.2.1 15 = .ok (.iastore, 1) := by decide +kernel
theorem dM_beginHash_16 : decode mM_beginHash.2.1 16 = .ok (.aload_n 0, 1) := by decide +kernel
theorem dM_beginHash_17 : decode mM_beginHash.2.1 17 = .ok (.getfield 40, 3) := by decide +kernel
theorem dM_beginHash_20 : decode mM_beginHash.2.1 20 = .ok (.iload_n 2, 1) := by decide +kernel
theorem dM_beginHash_21 : decode mM_beginHash.2.1 21 = .ok (.iload_n 1, 1) := by decide +kernel
theorem dM_beginHash_22 : decode mM_beginHash.2.1 22 = .ok (.aload_n 0, 1) := by decide +kernel
theorem dM_beginHash_23 : decode mM_beginHash.2.1 23 = .ok (.getfield 34, 3) := by decide +kernel
theorem dM_beginHash_26 : decode mM_beginHash.2.1 26 = .ok (.iload_n 2, 1) := by decide +kernel
theorem dM_beginHash_27 : decode mM_beginHash.2.1 27 = .ok (.bipush 8, 2) := by decide +kernel
theorem dM_beginHash_29 : decode mM_beginHash.2.1 29 = .ok (.idiv, 1) := by decide +kernel
theorem dM_beginHash_30 : decode mM_beginHash.2.1 30 = .ok (.iaload, 1) := by decide +kernel
theorem dM_beginHash_31 : decode mM_beginHash.2.1 31 = .ok (.iload_n 2, 1) := by decide +kernel
theorem dM_beginHash_32 : decode mM_beginHash.2.1 32 = .ok (.bipush 8, 2) := by decide +kernel
theorem dM_beginHash_34 : decode mM_beginHash.2.1 34 = .ok (.irem, 1) := by decide +kernel
theorem dM_beginHash_35 : decode mM_beginHash.2.1 35 = .ok (.invokestatic 83, 3) := by decide +kernel
theorem dM_beginHash_38 : decode mM_beginHash.2.1 38 = .ok (.iastore, 1) := by decide +kernel
theorem dM_beginHash_39 : decode mM_beginHash.2.1 39 = .ok (.iinc 2 1, 3) := by decide +kernel
theorem dM_beginHash_42 : decode mM_beginHash.2.1 42 = .ok (.goto (-40), 3) := by decide +kernel
theorem dM_beginHash_45 : decode mM_beginHash.2.1 45 = .ok (.iload_n 1, 1) := by decide +kernel
theorem dM_beginHash_46 : decode mM_beginHash.2.1 46 = .ok (.ifCond .ne 4, 3) := by decide +kernel
theorem dM_beginHash_49 : decode mM_beginHash.2.1 49 = .ok (.return_, 1) := by decide +kernel
theorem dM_beginHash_50 : decode mM_beginHash.2.1 50 = .ok (.aload_n 0, 1) := by decide +kernel
theorem dM_beginHash_51 : decode mM_beginHash.2.1 51 = .ok (.invokevirtual 77, 3) := by decide +kernel
theorem dM_beginHash_54 : decode mM_beginHash.2.1 54 = .ok (.aload_n 0, 1) := by decide +kernel
theorem dM_beginHash_55 : decode mM_beginHash.2.1 55 = .ok (.bipush 127, 2) := by decide +kernel
theorem dM_beginHash_57 : decode mM_beginHash.2.1 57 = .ok (.invokevirtual 87, 3) := by decide +kernel
theorem dM_beginHash_60 : decode mM_beginHash.2.1 60 = .ok (.aload_n 0, 1) := by decide +kernel
theorem dM_beginHash_61 : decode mM_beginHash.2.1 61 = .ok (.bipush 124, 2) := by decide +kernel
theorem dM_beginHash_63 : decode mM_beginHash.2.1 63 = .ok (.invokevirtual 87, 3) := by decide +kernel
theorem dM_beginHash_66 : decode mM_beginHash.2.1 66 = .ok (.aload_n 0, 1) := by decide +kernel
theorem dM_beginHash_67 : decode mM_beginHash.2.1 67 = .ok (.bipush 121, 2) := by decide +kernel
theorem dM_beginHash_69 : decode mM_beginHash.2.1 69 = .ok (.invokevirtual 87, 3) := by decide +kernel
theorem dM_beginHash_72 : decode mM_beginHash.2.1 72 = .ok (.aload_n 0, 1) := by decide +kernel
theorem dM_beginHash_73 : decode mM_beginHash.2.1 73 = .ok (.bipush 114, 2) := by decide +kernel
theorem dM_beginHash_75 : decode mM_beginHash.2.1 75 = .ok (.invokevirtual 87, 3) := by decide +kernel
theorem dM_beginHash_78 : decode mM_beginHash.2.1 78 = .ok (.aload_n 0, 1) := by decide +kernel
theorem dM_beginHash_79 : decode mM_beginHash.2.1 79 = .ok (.iconst 0, 1) := by decide +kernel
theorem dM_beginHash_80 : decode mM_beginHash.2.1 80 = .ok (.invokevirtual 87, 3) := by decide +kernel
theorem dM_beginHash_83 : decode mM_beginHash.2.1 83 = .ok (.aload_n 0, 1) := by decide +kernel
theorem dM_beginHash_84 : decode mM_beginHash.2.1 84 = .ok (.iconst 1, 1) := by decide +kernel
theorem dM_beginHash_85 : decode mM_beginHash.2.1 85 = .ok (.invokevirtual 80, 3) := by decide +kernel
theorem dM_beginHash_88 : decode mM_beginHash.2.1 88 = .ok (.iconst 0, 1) := by decide +kernel
theorem dM_beginHash_89 : decode mM_beginHash.2.1 89 = .ok (.istore_n 2, 1) := by decide +kernel
theorem dM_beginHash_90 : decode mM_beginHash.2.1 90 = .ok (.iload_n 2, 1) := by decide +kernel
theorem dM_beginHash_91 : decode mM_beginHash.2.1 91 = .ok (.sipush 128, 3) := by decide +kernel
theorem dM_beginHash_94 : decode mM_beginHash.2.1 94 = .ok (.if_icmp .ge 21, 3) := by decide +kernel
theorem dM_beginHash_97 : decode mM_beginHash.2.1 97 = .ok (.aload_n 0, 1) := by decide +kernel
theorem dM_beginHash_98 : decode mM_beginHash.2.1 98 = .ok (.getfield 40, 3) := by decide +kernel
theorem dM_beginHash_101 : decode mM_beginHash.2.1 101 = .ok (.iload_n 2, 1) := by decide +kernel
theorem dM_beginHash_102 : decode mM_beginHash.2.1 102 = .ok (.aload_n 0, 1) := by decide +kernel
theorem dM_beginHash_103 : decode mM_beginHash.2.1 103 = .ok (.getfield 43, 3) := by decide +kernel
theorem dM_beginHash_106 : decode mM_beginHash.2.1 106 = .ok (.iload_n 2, 1) := by decide +kernel
theorem dM_beginHash_107 : decode mM_beginHash.2.1 107 = .ok (.iaload, 1) := by decide +kernel
theorem dM_beginHash_108 : decode mM_beginHash.2.1 108 = .ok (.iastore, 1) := by decide +kernel
theorem dM_beginHash_109 : decode mM_beginHash.2.1 109 = .ok (.iinc 2 1, 3) := by decide +kernel
theorem dM_beginHash_112 : decode mM_beginHash.2.1 112 = .ok (.goto (-22), 3) := by decide +kernel
theorem dM_beginHash_115 : decode mM_beginHash.2.1 115 = .ok (.return_, 1) := by decide +kernel
theorem dM_feed_0 : decode mM_feed.2.1 0 = .ok (.iconst 0, 1) := by decide +kernel
theorem dM_feed_1 : decode mM_feed.2.1 1 = .ok (.istore_n 2, 1) := by decide +kernel
theorem dM_feed_2 : decode mM_feed.2.1 2 = .ok (.iload_n 2, 1) := by decide +kernel
theorem dM_feed_3 : decode mM_feed.2.1 3 = .ok (.sipush 128, 3) := by decide +kernel
theorem dM_feed_6 : decode mM_feed.2.1 6 = .ok (.if_icmp .ge 39, 3) := by decide +kernel
theorem dM_feed_9 : decode mM_feed.2.1 9 = .ok (.aload_n 0, 1) := by decide +kernel
theorem dM_feed_10 : decode mM_feed.2.1 10 = .ok (.getfield 37, 3) := by decide +kernel
theorem dM_feed_13 : decode mM_feed.2.1 13 = .ok (.iload_n 2, 1) := by decide +kernel
theorem dM_feed_14 : decode mM_feed.2.1 14 = .ok (.aload_n 0, 1) := by decide +kernel
theorem dM_feed_15 : decode mM_feed.2.1 15 = .ok (.getfield 37, 3) := by decide +kernel
theorem dM_feed_18 : decode mM_feed.2.1 18 = .ok (.iload_n 2, 1) := by decide +kernel
theorem dM_feed_19 : decode mM_feed.2.1 19 = .ok (.iaload, 1) := by decide +kernel
theorem dM_feed_20 : decode mM_feed.2.1 20 = .ok (.iload_n 1, 1) := by decide +kernel
theorem dM_feed_21 : decode mM_feed.2.1 21 = .ok (.aload_n 0, 1) := by decide +kernel
theorem dM_feed_22 : decode mM_feed.2.1 22 = .ok (.getfield 34, 3) := by decide +kernel
theorem dM_feed_25 : decode mM_feed.2.1 25 = .ok (.iload_n 2, 1) := by decide +kernel
theorem dM_feed_26 : decode mM_feed.2.1 26 = .ok (.bipush 8, 2) := by decide +kernel
theorem dM_feed_28 : decode mM_feed.2.1 28 = .ok (.idiv, 1) := by decide +kernel
theorem dM_feed_29 : decode mM_feed.2.1 29 = .ok (.iaload, 1) := by decide +kernel
theorem dM_feed_30 : decode mM_feed.2.1 30 = .ok (.iload_n 2, 1) := by decide +kernel
theorem dM_feed_31 : decode mM_feed.2.1 31 = .ok (.bipush 8, 2) := by decide +kernel
theorem dM_feed_33 : decode mM_feed.2.1 33 = .ok (.irem, 1) := by decide +kernel
theorem dM_feed_34 : decode mM_feed.2.1 34 = .ok (.invokestatic 83, 3) := by decide +kernel
theorem dM_feed_37 : decode mM_feed.2.1 37 = .ok (.ixor, 1) := by decide +kernel
theorem dM_feed_38 : decode mM_feed.2.1 38 = .ok (.iastore, 1) := by decide +kernel
theorem dM_feed_39 : decode mM_feed.2.1 39 = .ok (.iinc 2 1, 3) := by decide +kernel
theorem dM_feed_42 : decode mM_feed.2.1 42 = .ok (.goto (-40), 3) := by decide +kernel
theorem dM_feed_45 : decode mM_feed.2.1 45 = .ok (.aload_n 0, 1) := by decide +kernel
theorem dM_feed_46 : decode mM_feed.2.1 46 = .ok (.iload_n 1, 1) := by decide +kernel
theorem dM_feed_47 : decode mM_feed.2.1 47 = .ok (.invokevirtual 90, 3) := by decide +kernel
theorem dM_feed_50 : decode mM_feed.2.1 50 = .ok (.return_, 1) := by decide +kernel
theorem dM_feedRow_0 : decode mM_feedRow.2.1 0 = .ok (.iconst 0, 1) := by decide +kernel
theorem dM_feedRow_1 : decode mM_feedRow.2.1 1 = .ok (.istore 4, 2) := by decide +kernel
theorem dM_feedRow_3 : decode mM_feedRow.2.1 3 = .ok (.iload 4, 2) := by decide +kernel
theorem dM_feedRow_5 : decode mM_feedRow.2.1 5 = .ok (.iload_n 3, 1) := by decide +kernel
theorem dM_feedRow_6 : decode mM_feedRow.2.1 6 = .ok (.if_icmp .ge 62, 3) := by decide +kernel
theorem dM_feedRow_9 : decode mM_feedRow.2.1 9 = .ok (.iconst 0, 1) := by decide +kernel
theorem dM_feedRow_10 : decode mM_feedRow.2.1 10 = .ok (.istore 5, 2) := by decide +kernel
theorem dM_feedRow_12 : decode mM_feedRow.2.1 12 = .ok (.iload 5, 2) := by decide +kernel
theorem dM_feedRow_14 : decode mM_feedRow.2.1 14 = .ok (.bipush 16, 2) := by decide +kernel
theorem dM_feedRow_16 : decode mM_feedRow.2.1 16 = .ok (.if_icmp .ge 41, 3) := by decide +kernel
theorem dM_feedRow_19 : decode mM_feedRow.2.1 19 = .ok (.aload_n 0, 1) := by decide +kernel
theorem dM_feedRow_20 : decode mM_feedRow.2.1 20 = .ok (.getfield 34, 3) := by decide +kernel
theorem dM_feedRow_23 : decode mM_feedRow.2.1 23 = .ok (.iload 5, 2) := by decide +kernel
theorem dM_feedRow_25 : decode mM_feedRow.2.1 25 = .ok (.iload 4, 2) := by decide +kernel
theorem dM_feedRow_27 : decode mM_feedRow.2.1 27 = .ok (.iload 5, 2) := by decide +kernel
theorem dM_feedRow_29 : decode mM_feedRow.2.1 29 = .ok (.iadd, 1) := by decide +kernel
theorem dM_feedRow_30 : decode mM_feedRow.2.1 30 = .ok (.iload_n 3, 1) := by decide +kernel
theorem dM_feedRow_31 : decode mM_feedRow.2.1 31 = .ok (.if_icmp .ge 18, 3) := by decide +kernel
theorem dM_feedRow_34 : decode mM_feedRow.2.1 34 = .ok (.aload_n 0, 1) := by decide +kernel
theorem dM_feedRow_35 : decode mM_feedRow.2.1 35 = .ok (.getfield 7, 3) := by decide +kernel
theorem dM_feedRow_38 : decode mM_feedRow.2.1 38 = .ok (.iload_n 2, 1) := by decide +kernel
theorem dM_feedRow_39 : decode mM_feedRow.2.1 39 = .ok (.iload 4, 2) := by decide +kernel
theorem dM_feedRow_41 : decode mM_feedRow.2.1 41 = .ok (.iadd, 1) := by decide +kernel
theorem dM_feedRow_42 : decode mM_feedRow.2.1 42 = .ok (.iload 5, 2) := by decide +kernel
theorem dM_feedRow_44 : decode mM_feedRow.2.1 44 = .ok (.iadd, 1) := by decide +kernel
theorem dM_feedRow_45 : decode mM_feedRow.2.1 45 = .ok (.iaload, 1) := by decide +kernel
theorem dM_feedRow_46 : decode mM_feedRow.2.1 46 = .ok (.goto 4, 3) := by decide +kernel
theorem dM_feedRow_49 : decode mM_feedRow.2.1 49 = .ok (.iconst 0, 1) := by decide +kernel
theorem dM_feedRow_50 : decode mM_feedRow.2.1 50 = .ok (.iastore, 1) := by decide +kernel
theorem dM_feedRow_51 : decode mM_feedRow.2.1 51 = .ok (.iinc 5 1, 3) := by decide +kernel
theorem dM_feedRow_54 : decode mM_feedRow.2.1 54 = .ok (.goto (-42), 3) := by decide +kernel
theorem dM_feedRow_57 : decode mM_feedRow.2.1 57 = .ok (.aload_n 0, 1) := by decide +kernel
theorem dM_feedRow_58 : decode mM_feedRow.2.1 58 = .ok (.iload_n 1, 1) := by decide +kernel
theorem dM_feedRow_59 : decode mM_feedRow.2.1 59 = .ok (.invokevirtual 93, 3) := by decide +kernel
theorem dM_feedRow_62 : decode mM_feedRow.2.1 62 = .ok (.iinc 4 16, 3) := by decide +kernel
theorem dM_feedRow_65 : decode mM_feedRow.2.1 65 = .ok (.goto (-62), 3) := by decide +kernel
theorem dM_feedRow_68 : decode mM_feedRow.2.1 68 = .ok (.return_, 1) := by decide +kernel
theorem dM_feedLengths_0 : decode mM_feedLengths.2.1 0 = .ok (.iconst 0, 1) := by decide +kernel
theorem dM_feedLengths_1 : decode mM_feedLengths.2.1 1 = .ok (.istore 4, 2) := by decide +kernel
theorem dM_feedLengths_3 : decode mM_feedLengths.2.1 3 = .ok (.iload 4, 2) := by decide +kernel
theorem dM_feedLengths_5 : decode mM_feedLengths.2.1 5 = .ok (.bipush 16, 2) := by decide +kernel
theorem dM_feedLengths_7 : decode mM_feedLengths.2.1 7 = .ok (.if_icmp .ge 17, 3) := by decide +kernel
theorem dM_feedLengths_10 : decode mM_feedLengths.2.1 10 = .ok (.aload_n 0, 1) := by decide +kernel
theorem dM_feedLengths_11 : decode mM_feedLengths.2.1 11 = .ok (.getfield 34, 3) := by decide +kernel
theorem dM_feedLengths_14 : decode mM_feedLengths.2.1 14 = .ok (.iload 4, 2) := by decide +kernel
theorem dM_feedLengths_16 : decode mM_feedLengths.2.1 16 = .ok (.iconst 0, 1) := by decide +kernel
theorem dM_feedLengths_17 : decode mM_feedLengths.2.1 17 = .ok (.iastore, 1) := by decide +kernel
theorem dM_feedLengths_18 : decode mM_feedLengths.2.1 18 = .ok (.iinc 4 1, 3) := by decide +kernel
theorem dM_feedLengths_21 : decode mM_feedLengths.2.1 21 = .ok (.goto (-18), 3) := by decide +kernel
theorem dM_feedLengths_24 : decode mM_feedLengths.2.1 24 = .ok (.iconst 0, 1) := by decide +kernel
theorem dM_feedLengths_25 : decode mM_feedLengths.2.1 25 = .ok (.istore 4, 2) := by decide +kernel
theorem dM_feedLengths_27 : decode mM_feedLengths.2.1 27 = .ok (.iload 4, 2) := by decide +kernel
theorem dM_feedLengths_29 : decode mM_feedLengths.2.1 29 = .ok (.iconst 2, 1) := by decide +kernel
theorem dM_feedLengths_30 : decode mM_feedLengths.2.1 30 = .ok (.if_icmp .ge 78, 3) := by decide +kernel
theorem dM_feedLengths_33 : decode mM_feedLengths.2.1 33 = .ok (.aload_n 0, 1) := by decide +kernel
theorem dM_feedLengths_34 : decode mM_feedLengths.2.1 34 = .ok (.getfield 34, 3) := by decide +kernel
theorem dM_feedLengths_37 : decode mM_feedLengths.2.1 37 = .ok (.iload_n 1, 1) := by decide +kernel
theorem dM_feedLengths_38 : decode mM_feedLengths.2.1 38 = .ok (.ifCond .ne 11, 3) := by decide +kernel
theorem dM_feedLengths_41 : decode mM_feedLengths.2.1 41 = .ok (.bipush 7, 2) := by decide +kernel
theorem dM_feedLengths_43 : decode mM_feedLengths.2.1 43 = .ok (.iload 4, 2) := by decide +kernel
theorem dM_feedLengths_45 : decode mM_feedLengths.2.1 45 = .ok (.isub, 1) := by decide +kernel
theorem dM_feedLengths_46 : decode mM_feedLengths.2.1 46 = .ok (.goto 5, 3) := by decide +kernel
theorem dM_feedLengths_49 : decode mM_feedLengths.2.1 49 = .ok (.iload 4, 2) := by decide +kernel
theorem dM_feedLengths_51 : decode mM_feedLengths.2.1 51 = .ok (.bipush 8, 2) := by decide +kernel
theorem dM_feedLengths_53 : decode mM_feedLengths.2.1 53 = .ok (.iload_n 2, 1) := by decide +kernel
theorem dM_feedLengths_54 : decode mM_feedLengths.2.1 54 = .ok (.imul, 1) := by decide +kernel
theorem dM_feedLengths_55 : decode mM_feedLengths.2.1 55 = .ok (.bipush 8, 2) := by decide +kernel
theorem dM_feedLengths_57 : decode mM_feedLengths.2.1 57 = .ok (.iload 4, 2) := by decide +kernel
theorem dM_feedLengths_59 : decode mM_feedLengths.2.1 59 = .ok (.imul, 1) := by decide +kernel
theorem dM_feedLengths_60 : decode mM_feedLengths.2.1 60 = .ok (.ishr, 1) := by decide +kernel
theorem dM_feedLengths_61 : decode mM_feedLengths.2.1 61 = .ok (.sipush 255, 3) := by decide +kernel
theorem dM_feedLengths_64 : decode mM_feedLengths.2.1 64 = .ok (.iand, 1) := by decide +kernel
theorem dM_feedLengths_65 : decode mM_feedLengths.2.1 65 = .ok (.iastore, 1) := by decide +kernel
theorem dM_feedLengths_66 : decode mM_feedLengths.2.1 66 = .ok (.aload_n 0, 1) := by decide +kernel
theorem dM_feedLengths_67 : decode mM_feedLengths.2.1 67 = .ok (.getfield 34, 3) := by decide +kernel
theorem dM_feedLengths_70 : decode mM_feedLengths.2.1 70 = .ok (.iload_n 1, 1) := by decide +kernel
theorem dM_feedLengths_71 : decode mM_feedLengths.2.1 71 = .ok (.ifCond .ne 11, 3) := by decide +kernel
theorem dM_feedLengths_74 : decode mM_feedLengths.2.1 74 = .ok (.bipush 15, 2) := by decide +kernel
theorem dM_feedLengths_76 : decode mM_feedLengths.2.1 76 = .ok (.iload 4, 2) := by decide +kernel
theorem dM_feedLengths_78 : decode mM_feedLengths.2.1 78 = .ok (.isub, 1) := by decide +kernel
theorem dM_feedLengths_79 : decode mM_feedLengths.2.1 79 = .ok (.goto 8, 3) := by decide +kernel
theorem dM_feedLengths_82 : decode mM_feedLengths.2.1 82 = .ok (.bipush 8, 2) := by decide +kernel
theorem dM_feedLengths_84 : decode mM_feedLengths.2.1 84 = .ok (.iload 4, 2) := by decide +kernel
theorem dM_feedLengths_86 : decode mM_feedLengths.2.1 86 = .ok (.iadd, 1) := by decide +kernel
theorem dM_feedLengths_87 : decode mM_feedLengths.2.1 87 = .ok (.bipush 8, 2) := by decide +kernel
theorem dM_feedLengths_89 : decode mM_feedLengths.2.1 89 = .ok (.iload_n 3, 1) := by decide +kernel
theorem dM_feedLengths_90 : decode mM_feedLengths.2.1 90 = .ok (.imul, 1) := by decide +kernel
theorem dM_feedLengths_91 : decode mM_feedLengths.2.1 91 = .ok (.bipush 8, 2) := by decide +kernel
theorem dM_feedLengths_93 : decode mM_feedLengths.2.1 93 = .ok (.iload 4, 2) := by decide +kernel
theorem dM_feedLengths_95 : decode mM_feedLengths.2.1 95 = .ok (.imul, 1) := by decide +kernel
theorem dM_feedLengths_96 : decode mM_feedLengths.2.1 96 = .ok (.ishr, 1) := by decide +kernel
theorem dM_feedLengths_97 : decode mM_feedLengths.2.1 97 = .ok (.sipush 255, 3) := by decide +kernel
theorem dM_feedLengths_100 : decode mM_feedLengths.2.1 100 = .ok (.iand, 1) := by decide +kernel
theorem dM_feedLengths_101 : decode mM_feedLengths.2.1 101 = .ok (.iastore, 1) := by decide +kernel
theorem dM_feedLengths_102 : decode mM_feedLengths.2.1 102 = .ok (.iinc 4 1, 3) := by decide +kernel
theorem dM_feedLengths_105 : decode mM_feedLengths.2.1 105 = .ok (.goto (-78), 3) := by decide +kernel
theorem dM_feedLengths_108 : decode mM_feedLengths.2.1 108 = .ok (.aload_n 0, 1) := by decide +kernel
theorem dM_feedLengths_109 : decode mM_feedLengths.2.1 109 = .ok (.iload_n 1, 1) := by decide +kernel
theorem dM_feedLengths_110 : decode mM_feedLengths.2.1 110 = .ok (.invokevirtual 93, 3) := by decide +kernel
theorem dM_feedLengths_113 : decode mM_feedLengths.2.1 113 = .ok (.return_, 1) := by decide +kernel
theorem dM_endHash_0 : decode mM_endHash.2.1 0 = .ok (.iconst 0, 1) := by decide +kernel
theorem dM_endHash_1 : decode mM_endHash.2.1 1 = .ok (.istore_n 2, 1) := by decide +kernel
theorem dM_endHash_2 : decode mM_endHash.2.1 2 = .ok (.iload_n 2, 1) := by decide +kernel
theorem dM_endHash_3 : decode mM_endHash.2.1 3 = .ok (.bipush 16, 2) := by decide +kernel
theorem dM_endHash_5 : decode mM_endHash.2.1 5 = .ok (.if_icmp .ge 16, 3) := by decide +kernel
theorem dM_endHash_8 : decode mM_endHash.2.1 8 = .ok (.aload_n 0, 1) := by decide +kernel
theorem dM_endHash_9 : decode mM_endHash.2.1 9 = .ok (.getfield 34, 3) := by decide +kernel
theorem dM_endHash_12 : decode mM_endHash.2.1 12 = .ok (.iload_n 2, 1) := by decide +kernel
theorem dM_endHash_13 : decode mM_endHash.2.1 13 = .ok (.iconst 0, 1) := by decide +kernel
theorem dM_endHash_14 : decode mM_endHash.2.1 14 = .ok (.iastore, 1) := by decide +kernel
theorem dM_endHash_15 : decode mM_endHash.2.1 15 = .ok (.iinc 2 1, 3) := by decide +kernel
theorem dM_endHash_18 : decode mM_endHash.2.1 18 = .ok (.goto (-16), 3) := by decide +kernel
theorem dM_endHash_21 : decode mM_endHash.2.1 21 = .ok (.iconst 0, 1) := by decide +kernel
theorem dM_endHash_22 : decode mM_endHash.2.1 22 = .ok (.istore_n 2, 1) := by decide +kernel
theorem dM_endHash_23 : decode mM_endHash.2.1 23 = .ok (.iload_n 2, 1) := by decide +kernel
theorem dM_endHash_24 : decode mM_endHash.2.1 24 = .ok (.sipush 128, 3) := by decide +kernel
theorem dM_endHash_27 : decode mM_endHash.2.1 27 = .ok (.if_icmp .ge 53, 3) := by decide +kernel
theorem dM_endHash_30 : decode mM_endHash.2.1 30 = .ok (.aload_n 0, 1) := by decide +kernel
theorem dM_endHash_31 : decode mM_endHash.2.1 31 = .ok (.getfield 34, 3) := by decide +kernel
theorem dM_endHash_34 : decode mM_endHash.2.1 34 = .ok (.iload_n 2, 1) := by decide +kernel
theorem dM_endHash_35 : decode mM_endHash.2.1 35 = .ok (.bipush 8, 2) := by decide +kernel
theorem dM_endHash_37 : decode mM_endHash.2.1 37 = .ok (.idiv, 1) := by decide +kernel
theorem dM_endHash_38 : decode mM_endHash.2.1 38 = .ok (.aload_n 0, 1) := by decide +kernel
theorem dM_endHash_39 : decode mM_endHash.2.1 39 = .ok (.getfield 34, 3) := by decide +kernel
theorem dM_endHash_42 : decode mM_endHash.2.1 42 = .ok (.iload_n 2, 1) := by decide +kernel
theorem dM_endHash_43 : decode mM_endHash.2.1 43 = .ok (.bipush 8, 2) := by decide +kernel
theorem dM_endHash_45 : decode mM_endHash.2.1 45 = .ok (.idiv, 1) := by decide +kernel
theorem dM_endHash_46 : decode mM_endHash.2.1 46 = .ok (.iaload, 1) := by decide +kernel
theorem dM_endHash_47 : decode mM_endHash.2.1 47 = .ok (.aload_n 0, 1) := by decide +kernel
theorem dM_endHash_48 : decode mM_endHash.2.1 48 = .ok (.getfield 37, 3) := by decide +kernel
theorem dM_endHash_51 : decode mM_endHash.2.1 51 = .ok (.iload_n 2, 1) := by decide +kernel
theorem dM_endHash_52 : decode mM_endHash.2.1 52 = .ok (.iaload, 1) := by decide +kernel
theorem dM_endHash_53 : decode mM_endHash.2.1 53 = .ok (.iload_n 1, 1) := by decide +kernel
theorem dM_endHash_54 : decode mM_endHash.2.1 54 = .ok (.ifCond .ne 13, 3) := by decide +kernel
theorem dM_endHash_57 : decode mM_endHash.2.1 57 = .ok (.bipush 7, 2) := by decide +kernel
theorem dM_endHash_59 : decode mM_endHash.2.1 59 = .ok (.iload_n 2, 1) := by decide +kernel
theorem dM_endHash_60 : decode mM_endHash.2.1 60 = .ok (.bipush 8, 2) := by decide +kernel
theorem dM_endHash_62 : decode mM_endHash.2.1 62 = .ok (.irem, 1) := by decide +kernel
theorem dM_endHash_63 : decode mM_endHash.2.1 63 = .ok (.isub, 1) := by decide +kernel
theorem dM_endHash_64 : decode mM_endHash.2.1 64 = .ok (.goto 7, 3) := by decide +kernel
theorem dM_endHash_67 : decode mM_endHash.2.1 67 = .ok (.iload_n 2, 1) := by decide +kernel
theorem dM_endHash_68 : decode mM_endHash.2.1 68 = .ok (.bipush 8, 2) := by decide +kernel
theorem dM_endHash_70 : decode mM_endHash.2.1 70 = .ok (.irem, 1) := by decide +kernel
theorem dM_endHash_71 : decode mM_endHash.2.1 71 = .ok (.ishl, 1) := by decide +kernel
theorem dM_endHash_72 : decode mM_endHash.2.1 72 = .ok (.ior, 1) := by decide +kernel
theorem dM_endHash_73 : decode mM_endHash.2.1 73 = .ok (.iastore, 1) := by decide +kernel
theorem dM_endHash_74 : decode mM_endHash.2.1 74 = .ok (.iinc 2 1, 3) := by decide +kernel
theorem dM_endHash_77 : decode mM_endHash.2.1 77 = .ok (.goto (-54), 3) := by decide +kernel
theorem dM_endHash_80 : decode mM_endHash.2.1 80 = .ok (.return_, 1) := by decide +kernel
theorem dM_isRow_0 : decode mM_isRow.2.1 0 = .ok (.iload_n 0, 1) := by decide +kernel
theorem dM_isRow_1 : decode mM_isRow.2.1 1 = .ok (.ifCond .lt 12, 3) := by decide +kernel
theorem dM_isRow_4 : decode mM_isRow.2.1 4 = .ok (.iload_n 0, 1) := by decide +kernel
theorem dM_isRow_5 : decode mM_isRow.2.1 5 = .ok (.iconst 4, 1) := by decide +kernel
theorem dM_isRow_6 : decode mM_isRow.2.1 6 = .ok (.if_icmp .ge 7, 3) := by decide +kernel
theorem dM_isRow_9 : decode mM_isRow.2.1 9 = .ok (.iconst 1, 1) := by decide +kernel
theorem dM_isRow_10 : decode mM_isRow.2.1 10 = .ok (.goto 4, 3) := by decide +kernel
theorem dM_isRow_13 : decode mM_isRow.2.1 13 = .ok (.iconst 0, 1) := by decide +kernel
theorem dM_isRow_14 : decode mM_isRow.2.1 14 = .ok (.ireturn, 1) := by decide +kernel
theorem dM_most_0 : decode mM_most.2.1 0 = .ok (.iload_n 0, 1) := by decide +kernel
theorem dM_most_1 : decode mM_most.2.1 1 = .ok (.ifCond .ne 8, 3) := by decide +kernel
theorem dM_most_4 : decode mM_most.2.1 4 = .ok (.bipush 16, 2) := by decide +kernel
theorem dM_most_6 : decode mM_most.2.1 6 = .ok (.goto 25, 3) := by decide +kernel
theorem dM_most_9 : decode mM_most.2.1 9 = .ok (.iload_n 0, 1) := by decide +kernel
theorem dM_most_10 : decode mM_most.2.1 10 = .ok (.iconst 1, 1) := by decide +kernel
theorem dM_most_11 : decode mM_most.2.1 11 = .ok (.if_icmp .ne 8, 3) := by decide +kernel
theorem dM_most_14 : decode mM_most.2.1 14 = .ok (.bipush 24, 2) := by decide +kernel
theorem dM_most_16 : decode mM_most.2.1 16 = .ok (.goto 15, 3) := by decide +kernel
theorem dM_most_19 : decode mM_most.2.1 19 = .ok (.iload_n 0, 1) := by decide +kernel
theorem dM_most_20 : decode mM_most.2.1 20 = .ok (.iconst 2, 1) := by decide +kernel
theorem dM_most_21 : decode mM_most.2.1 21 = .ok (.if_icmp .ne 8, 3) := by decide +kernel
theorem dM_most_24 : decode mM_most.2.1 24 = .ok (.bipush 32, 2) := by decide +kernel
theorem dM_most_26 : decode mM_most.2.1 26 = .ok (.goto 5, 3) := by decide +kernel
theorem dM_most_29 : decode mM_most.2.1 29 = .ok (.bipush 64, 2) := by decide +kernel
theorem dM_most_31 : decode mM_most.2.1 31 = .ok (.ireturn, 1) := by decide +kernel
theorem dM_type_0 : decode mM_type.2.1 0 = .ok (.aload_n 0, 1) := by decide +kernel
theorem dM_type_1 : decode mM_type.2.1 1 = .ok (.iload_n 1, 1) := by decide +kernel
theorem dM_type_2 : decode mM_type.2.1 2 = .ok (.invokestatic 96, 3) := by decide +kernel
theorem dM_type_5 : decode mM_type.2.1 5 = .ok (.ifCond .eq 16, 3) := by decide +kernel
theorem dM_type_8 : decode mM_type.2.1 8 = .ok (.iload 4, 2) := by decide +kernel
theorem dM_type_10 : decode mM_type.2.1 10 = .ok (.iconst 1, 1) := by decide +kernel
theorem dM_type_11 : decode mM_type.2.1 11 = .ok (.if_icmp .lt 10, 3) := by decide +kernel
theorem dM_type_14 : decode mM_type.2.1 14 = .ok (.iload 4, 2) := by decide +kernel
theorem dM_type_16 : decode mM_type.2.1 16 = .ok (.bipush 8, 2) := by decide +kernel
theorem dM_type_18 : decode mM_type.2.1 18 = .ok (.if_icmp .le 7, 3) := by decide +kernel
theorem dM_type_21 : decode mM_type.2.1 21 = .ok (.iconst 1, 1) := by decide +kernel
theorem dM_type_22 : decode mM_type.2.1 22 = .ok (.goto 24, 3) := by decide +kernel
theorem dM_type_25 : decode mM_type.2.1 25 = .ok (.aload_n 0, 1) := by decide +kernel
theorem dM_type_26 : decode mM_type.2.1 26 = .ok (.getfield 13, 3) := by decide +kernel
theorem dM_type_29 : decode mM_type.2.1 29 = .ok (.iload_n 1, 1) := by decide +kernel
theorem dM_type_30 : decode mM_type.2.1 30 = .ok (.iaload, 1) := by decide +kernel
theorem dM_type_31 : decode mM_type.2.1 31 = .ok (.iload 4, 2) := by decide +kernel
theorem dM_type_33 : decode mM_type.2.1 33 = .ok (.iadd, 1) := by decide +kernel
theorem dM_type_34 : decode mM_type.2.1 34 = .ok (.iload_n 1, 1) := by decide +kernel
theorem dM_type_35 : decode mM_type.2.1 35 = .ok (.invokestatic 100, 3) := by decide +kernel
theorem dM_type_38 : decode mM_type.2.1 38 = .ok (.if_icmp .le 7, 3) := by decide +kernel
theorem dM_type_41 : decode mM_type.2.1 41 = .ok (.iconst 2, 1) := by decide +kernel
theorem dM_type_42 : decode mM_type.2.1 42 = .ok (.goto 4, 3) := by decide +kernel
theorem dM_type_45 : decode mM_type.2.1 45 = .ok (.iconst 0, 1) := by decide +kernel
theorem dM_type_46 : decode mM_type.2.1 46 = .ok (.putfield 59, 3) := by decide +kernel
theorem dM_type_49 : decode mM_type.2.1 49 = .ok (.aload_n 0, 1) := by decide +kernel
theorem dM_type_50 : decode mM_type.2.1 50 = .ok (.getfield 59, 3) := by decide +kernel
theorem dM_type_53 : decode mM_type.2.1 53 = .ok (.ifCond .le 5, 3) := by decide +kernel
theorem dM_type_56 : decode mM_type.2.1 56 = .ok (.iconst 0, 1) := by decide +kernel
theorem dM_type_57 : decode mM_type.2.1 57 = .ok (.ireturn, 1) := by decide +kernel
theorem dM_type_58 : decode mM_type.2.1 58 = .ok (.iload 4, 2) := by decide +kernel
theorem dM_type_60 : decode mM_type.2.1 60 = .ok (.iconst 1, 1) := by decide +kernel
theorem dM_type_61 : decode mM_type.2.1 61 = .ok (.isub, 1) := by decide +kernel
theorem dM_type_62 : decode mM_type.2.1 62 = .ok (.istore 5, 2) := by decide +kernel
theorem dM_type_64 : decode mM_type.2.1 64 = .ok (.iload 5, 2) := by decide +kernel
theorem dM_type_66 : decode mM_type.2.1 66 = .ok (.ifCond .lt 47, 3) := by decide +kernel
theorem dM_type_69 : decode mM_type.2.1 69 = .ok (.aload_n 0, 1) := by decide +kernel
theorem dM_type_70 : decode mM_type.2.1 70 = .ok (.getfield 7, 3) := by decide +kernel
theorem dM_type_73 : decode mM_type.2.1 73 = .ok (.bipush 64, 2) := by decide +kernel
theorem dM_type_75 : decode mM_type.2.1 75 = .ok (.iload_n 1, 1) := by decide +kernel
theorem dM_type_76 : decode mM_type.2.1 76 = .ok (.imul, 1) := by decide +kernel
theorem dM_type_77 : decode mM_type.2.1 77 = .ok (.aload_n 0, 1) := by decide +kernel
theorem dM_type_78 : decode mM_type.2.1 78 = .ok (.getfield 13, 3) := by decide +kernel
theorem dM_type_81 : decode mM_type.2.1 81 = .ok (.iload_n 1, 1) := by decide +kernel
theorem dM_type_82 : decode mM_type.2.1 82 = .ok (.iaload, 1) := by decide +kernel
theorem dM_type_83 : decode mM_type.2.1 83 = .ok (.iadd, 1) := by decide +kernel
theorem dM_type_84 : decode mM_type.2.1 84 = .ok (.lload_n 2, 1) := by decide +kernel
theorem dM_type_85 : decode mM_type.2.1 85 = .ok (.bipush 8, 2) := by decide +kernel
theorem dM_type_87 : decode mM_type.2.1 87 = .ok (.iload 5, 2) := by decide +kernel
theorem dM_type_89 : decode mM_type.2.1 89 = .ok (.imul, 1) := by decide +kernel
theorem dM_type_90 : decode mM_type.2.1 90 = .ok (.lshr, 1) := by decide +kernel
theorem dM_type_91 : decode mM_type.2.1 91 = .ok (.ldc2_w 103, 3) := by decide +kernel
theorem dM_type_94 : decode mM_type.2.1 94 = .ok (.land, 1) := by decide +kernel
theorem dM_type_95 : decode mM_type.2.1 95 = .ok (.l2i, 1) := by decide +kernel
theorem dM_type_96 : decode mM_type.2.1 96 = .ok (.iastore, 1) := by decide +kernel
theorem dM_type_97 : decode mM_type.2.1 97 = .ok (.aload_n 0, 1) := by decide +kernel
theorem dM_type_98 : decode mM_type.2.1 98 = .ok (.getfield 13, 3) := by decide +kernel
theorem dM_type_101 : decode mM_type.2.1 101 = .ok (.iload_n 1, 1) := by decide +kernel
theorem dM_type_102 : decode mM_type.2.1 102 = .ok (.dup2, 1) := by decide +kernel
theorem dM_type_103 : decode mM_type.2.1 103 = .ok (.iaload, 1) := by decide +kernel
theorem dM_type_104 : decode mM_type.2.1 104 = .ok (.iconst 1, 1) := by decide +kernel
theorem dM_type_105 : decode mM_type.2.1 105 = .ok (.iadd, 1) := by decide +kernel
theorem dM_type_106 : decode mM_type.2.1 106 = .ok (.iastore, 1) := by decide +kernel
theorem dM_type_107 : decode mM_type.2.1 107 = .ok (.iinc 5 (-1), 3) := by decide +kernel
theorem dM_type_110 : decode mM_type.2.1 110 = .ok (.goto (-46), 3) := by decide +kernel
theorem dM_type_113 : decode mM_type.2.1 113 = .ok (.aload_n 0, 1) := by decide +kernel
theorem dM_type_114 : decode mM_type.2.1 114 = .ok (.getfield 13, 3) := by decide +kernel
theorem dM_type_117 : decode mM_type.2.1 117 = .ok (.iload_n 1, 1) := by decide +kernel
theorem dM_type_118 : decode mM_type.2.1 118 = .ok (.iaload, 1) := by decide +kernel
theorem dM_type_119 : decode mM_type.2.1 119 = .ok (.ireturn, 1) := by decide +kernel
end
section
theorem dM_clear_0 : decode mM_clear.2.1 0 = .ok (.aload_n 0, 1) := by decide +kernel
theorem dM_clear_1 : decode mM_clear.2.1 1 = .ok (.iload_n 1, 1) := by decide +kernel
theorem dM_clear_2 : decode mM_clear.2.1 2 = .ok (.invokestatic 96, 3) := by decide +kernel
theorem dM_clear_5 : decode mM_clear.2.1 5 = .ok (.ifCond .eq 7, 3) := by decide +kernel
theorem dM_clear_8 : decode mM_clear.2.1 8 = .ok (.iconst 0, 1) := by decide +kernel
theorem dM_clear_9 : decode mM_clear.2.1 9 = .ok (.goto 4, 3) := by decide +kernel
theorem dM_clear_12 : decode mM_clear.2.1 12 = .ok (.iconst 1, 1) := by decide +kernel
theorem dM_clear_13 : decode mM_clear.2.1 13 = .ok (.putfield 59, 3) := by decide +kernel
theorem dM_clear_16 : decode mM_clear.2.1 16 = .ok (.aload_n 0, 1) := by decide +kernel
theorem dM_clear_17 : decode mM_clear.2.1 17 = .ok (.getfield 59, 3) := by decide +kernel
theorem dM_clear_20 : decode mM_clear.2.1 20 = .ok (.ifCond .le 5, 3) := by decide +kernel
theorem dM_clear_23 : decode mM_clear.2.1 23 = .ok (.iconst 0, 1) := by decide +kernel
theorem dM_clear_24 : decode mM_clear.2.1 24 = .ok (.ireturn, 1) := by decide +kernel
theorem dM_clear_25 : decode mM_clear.2.1 25 = .ok (.aload_n 0, 1) := by decide +kernel
theorem dM_clear_26 : decode mM_clear.2.1 26 = .ok (.getfield 13, 3) := by decide +kernel
theorem dM_clear_29 : decode mM_clear.2.1 29 = .ok (.iload_n 1, 1) := by decide +kernel
theorem dM_clear_30 : decode mM_clear.2.1 30 = .ok (.iaload, 1) := by decide +kernel
theorem dM_clear_31 : decode mM_clear.2.1 31 = .ok (.istore_n 2, 1) := by decide +kernel
theorem dM_clear_32 : decode mM_clear.2.1 32 = .ok (.aload_n 0, 1) := by decide +kernel
theorem dM_clear_33 : decode mM_clear.2.1 33 = .ok (.getfield 13, 3) := by decide +kernel
theorem dM_clear_36 : decode mM_clear.2.1 36 = .ok (.iload_n 1, 1) := by decide +kernel
theorem dM_clear_37 : decode mM_clear.2.1 37 = .ok (.iconst 0, 1) := by decide +kernel
theorem dM_clear_38 : decode mM_clear.2.1 38 = .ok (.iastore, 1) := by decide +kernel
theorem dM_clear_39 : decode mM_clear.2.1 39 = .ok (.iload_n 2, 1) := by decide +kernel
theorem dM_clear_40 : decode mM_clear.2.1 40 = .ok (.ireturn, 1) := by decide +kernel
theorem dM_poke_0 : decode mM_poke.2.1 0 = .ok (.aload_n 0, 1) := by decide +kernel
theorem dM_poke_1 : decode mM_poke.2.1 1 = .ok (.iload_n 1, 1) := by decide +kernel
theorem dM_poke_2 : decode mM_poke.2.1 2 = .ok (.invokestatic 96, 3) := by decide +kernel
theorem dM_poke_5 : decode mM_poke.2.1 5 = .ok (.ifCond .eq 14, 3) := by decide +kernel
theorem dM_poke_8 : decode mM_poke.2.1 8 = .ok (.iload_n 3, 1) := by decide +kernel
theorem dM_poke_9 : decode mM_poke.2.1 9 = .ok (.ifCond .lt 10, 3) := by decide +kernel
theorem dM_poke_12 : decode mM_poke.2.1 12 = .ok (.iload_n 3, 1) := by decide +kernel
theorem dM_poke_13 : decode mM_poke.2.1 13 = .ok (.sipush 255, 3) := by decide +kernel
theorem dM_poke_16 : decode mM_poke.2.1 16 = .ok (.if_icmp .le 7, 3) := by decide +kernel
theorem dM_poke_19 : decode mM_poke.2.1 19 = .ok (.iconst 1, 1) := by decide +kernel
theorem dM_poke_20 : decode mM_poke.2.1 20 = .ok (.goto 22, 3) := by decide +kernel
theorem dM_poke_23 : decode mM_poke.2.1 23 = .ok (.iload_n 2, 1) := by decide +kernel
theorem dM_poke_24 : decode mM_poke.2.1 24 = .ok (.ifCond .lt 13, 3) := by decide +kernel
theorem dM_poke_27 : decode mM_poke.2.1 27 = .ok (.iload_n 2, 1) := by decide +kernel
theorem dM_poke_28 : decode mM_poke.2.1 28 = .ok (.aload_n 0, 1) := by decide +kernel
theorem dM_poke_29 : decode mM_poke.2.1 29 = .ok (.getfield 13, 3) := by decide +kernel
theorem dM_poke_32 : decode mM_poke.2.1 32 = .ok (.iload_n 1, 1) := by decide +kernel
theorem dM_poke_33 : decode mM_poke.2.1 33 = .ok (.iaload, 1) := by decide +kernel
theorem dM_poke_34 : decode mM_poke.2.1 34 = .ok (.if_icmp .lt 7, 3) := by decide +kernel
theorem dM_poke_37 : decode mM_poke.2.1 37 = .ok (.iconst 2, 1) := by decide +kernel
theorem dM_poke_38 : decode mM_poke.2.1 38 = .ok (.goto 4, 3) := by decide +kernel
theorem dM_poke_41 : decode mM_poke.2.1 41 = .ok (.iconst 0, 1) := by decide +kernel
theorem dM_poke_42 : decode mM_poke.2.1 42 = .ok (.putfield 59, 3) := by decide +kernel
theorem dM_poke_45 : decode mM_poke.2.1 45 = .ok (.aload_n 0, 1) := by decide +kernel
theorem dM_poke_46 : decode mM_poke.2.1 46 = .ok (.getfield 59, 3) := by decide +kernel
theorem dM_poke_49 : decode mM_poke.2.1 49 = .ok (.ifCond .ne 15, 3) := by decide +kernel
theorem dM_poke_52 : decode mM_poke.2.1 52 = .ok (.aload_n 0, 1) := by decide +kernel
theorem dM_poke_53 : decode mM_poke.2.1 53 = .ok (.getfield 7, 3) := by decide +kernel
theorem dM_poke_56 : decode mM_poke.2.1 56 = .ok (.bipush 64, 2) := by decide +kernel
theorem dM_poke_58 : decode mM_poke.2.1 58 = .ok (.iload_n 1, 1) := by decide +kernel
theorem dM_poke_59 : decode mM_poke.2.1 59 = .ok (.imul, 1) := by decide +kernel
theorem dM_poke_60 : decode mM_poke.2.1 60 = .ok (.iload_n 2, 1) := by decide +kernel
theorem dM_poke_61 : decode mM_poke.2.1 61 = .ok (.iadd, 1) := by decide +kernel
theorem dM_poke_62 : decode mM_poke.2.1 62 = .ok (.iload_n 3, 1) := by decide +kernel
theorem dM_poke_63 : decode mM_poke.2.1 63 = .ok (.iastore, 1) := by decide +kernel
theorem dM_poke_64 : decode mM_poke.2.1 64 = .ok (.return_, 1) := by decide +kernel
theorem dM_take_0 : decode mM_take.2.1 0 = .ok (.aload_n 0, 1) := by decide +kernel
theorem dM_take_1 : decode mM_take.2.1 1 = .ok (.iload_n 1, 1) := by decide +kernel
theorem dM_take_2 : decode mM_take.2.1 2 = .ok (.invokestatic 96, 3) := by decide +kernel
theorem dM_take_5 : decode mM_take.2.1 5 = .ok (.ifCond .ne 7, 3) := by decide +kernel
theorem dM_take_8 : decode mM_take.2.1 8 = .ok (.iconst 1, 1) := by decide +kernel
theorem dM_take_9 : decode mM_take.2.1 9 = .ok (.goto 19, 3) := by decide +kernel
theorem dM_take_12 : decode mM_take.2.1 12 = .ok (.aload_n 0, 1) := by decide +kernel
theorem dM_take_13 : decode mM_take.2.1 13 = .ok (.getfield 105, 3) := by decide +kernel
theorem dM_take_16 : decode mM_take.2.1 16 = .ok (.iload_n 1, 1) := by decide +kernel
theorem dM_take_17 : decode mM_take.2.1 17 = .ok (.invokestatic 100, 3) := by decide +kernel
theorem dM_take_20 : decode mM_take.2.1 20 = .ok (.if_icmp .le 7, 3) := by decide +kernel
theorem dM_take_23 : decode mM_take.2.1 23 = .ok (.iconst 2, 1) := by decide +kernel
theorem dM_take_24 : decode mM_take.2.1 24 = .ok (.goto 4, 3) := by decide +kernel
theorem dM_take_27 : decode mM_take.2.1 27 = .ok (.iconst 0, 1) := by decide +kernel
theorem dM_take_28 : decode mM_take.2.1 28 = .ok (.putfield 59, 3) := by decide +kernel
theorem dM_take_31 : decode mM_take.2.1 31 = .ok (.aload_n 0, 1) := by decide +kernel
theorem dM_take_32 : decode mM_take.2.1 32 = .ok (.getfield 59, 3) := by decide +kernel
theorem dM_take_35 : decode mM_take.2.1 35 = .ok (.ifCond .le 5, 3) := by decide +kernel
theorem dM_take_38 : decode mM_take.2.1 38 = .ok (.iconst 0, 1) := by decide +kernel
theorem dM_take_39 : decode mM_take.2.1 39 = .ok (.ireturn, 1) := by decide +kernel
theorem dM_take_40 : decode mM_take.2.1 40 = .ok (.iconst 0, 1) := by decide +kernel
theorem dM_take_41 : decode mM_take.2.1 41 = .ok (.istore_n 2, 1) := by decide +kernel
theorem dM_take_42 : decode mM_take.2.1 42 = .ok (.iload_n 2, 1) := by decide +kernel
theorem dM_take_43 : decode mM_take.2.1 43 = .ok (.aload_n 0, 1) := by decide +kernel
theorem dM_take_44 : decode mM_take.2.1 44 = .ok (.getfield 105, 3) := by decide +kernel
theorem dM_take_47 : decode mM_take.2.1 47 = .ok (.if_icmp .ge 26, 3) := by decide +kernel
theorem dM_take_50 : decode mM_take.2.1 50 = .ok (.aload_n 0, 1) := by decide +kernel
theorem dM_take_51 : decode mM_take.2.1 51 = .ok (.getfield 7, 3) := by decide +kernel
theorem dM_take_54 : decode mM_take.2.1 54 = .ok (.bipush 64, 2) := by decide +kernel
theorem dM_take_56 : decode mM_take.2.1 56 = .ok (.iload_n 1, 1) := by decide +kernel
theorem dM_take_57 : decode mM_take.2.1 57 = .ok (.imul, 1) := by decide +kernel
theorem dM_take_58 : decode mM_take.2.1 58 = .ok (.iload_n 2, 1) := by decide +kernel
theorem dM_take_59 : decode mM_take.2.1 59 = .ok (.iadd, 1) := by decide +kernel
theorem dM_take_60 : decode mM_take.2.1 60 = .ok (.aload_n 0, 1) := by decide +kernel
theorem dM_take_61 : decode mM_take.2.1 61 = .ok (.getfield 16, 3) := by decide +kernel
theorem dM_take_64 : decode mM_take.2.1 64 = .ok (.iload_n 2, 1) := by decide +kernel
theorem dM_take_65 : decode mM_take.2.1 65 = .ok (.iaload, 1) := by decide +kernel
theorem dM_take_66 : decode mM_take.2.1 66 = .ok (.iastore, 1) := by decide +kernel
theorem dM_take_67 : decode mM_take.2.1 67 = .ok (.iinc 2 1, 3) := by decide +kernel
theorem dM_take_70 : decode mM_take.2.1 70 = .ok (.goto (-28), 3) := by decide +kernel
theorem dM_take_73 : decode mM_take.2.1 73 = .ok (.aload_n 0, 1) := by decide +kernel
theorem dM_take_74 : decode mM_take.2.1 74 = .ok (.getfield 13, 3) := by decide +kernel
theorem dM_take_77 : decode mM_take.2.1 77 = .ok (.iload_n 1, 1) := by decide +kernel
theorem dM_take_78 : decode mM_take.2.1 78 = .ok (.aload_n 0, 1) := by decide +kernel
theorem dM_take_79 : decode mM_take.2.1 79 = .ok (.getfield 105, 3) := by decide +kernel
theorem dM_take_82 : decode mM_take.2.1 82 = .ok (.iastore, 1) := by decide +kernel
theorem dM_take_83 : decode mM_take.2.1 83 = .ok (.aload_n 0, 1) := by decide +kernel
theorem dM_take_84 : decode mM_take.2.1 84 = .ok (.getfield 105, 3) := by decide +kernel
theorem dM_take_87 : decode mM_take.2.1 87 = .ok (.ireturn, 1) := by decide +kernel
theorem dM_useKey_0 : decode mM_useKey.2.1 0 = .ok (.iconst 0, 1) := by decide +kernel
theorem dM_useKey_1 : decode mM_useKey.2.1 1 = .ok (.istore_n 1, 1) := by decide +kernel
theorem dM_useKey_2 : decode mM_useKey.2.1 2 = .ok (.iload_n 1, 1) := by decide +kernel
theorem dM_useKey_3 : decode mM_useKey.2.1 3 = .ok (.bipush 16, 2) := by decide +kernel
theorem dM_useKey_5 : decode mM_useKey.2.1 5 = .ok (.if_icmp .ge 21, 3) := by decide +kernel
theorem dM_useKey_8 : decode mM_useKey.2.1 8 = .ok (.aload_n 0, 1) := by decide +kernel
theorem dM_useKey_9 : decode mM_useKey.2.1 9 = .ok (.getfield 31, 3) := by decide +kernel
theorem dM_useKey_12 : decode mM_useKey.2.1 12 = .ok (.iload_n 1, 1) := by decide +kernel
theorem dM_useKey_13 : decode mM_useKey.2.1 13 = .ok (.aload_n 0, 1) := by decide +kernel
theorem dM_useKey_14 : decode mM_useKey.2.1 14 = .ok (.getfield 7, 3) := by decide +kernel
theorem dM_useKey_17 : decode mM_useKey.2.1 17 = .ok (.iload_n 1, 1) := by decide +kernel
theorem dM_useKey_18 : decode mM_useKey.2.1 18 = .ok (.iaload, 1) := by decide +kernel
theorem dM_useKey_19 : decode mM_useKey.2.1 19 = .ok (.iastore, 1) := by decide +kernel
theorem dM_useKey_20 : decode mM_useKey.2.1 20 = .ok (.iinc 1 1, 3) := by decide +kernel
theorem dM_useKey_23 : decode mM_useKey.2.1 23 = .ok (.goto (-21), 3) := by decide +kernel
theorem dM_useKey_26 : decode mM_useKey.2.1 26 = .ok (.return_, 1) := by decide +kernel
theorem dM_keepBlock_0 : decode mM_keepBlock.2.1 0 = .ok (.iconst 0, 1) := by decide +kernel
theorem dM_keepBlock_1 : decode mM_keepBlock.2.1 1 = .ok (.istore_n 1, 1) := by decide +kernel
theorem dM_keepBlock_2 : decode mM_keepBlock.2.1 2 = .ok (.iload_n 1, 1) := by decide +kernel
theorem dM_keepBlock_3 : decode mM_keepBlock.2.1 3 = .ok (.bipush 16, 2) := by decide +kernel
theorem dM_keepBlock_5 : decode mM_keepBlock.2.1 5 = .ok (.if_icmp .ge 21, 3) := by decide +kernel
theorem dM_keepBlock_8 : decode mM_keepBlock.2.1 8 = .ok (.aload_n 0, 1) := by decide +kernel
theorem dM_keepBlock_9 : decode mM_keepBlock.2.1 9 = .ok (.getfield 16, 3) := by decide +kernel
theorem dM_keepBlock_12 : decode mM_keepBlock.2.1 12 = .ok (.iload_n 1, 1) := by decide +kernel
theorem dM_keepBlock_13 : decode mM_keepBlock.2.1 13 = .ok (.aload_n 0, 1) := by decide +kernel
theorem dM_keepBlock_14 : decode mM_keepBlock.2.1 14 = .ok (.getfield 34, 3) := by decide +kernel
theorem dM_keepBlock_17 : decode mM_keepBlock.2.1 17 = .ok (.iload_n 1, 1) := by decide +kernel
theorem dM_keepBlock_18 : decode mM_keepBlock.2.1 18 = .ok (.iaload, 1) := by decide +kernel
theorem dM_keepBlock_19 : decode mM_keepBlock.2.1 19 = .ok (.iastore, 1) := by decide +kernel
theorem dM_keepBlock_20 : decode mM_keepBlock.2.1 20 = .ok (.iinc 1 1, 3) := by decide +kernel
theorem dM_keepBlock_23 : decode mM_keepBlock.2.1 23 = .ok (.goto (-21), 3) := by decide +kernel
theorem dM_keepBlock_26 : decode mM_keepBlock.2.1 26 = .ok (.aload_n 0, 1) := by decide +kernel
theorem dM_keepBlock_27 : decode mM_keepBlock.2.1 27 = .ok (.bipush 16, 2) := by decide +kernel
theorem dM_keepBlock_29 : decode mM_keepBlock.2.1 29 = .ok (.putfield 105, 3) := by decide +kernel
theorem dM_keepBlock_32 : decode mM_keepBlock.2.1 32 = .ok (.return_, 1) := by decide +kernel
theorem dM_block_0 : decode mM_block.2.1 0 = .ok (.aload_n 0, 1) := by decide +kernel
theorem dM_block_1 : decode mM_block.2.1 1 = .ok (.aload_n 0, 1) := by decide +kernel
theorem dM_block_2 : decode mM_block.2.1 2 = .ok (.getfield 13, 3) := by decide +kernel
theorem dM_block_5 : decode mM_block.2.1 5 = .ok (.iconst 0, 1) := by decide +kernel
theorem dM_block_6 : decode mM_block.2.1 6 = .ok (.iaload, 1) := by decide +kernel
theorem dM_block_7 : decode mM_block.2.1 7 = .ok (.bipush 16, 2) := by decide +kernel
theorem dM_block_9 : decode mM_block.2.1 9 = .ok (.if_icmp .ne 14, 3) := by decide +kernel
theorem dM_block_12 : decode mM_block.2.1 12 = .ok (.aload_n 0, 1) := by decide +kernel
theorem dM_block_13 : decode mM_block.2.1 13 = .ok (.getfield 13, 3) := by decide +kernel
theorem dM_block_16 : decode mM_block.2.1 16 = .ok (.iconst 3, 1) := by decide +kernel
theorem dM_block_17 : decode mM_block.2.1 17 = .ok (.iaload, 1) := by decide +kernel
theorem dM_block_18 : decode mM_block.2.1 18 = .ok (.bipush 16, 2) := by decide +kernel
theorem dM_block_20 : decode mM_block.2.1 20 = .ok (.if_icmp .eq 7, 3) := by decide +kernel
theorem dM_block_23 : decode mM_block.2.1 23 = .ok (.iconst 1, 1) := by decide +kernel
theorem dM_block_24 : decode mM_block.2.1 24 = .ok (.goto 4, 3) := by decide +kernel
theorem dM_block_27 : decode mM_block.2.1 27 = .ok (.iconst 0, 1) := by decide +kernel
theorem dM_block_28 : decode mM_block.2.1 28 = .ok (.putfield 59, 3) := by decide +kernel
theorem dM_block_31 : decode mM_block.2.1 31 = .ok (.aload_n 0, 1) := by decide +kernel
theorem dM_block_32 : decode mM_block.2.1 32 = .ok (.getfield 59, 3) := by decide +kernel
theorem dM_block_35 : decode mM_block.2.1 35 = .ok (.ifCond .le 4, 3) := by decide +kernel
theorem dM_block_38 : decode mM_block.2.1 38 = .ok (.return_, 1) := by decide +kernel
theorem dM_block_39 : decode mM_block.2.1 39 = .ok (.aload_n 0, 1) := by decide +kernel
theorem dM_block_40 : decode mM_block.2.1 40 = .ok (.invokevirtual 108, 3) := by decide +kernel
theorem dM_block_43 : decode mM_block.2.1 43 = .ok (.iconst 0, 1) := by decide +kernel
theorem dM_block_44 : decode mM_block.2.1 44 = .ok (.istore_n 1, 1) := by decide +kernel
theorem dM_block_45 : decode mM_block.2.1 45 = .ok (.iload_n 1, 1) := by decide +kernel
theorem dM_block_46 : decode mM_block.2.1 46 = .ok (.bipush 16, 2) := by decide +kernel
theorem dM_block_48 : decode mM_block.2.1 48 = .ok (.if_icmp .ge 25, 3) := by decide +kernel
theorem dM_block_51 : decode mM_block.2.1 51 = .ok (.aload_n 0, 1) := by decide +kernel
theorem dM_block_52 : decode mM_block.2.1 52 = .ok (.getfield 34, 3) := by decide +kernel
theorem dM_block_55 : decode mM_block.2.1 55 = .ok (.iload_n 1, 1) := by decide +kernel
theorem dM_block_56 : decode mM_block.2.1 56 = .ok (.aload_n 0, 1) := by decide +kernel
theorem dM_block_57 : decode mM_block.2.1 57 = .ok (.getfield 7, 3) := by decide +kernel
theorem dM_block_60 : decode mM_block.2.1 60 = .ok (.sipush 192, 3) := by decide +kernel
theorem dM_block_63 : decode mM_block.2.1 63 = .ok (.iload_n 1, 1) := by decide +kernel
theorem dM_block_64 : decode mM_block.2.1 64 = .ok (.iadd, 1) := by decide +kernel
theorem dM_block_65 : decode mM_block.2.1 65 = .ok (.iaload, 1) := by decide +kernel
theorem dM_block_66 : decode mM_block.2.1 66 = .ok (.iastore, 1) := by decide +kernel
theorem dM_block_67 : decode mM_block.2.1 67 = .ok (.iinc 1 1, 3) := by decide +kernel
theorem dM_block_70 : decode mM_block.2.1 70 = .ok (.goto (-25), 3) := by decide +kernel
theorem dM_block_73 : decode mM_block.2.1 73 = .ok (.aload_n 0, 1) := by decide +kernel
theorem dM_block_74 : decode mM_block.2.1 74 = .ok (.invokevirtual 111, 3) := by decide +kernel
theorem dM_block_77 : decode mM_block.2.1 77 = .ok (.aload_n 0, 1) := by decide +kernel
theorem dM_block_78 : decode mM_block.2.1 78 = .ok (.invokevirtual 114, 3) := by decide +kernel
theorem dM_block_81 : decode mM_block.2.1 81 = .ok (.return_, 1) := by decide +kernel
theorem dM_hash_0 : decode mM_hash.2.1 0 = .ok (.aload_n 0, 1) := by decide +kernel
theorem dM_hash_1 : decode mM_hash.2.1 1 = .ok (.iload_n 1, 1) := by decide +kernel
theorem dM_hash_2 : decode mM_hash.2.1 2 = .ok (.ifCond .eq 12, 3) := by decide +kernel
theorem dM_hash_5 : decode mM_hash.2.1 5 = .ok (.iload_n 1, 1) := by decide +kernel
theorem dM_hash_6 : decode mM_hash.2.1 6 = .ok (.iconst 1, 1) := by decide +kernel
theorem dM_hash_7 : decode mM_hash.2.1 7 = .ok (.if_icmp .eq 7, 3) := by decide +kernel
theorem dM_hash_10 : decode mM_hash.2.1 10 = .ok (.iconst 1, 1) := by decide +kernel
theorem dM_hash_11 : decode mM_hash.2.1 11 = .ok (.goto 19, 3) := by decide +kernel
theorem dM_hash_14 : decode mM_hash.2.1 14 = .ok (.aload_n 0, 1) := by decide +kernel
theorem dM_hash_15 : decode mM_hash.2.1 15 = .ok (.getfield 13, 3) := by decide +kernel
theorem dM_hash_18 : decode mM_hash.2.1 18 = .ok (.iconst 0, 1) := by decide +kernel
theorem dM_hash_19 : decode mM_hash.2.1 19 = .ok (.iaload, 1) := by decide +kernel
theorem dM_hash_20 : decode mM_hash.2.1 20 = .ok (.bipush 16, 2) := by decide +kernel
theorem dM_hash_22 : decode mM_hash.2.1 22 = .ok (.if_icmp .eq 7, 3) := by decide +kernel
theorem dM_hash_25 : decode mM_hash.2.1 25 = .ok (.iconst 2, 1) := by decide +kernel
theorem dM_hash_26 : decode mM_hash.2.1 26 = .ok (.goto 4, 3) := by decide +kernel
theorem dM_hash_29 : decode mM_hash.2.1 29 = .ok (.iconst 0, 1) := by decide +kernel
theorem dM_hash_30 : decode mM_hash.2.1 30 = .ok (.putfield 59, 3) := by decide +kernel
theorem dM_hash_33 : decode mM_hash.2.1 33 = .ok (.aload_n 0, 1) := by decide +kernel
theorem dM_hash_34 : decode mM_hash.2.1 34 = .ok (.getfield 59, 3) := by decide +kernel
theorem dM_hash_37 : decode mM_hash.2.1 37 = .ok (.ifCond .le 4, 3) := by decide +kernel
theorem dM_hash_40 : decode mM_hash.2.1 40 = .ok (.return_, 1) := by decide +kernel
theorem dM_hash_41 : decode mM_hash.2.1 41 = .ok (.iconst 0, 1) := by decide +kernel
theorem dM_hash_42 : decode mM_hash.2.1 42 = .ok (.istore_n 2, 1) := by decide +kernel
theorem dM_hash_43 : decode mM_hash.2.1 43 = .ok (.iload_n 2, 1) := by decide +kernel
theorem dM_hash_44 : decode mM_hash.2.1 44 = .ok (.bipush 16, 2) := by decide +kernel
theorem dM_hash_46 : decode mM_hash.2.1 46 = .ok (.if_icmp .ge 21, 3) := by decide +kernel
theorem dM_hash_49 : decode mM_hash.2.1 49 = .ok (.aload_n 0, 1) := by decide +kernel
theorem dM_hash_50 : decode mM_hash.2.1 50 = .ok (.getfield 34, 3) := by decide +kernel
theorem dM_hash_53 : decode mM_hash.2.1 53 = .ok (.iload_n 2, 1) := by decide +kernel
theorem dM_hash_54 : decode mM_hash.2.1 54 = .ok (.aload_n 0, 1) := by decide +kernel
theorem dM_hash_55 : decode mM_hash.2.1 55 = .ok (.getfield 7, 3) := by decide +kernel
theorem dM_hash_58 : decode mM_hash.2.1 58 = .ok (.iload_n 2, 1) := by decide +kernel
theorem dM_hash_59 : decode mM_hash.2.1 59 = .ok (.iaload, 1) := by decide +kernel
theorem dM_hash_60 : decode mM_hash.2.1 60 = .ok (.iastore, 1) := by decide +kernel
theorem dM_hash_61 : decode mM_hash.2.1 61 = .ok (.iinc 2 1, 3) := by decide +kernel
theorem dM_hash_64 : decode mM_hash.2.1 64 = .ok (.goto (-21), 3) := by decide +kernel
theorem dM_hash_67 : decode mM_hash.2.1 67 = .ok (.aload_n 0, 1) := by decide +kernel
theorem dM_hash_68 : decode mM_hash.2.1 68 = .ok (.iload_n 1, 1) := by decide +kernel
theorem dM_hash_69 : decode mM_hash.2.1 69 = .ok (.invokevirtual 117, 3) := by decide +kernel
theorem dM_hash_72 : decode mM_hash.2.1 72 = .ok (.aload_n 0, 1) := by decide +kernel
theorem dM_hash_73 : decode mM_hash.2.1 73 = .ok (.iload_n 1, 1) := by decide +kernel
theorem dM_hash_74 : decode mM_hash.2.1 74 = .ok (.sipush 192, 3) := by decide +kernel
theorem dM_hash_77 : decode mM_hash.2.1 77 = .ok (.aload_n 0, 1) := by decide +kernel
theorem dM_hash_78 : decode mM_hash.2.1 78 = .ok (.getfield 13, 3) := by decide +kernel
theorem dM_hash_81 : decode mM_hash.2.1 81 = .ok (.iconst 3, 1) := by decide +kernel
theorem dM_hash_82 : decode mM_hash.2.1 82 = .ok (.iaload, 1) := by decide +kernel
theorem dM_hash_83 : decode mM_hash.2.1 83 = .ok (.invokevirtual 120, 3) := by decide +kernel
theorem dM_hash_86 : decode mM_hash.2.1 86 = .ok (.aload_n 0, 1) := by decide +kernel
theorem dM_hash_87 : decode mM_hash.2.1 87 = .ok (.iload_n 1, 1) := by decide +kernel
theorem dM_hash_88 : decode mM_hash.2.1 88 = .ok (.invokevirtual 124, 3) := by decide +kernel
theorem dM_hash_91 : decode mM_hash.2.1 91 = .ok (.aload_n 0, 1) := by decide +kernel
theorem dM_hash_92 : decode mM_hash.2.1 92 = .ok (.invokevirtual 114, 3) := by decide +kernel
theorem dM_hash_95 : decode mM_hash.2.1 95 = .ok (.return_, 1) := by decide +kernel
theorem dM_isReady_0 : decode mM_isReady.2.1 0 = .ok (.aload_n 0, 1) := by decide +kernel
theorem dM_isReady_1 : decode mM_isReady.2.1 1 = .ok (.getfield 13, 3) := by decide +kernel
theorem dM_isReady_4 : decode mM_isReady.2.1 4 = .ok (.iconst 0, 1) := by decide +kernel
theorem dM_isReady_5 : decode mM_isReady.2.1 5 = .ok (.iaload, 1) := by decide +kernel
theorem dM_isReady_6 : decode mM_isReady.2.1 6 = .ok (.bipush 16, 2) := by decide +kernel
theorem dM_isReady_8 : decode mM_isReady.2.1 8 = .ok (.if_icmp .ne 34, 3) := by decide +kernel
theorem dM_isReady_11 : decode mM_isReady.2.1 11 = .ok (.iload_n 1, 1) := by decide +kernel
theorem dM_isReady_12 : decode mM_isReady.2.1 12 = .ok (.ifCond .ne 15, 3) := by decide +kernel
theorem dM_isReady_15 : decode mM_isReady.2.1 15 = .ok (.aload_n 0, 1) := by decide +kernel
theorem dM_isReady_16 : decode mM_isReady.2.1 16 = .ok (.getfield 13, 3) := by decide +kernel
theorem dM_isReady_19 : decode mM_isReady.2.1 19 = .ok (.iconst 1, 1) := by decide +kernel
theorem dM_isReady_20 : decode mM_isReady.2.1 20 = .ok (.iaload, 1) := by decide +kernel
theorem dM_isReady_21 : decode mM_isReady.2.1 21 = .ok (.ifCond .le 21, 3) := by decide +kernel
theorem dM_isReady_24 : decode mM_isReady.2.1 24 = .ok (.goto 14, 3) := by decide +kernel
theorem dM_isReady_27 : decode mM_isReady.2.1 27 = .ok (.aload_n 0, 1) := by decide +kernel
theorem dM_isReady_28 : decode mM_isReady.2.1 28 = .ok (.getfield 13, 3) := by decide +kernel
theorem dM_isReady_31 : decode mM_isReady.2.1 31 = .ok (.iconst 1, 1) := by decide +kernel
theorem dM_isReady_32 : decode mM_isReady.2.1 32 = .ok (.iaload, 1) := by decide +kernel
theorem dM_isReady_33 : decode mM_isReady.2.1 33 = .ok (.bipush 12, 2) := by decide +kernel
theorem dM_isReady_35 : decode mM_isReady.2.1 35 = .ok (.if_icmp .ne 7, 3) := by decide +kernel
theorem dM_isReady_38 : decode mM_isReady.2.1 38 = .ok (.iconst 1, 1) := by decide +kernel
theorem dM_isReady_39 : decode mM_isReady.2.1 39 = .ok (.goto 4, 3) := by decide +kernel
theorem dM_isReady_42 : decode mM_isReady.2.1 42 = .ok (.iconst 0, 1) := by decide +kernel
theorem dM_isReady_43 : decode mM_isReady.2.1 43 = .ok (.ireturn, 1) := by decide +kernel
theorem dM_beginOutward_0 : decode mM_beginOutward.2.1 0 = .ok (.aload_n 0, 1) := by decide +kernel
theorem dM_beginOutward_1 : decode mM_beginOutward.2.1 1 = .ok (.invokevirtual 108, 3) := by decide +kernel
theorem dM_beginOutward_4 : decode mM_beginOutward.2.1 4 = .ok (.iconst 0, 1) := by decide +kernel
theorem dM_beginOutward_5 : decode mM_beginOutward.2.1 5 = .ok (.istore_n 1, 1) := by decide +kernel
theorem dM_beginOutward_6 : decode mM_beginOutward.2.1 6 = .ok (.iload_n 1, 1) := by decide +kernel
theorem dM_beginOutward_7 : decode mM_beginOutward.2.1 7 = .ok (.bipush 16, 2) := by decide +kernel
theorem dM_beginOutward_9 : decode mM_beginOutward.2.1 9 = .ok (.if_icmp .ge 16, 3) := by decide +kernel
theorem dM_beginOutward_12 : decode mM_beginOutward.2.1 12 = .ok (.aload_n 0, 1) := by decide +kernel
theorem dM_beginOutward_13 : decode mM_beginOutward.2.1 13 = .ok (.getfield 34, 3) := by decide +kernel
theorem dM_beginOutward_16 : decode mM_beginOutward.2.1 16 = .ok (.iload_n 1, 1) := by decide +kernel
theorem dM_beginOutward_17 : decode mM_beginOutward.2.1 17 = .ok (.iconst 0, 1) := by decide +kernel
theorem dM_beginOutward_18 : decode mM_beginOutward.2.1 18 = .ok (.iastore, 1) := by decide +kernel
theorem dM_beginOutward_19 : decode mM_beginOutward.2.1 19 = .ok (.iinc 1 1, 3) := by decide +kernel
theorem dM_beginOutward_22 : decode mM_beginOutward.2.1 22 = .ok (.goto (-16), 3) := by decide +kernel
theorem dM_beginOutward_25 : decode mM_beginOutward.2.1 25 = .ok (.aload_n 0, 1) := by decide +kernel
theorem dM_beginOutward_26 : decode mM_beginOutward.2.1 26 = .ok (.invokevirtual 111, 3) := by decide +kernel
theorem dM_beginOutward_29 : decode mM_beginOutward.2.1 29 = .ok (.aload_n 0, 1) := by decide +kernel
theorem dM_beginOutward_30 : decode mM_beginOutward.2.1 30 = .ok (.iconst 0, 1) := by decide +kernel
theorem dM_beginOutward_31 : decode mM_beginOutward.2.1 31 = .ok (.invokevirtual 117, 3) := by decide +kernel
theorem dM_beginOutward_34 : decode mM_beginOutward.2.1 34 = .ok (.return_, 1) := by decide +kernel
theorem dM_makeStart_0 : decode mM_makeStart.2.1 0 = .ok (.aload_n 0, 1) := by decide +kernel
theorem dM_makeStart_1 : decode mM_makeStart.2.1 1 = .ok (.getfield 13, 3) := by decide +kernel
theorem dM_makeStart_4 : decode mM_makeStart.2.1 4 = .ok (.iconst 1, 1) := by decide +kernel
theorem dM_makeStart_5 : decode mM_makeStart.2.1 5 = .ok (.iaload, 1) := by decide +kernel
theorem dM_makeStart_6 : decode mM_makeStart.2.1 6 = .ok (.bipush 12, 2) := by decide +kernel
theorem dM_makeStart_8 : decode mM_makeStart.2.1 8 = .ok (.if_icmp .ne 55, 3) := by decide +kernel
theorem dM_makeStart_11 : decode mM_makeStart.2.1 11 = .ok (.iconst 0, 1) := by decide +kernel
theorem dM_makeStart_12 : decode mM_makeStart.2.1 12 = .ok (.istore_n 1, 1) := by decide +kernel
theorem dM_makeStart_13 : decode mM_makeStart.2.1 13 = .ok (.iload_n 1, 1) := by decide +kernel
theorem dM_makeStart_14 : decode mM_makeStart.2.1 14 = .ok (.bipush 16, 2) := by decide +kernel
theorem dM_makeStart_16 : decode mM_makeStart.2.1 16 = .ok (.if_icmp .ge 44, 3) := by decide +kernel
theorem dM_makeStart_19 : decode mM_makeStart.2.1 19 = .ok (.aload_n 0, 1) := by decide +kernel
theorem dM_makeStart_20 : decode mM_makeStart.2.1 20 = .ok (.getfield 34, 3) := by decide +kernel
theorem dM_makeStart_23 : decode mM_makeStart.2.1 23 = .ok (.iload_n 1, 1) := by decide +kernel
theorem dM_makeStart_24 : decode mM_makeStart.2.1 24 = .ok (.iload_n 1, 1) := by decide +kernel
theorem dM_makeStart_25 : decode mM_makeStart.2.1 25 = .ok (.bipush 12, 2) := by decide +kernel
theorem dM_makeStart_27 : decode mM_makeStart.2.1 27 = .ok (.if_icmp .ge 15, 3) := by decide +kernel
theorem dM_makeStart_30 : decode mM_makeStart.2.1 30 = .ok (.aload_n 0, 1) := by decide +kernel
theorem dM_makeStart_31 : decode mM_makeStart.2.1 31 = .ok (.getfield 7, 3) := by decide +kernel
theorem dM_makeStart_34 : decode mM_makeStart.2.1 34 = .ok (.bipush 64, 2) := by decide +kernel
theorem dM_makeStart_36 : decode mM_makeStart.2.1 36 = .ok (.iload_n 1, 1) := by decide +kernel
theorem dM_makeStart_37 : decode mM_makeStart.2.1 37 = .ok (.iadd, 1) := by decide +kernel
theorem dM_makeStart_38 : decode mM_makeStart.2.1 38 = .ok (.iaload, 1) := by decide +kernel
theorem dM_makeStart_39 : decode mM_makeStart.2.1 39 = .ok (.goto 14, 3) := by decide +kernel
theorem dM_makeStart_42 : decode mM_makeStart.2.1 42 = .ok (.iload_n 1, 1) := by decide +kernel
theorem dM_makeStart_43 : decode mM_makeStart.2.1 43 = .ok (.bipush 15, 2) := by decide +kernel
theorem dM_makeStart_45 : decode mM_makeStart.2.1 45 = .ok (.if_icmp .ne 7, 3) := by decide +kernel
theorem dM_makeStart_48 : decode mM_makeStart.2.1 48 = .ok (.iconst 1, 1) := by decide +kernel
theorem dM_makeStart_49 : decode mM_makeStart.2.1 49 = .ok (.goto 4, 3) := by decide +kernel
theorem dM_makeStart_52 : decode mM_makeStart.2.1 52 = .ok (.iconst 0, 1) := by decide +kernel
theorem dM_makeStart_53 : decode mM_makeStart.2.1 53 = .ok (.iastore, 1) := by decide +kernel
theorem dM_makeStart_54 : decode mM_makeStart.2.1 54 = .ok (.iinc 1 1, 3) := by decide +kernel
theorem dM_makeStart_57 : decode mM_makeStart.2.1 57 = .ok (.goto (-44), 3) := by decide +kernel
theorem dM_makeStart_60 : decode mM_makeStart.2.1 60 = .ok (.goto 37, 3) := by decide +kernel
theorem dM_makeStart_63 : decode mM_makeStart.2.1 63 = .ok (.aload_n 0, 1) := by decide +kernel
theorem dM_makeStart_64 : decode mM_makeStart.2.1 64 = .ok (.invokevirtual 127, 3) := by decide +kernel
theorem dM_makeStart_67 : decode mM_makeStart.2.1 67 = .ok (.aload_n 0, 1) := by decide +kernel
theorem dM_makeStart_68 : decode mM_makeStart.2.1 68 = .ok (.iconst 0, 1) := by decide +kernel
theorem dM_makeStart_69 : decode mM_makeStart.2.1 69 = .ok (.bipush 64, 2) := by decide +kernel
theorem dM_makeStart_71 : decode mM_makeStart.2.1 71 = .ok (.aload_n 0, 1) := by decide +kernel
theorem dM_makeStart_72 : decode mM_makeStart.2.1 72 = .ok (.getfield 13, 3) := by decide +kernel
theorem dM_makeStart_75 : decode mM_makeStart.2.1 75 = .ok (.iconst 1, 1) := by decide +kernel
theorem dM_makeStart_76 : decode mM_makeStart.2.1 76 = .ok (.iaload, 1) := by decide +kernel
theorem dM_makeStart_77 : decode mM_makeStart.2.1 77 = .ok (.invokevirtual 120, 3) := by decide +kernel
theorem dM_makeStart_80 : decode mM_makeStart.2.1 80 = .ok (.aload_n 0, 1) := by decide +kernel
theorem dM_makeStart_81 : decode mM_makeStart.2.1 81 = .ok (.iconst 0, 1) := by decide +kernel
theorem dM_makeStart_82 : decode mM_makeStart.2.1 82 = .ok (.iconst 0, 1) := by decide +kernel
theorem dM_makeStart_83 : decode mM_makeStart.2.1 83 = .ok (.aload_n 0, 1) := by decide +kernel
theorem dM_makeStart_84 : decode mM_makeStart.2.1 84 = .ok (.getfield 13, 3) := by decide +kernel
theorem dM_makeStart_87 : decode mM_makeStart.2.1 87 = .ok (.iconst 1, 1) := by decide +kernel
theorem dM_makeStart_88 : decode mM_makeStart.2.1 88 = .ok (.iaload, 1) := by decide +kernel
theorem dM_makeStart_89 : decode mM_makeStart.2.1 89 = .ok (.invokevirtual 130, 3) := by decide +kernel
theorem dM_makeStart_92 : decode mM_makeStart.2.1 92 = .ok (.aload_n 0, 1) := by decide +kernel
theorem dM_makeStart_93 : decode mM_makeStart.2.1 93 = .ok (.iconst 0, 1) := by decide +kernel
theorem dM_makeStart_94 : decode mM_makeStart.2.1 94 = .ok (.invokevirtual 124, 3) := by decide +kernel
theorem dM_makeStart_97 : decode mM_makeStart.2.1 97 = .ok (.iconst 0, 1) := by decide +kernel
theorem dM_makeStart_98 : decode mM_makeStart.2.1 98 = .ok (.istore_n 1, 1) := by decide +kernel
theorem dM_makeStart_99 : decode mM_makeStart.2.1 99 = .ok (.iload_n 1, 1) := by decide +kernel
theorem dM_makeStart_100 : decode mM_makeStart.2.1 100 = .ok (.bipush 16, 2) := by decide +kernel
theorem dM_makeStart_102 : decode mM_makeStart.2.1 102 = .ok (.if_icmp .ge 21, 3) := by decide +kernel
theorem dM_makeStart_105 : decode mM_makeStart.2.1 105 = .ok (.aload_n 0, 1) := by decide +kernel
theorem dM_makeStart_106 : decode mM_makeStart.2.1 106 = .ok (.getfield 46, 3) := by decide +kernel
theorem dM_makeStart_109 : decode mM_makeStart.2.1 109 = .ok (.iload_n 1, 1) := by decide +kernel
theorem dM_makeStart_110 : decode mM_makeStart.2.1 110 = .ok (.aload_n 0, 1) := by decide +kernel
theorem dM_makeStart_111 : decode mM_makeStart.2.1 111 = .ok (.getfield 34, 3) := by decide +kernel
theorem dM_makeStart_114 : decode mM_makeStart.2.1 114 = .ok (.iload_n 1, 1) := by decide +kernel
theorem dM_makeStart_115 : decode mM_makeStart.2.1 115 = .ok (.iaload, 1) := by decide +kernel
theorem dM_makeStart_116 : decode mM_makeStart.2.1 116 = .ok (.iastore, 1) := by decide +kernel
theorem dM_makeStart_117 : decode mM_makeStart.2.1 117 = .ok (.iinc 1 1, 3) := by decide +kernel
theorem dM_makeStart_120 : decode mM_makeStart.2.1 120 = .ok (.goto (-21), 3) := by decide +kernel
theorem dM_makeStart_123 : decode mM_makeStart.2.1 123 = .ok (.return_, 1) := by decide +kernel
theorem dM_count_0 : decode mM_count.2.1 0 = .ok (.iconst 0, 1) := by decide +kernel
theorem dM_count_1 : decode mM_count.2.1 1 = .ok (.istore_n 3, 1) := by decide +kernel
theorem dM_count_2 : decode mM_count.2.1 2 = .ok (.iload_n 3, 1) := by decide +kernel
theorem dM_count_3 : decode mM_count.2.1 3 = .ok (.bipush 16, 2) := by decide +kernel
theorem dM_count_5 : decode mM_count.2.1 5 = .ok (.if_icmp .ge 21, 3) := by decide +kernel
theorem dM_count_8 : decode mM_count.2.1 8 = .ok (.aload_n 0, 1) := by decide +kernel
theorem dM_count_9 : decode mM_count.2.1 9 = .ok (.getfield 34, 3) := by decide +kernel
theorem dM_count_12 : decode mM_count.2.1 12 = .ok (.iload_n 3, 1) := by decide +kernel
theorem dM_count_13 : decode mM_count.2.1 13 = .ok (.aload_n 0, 1) := by decide +kernel
theorem dM_count_14 : decode mM_count.2.1 14 = .ok (.getfield 46, 3) := by decide +kernel
theorem dM_count_17 : decode mM_count.2.1 17 = .ok (.iload_n 3, 1) := by decide +kernel
theorem dM_count_18 : decode mM_count.2.1 18 = .ok (.iaload, 1) := by decide +kernel
theorem dM_count_19 : decode mM_count.2.1 19 = .ok (.iastore, 1) := by decide +kernel
theorem dM_count_20 : decode mM_count.2.1 20 = .ok (.iinc 3 1, 3) := by decide +kernel
theorem dM_count_23 : decode mM_count.2.1 23 = .ok (.goto (-21), 3) := by decide +kernel
theorem dM_count_26 : decode mM_count.2.1 26 = .ok (.iload_n 1, 1) := by decide +kernel
theorem dM_count_27 : decode mM_count.2.1 27 = .ok (.istore_n 3, 1) := by decide +kernel
theorem dM_count_28 : decode mM_count.2.1 28 = .ok (.iconst 0, 1) := by decide +kernel
theorem dM_count_29 : decode mM_count.2.1 29 = .ok (.istore 4, 2) := by decide +kernel
theorem dM_count_31 : decode mM_count.2.1 31 = .ok (.iload 4, 2) := by decide +kernel
theorem dM_count_33 : decode mM_count.2.1 33 = .ok (.iconst 4, 1) := by decide +kernel
theorem dM_count_34 : decode mM_count.2.1 34 = .ok (.if_icmp .ge 52, 3) := by decide +kernel
theorem dM_count_37 : decode mM_count.2.1 37 = .ok (.iload_n 2, 1) := by decide +kernel
theorem dM_count_38 : decode mM_count.2.1 38 = .ok (.ifCond .eq 11, 3) := by decide +kernel
theorem dM_count_41 : decode mM_count.2.1 41 = .ok (.bipush 15, 2) := by decide +kernel
theorem dM_count_43 : decode mM_count.2.1 43 = .ok (.iload 4, 2) := by decide +kernel
theorem dM_count_45 : decode mM_count.2.1 45 = .ok (.isub, 1) := by decide +kernel
theorem dM_count_46 : decode mM_count.2.1 46 = .ok (.goto 5, 3) := by decide +kernel
theorem dM_count_49 : decode mM_count.2.1 49 = .ok (.iload 4, 2) := by decide +kernel
theorem dM_count_51 : decode mM_count.2.1 51 = .ok (.istore 5, 2) := by decide +kernel
theorem dM_count_53 : decode mM_count.2.1 53 = .ok (.iload_n 3, 1) := by decide +kernel
theorem dM_count_54 : decode mM_count.2.1 54 = .ok (.aload_n 0, 1) := by decide +kernel
theorem dM_count_55 : decode mM_count.2.1 55 = .ok (.getfield 46, 3) := by decide +kernel
theorem dM_count_58 : decode mM_count.2.1 58 = .ok (.iload 5, 2) := by decide +kernel
theorem dM_count_60 : decode mM_count.2.1 60 = .ok (.iaload, 1) := by decide +kernel
theorem dM_count_61 : decode mM_count.2.1 61 = .ok (.iadd, 1) := by decide +kernel
theorem dM_count_62 : decode mM_count.2.1 62 = .ok (.istore_n 3, 1) := by decide +kernel
theorem dM_count_63 : decode mM_count.2.1 63 = .ok (.aload_n 0, 1) := by decide +kernel
theorem dM_count_64 : decode mM_count.2.1 64 = .ok (.getfield 34, 3) := by decide +kernel
theorem dM_count_67 : decode mM_count.2.1 67 = .ok (.iload 5, 2) := by decide +kernel
theorem dM_count_69 : decode mM_count.2.1 69 = .ok (.iload_n 3, 1) := by decide +kernel
theorem dM_count_70 : decode mM_count.2.1 70 = .ok (.sipush 255, 3) := by decide +kernel
theorem dM_count_73 : decode mM_count.2.1 73 = .ok (.iand, 1) := by decide +kernel
theorem dM_count_74 : decode mM_count.2.1 74 = .ok (.iastore, 1) := by decide +kernel
theorem dM_count_75 : decode mM_count.2.1 75 = .ok (.iload_n 3, 1) := by decide +kernel
theorem dM_count_76 : decode mM_count.2.1 76 = .ok (.bipush 8, 2) := by decide +kernel
theorem dM_count_78 : decode mM_count.2.1 78 = .ok (.ishr, 1) := by decide +kernel
theorem dM_count_79 : decode mM_count.2.1 79 = .ok (.istore_n 3, 1) := by decide +kernel
theorem dM_count_80 : decode mM_count.2.1 80 = .ok (.iinc 4 1, 3) := by decide +kernel
theorem dM_count_83 : decode mM_count.2.1 83 = .ok (.goto (-52), 3) := by decide +kernel
theorem dM_count_86 : decode mM_count.2.1 86 = .ok (.return_, 1) := by decide +kernel
theorem dM_cipher_0 : decode mM_cipher.2.1 0 = .ok (.iconst 0, 1) := by decide +kernel
theorem dM_cipher_1 : decode mM_cipher.2.1 1 = .ok (.istore_n 3, 1) := by decide +kernel
theorem dM_cipher_2 : decode mM_cipher.2.1 2 = .ok (.iload_n 3, 1) := by decide +kernel
theorem dM_cipher_3 : decode mM_cipher.2.1 3 = .ok (.iload_n 1, 1) := by decide +kernel
theorem dM_cipher_4 : decode mM_cipher.2.1 4 = .ok (.if_icmp .ge 91, 3) := by decide +kernel
theorem dM_cipher_7 : decode mM_cipher.2.1 7 = .ok (.aload_n 0, 1) := by decide +kernel
theorem dM_cipher_8 : decode mM_cipher.2.1 8 = .ok (.iload_n 2, 1) := by decide +kernel
theorem dM_cipher_9 : decode mM_cipher.2.1 9 = .ok (.ifCond .eq 12, 3) := by decide +kernel
theorem dM_cipher_12 : decode mM_cipher.2.1 12 = .ok (.iload_n 3, 1) := by decide +kernel
theorem dM_cipher_13 : decode mM_cipher.2.1 13 = .ok (.bipush 16, 2) := by decide +kernel
theorem dM_cipher_15 : decode mM_cipher.2.1 15 = .ok (.idiv, 1) := by decide +kernel
theorem dM_cipher_16 : decode mM_cipher.2.1 16 = .ok (.iconst 1, 1) := by decide +kernel
theorem dM_cipher_17 : decode mM_cipher.2.1 17 = .ok (.iadd, 1) := by decide +kernel
theorem dM_cipher_18 : decode mM_cipher.2.1 18 = .ok (.goto 7, 3) := by decide +kernel
theorem dM_cipher_21 : decode mM_cipher.2.1 21 = .ok (.iload_n 3, 1) := by decide +kernel
theorem dM_cipher_22 : decode mM_cipher.2.1 22 = .ok (.bipush 16, 2) := by decide +kernel
theorem dM_cipher_24 : decode mM_cipher.2.1 24 = .ok (.idiv, 1) := by decide +kernel
theorem dM_cipher_25 : decode mM_cipher.2.1 25 = .ok (.iload_n 2, 1) := by decide +kernel
theorem dM_cipher_26 : decode mM_cipher.2.1 26 = .ok (.invokevirtual 133, 3) := by decide +kernel
theorem dM_cipher_29 : decode mM_cipher.2.1 29 = .ok (.aload_n 0, 1) := by decide +kernel
theorem dM_cipher_30 : decode mM_cipher.2.1 30 = .ok (.invokevirtual 111, 3) := by decide +kernel
theorem dM_cipher_33 : decode mM_cipher.2.1 33 = .ok (.iload_n 3, 1) := by decide +kernel
theorem dM_cipher_34 : decode mM_cipher.2.1 34 = .ok (.istore 4, 2) := by decide +kernel
theorem dM_cipher_36 : decode mM_cipher.2.1 36 = .ok (.iload 4, 2) := by decide +kernel
theorem dM_cipher_38 : decode mM_cipher.2.1 38 = .ok (.iload_n 1, 1) := by decide +kernel
theorem dM_cipher_39 : decode mM_cipher.2.1 39 = .ok (.if_icmp .ge 50, 3) := by decide +kernel
theorem dM_cipher_42 : decode mM_cipher.2.1 42 = .ok (.iload 4, 2) := by decide +kernel
theorem dM_cipher_44 : decode mM_cipher.2.1 44 = .ok (.iload_n 3, 1) := by decide +kernel
theorem dM_cipher_45 : decode mM_cipher.2.1 45 = .ok (.bipush 16, 2) := by decide +kernel
theorem dM_cipher_47 : decode mM_cipher.2.1 47 = .ok (.iadd, 1) := by decide +kernel
theorem dM_cipher_48 : decode mM_cipher.2.1 48 = .ok (.if_icmp .ge 41, 3) := by decide +kernel
theorem dM_cipher_51 : decode mM_cipher.2.1 51 = .ok (.aload_n 0, 1) := by decide +kernel
theorem dM_cipher_52 : decode mM_cipher.2.1 52 = .ok (.getfield 7, 3) := by decide +kernel
theorem dM_cipher_55 : decode mM_cipher.2.1 55 = .ok (.sipush 256, 3) := by decide +kernel
theorem dM_cipher_58 : decode mM_cipher.2.1 58 = .ok (.iload 4, 2) := by decide +kernel
theorem dM_cipher_60 : decode mM_cipher.2.1 60 = .ok (.iadd, 1) := by decide +kernel
theorem dM_cipher_61 : decode mM_cipher.2.1 61 = .ok (.aload_n 0, 1) := by decide +kernel
theorem dM_cipher_62 : decode mM_cipher.2.1 62 = .ok (.getfield 7, 3) := by decide +kernel
theorem dM_cipher_65 : decode mM_cipher.2.1 65 = .ok (.sipush 192, 3) := by decide +kernel
theorem dM_cipher_68 : decode mM_cipher.2.1 68 = .ok (.iload 4, 2) := by decide +kernel
theorem dM_cipher_70 : decode mM_cipher.2.1 70 = .ok (.iadd, 1) := by decide +kernel
theorem dM_cipher_71 : decode mM_cipher.2.1 71 = .ok (.iaload, 1) := by decide +kernel
theorem dM_cipher_72 : decode mM_cipher.2.1 72 = .ok (.aload_n 0, 1) := by decide +kernel
theorem dM_cipher_73 : decode mM_cipher.2.1 73 = .ok (.getfield 34, 3) := by decide +kernel
theorem dM_cipher_76 : decode mM_cipher.2.1 76 = .ok (.iload 4, 2) := by decide +kernel
theorem dM_cipher_78 : decode mM_cipher.2.1 78 = .ok (.iload_n 3, 1) := by decide +kernel
theorem dM_cipher_79 : decode mM_cipher.2.1 79 = .ok (.isub, 1) := by decide +kernel
theorem dM_cipher_80 : decode mM_cipher.2.1 80 = .ok (.iaload, 1) := by decide +kernel
theorem dM_cipher_81 : decode mM_cipher.2.1 81 = .ok (.ixor, 1) := by decide +kernel
theorem dM_cipher_82 : decode mM_cipher.2.1 82 = .ok (.iastore, 1) := by decide +kernel
theorem dM_cipher_83 : decode mM_cipher.2.1 83 = .ok (.iinc 4 1, 3) := by decide +kernel
theorem dM_cipher_86 : decode mM_cipher.2.1 86 = .ok (.goto (-50), 3) := by decide +kernel
theorem dM_cipher_89 : decode mM_cipher.2.1 89 = .ok (.iinc 3 16, 3) := by decide +kernel
theorem dM_cipher_92 : decode mM_cipher.2.1 92 = .ok (.goto (-90), 3) := by decide +kernel
theorem dM_cipher_95 : decode mM_cipher.2.1 95 = .ok (.return_, 1) := by decide +kernel
theorem dM_sealOutward_0 : decode mM_sealOutward.2.1 0 = .ok (.aload_n 0, 1) := by decide +kernel
theorem dM_sealOutward_1 : decode mM_sealOutward.2.1 1 = .ok (.invokevirtual 127, 3) := by decide +kernel
theorem dM_sealOutward_4 : decode mM_sealOutward.2.1 4 = .ok (.aload_n 0, 1) := by decide +kernel
theorem dM_sealOutward_5 : decode mM_sealOutward.2.1 5 = .ok (.iconst 0, 1) := by decide +kernel
theorem dM_sealOutward_6 : decode mM_sealOutward.2.1 6 = .ok (.sipush 128, 3) := by decide +kernel
theorem dM_sealOutward_9 : decode mM_sealOutward.2.1 9 = .ok (.aload_n 0, 1) := by decide +kernel
theorem dM_sealOutward_10 : decode mM_sealOutward.2.1 10 = .ok (.getfield 13, 3) := by decide +kernel
theorem dM_sealOutward_13 : decode mM_sealOutward.2.1 13 = .ok (.iconst 2, 1) := by decide +kernel
theorem dM_sealOutward_14 : decode mM_sealOutward.2.1 14 = .ok (.iaload, 1) := by decide +kernel
theorem dM_sealOutward_15 : decode mM_sealOutward.2.1 15 = .ok (.invokevirtual 120, 3) := by decide +kernel
theorem dM_sealOutward_18 : decode mM_sealOutward.2.1 18 = .ok (.aload_n 0, 1) := by decide +kernel
theorem dM_sealOutward_19 : decode mM_sealOutward.2.1 19 = .ok (.iconst 0, 1) := by decide +kernel
theorem dM_sealOutward_20 : decode mM_sealOutward.2.1 20 = .ok (.iload_n 1, 1) := by decide +kernel
theorem dM_sealOutward_21 : decode mM_sealOutward.2.1 21 = .ok (.iload_n 2, 1) := by decide +kernel
theorem dM_sealOutward_22 : decode mM_sealOutward.2.1 22 = .ok (.invokevirtual 120, 3) := by decide +kernel
theorem dM_sealOutward_25 : decode mM_sealOutward.2.1 25 = .ok (.aload_n 0, 1) := by decide +kernel
theorem dM_sealOutward_26 : decode mM_sealOutward.2.1 26 = .ok (.iconst 0, 1) := by decide +kernel
theorem dM_sealOutward_27 : decode mM_sealOutward.2.1 27 = .ok (.aload_n 0, 1) := by decide +kernel
theorem dM_sealOutward_28 : decode mM_sealOutward.2.1 28 = .ok (.getfield 13, 3) := by decide +kernel
theorem dM_sealOutward_31 : decode mM_sealOutward.2.1 31 = .ok (.iconst 2, 1) := by decide +kernel
theorem dM_sealOutward_32 : decode mM_sealOutward.2.1 32 = .ok (.iaload, 1) := by decide +kernel
theorem dM_sealOutward_33 : decode mM_sealOutward.2.1 33 = .ok (.iload_n 2, 1) := by decide +kernel
theorem dM_sealOutward_34 : decode mM_sealOutward.2.1 34 = .ok (.invokevirtual 130, 3) := by decide +kernel
theorem dM_sealOutward_37 : decode mM_sealOutward.2.1 37 = .ok (.aload_n 0, 1) := by decide +kernel
theorem dM_sealOutward_38 : decode mM_sealOutward.2.1 38 = .ok (.iconst 0, 1) := by decide +kernel
theorem dM_sealOutward_39 : decode mM_sealOutward.2.1 39 = .ok (.invokevirtual 124, 3) := by decide +kernel
theorem dM_sealOutward_42 : decode mM_sealOutward.2.1 42 = .ok (.iconst 0, 1) := by decide +kernel
theorem dM_sealOutward_43 : decode mM_sealOutward.2.1 43 = .ok (.istore_n 3, 1) := by decide +kernel
theorem dM_sealOutward_44 : decode mM_sealOutward.2.1 44 = .ok (.iload_n 3, 1) := by decide +kernel
theorem dM_sealOutward_45 : decode mM_sealOutward.2.1 45 = .ok (.bipush 16, 2) := by decide +kernel
theorem dM_sealOutward_47 : decode mM_sealOutward.2.1 47 = .ok (.if_icmp .ge 33, 3) := by decide +kernel
theorem dM_sealOutward_50 : decode mM_sealOutward.2.1 50 = .ok (.aload_n 0, 1) := by decide +kernel
theorem dM_sealOutward_51 : decode mM_sealOutward.2.1 51 = .ok (.getfield 49, 3) := by decide +kernel
theorem dM_sealOutward_54 : decode mM_sealOutward.2.1 54 = .ok (.iload_n 3, 1) := by decide +kernel
theorem dM_sealOutward_55 : decode mM_sealOutward.2.1 55 = .ok (.aload_n 0, 1) := by decide +kernel
theorem dM_sealOutward_56 : decode mM_sealOutward.2.1 56 = .ok (.getfield 34, 3) := by decide +kernel
theorem dM_sealOutward_59 : decode mM_sealOutward.2.1 59 = .ok (.iload_n 3, 1) := by decide +kernel
theorem dM_sealOutward_60 : decode mM_sealOutward.2.1 60 = .ok (.iaload, 1) := by decide +kernel
theorem dM_sealOutward_61 : decode mM_sealOutward.2.1 61 = .ok (.iastore, 1) := by decide +kernel
theorem dM_sealOutward_62 : decode mM_sealOutward.2.1 62 = .ok (.aload_n 0, 1) := by decide +kernel
theorem dM_sealOutward_63 : decode mM_sealOutward.2.1 63 = .ok (.getfield 34, 3) := by decide +kernel
theorem dM_sealOutward_66 : decode mM_sealOutward.2.1 66 = .ok (.iload_n 3, 1) := by decide +kernel
theorem dM_sealOutward_67 : decode mM_sealOutward.2.1 67 = .ok (.aload_n 0, 1) := by decide +kernel
theorem dM_sealOutward_68 : decode mM_sealOutward.2.1 68 = .ok (.getfield 46, 3) := by decide +kernel
theorem dM_sealOutward_71 : decode mM_sealOutward.2.1 71 = .ok (.iload_n 3, 1) := by decide +kernel
theorem dM_sealOutward_72 : decode mM_sealOutward.2.1 72 = .ok (.iaload, 1) := by decide +kernel
theorem dM_sealOutward_73 : decode mM_sealOutward.2.1 73 = .ok (.iastore, 1) := by decide +kernel
theorem dM_sealOutward_74 : decode mM_sealOutward.2.1 74 = .ok (.iinc 3 1, 3) := by decide +kernel
theorem dM_sealOutward_77 : decode mM_sealOutward.2.1 77 = .ok (.goto (-33), 3) := by decide +kernel
theorem dM_sealOutward_80 : decode mM_sealOutward.2.1 80 = .ok (.aload_n 0, 1) := by decide +kernel
theorem dM_sealOutward_81 : decode mM_sealOutward.2.1 81 = .ok (.invokevirtual 111, 3) := by decide +kernel
theorem dM_sealOutward_84 : decode mM_sealOutward.2.1 84 = .ok (.iconst 0, 1) := by decide +kernel
theorem dM_sealOutward_85 : decode mM_sealOutward.2.1 85 = .ok (.istore_n 3, 1) := by decide +kernel
theorem dM_sealOutward_86 : decode mM_sealOutward.2.1 86 = .ok (.iload_n 3, 1) := by decide +kernel
theorem dM_sealOutward_87 : decode mM_sealOutward.2.1 87 = .ok (.bipush 16, 2) := by decide +kernel
theorem dM_sealOutward_89 : decode mM_sealOutward.2.1 89 = .ok (.if_icmp .ge 28, 3) := by decide +kernel
theorem dM_sealOutward_92 : decode mM_sealOutward.2.1 92 = .ok (.aload_n 0, 1) := by decide +kernel
theorem dM_sealOutward_93 : decode mM_sealOutward.2.1 93 = .ok (.getfield 49, 3) := by decide +kernel
theorem dM_sealOutward_96 : decode mM_sealOutward.2.1 96 = .ok (.iload_n 3, 1) := by decide +kernel
theorem dM_sealOutward_97 : decode mM_sealOutward.2.1 97 = .ok (.aload_n 0, 1) := by decide +kernel
theorem dM_sealOutward_98 : decode mM_sealOutward.2.1 98 = .ok (.getfield 49, 3) := by decide +kernel
theorem dM_sealOutward_101 : decode mM_sealOutward.2.1 101 = .ok (.iload_n 3, 1) := by decide +kernel
theorem dM_sealOutward_102 : decode mM_sealOutward.2.1 102 = .ok (.iaload, 1) := by decide +kernel
theorem dM_sealOutward_103 : decode mM_sealOutward.2.1 103 = .ok (.aload_n 0, 1) := by decide +kernel
theorem dM_sealOutward_104 : decode mM_sealOutward.2.1 104 = .ok (.getfield 34, 3) := by decide +kernel
theorem dM_sealOutward_107 : decode mM_sealOutward.2.1 107 = .ok (.iload_n 3, 1) := by decide +kernel
theorem dM_sealOutward_108 : decode mM_sealOutward.2.1 108 = .ok (.iaload, 1) := by decide +kernel
theorem dM_sealOutward_109 : decode mM_sealOutward.2.1 109 = .ok (.ixor, 1) := by decide +kernel
theorem dM_sealOutward_110 : decode mM_sealOutward.2.1 110 = .ok (.iastore, 1) := by decide +kernel
theorem dM_sealOutward_111 : decode mM_sealOutward.2.1 111 = .ok (.iinc 3 1, 3) := by decide +kernel
theorem dM_sealOutward_114 : decode mM_sealOutward.2.1 114 = .ok (.goto (-28), 3) := by decide +kernel
theorem dM_sealOutward_117 : decode mM_sealOutward.2.1 117 = .ok (.return_, 1) := by decide +kernel
theorem dM_derive_0 : decode mM_derive.2.1 0 = .ok (.iconst 0, 1) := by decide +kernel
theorem dM_derive_1 : decode mM_derive.2.1 1 = .ok (.istore_n 3, 1) := by decide +kernel
theorem dM_derive_2 : decode mM_derive.2.1 2 = .ok (.iload_n 3, 1) := by decide +kernel
theorem dM_derive_3 : decode mM_derive.2.1 3 = .ok (.bipush 16, 2) := by decide +kernel
theorem dM_derive_5 : decode mM_derive.2.1 5 = .ok (.if_icmp .ge 41, 3) := by decide +kernel
theorem dM_derive_8 : decode mM_derive.2.1 8 = .ok (.aload_n 0, 1) := by decide +kernel
theorem dM_derive_9 : decode mM_derive.2.1 9 = .ok (.getfield 34, 3) := by decide +kernel
theorem dM_derive_12 : decode mM_derive.2.1 12 = .ok (.iload_n 3, 1) := by decide +kernel
theorem dM_derive_13 : decode mM_derive.2.1 13 = .ok (.iload_n 3, 1) := by decide +kernel
theorem dM_derive_14 : decode mM_derive.2.1 14 = .ok (.ifCond .ne 7, 3) := by decide +kernel
theorem dM_derive_17 : decode mM_derive.2.1 17 = .ok (.iload_n 1, 1) := by decide +kernel
theorem dM_derive_18 : decode mM_derive.2.1 18 = .ok (.goto 21, 3) := by decide +kernel
theorem dM_derive_21 : decode mM_derive.2.1 21 = .ok (.iload_n 3, 1) := by decide +kernel
theorem dM_derive_22 : decode mM_derive.2.1 22 = .ok (.iconst 4, 1) := by decide +kernel
theorem dM_derive_23 : decode mM_derive.2.1 23 = .ok (.if_icmp .ge 7, 3) := by decide +kernel
theorem dM_derive_26 : decode mM_derive.2.1 26 = .ok (.iconst 0, 1) := by decide +kernel
theorem dM_derive_27 : decode mM_derive.2.1 27 = .ok (.goto 12, 3) := by decide +kernel
theorem dM_derive_30 : decode mM_derive.2.1 30 = .ok (.aload_n 0, 1) := by decide +kernel
theorem dM_derive_31 : decode mM_derive.2.1 31 = .ok (.getfield 7, 3) := by decide +kernel
theorem dM_derive_34 : decode mM_derive.2.1 34 = .ok (.bipush 60, 2) := by decide +kernel
theorem dM_derive_36 : decode mM_derive.2.1 36 = .ok (.iload_n 3, 1) := by decide +kernel
theorem dM_derive_37 : decode mM_derive.2.1 37 = .ok (.iadd, 1) := by decide +kernel
theorem dM_derive_38 : decode mM_derive.2.1 38 = .ok (.iaload, 1) := by decide +kernel
theorem dM_derive_39 : decode mM_derive.2.1 39 = .ok (.iastore, 1) := by decide +kernel
theorem dM_derive_40 : decode mM_derive.2.1 40 = .ok (.iinc 3 1, 3) := by decide +kernel
theorem dM_derive_43 : decode mM_derive.2.1 43 = .ok (.goto (-41), 3) := by decide +kernel
theorem dM_derive_46 : decode mM_derive.2.1 46 = .ok (.aload_n 0, 1) := by decide +kernel
theorem dM_derive_47 : decode mM_derive.2.1 47 = .ok (.invokevirtual 111, 3) := by decide +kernel
theorem dM_derive_50 : decode mM_derive.2.1 50 = .ok (.iconst 0, 1) := by decide +kernel
theorem dM_derive_51 : decode mM_derive.2.1 51 = .ok (.istore_n 3, 1) := by decide +kernel
theorem dM_derive_52 : decode mM_derive.2.1 52 = .ok (.iload_n 3, 1) := by decide +kernel
theorem dM_derive_53 : decode mM_derive.2.1 53 = .ok (.bipush 8, 2) := by decide +kernel
theorem dM_derive_55 : decode mM_derive.2.1 55 = .ok (.if_icmp .ge 27, 3) := by decide +kernel
theorem dM_derive_58 : decode mM_derive.2.1 58 = .ok (.aload_n 0, 1) := by decide +kernel
theorem dM_derive_59 : decode mM_derive.2.1 59 = .ok (.getfield 7, 3) := by decide +kernel
theorem dM_derive_62 : decode mM_derive.2.1 62 = .ok (.sipush 256, 3) := by decide +kernel
theorem dM_derive_65 : decode mM_derive.2.1 65 = .ok (.iload_n 2, 1) := by decide +kernel
theorem dM_derive_66 : decode mM_derive.2.1 66 = .ok (.iadd, 1) := by decide +kernel
theorem dM_derive_67 : decode mM_derive.2.1 67 = .ok (.iload_n 3, 1) := by decide +kernel
theorem dM_derive_68 : decode mM_derive.2.1 68 = .ok (.iadd, 1) := by decide +kernel
theorem dM_derive_69 : decode mM_derive.2.1 69 = .ok (.aload_n 0, 1) := by decide +kernel
theorem dM_derive_70 : decode mM_derive.2.1 70 = .ok (.getfield 34, 3) := by decide +kernel
theorem dM_derive_73 : decode mM_derive.2.1 73 = .ok (.iload_n 3, 1) := by decide +kernel
theorem dM_derive_74 : decode mM_derive.2.1 74 = .ok (.iaload, 1) := by decide +kernel
theorem dM_derive_75 : decode mM_derive.2.1 75 = .ok (.iastore, 1) := by decide +kernel
theorem dM_derive_76 : decode mM_derive.2.1 76 = .ok (.iinc 3 1, 3) := by decide +kernel
theorem dM_derive_79 : decode mM_derive.2.1 79 = .ok (.goto (-27), 3) := by decide +kernel
theorem dM_derive_82 : decode mM_derive.2.1 82 = .ok (.return_, 1) := by decide +kernel
theorem dM_deriveKeys_0 : decode mM_deriveKeys.2.1 0 = .ok (.aload_n 0, 1) := by decide +kernel
theorem dM_deriveKeys_1 : decode mM_deriveKeys.2.1 1 = .ok (.invokevirtual 108, 3) := by decide +kernel
theorem dM_deriveKeys_4 : decode mM_deriveKeys.2.1 4 = .ok (.iconst 0, 1) := by decide +kernel
theorem dM_deriveKeys_5 : decode mM_deriveKeys.2.1 5 = .ok (.istore_n 1, 1) := by decide +kernel
theorem dM_deriveKeys_6 : decode mM_deriveKeys.2.1 6 = .ok (.iload_n 1, 1) := by decide +kernel
theorem dM_deriveKeys_7 : decode mM_deriveKeys.2.1 7 = .ok (.iconst 4, 1) := by decide +kernel
theorem dM_deriveKeys_8 : decode mM_deriveKeys.2.1 8 = .ok (.if_icmp .ge 18, 3) := by decide +kernel
theorem dM_deriveKeys_11 : decode mM_deriveKeys.2.1 11 = .ok (.aload_n 0, 1) := by decide +kernel
theorem dM_deriveKeys_12 : decode mM_deriveKeys.2.1 12 = .ok (.iload_n 1, 1) := by decide +kernel
theorem dM_deriveKeys_13 : decode mM_deriveKeys.2.1 13 = .ok (.bipush 8, 2) := by decide +kernel
theorem dM_deriveKeys_15 : decode mM_deriveKeys.2.1 15 = .ok (.iload_n 1, 1) := by decide +kernel
theorem dM_deriveKeys_16 : decode mM_deriveKeys.2.1 16 = .ok (.imul, 1) := by decide +kernel
theorem dM_deriveKeys_17 : decode mM_deriveKeys.2.1 17 = .ok (.invokevirtual 137, 3) := by decide +kernel
theorem dM_deriveKeys_20 : decode mM_deriveKeys.2.1 20 = .ok (.iinc 1 1, 3) := by decide +kernel
theorem dM_deriveKeys_23 : decode mM_deriveKeys.2.1 23 = .ok (.goto (-17), 3) := by decide +kernel
theorem dM_deriveKeys_26 : decode mM_deriveKeys.2.1 26 = .ok (.iconst 0, 1) := by decide +kernel
theorem dM_deriveKeys_27 : decode mM_deriveKeys.2.1 27 = .ok (.istore_n 1, 1) := by decide +kernel
theorem dM_deriveKeys_28 : decode mM_deriveKeys.2.1 28 = .ok (.iload_n 1, 1) := by decide +kernel
theorem dM_deriveKeys_29 : decode mM_deriveKeys.2.1 29 = .ok (.bipush 16, 2) := by decide +kernel
theorem dM_deriveKeys_31 : decode mM_deriveKeys.2.1 31 = .ok (.if_icmp .ge 41, 3) := by decide +kernel
theorem dM_deriveKeys_34 : decode mM_deriveKeys.2.1 34 = .ok (.aload_n 0, 1) := by decide +kernel
theorem dM_deriveKeys_35 : decode mM_deriveKeys.2.1 35 = .ok (.getfield 46, 3) := by decide +kernel
theorem dM_deriveKeys_38 : decode mM_deriveKeys.2.1 38 = .ok (.iload_n 1, 1) := by decide +kernel
theorem dM_deriveKeys_39 : decode mM_deriveKeys.2.1 39 = .ok (.aload_n 0, 1) := by decide +kernel
theorem dM_deriveKeys_40 : decode mM_deriveKeys.2.1 40 = .ok (.getfield 7, 3) := by decide +kernel
theorem dM_deriveKeys_43 : decode mM_deriveKeys.2.1 43 = .ok (.sipush 256, 3) := by decide +kernel
theorem dM_deriveKeys_46 : decode mM_deriveKeys.2.1 46 = .ok (.iload_n 1, 1) := by decide +kernel
theorem dM_deriveKeys_47 : decode mM_deriveKeys.2.1 47 = .ok (.iadd, 1) := by decide +kernel
theorem dM_deriveKeys_48 : decode mM_deriveKeys.2.1 48 = .ok (.iaload, 1) := by decide +kernel
theorem dM_deriveKeys_49 : decode mM_deriveKeys.2.1 49 = .ok (.iastore, 1) := by decide +kernel
theorem dM_deriveKeys_50 : decode mM_deriveKeys.2.1 50 = .ok (.aload_n 0, 1) := by decide +kernel
theorem dM_deriveKeys_51 : decode mM_deriveKeys.2.1 51 = .ok (.getfield 31, 3) := by decide +kernel
theorem dM_deriveKeys_54 : decode mM_deriveKeys.2.1 54 = .ok (.iload_n 1, 1) := by decide +kernel
theorem dM_deriveKeys_55 : decode mM_deriveKeys.2.1 55 = .ok (.aload_n 0, 1) := by decide +kernel
theorem dM_deriveKeys_56 : decode mM_deriveKeys.2.1 56 = .ok (.getfield 7, 3) := by decide +kernel
theorem dM_deriveKeys_59 : decode mM_deriveKeys.2.1 59 = .ok (.sipush 272, 3) := by decide +kernel
theorem dM_deriveKeys_62 : decode mM_deriveKeys.2.1 62 = .ok (.iload_n 1, 1) := by decide +kernel
theorem dM_deriveKeys_63 : decode mM_deriveKeys.2.1 63 = .ok (.iadd, 1) := by decide +kernel
theorem dM_deriveKeys_64 : decode mM_deriveKeys.2.1 64 = .ok (.iaload, 1) := by decide +kernel
theorem dM_deriveKeys_65 : decode mM_deriveKeys.2.1 65 = .ok (.iastore, 1) := by decide +kernel
theorem dM_deriveKeys_66 : decode mM_deriveKeys.2.1 66 = .ok (.iinc 1 1, 3) := by decide +kernel
theorem dM_deriveKeys_69 : decode mM_deriveKeys.2.1 69 = .ok (.goto (-41), 3) := by decide +kernel
theorem dM_deriveKeys_72 : decode mM_deriveKeys.2.1 72 = .ok (.return_, 1) := by decide +kernel
theorem dM_sealInward_0 : decode mM_sealInward.2.1 0 = .ok (.iconst 0, 1) := by decide +kernel
theorem dM_sealInward_1 : decode mM_sealInward.2.1 1 = .ok (.istore_n 3, 1) := by decide +kernel
theorem dM_sealInward_2 : decode mM_sealInward.2.1 2 = .ok (.iload_n 3, 1) := by decide +kernel
theorem dM_sealInward_3 : decode mM_sealInward.2.1 3 = .ok (.bipush 16, 2) := by decide +kernel
theorem dM_sealInward_5 : decode mM_sealInward.2.1 5 = .ok (.if_icmp .ge 21, 3) := by decide +kernel
theorem dM_sealInward_8 : decode mM_sealInward.2.1 8 = .ok (.aload_n 0, 1) := by decide +kernel
theorem dM_sealInward_9 : decode mM_sealInward.2.1 9 = .ok (.getfield 34, 3) := by decide +kernel
theorem dM_sealInward_12 : decode mM_sealInward.2.1 12 = .ok (.iload_n 3, 1) := by decide +kernel
theorem dM_sealInward_13 : decode mM_sealInward.2.1 13 = .ok (.aload_n 0, 1) := by decide +kernel
theorem dM_sealInward_14 : decode mM_sealInward.2.1 14 = .ok (.getfield 46, 3) := by decide +kernel
theorem dM_sealInward_17 : decode mM_sealInward.2.1 17 = .ok (.iload_n 3, 1) := by decide +kernel
theorem dM_sealInward_18 : decode mM_sealInward.2.1 18 = .ok (.iaload, 1) := by decide +kernel
theorem dM_sealInward_19 : decode mM_sealInward.2.1 19 = .ok (.iastore, 1) := by decide +kernel
theorem dM_sealInward_20 : decode mM_sealInward.2.1 20 = .ok (.iinc 3 1, 3) := by decide +kernel
theorem dM_sealInward_23 : decode mM_sealInward.2.1 23 = .ok (.goto (-21), 3) := by decide +kernel
theorem dM_sealInward_26 : decode mM_sealInward.2.1 26 = .ok (.aload_n 0, 1) := by decide +kernel
theorem dM_sealInward_27 : decode mM_sealInward.2.1 27 = .ok (.iconst 1, 1) := by decide +kernel
theorem dM_sealInward_28 : decode mM_sealInward.2.1 28 = .ok (.invokevirtual 117, 3) := by decide +kernel
theorem dM_sealInward_31 : decode mM_sealInward.2.1 31 = .ok (.aload_n 0, 1) := by decide +kernel
theorem dM_sealInward_32 : decode mM_sealInward.2.1 32 = .ok (.iconst 1, 1) := by decide +kernel
theorem dM_sealInward_33 : decode mM_sealInward.2.1 33 = .ok (.sipush 128, 3) := by decide +kernel
theorem dM_sealInward_36 : decode mM_sealInward.2.1 36 = .ok (.aload_n 0, 1) := by decide +kernel
theorem dM_sealInward_37 : decode mM_sealInward.2.1 37 = .ok (.getfield 13, 3) := by decide +kernel
theorem dM_sealInward_40 : decode mM_sealInward.2.1 40 = .ok (.iconst 2, 1) := by decide +kernel
theorem dM_sealInward_41 : decode mM_sealInward.2.1 41 = .ok (.iaload, 1) := by decide +kernel
theorem dM_sealInward_42 : decode mM_sealInward.2.1 42 = .ok (.invokevirtual 120, 3) := by decide +kernel
theorem dM_sealInward_45 : decode mM_sealInward.2.1 45 = .ok (.aload_n 0, 1) := by decide +kernel
theorem dM_sealInward_46 : decode mM_sealInward.2.1 46 = .ok (.iconst 1, 1) := by decide +kernel
theorem dM_sealInward_47 : decode mM_sealInward.2.1 47 = .ok (.iload_n 1, 1) := by decide +kernel
theorem dM_sealInward_48 : decode mM_sealInward.2.1 48 = .ok (.iload_n 2, 1) := by decide +kernel
theorem dM_sealInward_49 : decode mM_sealInward.2.1 49 = .ok (.invokevirtual 120, 3) := by decide +kernel
theorem dM_sealInward_52 : decode mM_sealInward.2.1 52 = .ok (.aload_n 0, 1) := by decide +kernel
theorem dM_sealInward_53 : decode mM_sealInward.2.1 53 = .ok (.iconst 1, 1) := by decide +kernel
theorem dM_sealInward_54 : decode mM_sealInward.2.1 54 = .ok (.aload_n 0, 1) := by decide +kernel
theorem dM_sealInward_55 : decode mM_sealInward.2.1 55 = .ok (.getfield 13, 3) := by decide +kernel
theorem dM_sealInward_58 : decode mM_sealInward.2.1 58 = .ok (.iconst 2, 1) := by decide +kernel
theorem dM_sealInward_59 : decode mM_sealInward.2.1 59 = .ok (.iaload, 1) := by decide +kernel
theorem dM_sealInward_60 : decode mM_sealInward.2.1 60 = .ok (.iload_n 2, 1) := by decide +kernel
theorem dM_sealInward_61 : decode mM_sealInward.2.1 61 = .ok (.invokevirtual 130, 3) := by decide +kernel
theorem dM_sealInward_64 : decode mM_sealInward.2.1 64 = .ok (.aload_n 0, 1) := by decide +kernel
theorem dM_sealInward_65 : decode mM_sealInward.2.1 65 = .ok (.iconst 1, 1) := by decide +kernel
theorem dM_sealInward_66 : decode mM_sealInward.2.1 66 = .ok (.invokevirtual 124, 3) := by decide +kernel
theorem dM_sealInward_69 : decode mM_sealInward.2.1 69 = .ok (.iconst 0, 1) := by decide +kernel
theorem dM_sealInward_70 : decode mM_sealInward.2.1 70 = .ok (.istore_n 3, 1) := by decide +kernel
theorem dM_sealInward_71 : decode mM_sealInward.2.1 71 = .ok (.iload_n 3, 1) := by decide +kernel
theorem dM_sealInward_72 : decode mM_sealInward.2.1 72 = .ok (.bipush 12, 2) := by decide +kernel
theorem dM_sealInward_74 : decode mM_sealInward.2.1 74 = .ok (.if_icmp .ge 31, 3) := by decide +kernel
theorem dM_sealInward_77 : decode mM_sealInward.2.1 77 = .ok (.aload_n 0, 1) := by decide +kernel
theorem dM_sealInward_78 : decode mM_sealInward.2.1 78 = .ok (.getfield 34, 3) := by decide +kernel
theorem dM_sealInward_81 : decode mM_sealInward.2.1 81 = .ok (.iload_n 3, 1) := by decide +kernel
theorem dM_sealInward_82 : decode mM_sealInward.2.1 82 = .ok (.aload_n 0, 1) := by decide +kernel
theorem dM_sealInward_83 : decode mM_sealInward.2.1 83 = .ok (.getfield 34, 3) := by decide +kernel
theorem dM_sealInward_86 : decode mM_sealInward.2.1 86 = .ok (.iload_n 3, 1) := by decide +kernel
theorem dM_sealInward_87 : decode mM_sealInward.2.1 87 = .ok (.iaload, 1) := by decide +kernel
theorem dM_sealInward_88 : decode mM_sealInward.2.1 88 = .ok (.aload_n 0, 1) := by decide +kernel
theorem dM_sealInward_89 : decode mM_sealInward.2.1 89 = .ok (.getfield 7, 3) := by decide +kernel
theorem dM_sealInward_92 : decode mM_sealInward.2.1 92 = .ok (.bipush 64, 2) := by decide +kernel
theorem dM_sealInward_94 : decode mM_sealInward.2.1 94 = .ok (.iload_n 3, 1) := by decide +kernel
theorem dM_sealInward_95 : decode mM_sealInward.2.1 95 = .ok (.iadd, 1) := by decide +kernel
theorem dM_sealInward_96 : decode mM_sealInward.2.1 96 = .ok (.iaload, 1) := by decide +kernel
theorem dM_sealInward_97 : decode mM_sealInward.2.1 97 = .ok (.ixor, 1) := by decide +kernel
theorem dM_sealInward_98 : decode mM_sealInward.2.1 98 = .ok (.iastore, 1) := by decide +kernel
theorem dM_sealInward_99 : decode mM_sealInward.2.1 99 = .ok (.iinc 3 1, 3) := by decide +kernel
theorem dM_sealInward_102 : decode mM_sealInward.2.1 102 = .ok (.goto (-31), 3) := by decide +kernel
theorem dM_sealInward_105 : decode mM_sealInward.2.1 105 = .ok (.aload_n 0, 1) := by decide +kernel
theorem dM_sealInward_106 : decode mM_sealInward.2.1 106 = .ok (.getfield 34, 3) := by decide +kernel
theorem dM_sealInward_109 : decode mM_sealInward.2.1 109 = .ok (.bipush 15, 2) := by decide +kernel
theorem dM_sealInward_111 : decode mM_sealInward.2.1 111 = .ok (.aload_n 0, 1) := by decide +kernel
theorem dM_sealInward_112 : decode mM_sealInward.2.1 112 = .ok (.getfield 34, 3) := by decide +kernel
theorem dM_sealInward_115 : decode mM_sealInward.2.1 115 = .ok (.bipush 15, 2) := by decide +kernel
theorem dM_sealInward_117 : decode mM_sealInward.2.1 117 = .ok (.iaload, 1) := by decide +kernel
theorem dM_sealInward_118 : decode mM_sealInward.2.1 118 = .ok (.bipush 127, 2) := by decide +kernel
theorem dM_sealInward_120 : decode mM_sealInward.2.1 120 = .ok (.iand, 1) := by decide +kernel
theorem dM_sealInward_121 : decode mM_sealInward.2.1 121 = .ok (.iastore, 1) := by decide +kernel
theorem dM_sealInward_122 : decode mM_sealInward.2.1 122 = .ok (.aload_n 0, 1) := by decide +kernel
theorem dM_sealInward_123 : decode mM_sealInward.2.1 123 = .ok (.invokevirtual 111, 3) := by decide +kernel
theorem dM_sealInward_126 : decode mM_sealInward.2.1 126 = .ok (.iconst 0, 1) := by decide +kernel
theorem dM_sealInward_127 : decode mM_sealInward.2.1 127 = .ok (.istore_n 3, 1) := by decide +kernel
theorem dM_sealInward_128 : decode mM_sealInward.2.1 128 = .ok (.iload_n 3, 1) := by decide +kernel
theorem dM_sealInward_129 : decode mM_sealInward.2.1 129 = .ok (.bipush 16, 2) := by decide +kernel
theorem dM_sealInward_131 : decode mM_sealInward.2.1 131 = .ok (.if_icmp .ge 21, 3) := by decide +kernel
theorem dM_sealInward_134 : decode mM_sealInward.2.1 134 = .ok (.aload_n 0, 1) := by decide +kernel
theorem dM_sealInward_135 : decode mM_sealInward.2.1 135 = .ok (.getfield 49, 3) := by decide +kernel
theorem dM_sealInward_138 : decode mM_sealInward.2.1 138 = .ok (.iload_n 3, 1) := by decide +kernel
theorem dM_sealInward_139 : decode mM_sealInward.2.1 139 = .ok (.aload_n 0, 1) := by decide +kernel
theorem dM_sealInward_140 : decode mM_sealInward.2.1 140 = .ok (.getfield 34, 3) := by decide +kernel
theorem dM_sealInward_143 : decode mM_sealInward.2.1 143 = .ok (.iload_n 3, 1) := by decide +kernel
theorem dM_sealInward_144 : decode mM_sealInward.2.1 144 = .ok (.iaload, 1) := by decide +kernel
theorem dM_sealInward_145 : decode mM_sealInward.2.1 145 = .ok (.iastore, 1) := by decide +kernel
theorem dM_sealInward_146 : decode mM_sealInward.2.1 146 = .ok (.iinc 3 1, 3) := by decide +kernel
theorem dM_sealInward_149 : decode mM_sealInward.2.1 149 = .ok (.goto (-21), 3) := by decide +kernel
theorem dM_sealInward_152 : decode mM_sealInward.2.1 152 = .ok (.return_, 1) := by decide +kernel
theorem dM_startAtTag_0 : decode mM_startAtTag.2.1 0 = .ok (.iconst 0, 1) := by decide +kernel
theorem dM_startAtTag_1 : decode mM_startAtTag.2.1 1 = .ok (.istore_n 1, 1) := by decide +kernel
theorem dM_startAtTag_2 : decode mM_startAtTag.2.1 2 = .ok (.iload_n 1, 1) := by decide +kernel
theorem dM_startAtTag_3 : decode mM_startAtTag.2.1 3 = .ok (.bipush 16, 2) := by decide +kernel
theorem dM_startAtTag_5 : decode mM_startAtTag.2.1 5 = .ok (.if_icmp .ge 40, 3) := by decide +kernel
theorem dM_startAtTag_8 : decode mM_startAtTag.2.1 8 = .ok (.aload_n 0, 1) := by decide +kernel
theorem dM_startAtTag_9 : decode mM_startAtTag.2.1 9 = .ok (.getfield 46, 3) := by decide +kernel
theorem dM_startAtTag_12 : decode mM_startAtTag.2.1 12 = .ok (.iload_n 1, 1) := by decide +kernel
theorem dM_startAtTag_13 : decode mM_startAtTag.2.1 13 = .ok (.iload_n 1, 1) := by decide +kernel
theorem dM_startAtTag_14 : decode mM_startAtTag.2.1 14 = .ok (.bipush 15, 2) := by decide +kernel
theorem dM_startAtTag_16 : decode mM_startAtTag.2.1 16 = .ok (.if_icmp .ne 16, 3) := by decide +kernel
theorem dM_startAtTag_19 : decode mM_startAtTag.2.1 19 = .ok (.aload_n 0, 1) := by decide +kernel
theorem dM_startAtTag_20 : decode mM_startAtTag.2.1 20 = .ok (.getfield 49, 3) := by decide +kernel
theorem dM_startAtTag_23 : decode mM_startAtTag.2.1 23 = .ok (.iload_n 1, 1) := by decide +kernel
theorem dM_startAtTag_24 : decode mM_startAtTag.2.1 24 = .ok (.iaload, 1) := by decide +kernel
theorem dM_startAtTag_25 : decode mM_startAtTag.2.1 25 = .ok (.sipush 128, 3) := by decide +kernel
theorem dM_startAtTag_28 : decode mM_startAtTag.2.1 28 = .ok (.ior, 1) := by decide +kernel
theorem dM_startAtTag_29 : decode mM_startAtTag.2.1 29 = .ok (.goto 9, 3) := by decide +kernel
theorem dM_startAtTag_32 : decode mM_startAtTag.2.1 32 = .ok (.aload_n 0, 1) := by decide +kernel
theorem dM_startAtTag_33 : decode mM_startAtTag.2.1 33 = .ok (.getfield 49, 3) := by decide +kernel
theorem dM_startAtTag_36 : decode mM_startAtTag.2.1 36 = .ok (.iload_n 1, 1) := by decide +kernel
theorem dM_startAtTag_37 : decode mM_startAtTag.2.1 37 = .ok (.iaload, 1) := by decide +kernel
theorem dM_startAtTag_38 : decode mM_startAtTag.2.1 38 = .ok (.iastore, 1) := by decide +kernel
theorem dM_startAtTag_39 : decode mM_startAtTag.2.1 39 = .ok (.iinc 1 1, 3) := by decide +kernel
theorem dM_startAtTag_42 : decode mM_startAtTag.2.1 42 = .ok (.goto (-40), 3) := by decide +kernel
theorem dM_startAtTag_45 : decode mM_startAtTag.2.1 45 = .ok (.return_, 1) := by decide +kernel
theorem dM_seal_0 : decode mM_seal.2.1 0 = .ok (.aload_n 0, 1) := by decide +kernel
theorem dM_seal_1 : decode mM_seal.2.1 1 = .ok (.iload_n 1, 1) := by decide +kernel
theorem dM_seal_2 : decode mM_seal.2.1 2 = .ok (.ifCond .eq 12, 3) := by decide +kernel
theorem dM_seal_5 : decode mM_seal.2.1 5 = .ok (.iload_n 1, 1) := by decide +kernel
theorem dM_seal_6 : decode mM_seal.2.1 6 = .ok (.iconst 1, 1) := by decide +kernel
theorem dM_seal_7 : decode mM_seal.2.1 7 = .ok (.if_icmp .eq 7, 3) := by decide +kernel
theorem dM_seal_10 : decode mM_seal.2.1 10 = .ok (.iconst 1, 1) := by decide +kernel
theorem dM_seal_11 : decode mM_seal.2.1 11 = .ok (.goto 27, 3) := by decide +kernel
theorem dM_seal_14 : decode mM_seal.2.1 14 = .ok (.aload_n 0, 1) := by decide +kernel
theorem dM_seal_15 : decode mM_seal.2.1 15 = .ok (.iload_n 1, 1) := by decide +kernel
theorem dM_seal_16 : decode mM_seal.2.1 16 = .ok (.invokevirtual 141, 3) := by decide +kernel
theorem dM_seal_19 : decode mM_seal.2.1 19 = .ok (.ifCond .eq 14, 3) := by decide +kernel
theorem dM_seal_22 : decode mM_seal.2.1 22 = .ok (.aload_n 0, 1) := by decide +kernel
theorem dM_seal_23 : decode mM_seal.2.1 23 = .ok (.getfield 13, 3) := by decide +kernel
theorem dM_seal_26 : decode mM_seal.2.1 26 = .ok (.iconst 3, 1) := by decide +kernel
theorem dM_seal_27 : decode mM_seal.2.1 27 = .ok (.iaload, 1) := by decide +kernel
theorem dM_seal_28 : decode mM_seal.2.1 28 = .ok (.bipush 48, 2) := by decide +kernel
theorem dM_seal_30 : decode mM_seal.2.1 30 = .ok (.if_icmp .le 7, 3) := by decide +kernel
theorem dM_seal_33 : decode mM_seal.2.1 33 = .ok (.iconst 2, 1) := by decide +kernel
theorem dM_seal_34 : decode mM_seal.2.1 34 = .ok (.goto 4, 3) := by decide +kernel
theorem dM_seal_37 : decode mM_seal.2.1 37 = .ok (.iconst 0, 1) := by decide +kernel
theorem dM_seal_38 : decode mM_seal.2.1 38 = .ok (.putfield 59, 3) := by decide +kernel
theorem dM_seal_41 : decode mM_seal.2.1 41 = .ok (.aload_n 0, 1) := by decide +kernel
theorem dM_seal_42 : decode mM_seal.2.1 42 = .ok (.getfield 59, 3) := by decide +kernel
theorem dM_seal_45 : decode mM_seal.2.1 45 = .ok (.ifCond .le 5, 3) := by decide +kernel
theorem dM_seal_48 : decode mM_seal.2.1 48 = .ok (.iconst 0, 1) := by decide +kernel
theorem dM_seal_49 : decode mM_seal.2.1 49 = .ok (.ireturn, 1) := by decide +kernel
theorem dM_seal_50 : decode mM_seal.2.1 50 = .ok (.aload_n 0, 1) := by decide +kernel
theorem dM_seal_51 : decode mM_seal.2.1 51 = .ok (.getfield 13, 3) := by decide +kernel
theorem dM_seal_54 : decode mM_seal.2.1 54 = .ok (.iconst 3, 1) := by decide +kernel
theorem dM_seal_55 : decode mM_seal.2.1 55 = .ok (.iaload, 1) := by decide +kernel
theorem dM_seal_56 : decode mM_seal.2.1 56 = .ok (.istore_n 2, 1) := by decide +kernel
theorem dM_seal_57 : decode mM_seal.2.1 57 = .ok (.iload_n 1, 1) := by decide +kernel
theorem dM_seal_58 : decode mM_seal.2.1 58 = .ok (.ifCond .ne 28, 3) := by decide +kernel
theorem dM_seal_61 : decode mM_seal.2.1 61 = .ok (.aload_n 0, 1) := by decide +kernel
theorem dM_seal_62 : decode mM_seal.2.1 62 = .ok (.invokevirtual 144, 3) := by decide +kernel
theorem dM_seal_65 : decode mM_seal.2.1 65 = .ok (.aload_n 0, 1) := by decide +kernel
theorem dM_seal_66 : decode mM_seal.2.1 66 = .ok (.invokevirtual 108, 3) := by decide +kernel
theorem dM_seal_69 : decode mM_seal.2.1 69 = .ok (.aload_n 0, 1) := by decide +kernel
theorem dM_seal_70 : decode mM_seal.2.1 70 = .ok (.iload_n 2, 1) := by decide +kernel
theorem dM_seal_71 : decode mM_seal.2.1 71 = .ok (.iconst 1, 1) := by decide +kernel
theorem dM_seal_72 : decode mM_seal.2.1 72 = .ok (.invokevirtual 147, 3) := by decide +kernel
theorem dM_seal_75 : decode mM_seal.2.1 75 = .ok (.aload_n 0, 1) := by decide +kernel
theorem dM_seal_76 : decode mM_seal.2.1 76 = .ok (.sipush 256, 3) := by decide +kernel
theorem dM_seal_79 : decode mM_seal.2.1 79 = .ok (.iload_n 2, 1) := by decide +kernel
theorem dM_seal_80 : decode mM_seal.2.1 80 = .ok (.invokevirtual 150, 3) := by decide +kernel
theorem dM_seal_83 : decode mM_seal.2.1 83 = .ok (.goto 25, 3) := by decide +kernel
theorem dM_seal_86 : decode mM_seal.2.1 86 = .ok (.aload_n 0, 1) := by decide +kernel
theorem dM_seal_87 : decode mM_seal.2.1 87 = .ok (.invokevirtual 153, 3) := by decide +kernel
theorem dM_seal_90 : decode mM_seal.2.1 90 = .ok (.aload_n 0, 1) := by decide +kernel
theorem dM_seal_91 : decode mM_seal.2.1 91 = .ok (.sipush 192, 3) := by decide +kernel
theorem dM_seal_94 : decode mM_seal.2.1 94 = .ok (.iload_n 2, 1) := by decide +kernel
theorem dM_seal_95 : decode mM_seal.2.1 95 = .ok (.invokevirtual 156, 3) := by decide +kernel
theorem dM_seal_98 : decode mM_seal.2.1 98 = .ok (.aload_n 0, 1) := by decide +kernel
theorem dM_seal_99 : decode mM_seal.2.1 99 = .ok (.invokevirtual 159, 3) := by decide +kernel
theorem dM_seal_102 : decode mM_seal.2.1 102 = .ok (.aload_n 0, 1) := by decide +kernel
theorem dM_seal_103 : decode mM_seal.2.1 103 = .ok (.iload_n 2, 1) := by decide +kernel
theorem dM_seal_104 : decode mM_seal.2.1 104 = .ok (.iconst 0, 1) := by decide +kernel
theorem dM_seal_105 : decode mM_seal.2.1 105 = .ok (.invokevirtual 147, 3) := by decide +kernel
theorem dM_seal_108 : decode mM_seal.2.1 108 = .ok (.iconst 0, 1) := by decide +kernel
theorem dM_seal_109 : decode mM_seal.2.1 109 = .ok (.istore_n 3, 1) := by decide +kernel
theorem dM_seal_110 : decode mM_seal.2.1 110 = .ok (.iload_n 3, 1) := by decide +kernel
theorem dM_seal_111 : decode mM_seal.2.1 111 = .ok (.iload_n 2, 1) := by decide +kernel
theorem dM_seal_112 : decode mM_seal.2.1 112 = .ok (.if_icmp .ge 25, 3) := by decide +kernel
theorem dM_seal_115 : decode mM_seal.2.1 115 = .ok (.aload_n 0, 1) := by decide +kernel
theorem dM_seal_116 : decode mM_seal.2.1 116 = .ok (.getfield 16, 3) := by decide +kernel
theorem dM_seal_119 : decode mM_seal.2.1 119 = .ok (.iload_n 3, 1) := by decide +kernel
theorem dM_seal_120 : decode mM_seal.2.1 120 = .ok (.aload_n 0, 1) := by decide +kernel
theorem dM_seal_121 : decode mM_seal.2.1 121 = .ok (.getfield 7, 3) := by decide +kernel
theorem dM_seal_124 : decode mM_seal.2.1 124 = .ok (.sipush 256, 3) := by decide +kernel
theorem dM_seal_127 : decode mM_seal.2.1 127 = .ok (.iload_n 3, 1) := by decide +kernel
theorem dM_seal_128 : decode mM_seal.2.1 128 = .ok (.iadd, 1) := by decide +kernel
theorem dM_seal_129 : decode mM_seal.2.1 129 = .ok (.iaload, 1) := by decide +kernel
theorem dM_seal_130 : decode mM_seal.2.1 130 = .ok (.iastore, 1) := by decide +kernel
theorem dM_seal_131 : decode mM_seal.2.1 131 = .ok (.iinc 3 1, 3) := by decide +kernel
theorem dM_seal_134 : decode mM_seal.2.1 134 = .ok (.goto (-24), 3) := by decide +kernel
theorem dM_seal_137 : decode mM_seal.2.1 137 = .ok (.iconst 0, 1) := by decide +kernel
theorem dM_seal_138 : decode mM_seal.2.1 138 = .ok (.istore_n 3, 1) := by decide +kernel
theorem dM_seal_139 : decode mM_seal.2.1 139 = .ok (.iload_n 3, 1) := by decide +kernel
theorem dM_seal_140 : decode mM_seal.2.1 140 = .ok (.bipush 16, 2) := by decide +kernel
theorem dM_seal_142 : decode mM_seal.2.1 142 = .ok (.if_icmp .ge 23, 3) := by decide +kernel
theorem dM_seal_145 : decode mM_seal.2.1 145 = .ok (.aload_n 0, 1) := by decide +kernel
theorem dM_seal_146 : decode mM_seal.2.1 146 = .ok (.getfield 16, 3) := by decide +kernel
theorem dM_seal_149 : decode mM_seal.2.1 149 = .ok (.iload_n 2, 1) := by decide +kernel
theorem dM_seal_150 : decode mM_seal.2.1 150 = .ok (.iload_n 3, 1) := by decide +kernel
theorem dM_seal_151 : decode mM_seal.2.1 151 = .ok (.iadd, 1) := by decide +kernel
theorem dM_seal_152 : decode mM_seal.2.1 152 = .ok (.aload_n 0, 1) := by decide +kernel
theorem dM_seal_153 : decode mM_seal.2.1 153 = .ok (.getfield 49, 3) := by decide +kernel
theorem dM_seal_156 : decode mM_seal.2.1 156 = .ok (.iload_n 3, 1) := by decide +kernel
theorem dM_seal_157 : decode mM_seal.2.1 157 = .ok (.iaload, 1) := by decide +kernel
theorem dM_seal_158 : decode mM_seal.2.1 158 = .ok (.iastore, 1) := by decide +kernel
theorem dM_seal_159 : decode mM_seal.2.1 159 = .ok (.iinc 3 1, 3) := by decide +kernel
theorem dM_seal_162 : decode mM_seal.2.1 162 = .ok (.goto (-23), 3) := by decide +kernel
theorem dM_seal_165 : decode mM_seal.2.1 165 = .ok (.aload_n 0, 1) := by decide +kernel
theorem dM_seal_166 : decode mM_seal.2.1 166 = .ok (.iload_n 2, 1) := by decide +kernel
theorem dM_seal_167 : decode mM_seal.2.1 167 = .ok (.bipush 16, 2) := by decide +kernel
theorem dM_seal_169 : decode mM_seal.2.1 169 = .ok (.iadd, 1) := by decide +kernel
theorem dM_seal_170 : decode mM_seal.2.1 170 = .ok (.putfield 105, 3) := by decide +kernel
theorem dM_seal_173 : decode mM_seal.2.1 173 = .ok (.aload_n 0, 1) := by decide +kernel
theorem dM_seal_174 : decode mM_seal.2.1 174 = .ok (.getfield 105, 3) := by decide +kernel
theorem dM_seal_177 : decode mM_seal.2.1 177 = .ok (.ireturn, 1) := by decide +kernel
theorem dM_open_0 : decode mM_open.2.1 0 = .ok (.aload_n 0, 1) := by decide +kernel
theorem dM_open_1 : decode mM_open.2.1 1 = .ok (.iload_n 1, 1) := by decide +kernel
theorem dM_open_2 : decode mM_open.2.1 2 = .ok (.ifCond .eq 12, 3) := by decide +kernel
theorem dM_open_5 : decode mM_open.2.1 5 = .ok (.iload_n 1, 1) := by decide +kernel
theorem dM_open_6 : decode mM_open.2.1 6 = .ok (.iconst 1, 1) := by decide +kernel
theorem dM_open_7 : decode mM_open.2.1 7 = .ok (.if_icmp .eq 7, 3) := by decide +kernel
theorem dM_open_10 : decode mM_open.2.1 10 = .ok (.iconst 1, 1) := by decide +kernel
theorem dM_open_11 : decode mM_open.2.1 11 = .ok (.goto 27, 3) := by decide +kernel
theorem dM_open_14 : decode mM_open.2.1 14 = .ok (.aload_n 0, 1) := by decide +kernel
theorem dM_open_15 : decode mM_open.2.1 15 = .ok (.iload_n 1, 1) := by decide +kernel
theorem dM_open_16 : decode mM_open.2.1 16 = .ok (.invokevirtual 141, 3) := by decide +kernel
theorem dM_open_19 : decode mM_open.2.1 19 = .ok (.ifCond .eq 14, 3) := by decide +kernel
theorem dM_open_22 : decode mM_open.2.1 22 = .ok (.aload_n 0, 1) := by decide +kernel
theorem dM_open_23 : decode mM_open.2.1 23 = .ok (.getfield 13, 3) := by decide +kernel
theorem dM_open_26 : decode mM_open.2.1 26 = .ok (.iconst 3, 1) := by decide +kernel
theorem dM_open_27 : decode mM_open.2.1 27 = .ok (.iaload, 1) := by decide +kernel
theorem dM_open_28 : decode mM_open.2.1 28 = .ok (.bipush 16, 2) := by decide +kernel
theorem dM_open_30 : decode mM_open.2.1 30 = .ok (.if_icmp .ge 7, 3) := by decide +kernel
theorem dM_open_33 : decode mM_open.2.1 33 = .ok (.iconst 2, 1) := by decide +kernel
theorem dM_open_34 : decode mM_open.2.1 34 = .ok (.goto 4, 3) := by decide +kernel
theorem dM_open_37 : decode mM_open.2.1 37 = .ok (.iconst 0, 1) := by decide +kernel
theorem dM_open_38 : decode mM_open.2.1 38 = .ok (.putfield 59, 3) := by decide +kernel
theorem dM_open_41 : decode mM_open.2.1 41 = .ok (.aload_n 0, 1) := by decide +kernel
theorem dM_open_42 : decode mM_open.2.1 42 = .ok (.getfield 59, 3) := by decide +kernel
theorem dM_open_45 : decode mM_open.2.1 45 = .ok (.ifCond .le 5, 3) := by decide +kernel
theorem dM_open_48 : decode mM_open.2.1 48 = .ok (.iconst 0, 1) := by decide +kernel
theorem dM_open_49 : decode mM_open.2.1 49 = .ok (.ireturn, 1) := by decide +kernel
theorem dM_open_50 : decode mM_open.2.1 50 = .ok (.aload_n 0, 1) := by decide +kernel
theorem dM_open_51 : decode mM_open.2.1 51 = .ok (.getfield 13, 3) := by decide +kernel
theorem dM_open_54 : decode mM_open.2.1 54 = .ok (.iconst 3, 1) := by decide +kernel
theorem dM_open_55 : decode mM_open.2.1 55 = .ok (.iaload, 1) := by decide +kernel
theorem dM_open_56 : decode mM_open.2.1 56 = .ok (.bipush 16, 2) := by decide +kernel
theorem dM_open_58 : decode mM_open.2.1 58 = .ok (.isub, 1) := by decide +kernel
theorem dM_open_59 : decode mM_open.2.1 59 = .ok (.istore_n 2, 1) := by decide +kernel
theorem dM_open_60 : decode mM_open.2.1 60 = .ok (.iload_n 1, 1) := by decide +kernel
theorem dM_open_61 : decode mM_open.2.1 61 = .ok (.ifCond .ne 28, 3) := by decide +kernel
theorem dM_open_64 : decode mM_open.2.1 64 = .ok (.aload_n 0, 1) := by decide +kernel
theorem dM_open_65 : decode mM_open.2.1 65 = .ok (.invokevirtual 144, 3) := by decide +kernel
theorem dM_open_68 : decode mM_open.2.1 68 = .ok (.aload_n 0, 1) := by decide +kernel
theorem dM_open_69 : decode mM_open.2.1 69 = .ok (.invokevirtual 108, 3) := by decide +kernel
theorem dM_open_72 : decode mM_open.2.1 72 = .ok (.aload_n 0, 1) := by decide +kernel
theorem dM_open_73 : decode mM_open.2.1 73 = .ok (.sipush 192, 3) := by decide +kernel
theorem dM_open_76 : decode mM_open.2.1 76 = .ok (.iload_n 2, 1) := by decide +kernel
theorem dM_open_77 : decode mM_open.2.1 77 = .ok (.invokevirtual 150, 3) := by decide +kernel
theorem dM_open_80 : decode mM_open.2.1 80 = .ok (.aload_n 0, 1) := by decide +kernel
theorem dM_open_81 : decode mM_open.2.1 81 = .ok (.iload_n 2, 1) := by decide +kernel
theorem dM_open_82 : decode mM_open.2.1 82 = .ok (.iconst 1, 1) := by decide +kernel
theorem dM_open_83 : decode mM_open.2.1 83 = .ok (.invokevirtual 147, 3) := by decide +kernel
theorem dM_open_86 : decode mM_open.2.1 86 = .ok (.goto 12, 3) := by decide +kernel
theorem dM_open_89 : decode mM_open.2.1 89 = .ok (.aload_n 0, 1) := by decide +kernel
theorem dM_open_90 : decode mM_open.2.1 90 = .ok (.invokevirtual 153, 3) := by decide +kernel
theorem dM_open_93 : decode mM_open.2.1 93 = .ok (.aload_n 0, 1) := by decide +kernel
theorem dM_open_94 : decode mM_open.2.1 94 = .ok (.iload_n 2, 1) := by decide +kernel
theorem dM_open_95 : decode mM_open.2.1 95 = .ok (.invokevirtual 162, 3) := by decide +kernel
theorem dM_open_98 : decode mM_open.2.1 98 = .ok (.iconst 0, 1) := by decide +kernel
theorem dM_open_99 : decode mM_open.2.1 99 = .ok (.istore_n 3, 1) := by decide +kernel
theorem dM_open_100 : decode mM_open.2.1 100 = .ok (.iload_n 3, 1) := by decide +kernel
theorem dM_open_101 : decode mM_open.2.1 101 = .ok (.bipush 16, 2) := by decide +kernel
theorem dM_open_103 : decode mM_open.2.1 103 = .ok (.if_icmp .ge 42, 3) := by decide +kernel
theorem dM_open_106 : decode mM_open.2.1 106 = .ok (.aload_n 0, 1) := by decide +kernel
theorem dM_open_107 : decode mM_open.2.1 107 = .ok (.aload_n 0, 1) := by decide +kernel
theorem dM_open_108 : decode mM_open.2.1 108 = .ok (.getfield 49, 3) := by decide +kernel
theorem dM_open_111 : decode mM_open.2.1 111 = .ok (.iload_n 3, 1) := by decide +kernel
theorem dM_open_112 : decode mM_open.2.1 112 = .ok (.iaload, 1) := by decide +kernel
theorem dM_open_113 : decode mM_open.2.1 113 = .ok (.aload_n 0, 1) := by decide +kernel
theorem dM_open_114 : decode mM_open.2.1 114 = .ok (.getfield 7, 3) := by decide +kernel
theorem dM_open_117 : decode mM_open.2.1 117 = .ok (.sipush 192, 3) := by decide +kernel
theorem dM_open_120 : decode mM_open.2.1 120 = .ok (.iload_n 2, 1) := by decide +kernel
theorem dM_open_121 : decode mM_open.2.1 121 = .ok (.iadd, 1) := by decide +kernel
theorem dM_open_122 : decode mM_open.2.1 122 = .ok (.iload_n 3, 1) := by decide +kernel
theorem dM_open_123 : decode mM_open.2.1 123 = .ok (.iadd, 1) := by decide +kernel
theorem dM_open_124 : decode mM_open.2.1 124 = .ok (.iaload, 1) := by decide +kernel
theorem dM_open_125 : decode mM_open.2.1 125 = .ok (.if_icmp .eq 7, 3) := by decide +kernel
theorem dM_open_128 : decode mM_open.2.1 128 = .ok (.iconst 3, 1) := by decide +kernel
theorem dM_open_129 : decode mM_open.2.1 129 = .ok (.goto 7, 3) := by decide +kernel
theorem dM_open_132 : decode mM_open.2.1 132 = .ok (.aload_n 0, 1) := by decide +kernel
theorem dM_open_133 : decode mM_open.2.1 133 = .ok (.getfield 59, 3) := by decide +kernel
theorem dM_open_136 : decode mM_open.2.1 136 = .ok (.putfield 59, 3) := by decide +kernel
theorem dM_open_139 : decode mM_open.2.1 139 = .ok (.iinc 3 1, 3) := by decide +kernel
theorem dM_open_142 : decode mM_open.2.1 142 = .ok (.goto (-42), 3) := by decide +kernel
theorem dM_open_145 : decode mM_open.2.1 145 = .ok (.aload_n 0, 1) := by decide +kernel
theorem dM_open_146 : decode mM_open.2.1 146 = .ok (.getfield 59, 3) := by decide +kernel
theorem dM_open_149 : decode mM_open.2.1 149 = .ok (.ifCond .le 5, 3) := by decide +kernel
theorem dM_open_152 : decode mM_open.2.1 152 = .ok (.iconst 0, 1) := by decide +kernel
theorem dM_open_153 : decode mM_open.2.1 153 = .ok (.ireturn, 1) := by decide +kernel
theorem dM_open_154 : decode mM_open.2.1 154 = .ok (.iconst 0, 1) := by decide +kernel
theorem dM_open_155 : decode mM_open.2.1 155 = .ok (.istore_n 3, 1) := by decide +kernel
theorem dM_open_156 : decode mM_open.2.1 156 = .ok (.iload_n 3, 1) := by decide +kernel
theorem dM_open_157 : decode mM_open.2.1 157 = .ok (.iload_n 2, 1) := by decide +kernel
theorem dM_open_158 : decode mM_open.2.1 158 = .ok (.if_icmp .ge 25, 3) := by decide +kernel
theorem dM_open_161 : decode mM_open.2.1 161 = .ok (.aload_n 0, 1) := by decide +kernel
theorem dM_open_162 : decode mM_open.2.1 162 = .ok (.getfield 16, 3) := by decide +kernel
theorem dM_open_165 : decode mM_open.2.1 165 = .ok (.iload_n 3, 1) := by decide +kernel
theorem dM_open_166 : decode mM_open.2.1 166 = .ok (.aload_n 0, 1) := by decide +kernel
theorem dM_open_167 : decode mM_open.2.1 167 = .ok (.getfield 7, 3) := by decide +kernel
theorem dM_open_170 : decode mM_open.2.1 170 = .ok (.sipush 256, 3) := by decide +kernel
theorem dM_open_173 : decode mM_open.2.1 173 = .ok (.iload_n 3, 1) := by decide +kernel
theorem dM_open_174 : decode mM_open.2.1 174 = .ok (.iadd, 1) := by decide +kernel
theorem dM_open_175 : decode mM_open.2.1 175 = .ok (.iaload, 1) := by decide +kernel
theorem dM_open_176 : decode mM_open.2.1 176 = .ok (.iastore, 1) := by decide +kernel
theorem dM_open_177 : decode mM_open.2.1 177 = .ok (.iinc 3 1, 3) := by decide +kernel
theorem dM_open_180 : decode mM_open.2.1 180 = .ok (.goto (-24), 3) := by decide +kernel
theorem dM_open_183 : decode mM_open.2.1 183 = .ok (.aload_n 0, 1) := by decide +kernel
theorem dM_open_184 : decode mM_open.2.1 184 = .ok (.iload_n 2, 1) := by decide +kernel
theorem dM_open_185 : decode mM_open.2.1 185 = .ok (.putfield 105, 3) := by decide +kernel
theorem dM_open_188 : decode mM_open.2.1 188 = .ok (.aload_n 0, 1) := by decide +kernel
theorem dM_open_189 : decode mM_open.2.1 189 = .ok (.getfield 105, 3) := by decide +kernel
theorem dM_open_192 : decode mM_open.2.1 192 = .ok (.ireturn, 1) := by decide +kernel
theorem dM_openInward_0 : decode mM_openInward.2.1 0 = .ok (.iconst 0, 1) := by decide +kernel
theorem dM_openInward_1 : decode mM_openInward.2.1 1 = .ok (.istore_n 2, 1) := by decide +kernel
theorem dM_openInward_2 : decode mM_openInward.2.1 2 = .ok (.iload_n 2, 1) := by decide +kernel
theorem dM_openInward_3 : decode mM_openInward.2.1 3 = .ok (.bipush 16, 2) := by decide +kernel
theorem dM_openInward_5 : decode mM_openInward.2.1 5 = .ok (.if_icmp .ge 64, 3) := by decide +kernel
theorem dM_openInward_8 : decode mM_openInward.2.1 8 = .ok (.aload_n 0, 1) := by decide +kernel
theorem dM_openInward_9 : decode mM_openInward.2.1 9 = .ok (.getfield 49, 3) := by decide +kernel
theorem dM_openInward_12 : decode mM_openInward.2.1 12 = .ok (.iload_n 2, 1) := by decide +kernel
theorem dM_openInward_13 : decode mM_openInward.2.1 13 = .ok (.aload_n 0, 1) := by decide +kernel
theorem dM_openInward_14 : decode mM_openInward.2.1 14 = .ok (.getfield 46, 3) := by decide +kernel
theorem dM_openInward_17 : decode mM_openInward.2.1 17 = .ok (.iload_n 2, 1) := by decide +kernel
theorem dM_openInward_18 : decode mM_openInward.2.1 18 = .ok (.iaload, 1) := by decide +kernel
theorem dM_openInward_19 : decode mM_openInward.2.1 19 = .ok (.iastore, 1) := by decide +kernel
theorem dM_openInward_20 : decode mM_openInward.2.1 20 = .ok (.aload_n 0, 1) := by decide +kernel
theorem dM_openInward_21 : decode mM_openInward.2.1 21 = .ok (.getfield 46, 3) := by decide +kernel
theorem dM_openInward_24 : decode mM_openInward.2.1 24 = .ok (.iload_n 2, 1) := by decide +kernel
theorem dM_openInward_25 : decode mM_openInward.2.1 25 = .ok (.iload_n 2, 1) := by decide +kernel
theorem dM_openInward_26 : decode mM_openInward.2.1 26 = .ok (.bipush 15, 2) := by decide +kernel
theorem dM_openInward_28 : decode mM_openInward.2.1 28 = .ok (.if_icmp .ne 22, 3) := by decide +kernel
theorem dM_openInward_31 : decode mM_openInward.2.1 31 = .ok (.aload_n 0, 1) := by decide +kernel
theorem dM_openInward_32 : decode mM_openInward.2.1 32 = .ok (.getfield 7, 3) := by decide +kernel
theorem dM_openInward_35 : decode mM_openInward.2.1 35 = .ok (.sipush 192, 3) := by decide +kernel
theorem dM_openInward_38 : decode mM_openInward.2.1 38 = .ok (.iload_n 1, 1) := by decide +kernel
theorem dM_openInward_39 : decode mM_openInward.2.1 39 = .ok (.iadd, 1) := by decide +kernel
theorem dM_openInward_40 : decode mM_openInward.2.1 40 = .ok (.iload_n 2, 1) := by decide +kernel
theorem dM_openInward_41 : decode mM_openInward.2.1 41 = .ok (.iadd, 1) := by decide +kernel
theorem dM_openInward_42 : decode mM_openInward.2.1 42 = .ok (.iaload, 1) := by decide +kernel
theorem dM_openInward_43 : decode mM_openInward.2.1 43 = .ok (.sipush 128, 3) := by decide +kernel
theorem dM_openInward_46 : decode mM_openInward.2.1 46 = .ok (.ior, 1) := by decide +kernel
theorem dM_openInward_47 : decode mM_openInward.2.1 47 = .ok (.goto 15, 3) := by decide +kernel
theorem dM_openInward_50 : decode mM_openInward.2.1 50 = .ok (.aload_n 0, 1) := by decide +kernel
theorem dM_openInward_51 : decode mM_openInward.2.1 51 = .ok (.getfield 7, 3) := by decide +kernel
theorem dM_openInward_54 : decode mM_openInward.2.1 54 = .ok (.sipush 192, 3) := by decide +kernel
theorem dM_openInward_57 : decode mM_openInward.2.1 57 = .ok (.iload_n 1, 1) := by decide +kernel
theorem dM_openInward_58 : decode mM_openInward.2.1 58 = .ok (.iadd, 1) := by decide +kernel
theorem dM_openInward_59 : decode mM_openInward.2.1 59 = .ok (.iload_n 2, 1) := by decide +kernel
theorem dM_openInward_60 : decode mM_openInward.2.1 60 = .ok (.iadd, 1) := by decide +kernel
theorem dM_openInward_61 : decode mM_openInward.2.1 61 = .ok (.iaload, 1) := by decide +kernel
theorem dM_openInward_62 : decode mM_openInward.2.1 62 = .ok (.iastore, 1) := by decide +kernel
theorem dM_openInward_63 : decode mM_openInward.2.1 63 = .ok (.iinc 2 1, 3) := by decide +kernel
theorem dM_openInward_66 : decode mM_openInward.2.1 66 = .ok (.goto (-64), 3) := by decide +kernel
theorem dM_openInward_69 : decode mM_openInward.2.1 69 = .ok (.aload_n 0, 1) := by decide +kernel
theorem dM_openInward_70 : decode mM_openInward.2.1 70 = .ok (.iload_n 1, 1) := by decide +kernel
theorem dM_openInward_71 : decode mM_openInward.2.1 71 = .ok (.iconst 0, 1) := by decide +kernel
theorem dM_openInward_72 : decode mM_openInward.2.1 72 = .ok (.invokevirtual 147, 3) := by decide +kernel
theorem dM_openInward_75 : decode mM_openInward.2.1 75 = .ok (.iconst 0, 1) := by decide +kernel
theorem dM_openInward_76 : decode mM_openInward.2.1 76 = .ok (.istore_n 2, 1) := by decide +kernel
theorem dM_openInward_77 : decode mM_openInward.2.1 77 = .ok (.iload_n 2, 1) := by decide +kernel
theorem dM_openInward_78 : decode mM_openInward.2.1 78 = .ok (.bipush 16, 2) := by decide +kernel
theorem dM_openInward_80 : decode mM_openInward.2.1 80 = .ok (.if_icmp .ge 21, 3) := by decide +kernel
theorem dM_openInward_83 : decode mM_openInward.2.1 83 = .ok (.aload_n 0, 1) := by decide +kernel
theorem dM_openInward_84 : decode mM_openInward.2.1 84 = .ok (.getfield 46, 3) := by decide +kernel
theorem dM_openInward_87 : decode mM_openInward.2.1 87 = .ok (.iload_n 2, 1) := by decide +kernel
theorem dM_openInward_88 : decode mM_openInward.2.1 88 = .ok (.aload_n 0, 1) := by decide +kernel
theorem dM_openInward_89 : decode mM_openInward.2.1 89 = .ok (.getfield 49, 3) := by decide +kernel
theorem dM_openInward_92 : decode mM_openInward.2.1 92 = .ok (.iload_n 2, 1) := by decide +kernel
theorem dM_openInward_93 : decode mM_openInward.2.1 93 = .ok (.iaload, 1) := by decide +kernel
theorem dM_openInward_94 : decode mM_openInward.2.1 94 = .ok (.iastore, 1) := by decide +kernel
theorem dM_openInward_95 : decode mM_openInward.2.1 95 = .ok (.iinc 2 1, 3) := by decide +kernel
theorem dM_openInward_98 : decode mM_openInward.2.1 98 = .ok (.goto (-21), 3) := by decide +kernel
theorem dM_openInward_101 : decode mM_openInward.2.1 101 = .ok (.aload_n 0, 1) := by decide +kernel
theorem dM_openInward_102 : decode mM_openInward.2.1 102 = .ok (.sipush 256, 3) := by decide +kernel
theorem dM_openInward_105 : decode mM_openInward.2.1 105 = .ok (.iload_n 1, 1) := by decide +kernel
theorem dM_openInward_106 : decode mM_openInward.2.1 106 = .ok (.invokevirtual 156, 3) := by decide +kernel
theorem dM_openInward_109 : decode mM_openInward.2.1 109 = .ok (.return_, 1) := by decide +kernel
theorem dM_size_0 : decode mM_size.2.1 0 = .ok (.aload_n 0, 1) := by decide +kernel
theorem dM_size_1 : decode mM_size.2.1 1 = .ok (.iconst 0, 1) := by decide +kernel
theorem dM_size_2 : decode mM_size.2.1 2 = .ok (.putfield 59, 3) := by decide +kernel
theorem dM_size_5 : decode mM_size.2.1 5 = .ok (.aload_n 0, 1) := by decide +kernel
theorem dM_size_6 : decode mM_size.2.1 6 = .ok (.getfield 105, 3) := by decide +kernel
theorem dM_size_9 : decode mM_size.2.1 9 = .ok (.ireturn, 1) := by decide +kernel
theorem dM_at_0 : decode mM_at.2.1 0 = .ok (.aload_n 0, 1) := by decide +kernel
theorem dM_at_1 : decode mM_at.2.1 1 = .ok (.iload_n 1, 1) := by decide +kernel
theorem dM_at_2 : decode mM_at.2.1 2 = .ok (.ifCond .lt 15, 3) := by decide +kernel
theorem dM_at_5 : decode mM_at.2.1 5 = .ok (.iload_n 1, 1) := by decide +kernel
theorem dM_at_6 : decode mM_at.2.1 6 = .ok (.aload_n 0, 1) := by decide +kernel
theorem dM_at_7 : decode mM_at.2.1 7 = .ok (.getfield 105, 3) := by decide +kernel
theorem dM_at_10 : decode mM_at.2.1 10 = .ok (.if_icmp .ge 7, 3) := by decide +kernel
theorem dM_at_13 : decode mM_at.2.1 13 = .ok (.iconst 0, 1) := by decide +kernel
theorem dM_at_14 : decode mM_at.2.1 14 = .ok (.goto 4, 3) := by decide +kernel
theorem dM_at_17 : decode mM_at.2.1 17 = .ok (.iconst 1, 1) := by decide +kernel
theorem dM_at_18 : decode mM_at.2.1 18 = .ok (.putfield 59, 3) := by decide +kernel
theorem dM_at_21 : decode mM_at.2.1 21 = .ok (.aload_n 0, 1) := by decide +kernel
theorem dM_at_22 : decode mM_at.2.1 22 = .ok (.getfield 59, 3) := by decide +kernel
theorem dM_at_25 : decode mM_at.2.1 25 = .ok (.ifCond .le 7, 3) := by decide +kernel
theorem dM_at_28 : decode mM_at.2.1 28 = .ok (.iconst 0, 1) := by decide +kernel
theorem dM_at_29 : decode mM_at.2.1 29 = .ok (.goto 9, 3) := by decide +kernel
theorem dM_at_32 : decode mM_at.2.1 32 = .ok (.aload_n 0, 1) := by decide +kernel
theorem dM_at_33 : decode mM_at.2.1 33 = .ok (.getfield 16, 3) := by decide +kernel
theorem dM_at_36 : decode mM_at.2.1 36 = .ok (.iload_n 1, 1) := by decide +kernel
theorem dM_at_37 : decode mM_at.2.1 37 = .ok (.iaload, 1) := by decide +kernel
theorem dM_at_38 : decode mM_at.2.1 38 = .ok (.ireturn, 1) := by decide +kernel
end
section
/-! pure part of the cipher -/
def zSl : List Nat := [99, 124, 119, 123, 242, 107, 111, 197, 48, 1, 103, 43, 254, 215, 171, 118, 202, 130, 201, 125, 250, 89, 71, 240, 173, 212, 162, 175, 156, 164, 114, 192, 183, 253, 147, 38, 54, 63, 247, 204, 52, 165, 229, 241, 113, 216, 49, 21, 4, 199, 35, 195, 24, 150, 5, 154, 7, 18, 128, 226, 235, 39, 178, 117, 9, 131, 44, 26, 27, 110, 90, 160, 82, 59, 214, 179, 41, 227, 47, 132, 83, 209, 0, 237, 32, 252, 177, 91, 106, 203, 190, 57, 74, 76, 88, 207, 208, 239, 170, 251, 67, 77, 51, 133, 69, 249, 2, 127, 80, 60, 159, 168, 81, 163, 64, 143, 146, 157, 56, 245, 188, 182, 218, 33, 16, 255, 243, 210, 205, 12, 19, 236, 95, 151, 68, 23, 196, 167, 126, 61, 100, 93, 25, 115, 96, 129, 79, 220, 34, 42, 144, 136, 70, 238, 184, 20, 222, 94, 11, 219, 224, 50, 58, 10, 73, 6, 36, 92, 194, 211, 172, 98, 145, 149, 228, 121, 231, 200, 55, 109, 141, 213, 78, 169, 108, 86, 244, 234, 101, 122, 174, 8, 186, 120, 37, 46, 28, 166, 180, 198, 232, 221, 116, 31, 75, 189, 139, 138, 112, 62, 181, 102, 72, 3, 246, 14, 97, 53, 87, 185, 134, 193, 29, 158, 225, 248, 152, 17, 105, 217, 142, 148, 155, 30, 135, 233, 206, 85, 40, 223, 140, 161, 137, 13, 191, 230, 66, 104, 65, 153, 45, 15, 176, 84, 187, 22]
def zS (j : Nat) : Nat := zSl.getD j 0
def zd (a : Nat) : Nat := if 2 * a ≤ 255 then 2 * a else 2 * a ^^^ 283
theorem zS_lt : ∀ j, j < 256 → zS j < 256 := by decide +kernel
theorem zd_lt : ∀ a, a < 256 → zd a < 256 := by decide +kernel
/-- a word made from the words before -/
def zkw1 (W : Nat → Nat) (i j : Nat) : Nat := W (4 * (i - 4) + (j - 4 * i)) ^^^ W (4 * (i - 1) + (j - 4 * i))
def zkw2 (W : Nat → Nat) (i j : Nat) : Nat := W (4 * (i - 4) + (j - 4 * i)) ^^^ zS (W (4 * (i - 1) + (j - 4 * i + 1) % 4))
def zkA (W : Nat → Nat) (i : Nat) : Nat → Nat := fun j => if 4 * i ≤ j ∧ j < 4 * i + 4 then zkw1 W i j else W j
def zkB (W : Nat → Nat) (i c : Nat) : Nat → Nat := fun j => if 4 * i ≤ j ∧ j < 4 * i + 4 then (if j = 4 * i then zkw2 W i j ^^^ c else zkw2 W i j) else W j
def zkS (K : Nat → Nat) : Nat → (Nat → Nat) × Nat
  | 0 => (K, 1)
  | n + 1 => if (n + 4) % 4 = 0 then (zkB (zkS K n).1 (n + 4) (zkS K n).2, zd (zkS K n).2) else (zkA (zkS K n).1 (n + 4), (zkS K n).2)
/-- the 176 bytes of the words of key K -/
def zKX (K : Nat → Nat) : Nat → Nat := (zkS K 40).1
theorem zkS_c (K : Nat → Nat) : ∀ n, (zkS K n).2 < 256
  | 0 => by show 1 < 256; decide
  | n + 1 => by
    unfold zkS
    split
    · exact zd_lt _ (zkS_c K n)
    · exact zkS_c K n
theorem zkS_by {K : Nat → Nat} (hK : ∀ j, j < 16 → K j < 256) : ∀ n j, j < 4 * (n + 4) → (zkS K n).1 j < 256
  | 0, j, h => hK j (by omega)
  | n + 1, j, h => by
    have ih := zkS_by hK n
    unfold zkS
    by_cases h4 : (n + 4) % 4 = 0
    · rw [if_pos h4]
      show zkB _ _ _ j < 256
      unfold zkB
      by_cases hj : 4 * (n + 4) ≤ j ∧ j < 4 * (n + 4) + 4
      · rw [if_pos hj]
        have h5 : zkw2 (zkS K n).1 (n + 4) j < 256 := z_xor8 (ih _ (by omega)) (zS_lt _ (ih _ (by omega)))
        split
        · exact z_xor8 h5 (zkS_c K n)
        · exact h5
      · rw [if_neg hj]; exact ih j (by omega)
    · rw [if_neg h4]
      show zkA _ _ j < 256
      unfold zkA
      by_cases hj : 4 * (n + 4) ≤ j ∧ j < 4 * (n + 4) + 4
      · rw [if_pos hj]; exact z_xor8 (ih _ (by omega)) (ih _ (by omega))
      · rw [if_neg hj]; exact ih j (by omega)
theorem zkS_cg {K K' : Nat → Nat} (hK : ∀ j, j < 16 → K j = K' j) : ∀ n, (zkS K n).2 = (zkS K' n).2 ∧ ∀ j, j < 4 * (n + 4) → (zkS K n).1 j = (zkS K' n).1 j
  | 0 => ⟨rfl, fun j h => hK j (by omega)⟩
  | n + 1 => by
    obtain ⟨hc, ih⟩ := zkS_cg hK n
    unfold zkS
    by_cases h4 : (n + 4) % 4 = 0
    · rw [if_pos h4, if_pos h4]
      refine ⟨by rw [hc], fun j h => ?_⟩
      show zkB _ _ _ j = zkB _ _ _ j
      unfold zkB zkw2
      by_cases hj : 4 * (n + 4) ≤ j ∧ j < 4 * (n + 4) + 4
      · rw [if_pos hj, if_pos hj, hc, ih (4 * (n + 4 - 4) + (j - 4 * (n + 4))) (by omega), ih (4 * (n + 4 - 1) + (j - 4 * (n + 4) + 1) % 4) (by omega)]
      · rw [if_neg hj, if_neg hj]; exact ih j (by omega)
    · rw [if_neg h4, if_neg h4]
      refine ⟨hc, fun j h => ?_⟩
      show zkA _ _ j = zkA _ _ j
      unfold zkA zkw1
      by_cases hj : 4 * (n + 4) ≤ j ∧ j < 4 * (n + 4) + 4
      · rw [if_pos hj, if_pos hj, ih (4 * (n + 4 - 4) + (j - 4 * (n + 4))) (by omega), ih (4 * (n + 4 - 1) + (j - 4 * (n + 4))) (by omega)]
      · rw [if_neg hj, if_neg hj]; exact ih j (by omega)
theorem zKX_by {K : Nat → Nat} (hK : ∀ j, j < 16 → K j < 256) : ∀ j, j < 176 → zKX K j < 256 := fun j h => zkS_by hK 40 j (by omega)
theorem zKX_cg {K K' : Nat → Nat} (hK : ∀ j, j < 16 → K j = K' j) : ∀ j, j < 176 → zKX K j = zKX K' j := fun j h => (zkS_cg hK 40).2 j (by omega)
/-- boxed and moved; mixed; a round; all rounds -/
def zmv (s : Nat → Nat) (j : Nat) : Nat := zS (s (4 * ((j / 4 + j % 4) % 4) + j % 4))
def zt (a : Nat) : Nat := zd a ^^^ a
theorem zt_lt : ∀ a, a < 256 → zt a < 256 := by decide +kernel
def zmx (m : Nat → Nat) (j : Nat) : Nat := zd (m (4 * (j / 4) + j % 4)) ^^^ zt (m (4 * (j / 4) + (j % 4 + 1) % 4)) ^^^ m (4 * (j / 4) + (j % 4 + 2) % 4) ^^^ m (4 * (j / 4) + (j % 4 + 3) % 4)
def zrd (W : Nat → Nat) (n : Nat) (s : Nat → Nat) (j : Nat) : Nat := (if n < 10 then zmx (zmv s) j else zmv s j) ^^^ W (16 * n + j)
def zEs (W x : Nat → Nat) : Nat → Nat → Nat
  | 0 => fun j => x j ^^^ W (16 * 0 + j)
  | n + 1 => zrd W (n + 1) (zEs W x n)
theorem zmv_lt {s : Nat → Nat} (h : ∀ j, j < 16 → s j < 256) (j : Nat) (hj : j < 16) : zmv s j < 256 := zS_lt _ (h _ (by omega))
theorem zmx_lt {s : Nat → Nat} (h : ∀ j, j < 16 → s j < 256) (j : Nat) (hj : j < 16) : zmx s j < 256 :=
  z_xor8 (z_xor8 (z_xor8 (zd_lt _ (h _ (by omega))) (zt_lt _ (h _ (by omega)))) (h _ (by omega))) (h _ (by omega))
theorem zmv_cg {s s' : Nat → Nat} (h : ∀ j, j < 16 → s j = s' j) (j : Nat) (hj : j < 16) : zmv s j = zmv s' j := by unfold zmv; rw [h _ (by omega)]
theorem zmx_cg {s s' : Nat → Nat} (h : ∀ j, j < 16 → s j = s' j) (j : Nat) (hj : j < 16) : zmx s j = zmx s' j := by
  unfold zmx; rw [h (4 * (j / 4) + j % 4) (by omega), h (4 * (j / 4) + (j % 4 + 1) % 4) (by omega), h (4 * (j / 4) + (j % 4 + 2) % 4) (by omega), h (4 * (j / 4) + (j % 4 + 3) % 4) (by omega)]
theorem zEs_by {W x : Nat → Nat} (hW : ∀ j, j < 176 → W j < 256) (hx : ∀ j, j < 16 → x j < 256) : ∀ n, n ≤ 10 → ∀ j, j < 16 → zEs W x n j < 256
  | 0, _, j, h => z_xor8 (hx j h) (hW _ (by omega))
  | n + 1, hn, j, h => by
    have ih := zEs_by hW hx n (by omega)
    show zrd W (n + 1) _ j < 256
    unfold zrd
    refine z_xor8 ?_ (hW _ (by omega))
    split
    · exact zmx_lt (zmv_lt ih) j h
    · exact zmv_lt ih j h
theorem zEs_cg {W W' x x' : Nat → Nat} (hW : ∀ j, j < 176 → W j = W' j) (hx : ∀ j, j < 16 → x j = x' j) : ∀ n, n ≤ 10 → ∀ j, j < 16 → zEs W x n j = zEs W' x' n j
  | 0, _, j, h => by show x j ^^^ W _ = x' j ^^^ W' _; rw [hx j h, hW _ (by omega)]
  | n + 1, hn, j, h => by
    have ih := zEs_cg hW hx n (by omega)
    show zrd W (n + 1) _ j = zrd W' (n + 1) _ j
    unfold zrd
    rw [hW _ (by omega), zmx_cg (zmv_cg ih) j h, zmv_cg ih j h]
/-- E(K, X) -/
def zE (K X : Nat → Nat) (j : Nat) : Nat := zEs (zKX K) X 10 j
theorem zE_by {K X : Nat → Nat} (hK : ∀ j, j < 16 → K j < 256) (hX : ∀ j, j < 16 → X j < 256) (j : Nat) (h : j < 16) : zE K X j < 256 := zEs_by (zKX_by hK) hX 10 (by omega) j h
theorem zE_cg {K K' X X' : Nat → Nat} (hK : ∀ j, j < 16 → K j = K' j) (hX : ∀ j, j < 16 → X j = X' j) (j : Nat) (h : j < 16) : zE K X j = zE K' X' j := zEs_cg (zKX_cg hK) hX 10 (by omega) j h
def z_box (A : z_A) (k : Nat) : Prop := ∀ j, j < 256 → A k j = zS j
section
variable {l : Launch} {g : z_G} {ad : Nat → Nat} {A B : z_A}
theorem c_doubled {a : Nat} (ha : a < 256) : z_Met l g ad mC_doubled (z_rm 0) [.int (nI a)] A B (z_eq (some (.int (nI (zd a)))) A B) := by
  refine z_Met.of (L := [(0, _)]) (by decide) (Nat.le_of_ble_eq_true rfl) (z_fit_eq (Or.inl rfl)) rfl ?_
  intro Ex hEx
  refine z_iconst (pc := 0) dC_doubled_0 zi_2 ?_
  refine z_iload_n (pc := 1) dC_doubled_1 rfl rfl ?_
  refine z_imul (pc := 2) dC_doubled_2 ?_
  refine z_istore_n (L' := [(1, _), (0, _)]) (pc := 3) dC_doubled_3 rfl (by decide) rfl ?_
  refine z_iload_n (pc := 4) dC_doubled_4 rfl rfl ?_
  refine z_sipush (pc := 5) dC_doubled_5 zs_255 ?_
  refine z_icmp_le (pc := 8) (by omega) (by omega) (tgt := 19) dC_doubled_8 rfl (fun h1 => ?_) (fun h2 => ?_)
  · refine z_iload_n (pc := 19) dC_doubled_19 rfl rfl ?_
    exact z_reti (pc := 20) dC_doubled_20 (hEx _ _ _ (⟨by first | (rw [zd, if_pos h1]) | (rw [zd, if_neg h2]), rfl, rfl⟩))
  · refine z_iload_n (pc := 11) dC_doubled_11 rfl rfl ?_
    refine z_sipush (pc := 12) dC_doubled_12 zs_283 ?_
    refine z_ixor (pc := 15) dC_doubled_15 ?_
    refine z_goto (pc := 16) (tgt := 20) dC_doubled_16 rfl ?_
    exact z_reti (pc := 20) dC_doubled_20 (hEx _ _ _ (⟨by first | (rw [zd, if_pos h1]) | (rw [zd, if_neg h2]), rfl, rfl⟩))
theorem c_tripled {a : Nat} (ha : a < 256) : z_Met l g ad mC_tripled (z_rm 1) [.int (nI a)] A B (z_eq (some (.int (nI (zt a)))) A B) := by
  refine z_Met.of (L := [(0, _)]) (by decide) (Nat.le_of_ble_eq_true rfl) (z_fit_eq (Or.inl rfl)) rfl ?_
  intro Ex hEx
  refine z_iload_n (pc := 0) dC_tripled_0 rfl rfl ?_
  refine z_callS (pc := 1) (c_doubled ha) (by decide) zc_C_39 rfl rfl (Nat.le_of_ble_eq_true rfl) z_cn0 dC_tripled_1 (fun r A' B' hE => ?_)
  obtain ⟨rfl, rfl, rfl⟩ := hE
  refine z_r1 ?_
  refine z_iload_n (pc := 4) dC_tripled_4 rfl rfl ?_
  refine z_ixor (pc := 5) dC_tripled_5 ?_
  exact z_reti (pc := 6) dC_tripled_6 (hEx _ _ _ (⟨rfl, rfl, rfl⟩))
theorem c_addWords {r : Nat} (hr : r ≤ 10) : z_Met l g ad mC_addWords (z_rm 0) [.ref (ad 14), .int (nI r)] A B (z_eq none (z_map A 17 16 (fun j => A 17 j ^^^ A 16 (16 * r + j))) B) := by
  refine z_Met.of (L := [(0, _), (1, _)]) (by decide) (Nat.le_of_ble_eq_true rfl) (z_fit_eq rfl) rfl ?_
  intro Ex hEx
  refine z_iconst (pc := 0) dC_addWords_0 zi_0 ?_
  refine z_istore_n (L' := [(2, _), (0, _), (1, _)]) (pc := 1) dC_addWords_1 rfl (by decide) rfl ?_
  refine z_wd (z_map_0 A 17 (fun j => A 17 j ^^^ A 16 (16 * r + j))).symm rfl ?_
  refine z_for 16 (fun i => [(2, .int (nI i)), (0, .ref (ad 14)), (1, .int (nI r))]) (fun i => z_map A 17 i (fun j => A 17 j ^^^ A 16 (16 * r + j))) (fun i => B) (fun i hi ki => ?_) ?_
  · refine z_iload_n (pc := 2) dC_addWords_2 rfl rfl ?_
    refine z_bipush (pc := 3) dC_addWords_3 zb_16 ?_
    refine z_icmp_ge (pc := 5) (by omega) (by omega) (tgt := 34) dC_addWords_5 rfl (fun h => by exfalso; omega) (fun h => ?_)
    refine z_aload_n (pc := 8) dC_addWords_8 rfl rfl ?_
    refine z_getR (pc := 9) zo_14 rfl zf_C_22_0 dC_addWords_9 ?_
    refine z_iload_n (pc := 12) dC_addWords_12 rfl rfl ?_
    refine z_dup2 (pc := 13) dC_addWords_13 rfl rfl ?_
    refine z_iaload (pc := 14) za_17 (by omega) dC_addWords_14 ?_
    refine z_aload_n (pc := 15) dC_addWords_15 rfl rfl ?_
    refine z_getR (pc := 16) zo_14 rfl zf_C_19_0 dC_addWords_16 ?_
    refine z_bipush (pc := 19) dC_addWords_19 zb_16 ?_
    refine z_iload_n (pc := 21) dC_addWords_21 rfl rfl ?_
    refine z_imul (pc := 22) dC_addWords_22 ?_
    refine z_iload_n (pc := 23) dC_addWords_23 rfl rfl ?_
    refine z_iadd (pc := 24) dC_addWords_24 ?_
    refine z_iaload (pc := 25) za_16 (by omega) dC_addWords_25 ?_
    refine z_ixor (pc := 26) dC_addWords_26 ?_
    refine z_iastore (pc := 27) za_17 (by omega) dC_addWords_27 ?_
    refine z_iinc (L' := [(2, _), (0, _), (1, _)]) (pc := 28) dC_addWords_28 rfl zi_1 (by decide) rfl ?_
    refine z_goto (pc := 31) (tgt := 2) dC_addWords_31 rfl ?_
    refine z_wd (z_map_set ?_) rfl ki
    rw [z_map_ge (Nat.le_refl _), z_map_ne (by decide)]
  · refine z_iload_n (pc := 2) dC_addWords_2 rfl rfl ?_
    refine z_bipush (pc := 3) dC_addWords_3 zb_16 ?_
    refine z_icmp_ge (pc := 5) (by omega) (by omega) (tgt := 34) dC_addWords_5 rfl (fun h => ?_) (fun h => by exfalso; omega)
    exact z_ret0 (pc := 34) dC_addWords_34 (hEx _ _ _ (⟨rfl, rfl, rfl⟩))
theorem c_makeWord {i : Nat} (h4 : 4 ≤ i) (hi : i < 44) : z_Met l g ad mC_makeWord (z_rm 0) [.ref (ad 14), .int (nI i)] A B (z_eq none (va_up A 16 (zkA (A 16) i)) B) := by
  refine z_Met.of (L := [(0, _), (1, _)]) (by decide) (Nat.le_of_ble_eq_true rfl) (z_fit_eq rfl) rfl ?_
  intro Ex hEx
  refine z_iconst (pc := 0) dC_makeWord_0 zi_0 ?_
  refine z_istore_n (L' := [(2, _), (0, _), (1, _)]) (pc := 1) dC_makeWord_1 rfl (by decide) rfl ?_
  refine z_wd (z_seg_0 A 16 (4 * i) (zkw1 (A 16) i)).symm rfl ?_
  refine z_for 4 (fun r => [(2, .int (nI r)), (0, .ref (ad 14)), (1, .int (nI i))]) (fun r => z_seg A 16 (4 * i) r (zkw1 (A 16) i)) (fun r => B) (fun r hr kr => ?_) ?_
  · refine z_iload_n (pc := 2) dC_makeWord_2 rfl rfl ?_
    refine z_iconst (pc := 3) dC_makeWord_3 zi_4 ?_
    refine z_icmp_ge (pc := 4) (by omega) (by omega) (tgt := 48) dC_makeWord_4 rfl (fun h => by exfalso; omega) (fun h => ?_)
    refine z_aload_n (pc := 7) dC_makeWord_7 rfl rfl ?_
    refine z_getR (pc := 8) zo_14 rfl zf_C_19_0 dC_makeWord_8 ?_
    refine z_iconst (pc := 11) dC_makeWord_11 zi_4 ?_
    refine z_iload_n (pc := 12) dC_makeWord_12 rfl rfl ?_
    refine z_imul (pc := 13) dC_makeWord_13 ?_
    refine z_iload_n (pc := 14) dC_makeWord_14 rfl rfl ?_
    refine z_iadd (pc := 15) dC_makeWord_15 ?_
    refine z_aload_n (pc := 16) dC_makeWord_16 rfl rfl ?_
    refine z_getR (pc := 17) zo_14 rfl zf_C_19_0 dC_makeWord_17 ?_
    refine z_iconst (pc := 20) dC_makeWord_20 zi_4 ?_
    refine z_iload_n (pc := 21) dC_makeWord_21 rfl rfl ?_
    refine z_iconst (pc := 22) dC_makeWord_22 zi_4 ?_
    refine z_isub (pc := 23) dC_makeWord_23 (by omega) ?_
    refine z_imul (pc := 24) dC_makeWord_24 ?_
    refine z_iload_n (pc := 25) dC_makeWord_25 rfl rfl ?_
    refine z_iadd (pc := 26) dC_makeWord_26 ?_
    refine z_iaload (pc := 27) za_16 (by omega) dC_makeWord_27 ?_
    refine z_aload_n (pc := 28) dC_makeWord_28 rfl rfl ?_
    refine z_getR (pc := 29) zo_14 rfl zf_C_19_0 dC_makeWord_29 ?_
    refine z_iconst (pc := 32) dC_makeWord_32 zi_4 ?_
    refine z_iload_n (pc := 33) dC_makeWord_33 rfl rfl ?_
    refine z_iconst (pc := 34) dC_makeWord_34 zi_1 ?_
    refine z_isub (pc := 35) dC_makeWord_35 (by omega) ?_
    refine z_imul (pc := 36) dC_makeWord_36 ?_
    refine z_iload_n (pc := 37) dC_makeWord_37 rfl rfl ?_
    refine z_iadd (pc := 38) dC_makeWord_38 ?_
    refine z_iaload (pc := 39) za_16 (by omega) dC_makeWord_39 ?_
    refine z_ixor (pc := 40) dC_makeWord_40 ?_
    refine z_iastore (pc := 41) za_16 (by omega) dC_makeWord_41 ?_
    refine z_iinc (L' := [(2, _), (0, _), (1, _)]) (pc := 42) dC_makeWord_42 rfl zi_1 (by decide) rfl ?_
    refine z_goto (pc := 45) (tgt := 2) dC_makeWord_45 rfl ?_
    refine z_wd (z_seg_set ?_) rfl kr
    rw [z_seg_out (Or.inl (by omega)), z_seg_out (Or.inl (by omega)), zkw1, Nat.add_sub_cancel_left]
  · refine z_iload_n (pc := 2) dC_makeWord_2 rfl rfl ?_
    refine z_iconst (pc := 3) dC_makeWord_3 zi_4 ?_
    refine z_icmp_ge (pc := 4) (by omega) (by omega) (tgt := 48) dC_makeWord_4 rfl (fun h => ?_) (fun h => by exfalso; omega)
    exact z_ret0 (pc := 48) dC_makeWord_48 (hEx _ _ _ (⟨rfl, rfl, rfl⟩))
theorem z_kB (A : z_A) (k i c : Nat) : z_set (z_seg A k (4 * i) 4 (zkw2 (A k) i)) k (4 * i) (z_seg A k (4 * i) 4 (zkw2 (A k) i) k (4 * i) ^^^ c) = va_up A k (zkB (A k) i c) := by
  funext k' j
  by_cases hk : k' = k
  · subst hk
    by_cases hj : j = 4 * i
    · subst hj
      rw [z_set_at, z_seg_in (Nat.le_refl _) (by omega), va_up_self, zkB, if_pos ⟨Nat.le_refl _, by omega⟩, if_pos rfl]
    · rw [z_set_nj hj, va_up_self, zkB, if_neg hj]
      by_cases h2 : 4 * i ≤ j ∧ j < 4 * i + 4
      · rw [z_seg_in h2.1 h2.2, if_pos h2]
      · rw [z_seg_out (by omega), if_neg h2]
  · rw [z_set_ne hk, z_seg_ne hk, va_up_ne _ _ hk]
theorem c_makeBoxedWord {i c : Nat} (h4 : 4 ≤ i) (hi : i < 44) (hb : z_box A 15) (hw : ∀ j, j < 4 * i → A 16 j < 256) : z_Met l g ad mC_makeBoxedWord (z_rm 0) [.ref (ad 14), .int (nI i), .int (nI c)] A B (z_eq none (va_up A 16 (zkB (A 16) i c)) B) := by
  refine z_Met.of (L := [(0, _), (1, _), (2, _)]) (by decide) (Nat.le_of_ble_eq_true rfl) (z_fit_eq rfl) rfl ?_
  intro Ex hEx
  refine z_iconst (pc := 0) dC_makeBoxedWord_0 zi_0 ?_
  refine z_istore_n (L' := [(3, _), (0, _), (1, _), (2, _)]) (pc := 1) dC_makeBoxedWord_1 rfl (by decide) rfl ?_
  refine z_wd (z_seg_0 A 16 (4 * i) (zkw2 (A 16) i)).symm rfl ?_
  refine z_for 4 (fun r => [(3, .int (nI r)), (0, .ref (ad 14)), (1, .int (nI i)), (2, .int (nI c))]) (fun r => z_seg A 16 (4 * i) r (zkw2 (A 16) i)) (fun r => B) (fun r hr kr => ?_) ?_
  · refine z_iload_n (pc := 2) dC_makeBoxedWord_2 rfl rfl ?_
    refine z_iconst (pc := 3) dC_makeBoxedWord_3 zi_4 ?_
    refine z_icmp_ge (pc := 4) (by omega) (by omega) (tgt := 57) dC_makeBoxedWord_4 rfl (fun h => by exfalso; omega) (fun h => ?_)
    refine z_aload_n (pc := 7) dC_makeBoxedWord_7 rfl rfl ?_
    refine z_getR (pc := 8) zo_14 rfl zf_C_19_0 dC_makeBoxedWord_8 ?_
    refine z_iconst (pc := 11) dC_makeBoxedWord_11 zi_4 ?_
    refine z_iload_n (pc := 12) dC_makeBoxedWord_12 rfl rfl ?_
    refine z_imul (pc := 13) dC_makeBoxedWord_13 ?_
    refine z_iload_n (pc := 14) dC_makeBoxedWord_14 rfl rfl ?_
    refine z_iadd (pc := 15) dC_makeBoxedWord_15 ?_
    refine z_aload_n (pc := 16) dC_makeBoxedWord_16 rfl rfl ?_
    refine z_getR (pc := 17) zo_14 rfl zf_C_19_0 dC_makeBoxedWord_17 ?_
    refine z_iconst (pc := 20) dC_makeBoxedWord_20 zi_4 ?_
    refine z_iload_n (pc := 21) dC_makeBoxedWord_21 rfl rfl ?_
    refine z_iconst (pc := 22) dC_makeBoxedWord_22 zi_4 ?_
    refine z_isub (pc := 23) dC_makeBoxedWord_23 (by omega) ?_
    refine z_imul (pc := 24) dC_makeBoxedWord_24 ?_
    refine z_iload_n (pc := 25) dC_makeBoxedWord_25 rfl rfl ?_
    refine z_iadd (pc := 26) dC_makeBoxedWord_26 ?_
    refine z_iaload (pc := 27) za_16 (by omega) dC_makeBoxedWord_27 ?_
    refine z_aload_n (pc := 28) dC_makeBoxedWord_28 rfl rfl ?_
    refine z_getR (pc := 29) zo_14 rfl zf_C_15_0 dC_makeBoxedWord_29 ?_
    refine z_aload_n (pc := 32) dC_makeBoxedWord_32 rfl rfl ?_
    refine z_getR (pc := 33) zo_14 rfl zf_C_19_0 dC_makeBoxedWord_33 ?_
    refine z_iconst (pc := 36) dC_makeBoxedWord_36 zi_4 ?_
    refine z_iload_n (pc := 37) dC_makeBoxedWord_37 rfl rfl ?_
    refine z_iconst (pc := 38) dC_makeBoxedWord_38 zi_1 ?_
    refine z_isub (pc := 39) dC_makeBoxedWord_39 (by omega) ?_
    refine z_imul (pc := 40) dC_makeBoxedWord_40 ?_
    refine z_iload_n (pc := 41) dC_makeBoxedWord_41 rfl rfl ?_
    refine z_iconst (pc := 42) dC_makeBoxedWord_42 zi_1 ?_
    refine z_iadd (pc := 43) dC_makeBoxedWord_43 ?_
    refine z_iconst (pc := 44) dC_makeBoxedWord_44 zi_4 ?_
    refine z_irem (pc := 45) dC_makeBoxedWord_45 (by omega) (by omega) (by omega) ?_
    refine z_iadd (pc := 46) dC_makeBoxedWord_46 ?_
    refine z_iaload (pc := 47) za_16 (by omega) dC_makeBoxedWord_47 ?_
    refine z_iaload (pc := 48) za_15 (by rw [z_seg_out (Or.inl (by omega))]; exact hw _ (by omega)) dC_makeBoxedWord_48 ?_
    refine z_ixor (pc := 49) dC_makeBoxedWord_49 ?_
    refine z_iastore (pc := 50) za_16 (by omega) dC_makeBoxedWord_50 ?_
    refine z_iinc (L' := [(3, _), (0, _), (1, _), (2, _)]) (pc := 51) dC_makeBoxedWord_51 rfl zi_1 (by decide) rfl ?_
    refine z_goto (pc := 54) (tgt := 2) dC_makeBoxedWord_54 rfl ?_
    refine z_wd (z_seg_set ?_) rfl kr
    rw [z_seg_out (Or.inl (by omega)), z_seg_out (Or.inl (by omega)), z_seg_ne (by decide), hb _ (hw _ (by omega)), zkw2, Nat.add_sub_cancel_left]
  · refine z_iload_n (pc := 2) dC_makeBoxedWord_2 rfl rfl ?_
    refine z_iconst (pc := 3) dC_makeBoxedWord_3 zi_4 ?_
    refine z_icmp_ge (pc := 4) (by omega) (by omega) (tgt := 57) dC_makeBoxedWord_4 rfl (fun h => ?_) (fun h => by exfalso; omega)
    refine z_aload_n (pc := 57) dC_makeBoxedWord_57 rfl rfl ?_
    refine z_getR (pc := 58) zo_14 rfl zf_C_19_0 dC_makeBoxedWord_58 ?_
    refine z_iconst (pc := 61) dC_makeBoxedWord_61 zi_4 ?_
    refine z_iload_n (pc := 62) dC_makeBoxedWord_62 rfl rfl ?_
    refine z_imul (pc := 63) dC_makeBoxedWord_63 ?_
    refine z_dup2 (pc := 64) dC_makeBoxedWord_64 rfl rfl ?_
    refine z_iaload (pc := 65) za_16 (by omega) dC_makeBoxedWord_65 ?_
    refine z_iload_n (pc := 66) dC_makeBoxedWord_66 rfl rfl ?_
    refine z_ixor (pc := 67) dC_makeBoxedWord_67 ?_
    refine z_iastore (pc := 68) za_16 (by omega) dC_makeBoxedWord_68 ?_
    exact z_ret0 (pc := 69) dC_makeBoxedWord_69 (hEx _ _ _ (⟨rfl, (z_kB A 16 i c).symm, rfl⟩))
theorem z_up_up {α : Type} (f : Nat → α) (k : Nat) (x y : α) : va_up (va_up f k x) k y = va_up f k y := by
  funext i
  by_cases h : i = k
  · subst h; rw [va_up_self, va_up_self]
  · rw [va_up_ne _ _ h, va_up_ne _ _ h, va_up_ne _ _ h]
def zW0 (A : z_A) (kk : Nat) : Nat → Nat := fun j => if 0 ≤ j ∧ j < 0 + 16 then A kk (0 + (j - 0)) else A 16 j
theorem zW0_lt {A : z_A} {kk j : Nat} (h : j < 16) : zW0 A kk j = A kk j := by
  unfold zW0
  rw [if_pos ⟨Nat.zero_le _, by omega⟩, Nat.zero_add, Nat.sub_zero]
theorem c_useKey {kk nk : Nat} (hk : z_ia kk nk) (hn : 16 ≤ nk) (hb : z_box A 15) (hK : ∀ j, j < 16 → A kk j < 256) : z_Met l g ad mC_useKey (z_rm 1) [.ref (ad 14), .ref (ad kk)] A B (z_vd (fun A' B' => B = B' ∧ (∀ k, k ≠ 16 → A' k = A k) ∧ ∀ j, j < 176 → A' 16 j = zKX (A kk) j)) := by
  refine z_Met.of (L := [(0, _), (1, _)]) (by decide) (Nat.le_of_ble_eq_true rfl) z_fit_vd rfl ?_
  intro Ex hEx
  have hK0 : ∀ j, j < 16 → zW0 A kk j < 256 := fun j hj => by rw [zW0_lt hj]; exact hK j hj
  refine z_aload_n (pc := 0) dC_useKey_0 rfl rfl ?_
  refine z_iconst (pc := 1) dC_useKey_1 zi_0 ?_
  refine z_aload_n (pc := 2) dC_useKey_2 rfl rfl ?_
  refine z_getR (pc := 3) zo_14 rfl zf_C_19_0 dC_useKey_3 ?_
  refine z_iconst (pc := 6) dC_useKey_6 zi_0 ?_
  refine z_bipush (pc := 7) dC_useKey_7 zb_16 ?_
  refine z_copy (pc := 9) hk za_16 (by omega) (by omega) zy_C_42 (by decide) (Nat.le_of_ble_eq_true rfl) (by decide) dC_useKey_9 ?_
  refine z_iconst (pc := 12) dC_useKey_12 zi_1 ?_
  refine z_istore_n (L' := [(2, _), (0, _), (1, _)]) (pc := 13) dC_useKey_13 rfl (by decide) rfl ?_
  refine z_iconst (pc := 14) dC_useKey_14 zi_4 ?_
  refine z_istore_n (L' := [(3, _), (2, _), (0, _), (1, _)]) (pc := 15) dC_useKey_15 rfl (by decide) rfl ?_
  refine z_wd (A' := va_up A 16 (zkS (zW0 A kk) 0).1) rfl rfl ?_
  refine z_for 40 (fun m => [(3, .int (nI (m + 4))), (2, .int (nI (zkS (zW0 A kk) m).2)), (0, .ref (ad 14)), (1, .ref (ad kk))]) (fun m => va_up A 16 (zkS (zW0 A kk) m).1) (fun m => B) (fun m hm km => ?_) ?_
  · refine z_iload_n (pc := 16) dC_useKey_16 rfl rfl ?_
    refine z_bipush (pc := 17) dC_useKey_17 zb_44 ?_
    refine z_icmp_ge (pc := 19) (by omega) (by omega) (tgt := 53) dC_useKey_19 rfl (fun h => by exfalso; omega) (fun h => ?_)
    refine z_iload_n (pc := 22) dC_useKey_22 rfl rfl ?_
    refine z_iconst (pc := 23) dC_useKey_23 zi_4 ?_
    refine z_irem (pc := 24) dC_useKey_24 (by omega) (by omega) (by omega) ?_
    refine z_if_ne (pc := 25) (by omega) (tgt := 42) dC_useKey_25 rfl (fun h1 => ?_) (fun h1 => ?_)
    · have e : zkS (zW0 A kk) (m + 1) = (zkA (zkS (zW0 A kk) m).1 (m + 4), (zkS (zW0 A kk) m).2) := by rw [zkS, if_neg h1]
      rw [e] at km
      refine z_aload_n (pc := 42) dC_useKey_42 rfl rfl ?_
      refine z_iload_n (pc := 43) dC_useKey_43 rfl rfl ?_
      refine z_callV (pc := 44) (c_makeWord (i := m + 4) (by omega) (by omega)) (by decide) zo_14 rfl zc_C_52 rfl rfl (Nat.le_of_ble_eq_true rfl) z_cn0 dC_useKey_44 (fun r A' B' hE => ?_)
      obtain ⟨rfl, rfl, rfl⟩ := hE
      refine z_r0 ?_
      refine z_iinc (L' := [(3, _), (2, _), (0, _), (1, _)]) (pc := 47) dC_useKey_47 rfl zi_1 (by decide) rfl ?_
      refine z_goto (pc := 50) (tgt := 16) dC_useKey_50 rfl ?_
      refine z_wd ?_ rfl km
      rw [z_up_up, va_up_self]
    · have e : zkS (zW0 A kk) (m + 1) = (zkB (zkS (zW0 A kk) m).1 (m + 4) (zkS (zW0 A kk) m).2, zd (zkS (zW0 A kk) m).2) := by rw [zkS, if_pos h1]
      rw [e] at km
      refine z_aload_n (pc := 28) dC_useKey_28 rfl rfl ?_
      refine z_iload_n (pc := 29) dC_useKey_29 rfl rfl ?_
      refine z_iload_n (pc := 30) dC_useKey_30 rfl rfl ?_
      refine z_callV (pc := 31) (c_makeBoxedWord (i := m + 4) (by omega) (by omega) (fun j hj => by rw [va_up_ne _ _ (by decide)]; exact hb j hj) (fun j hj => by rw [va_up_self]; exact zkS_by hK0 m j hj)) (by decide) zo_14 rfl zc_C_48 rfl rfl (Nat.le_of_ble_eq_true rfl) z_cn0 dC_useKey_31 (fun r A' B' hE => ?_)
      obtain ⟨rfl, rfl, rfl⟩ := hE
      refine z_r0 ?_
      refine z_iload_n (pc := 34) dC_useKey_34 rfl rfl ?_
      refine z_callS (pc := 35) (c_doubled (zkS_c _ _)) (by decide) zc_C_39 rfl rfl (Nat.le_of_ble_eq_true rfl) z_cn0 dC_useKey_35 (fun r A' B' hE => ?_)
      obtain ⟨rfl, rfl, rfl⟩ := hE
      refine z_r1 ?_
      refine z_istore_n (L' := [(2, _), (3, _), (0, _), (1, _)]) (pc := 38) dC_useKey_38 rfl (by decide) rfl ?_
      refine z_goto (pc := 39) (tgt := 47) dC_useKey_39 rfl ?_
      refine z_iinc (L' := [(3, _), (2, _), (0, _), (1, _)]) (pc := 47) dC_useKey_47 rfl zi_1 (by decide) rfl ?_
      refine z_goto (pc := 50) (tgt := 16) dC_useKey_50 rfl ?_
      refine z_wd ?_ rfl km
      rw [z_up_up, va_up_self]
  · refine z_iload_n (pc := 16) dC_useKey_16 rfl rfl ?_
    refine z_bipush (pc := 17) dC_useKey_17 zb_44 ?_
    refine z_icmp_ge (pc := 19) (by omega) (by omega) (tgt := 53) dC_useKey_19 rfl (fun h => ?_) (fun h => by exfalso; omega)
    exact z_ret0 (pc := 53) dC_useKey_53 (hEx _ _ _ (⟨rfl, rfl, fun k hk => va_up_ne _ _ hk, fun j hj => by rw [va_up_self]; exact (zkS_cg (fun j' h' => zW0_lt h') 40).2 j (by omega)⟩))
theorem c_boxAndMove  (hb : z_box A 15) (hs : ∀ j, j < 16 → A 17 j < 256) : z_Met l g ad mC_boxAndMove (z_rm 0) [.ref (ad 14)] A B (z_eq none (z_map A 18 16 (zmv (A 17))) B) := by
  refine z_Met.of (L := [(0, _)]) (by decide) (Nat.le_of_ble_eq_true rfl) (z_fit_eq rfl) rfl ?_
  intro Ex hEx
  refine z_iconst (pc := 0) dC_boxAndMove_0 zi_0 ?_
  refine z_istore_n (L' := [(1, _), (0, _)]) (pc := 1) dC_boxAndMove_1 rfl (by decide) rfl ?_
  refine z_wd (z_map_0 A 18 (zmv (A 17))).symm rfl ?_
  refine z_for 4 (fun c => [(1, .int (nI c)), (0, .ref (ad 14))]) (fun c => z_map A 18 (4 * c) (zmv (A 17))) (fun c => B) (fun c hc kc => ?_) ?_
  · refine z_iload_n (pc := 2) dC_boxAndMove_2 rfl rfl ?_
    refine z_iconst (pc := 3) dC_boxAndMove_3 zi_4 ?_
    refine z_icmp_ge (pc := 4) (by omega) (by omega) (tgt := 55) dC_boxAndMove_4 rfl (fun h => by exfalso; omega) (fun h => ?_)
    refine z_iconst (pc := 7) dC_boxAndMove_7 zi_0 ?_
    refine z_istore_n (L' := [(2, _), (1, _), (0, _)]) (pc := 8) dC_boxAndMove_8 rfl (by decide) rfl ?_
    refine z_for 4 (fun r => [(2, .int (nI r)), (1, .int (nI c)), (0, .ref (ad 14))]) (fun r => z_map A 18 (4 * c + r) (zmv (A 17))) (fun r => B) (fun r hr kr => ?_) ?_
    · refine z_iload_n (pc := 9) dC_boxAndMove_9 rfl rfl ?_
      refine z_iconst (pc := 10) dC_boxAndMove_10 zi_4 ?_
      refine z_icmp_ge (pc := 11) (by omega) (by omega) (tgt := 49) dC_boxAndMove_11 rfl (fun h => by exfalso; omega) (fun h => ?_)
      refine z_aload_n (pc := 14) dC_boxAndMove_14 rfl rfl ?_
      refine z_getR (pc := 15) zo_14 rfl zf_C_25_0 dC_boxAndMove_15 ?_
      refine z_iconst (pc := 18) dC_boxAndMove_18 zi_4 ?_
      refine z_iload_n (pc := 19) dC_boxAndMove_19 rfl rfl ?_
      refine z_imul (pc := 20) dC_boxAndMove_20 ?_
      refine z_iload_n (pc := 21) dC_boxAndMove_21 rfl rfl ?_
      refine z_iadd (pc := 22) dC_boxAndMove_22 ?_
      refine z_aload_n (pc := 23) dC_boxAndMove_23 rfl rfl ?_
      refine z_getR (pc := 24) zo_14 rfl zf_C_15_0 dC_boxAndMove_24 ?_
      refine z_aload_n (pc := 27) dC_boxAndMove_27 rfl rfl ?_
      refine z_getR (pc := 28) zo_14 rfl zf_C_22_0 dC_boxAndMove_28 ?_
      refine z_iconst (pc := 31) dC_boxAndMove_31 zi_4 ?_
      refine z_iload_n (pc := 32) dC_boxAndMove_32 rfl rfl ?_
      refine z_iload_n (pc := 33) dC_boxAndMove_33 rfl rfl ?_
      refine z_iadd (pc := 34) dC_boxAndMove_34 ?_
      refine z_iconst (pc := 35) dC_boxAndMove_35 zi_4 ?_
      refine z_irem (pc := 36) dC_boxAndMove_36 (by omega) (by omega) (by omega) ?_
      refine z_imul (pc := 37) dC_boxAndMove_37 ?_
      refine z_iload_n (pc := 38) dC_boxAndMove_38 rfl rfl ?_
      refine z_iadd (pc := 39) dC_boxAndMove_39 ?_
      refine z_iaload (pc := 40) za_17 (by omega) dC_boxAndMove_40 ?_
      refine z_iaload (pc := 41) za_15 (by rw [z_map_ne (by decide)]; exact hs _ (by omega)) dC_boxAndMove_41 ?_
      refine z_iastore (pc := 42) za_18 (by omega) dC_boxAndMove_42 ?_
      refine z_iinc (L' := [(2, _), (1, _), (0, _)]) (pc := 43) dC_boxAndMove_43 rfl zi_1 (by decide) rfl ?_
      refine z_goto (pc := 46) (tgt := 9) dC_boxAndMove_46 rfl ?_
      refine z_wd (z_map_set ?_) rfl kr
      rw [z_map_ne (by decide), z_map_ne (by decide), hb _ (hs _ (by omega)), zmv, show (4 * c + r) / 4 = c by omega, show (4 * c + r) % 4 = r by omega]
    · refine z_iload_n (pc := 9) dC_boxAndMove_9 rfl rfl ?_
      refine z_iconst (pc := 10) dC_boxAndMove_10 zi_4 ?_
      refine z_icmp_ge (pc := 11) (by omega) (by omega) (tgt := 49) dC_boxAndMove_11 rfl (fun h => ?_) (fun h => by exfalso; omega)
      refine z_iinc (L' := [(1, _), (2, _), (0, _)]) (pc := 49) dC_boxAndMove_49 rfl zi_1 (by decide) rfl ?_
      refine z_goto (pc := 52) (tgt := 2) dC_boxAndMove_52 rfl ?_
      refine z_ls (L' := [(1, _), (0, _)]) [0, 2] rfl ?_
      exact z_wd (by rw [show 4 * (c + 1) = 4 * c + 4 by omega]) rfl kc
  · refine z_iload_n (pc := 2) dC_boxAndMove_2 rfl rfl ?_
    refine z_iconst (pc := 3) dC_boxAndMove_3 zi_4 ?_
    refine z_icmp_ge (pc := 4) (by omega) (by omega) (tgt := 55) dC_boxAndMove_4 rfl (fun h => ?_) (fun h => by exfalso; omega)
    exact z_ret0 (pc := 55) dC_boxAndMove_55 (hEx _ _ _ (⟨rfl, rfl, rfl⟩))
theorem c_mix  (hm : ∀ j, j < 16 → A 18 j < 256) : z_Met l g ad mC_mix (z_rm 2) [.ref (ad 14)] A B (z_eq none (z_map A 17 16 (zmx (A 18))) B) := by
  refine z_Met.of (L := [(0, _)]) (by decide) (Nat.le_of_ble_eq_true rfl) (z_fit_eq rfl) rfl ?_
  intro Ex hEx
  refine z_iconst (pc := 0) dC_mix_0 zi_0 ?_
  refine z_istore_n (L' := [(1, _), (0, _)]) (pc := 1) dC_mix_1 rfl (by decide) rfl ?_
  refine z_wd (z_map_0 A 17 (zmx (A 18))).symm rfl ?_
  refine z_for 4 (fun c => [(1, .int (nI c)), (0, .ref (ad 14))]) (fun c => z_map A 17 (4 * c) (zmx (A 18))) (fun c => B) (fun c hc kc => ?_) ?_
  · refine z_iload_n (pc := 2) dC_mix_2 rfl rfl ?_
    refine z_iconst (pc := 3) dC_mix_3 zi_4 ?_
    refine z_icmp_ge (pc := 4) (by omega) (by omega) (tgt := 97) dC_mix_4 rfl (fun h => by exfalso; omega) (fun h => ?_)
    refine z_iconst (pc := 7) dC_mix_7 zi_0 ?_
    refine z_istore_n (L' := [(2, _), (1, _), (0, _)]) (pc := 8) dC_mix_8 rfl (by decide) rfl ?_
    refine z_for 4 (fun r => [(2, .int (nI r)), (1, .int (nI c)), (0, .ref (ad 14))]) (fun r => z_map A 17 (4 * c + r) (zmx (A 18))) (fun r => B) (fun r hr kr => ?_) ?_
    · refine z_iload_n (pc := 9) dC_mix_9 rfl rfl ?_
      refine z_iconst (pc := 10) dC_mix_10 zi_4 ?_
      refine z_icmp_ge (pc := 11) (by omega) (by omega) (tgt := 91) dC_mix_11 rfl (fun h => by exfalso; omega) (fun h => ?_)
      refine z_aload_n (pc := 14) dC_mix_14 rfl rfl ?_
      refine z_getR (pc := 15) zo_14 rfl zf_C_22_0 dC_mix_15 ?_
      refine z_iconst (pc := 18) dC_mix_18 zi_4 ?_
      refine z_iload_n (pc := 19) dC_mix_19 rfl rfl ?_
      refine z_imul (pc := 20) dC_mix_20 ?_
      refine z_iload_n (pc := 21) dC_mix_21 rfl rfl ?_
      refine z_iadd (pc := 22) dC_mix_22 ?_
      refine z_aload_n (pc := 23) dC_mix_23 rfl rfl ?_
      refine z_getR (pc := 24) zo_14 rfl zf_C_25_0 dC_mix_24 ?_
      refine z_iconst (pc := 27) dC_mix_27 zi_4 ?_
      refine z_iload_n (pc := 28) dC_mix_28 rfl rfl ?_
      refine z_imul (pc := 29) dC_mix_29 ?_
      refine z_iload_n (pc := 30) dC_mix_30 rfl rfl ?_
      refine z_iadd (pc := 31) dC_mix_31 ?_
      refine z_iaload (pc := 32) za_18 (by omega) dC_mix_32 ?_
      refine z_callS (pc := 33) (c_doubled (by rw [z_map_ne (by decide)]; exact hm _ (by omega))) (by decide) zc_C_39 rfl rfl (Nat.le_of_ble_eq_true rfl) z_cn0 dC_mix_33 (fun r A' B' hE => ?_)
      obtain ⟨rfl, rfl, rfl⟩ := hE
      refine z_r1 ?_
      refine z_aload_n (pc := 36) dC_mix_36 rfl rfl ?_
      refine z_getR (pc := 37) zo_14 rfl zf_C_25_0 dC_mix_37 ?_
      refine z_iconst (pc := 40) dC_mix_40 zi_4 ?_
      refine z_iload_n (pc := 41) dC_mix_41 rfl rfl ?_
      refine z_imul (pc := 42) dC_mix_42 ?_
      refine z_iload_n (pc := 43) dC_mix_43 rfl rfl ?_
      refine z_iconst (pc := 44) dC_mix_44 zi_1 ?_
      refine z_iadd (pc := 45) dC_mix_45 ?_
      refine z_iconst (pc := 46) dC_mix_46 zi_4 ?_
      refine z_irem (pc := 47) dC_mix_47 (by omega) (by omega) (by omega) ?_
      refine z_iadd (pc := 48) dC_mix_48 ?_
      refine z_iaload (pc := 49) za_18 (by omega) dC_mix_49 ?_
      refine z_callS (pc := 50) (c_tripled (by rw [z_map_ne (by decide)]; exact hm _ (by omega))) (by decide) zc_C_28 rfl rfl (Nat.le_of_ble_eq_true rfl) z_cn0 dC_mix_50 (fun r A' B' hE => ?_)
      obtain ⟨rfl, rfl, rfl⟩ := hE
      refine z_r1 ?_
      refine z_ixor (pc := 53) dC_mix_53 ?_
      refine z_aload_n (pc := 54) dC_mix_54 rfl rfl ?_
      refine z_getR (pc := 55) zo_14 rfl zf_C_25_0 dC_mix_55 ?_
      refine z_iconst (pc := 58) dC_mix_58 zi_4 ?_
      refine z_iload_n (pc := 59) dC_mix_59 rfl rfl ?_
      refine z_imul (pc := 60) dC_mix_60 ?_
      refine z_iload_n (pc := 61) dC_mix_61 rfl rfl ?_
      refine z_iconst (pc := 62) dC_mix_62 zi_2 ?_
      refine z_iadd (pc := 63) dC_mix_63 ?_
      refine z_iconst (pc := 64) dC_mix_64 zi_4 ?_
      refine z_irem (pc := 65) dC_mix_65 (by omega) (by omega) (by omega) ?_
      refine z_iadd (pc := 66) dC_mix_66 ?_
      refine z_iaload (pc := 67) za_18 (by omega) dC_mix_67 ?_
      refine z_ixor (pc := 68) dC_mix_68 ?_
      refine z_aload_n (pc := 69) dC_mix_69 rfl rfl ?_
      refine z_getR (pc := 70) zo_14 rfl zf_C_25_0 dC_mix_70 ?_
      refine z_iconst (pc := 73) dC_mix_73 zi_4 ?_
      refine z_iload_n (pc := 74) dC_mix_74 rfl rfl ?_
      refine z_imul (pc := 75) dC_mix_75 ?_
      refine z_iload_n (pc := 76) dC_mix_76 rfl rfl ?_
      refine z_iconst (pc := 77) dC_mix_77 zi_3 ?_
      refine z_iadd (pc := 78) dC_mix_78 ?_
      refine z_iconst (pc := 79) dC_mix_79 zi_4 ?_
      refine z_irem (pc := 80) dC_mix_80 (by omega) (by omega) (by omega) ?_
      refine z_iadd (pc := 81) dC_mix_81 ?_
      refine z_iaload (pc := 82) za_18 (by omega) dC_mix_82 ?_
      refine z_ixor (pc := 83) dC_mix_83 ?_
      refine z_iastore (pc := 84) za_17 (by omega) dC_mix_84 ?_
      refine z_iinc (L' := [(2, _), (1, _), (0, _)]) (pc := 85) dC_mix_85 rfl zi_1 (by decide) rfl ?_
      refine z_goto (pc := 88) (tgt := 9) dC_mix_88 rfl ?_
      refine z_wd (z_map_set ?_) rfl kr
      rw [z_map_ne (by decide), zmx, show (4 * c + r) / 4 = c by omega, show (4 * c + r) % 4 = r by omega]
    · refine z_iload_n (pc := 9) dC_mix_9 rfl rfl ?_
      refine z_iconst (pc := 10) dC_mix_10 zi_4 ?_
      refine z_icmp_ge (pc := 11) (by omega) (by omega) (tgt := 91) dC_mix_11 rfl (fun h => ?_) (fun h => by exfalso; omega)
      refine z_iinc (L' := [(1, _), (2, _), (0, _)]) (pc := 91) dC_mix_91 rfl zi_1 (by decide) rfl ?_
      refine z_goto (pc := 94) (tgt := 2) dC_mix_94 rfl ?_
      refine z_ls (L' := [(1, _), (0, _)]) [0, 2] rfl ?_
      exact z_wd (by rw [show 4 * (c + 1) = 4 * c + 4 by omega]) rfl kc
  · refine z_iload_n (pc := 2) dC_mix_2 rfl rfl ?_
    refine z_iconst (pc := 3) dC_mix_3 zi_4 ?_
    refine z_icmp_ge (pc := 4) (by omega) (by omega) (tgt := 97) dC_mix_4 rfl (fun h => ?_) (fun h => by exfalso; omega)
    exact z_ret0 (pc := 97) dC_mix_97 (hEx _ _ _ (⟨rfl, rfl, rfl⟩))
theorem c_encipher {f nf t nt : Nat} {W : Nat → Nat} (hf : z_ia f nf) (hnf : 16 ≤ nf) (ht : z_ia t nt) (hnt : 16 ≤ nt) (ht17 : t ≠ 17) (ht18 : t ≠ 18) (hb : z_box A 15) (hW : ∀ j, j < 176 → A 16 j = W j) (hWb : ∀ j, j < 176 → W j < 256) (hx : ∀ j, j < 16 → A f j < 256) : z_Met l g ad mC_encipher (z_rm 3) [.ref (ad 14), .ref (ad f), .ref (ad t)] A B (z_vd (fun A' B' => B = B' ∧ (∀ k, k ≠ 17 → k ≠ 18 → k ≠ t → A' k = A k) ∧ (∀ j, j < 16 → A' t j = zEs W (A f) 10 j) ∧ ∀ j, 16 ≤ j → A' t j = A t j)) := by
  refine z_Met.of (L := [(0, _), (1, _), (2, _)]) (by decide) (Nat.le_of_ble_eq_true rfl) z_fit_vd rfl ?_
  intro Ex hEx
  refine z_aload_n (pc := 0) dC_encipher_0 rfl rfl ?_
  refine z_iconst (pc := 1) dC_encipher_1 zi_0 ?_
  refine z_aload_n (pc := 2) dC_encipher_2 rfl rfl ?_
  refine z_getR (pc := 3) zo_14 rfl zf_C_22_0 dC_encipher_3 ?_
  refine z_iconst (pc := 6) dC_encipher_6 zi_0 ?_
  refine z_bipush (pc := 7) dC_encipher_7 zb_16 ?_
  refine z_copy (pc := 9) hf za_17 (by omega) (by omega) zy_C_42 (by decide) (Nat.le_of_ble_eq_true rfl) (by decide) dC_encipher_9 ?_
  refine z_aload_n (pc := 12) dC_encipher_12 rfl rfl ?_
  refine z_iconst (pc := 13) dC_encipher_13 zi_0 ?_
  refine z_callV (pc := 14) (c_addWords (r := 0) (by omega)) (by decide) zo_14 rfl zc_C_56 rfl rfl (Nat.le_of_ble_eq_true rfl) z_cn0 dC_encipher_14 (fun r A' B' hE => ?_)
  obtain ⟨rfl, rfl, rfl⟩ := hE
  refine z_r0 ?_
  refine z_iconst (pc := 17) dC_encipher_17 zi_1 ?_
  refine z_istore_n (L' := [(3, _), (0, _), (1, _), (2, _)]) (pc := 18) dC_encipher_18 rfl (by decide) rfl ?_
  refine z_loop 10 (fun m L A' B' => L = [(3, .int (nI (m + 1))), (0, .ref (ad 14)), (1, .ref (ad f)), (2, .ref (ad t))] ∧ B = B' ∧ (∀ k, k ≠ 17 → k ≠ 18 → A' k = A k) ∧ ∀ j, j < 16 → A' 17 j = zEs W (A f) m j) ?_ ?_ _ _ _ ⟨rfl, rfl, ?_, ?_⟩
  · rintro m L A' B' hm ⟨rfl, rfl, hA, hs⟩ km
    have hsb := zEs_by hWb hx m (by omega)
    refine z_iload_n (pc := 19) dC_encipher_19 rfl rfl ?_
    refine z_bipush (pc := 20) dC_encipher_20 zb_10 ?_
    refine z_icmp_gt (pc := 22) (by omega) (by omega) (tgt := 68) dC_encipher_22 rfl (fun h => by exfalso; omega) (fun h => ?_)
    refine z_aload_n (pc := 25) dC_encipher_25 rfl rfl ?_
    refine z_callV (pc := 26) (c_boxAndMove (fun j hj => by rw [hA 15 (by decide) (by decide)]; exact hb j hj) (fun j hj => by rw [hs j hj]; exact hsb j hj)) (by decide) zo_14 rfl zc_C_59 rfl rfl (Nat.le_of_ble_eq_true rfl) z_cn0 dC_encipher_26 (fun r A' B' hE => ?_)
    obtain ⟨rfl, rfl, rfl⟩ := hE
    refine z_r0 ?_
    refine z_iload_n (pc := 29) dC_encipher_29 rfl rfl ?_
    refine z_bipush (pc := 30) dC_encipher_30 zb_10 ?_
    refine z_icmp_ge (pc := 32) (by omega) (by omega) (tgt := 42) dC_encipher_32 rfl (fun h9 => ?_) (fun h9 => ?_)
    · have hR : ∀ j, j < 16 → zEs W (A f) (m + 1) j = zmv (zEs W (A f) m) j ^^^ W (16 * (m + 1) + j) := fun j hj => by show zrd W (m + 1) _ j = _; rw [zrd, if_neg (by omega)]
      refine z_aload_n (pc := 42) dC_encipher_42 rfl rfl ?_
      refine z_getR (pc := 43) zo_14 rfl zf_C_25_0 dC_encipher_43 ?_
      refine z_iconst (pc := 46) dC_encipher_46 zi_0 ?_
      refine z_aload_n (pc := 47) dC_encipher_47 rfl rfl ?_
      refine z_getR (pc := 48) zo_14 rfl zf_C_22_0 dC_encipher_48 ?_
      refine z_iconst (pc := 51) dC_encipher_51 zi_0 ?_
      refine z_bipush (pc := 52) dC_encipher_52 zb_16 ?_
      refine z_copy (pc := 54) za_18 za_17 (by omega) (by omega) zy_C_42 (by decide) (Nat.le_of_ble_eq_true rfl) (by decide) dC_encipher_54 ?_
      refine z_aload_n (pc := 57) dC_encipher_57 rfl rfl ?_
      refine z_iload_n (pc := 58) dC_encipher_58 rfl rfl ?_
      refine z_callV (pc := 59) (c_addWords (r := m + 1) (by omega)) (by decide) zo_14 rfl zc_C_56 rfl rfl (Nat.le_of_ble_eq_true rfl) z_cn0 dC_encipher_59 (fun r A' B' hE => ?_)
      obtain ⟨rfl, rfl, rfl⟩ := hE
      refine z_r0 ?_
      refine z_iinc (L' := [(3, _), (0, _), (1, _), (2, _)]) (pc := 62) dC_encipher_62 rfl zi_1 (by decide) rfl ?_
      refine z_goto (pc := 65) (tgt := 19) dC_encipher_65 rfl ?_
      refine km _ _ _ ⟨rfl, rfl, fun k h17 h18 => by rw [z_map_ne h17, z_seg_ne h17, z_map_ne h18, hA k h17 h18], fun j hj => ?_⟩
      rw [z_map_lt hj, z_seg_ne (i := 16) (by decide), z_map_ne (i := 16) (by decide), hA 16 (by decide) (by decide), hW _ (by omega), hR j hj, z_seg_in (Nat.zero_le _) (by omega), Nat.zero_add, Nat.sub_zero, z_map_lt hj, zmv_cg hs j hj]
    · have hR : ∀ j, j < 16 → zEs W (A f) (m + 1) j = zmx (zmv (zEs W (A f) m)) j ^^^ W (16 * (m + 1) + j) := fun j hj => by show zrd W (m + 1) _ j = _; rw [zrd, if_pos (by omega)]
      refine z_aload_n (pc := 35) dC_encipher_35 rfl rfl ?_
      refine z_callV (pc := 36) (c_mix (fun j hj => by rw [z_map_lt hj]; exact zmv_lt (fun j' h' => by rw [hs j' h']; exact hsb j' h') j hj)) (by decide) zo_14 rfl zc_C_62 rfl rfl (Nat.le_of_ble_eq_true rfl) z_cn0 dC_encipher_36 (fun r A' B' hE => ?_)
      obtain ⟨rfl, rfl, rfl⟩ := hE
      refine z_r0 ?_
      refine z_goto (pc := 39) (tgt := 57) dC_encipher_39 rfl ?_
      refine z_aload_n (pc := 57) dC_encipher_57 rfl rfl ?_
      refine z_iload_n (pc := 58) dC_encipher_58 rfl rfl ?_
      refine z_callV (pc := 59) (c_addWords (r := m + 1) (by omega)) (by decide) zo_14 rfl zc_C_56 rfl rfl (Nat.le_of_ble_eq_true rfl) z_cn0 dC_encipher_59 (fun r A' B' hE => ?_)
      obtain ⟨rfl, rfl, rfl⟩ := hE
      refine z_r0 ?_
      refine z_iinc (L' := [(3, _), (0, _), (1, _), (2, _)]) (pc := 62) dC_encipher_62 rfl zi_1 (by decide) rfl ?_
      refine z_goto (pc := 65) (tgt := 19) dC_encipher_65 rfl ?_
      refine km _ _ _ ⟨rfl, rfl, fun k h17 h18 => by rw [z_map_ne h17, z_map_ne h17, z_map_ne h18, hA k h17 h18], fun j hj => ?_⟩
      rw [z_map_lt hj, z_map_ne (i := 16) (by decide), z_map_ne (i := 16) (by decide), hA 16 (by decide) (by decide), hW _ (by omega), hR j hj, z_map_lt hj, zmx_cg (s' := zmv (zEs W (A f) m)) (fun j' h' => by rw [z_map_lt h']; exact zmv_cg hs j' h') j hj]
  · rintro L A' B' ⟨rfl, rfl, hA, hs⟩
    refine z_iload_n (pc := 19) dC_encipher_19 rfl rfl ?_
    refine z_bipush (pc := 20) dC_encipher_20 zb_10 ?_
    refine z_icmp_gt (pc := 22) (by omega) (by omega) (tgt := 68) dC_encipher_22 rfl (fun h => ?_) (fun h => by exfalso; omega)
    refine z_aload_n (pc := 68) dC_encipher_68 rfl rfl ?_
    refine z_getR (pc := 69) zo_14 rfl zf_C_22_0 dC_encipher_69 ?_
    refine z_iconst (pc := 72) dC_encipher_72 zi_0 ?_
    refine z_aload_n (pc := 73) dC_encipher_73 rfl rfl ?_
    refine z_iconst (pc := 74) dC_encipher_74 zi_0 ?_
    refine z_bipush (pc := 75) dC_encipher_75 zb_16 ?_
    refine z_copy (pc := 77) za_17 ht (by omega) (by omega) zy_C_42 (by decide) (Nat.le_of_ble_eq_true rfl) (by decide) dC_encipher_77 ?_
    exact z_ret0 (pc := 80) dC_encipher_80 (hEx _ _ _ (⟨rfl, rfl, fun k h17 h18 hk => by rw [z_seg_ne hk, hA k h17 h18], fun j hj => by rw [z_seg_in (Nat.zero_le _) (by omega), Nat.zero_add, Nat.sub_zero, hs j hj], fun j hj => by rw [z_seg_out (Or.inr (by omega)), hA t ht17 ht18]⟩))
  · intro k h17 h18
    rw [z_map_ne h17, z_seg_ne h17]
  · intro j hj
    rw [z_map_lt hj, z_seg_ne (i := 16) (by decide), hW _ (by omega), z_seg_in (Nat.zero_le _) (by omega), Nat.zero_add, Nat.sub_zero]
    rfl
end
end
section
/-! numbers from bits -/
def zbits (p : Nat → Bool) : Nat → Nat
  | 0 => 0
  | n + 1 => zbits p n ||| (p n).toNat * 2 ^ n
theorem z_tbm (b : Bool) (n i : Nat) : (b.toNat * 2 ^ n).testBit i = (b && decide (i = n)) := by
  cases b
  · simp
  · rw [Bool.toNat_true, Nat.one_mul, Nat.testBit_two_pow]
    by_cases h : n = i
    · subst h; simp
    · have h' : ¬ i = n := fun q => h q.symm
      simp [h, h']
theorem zbits_tb (p : Nat → Bool) : ∀ n i, (zbits p n).testBit i = (decide (i < n) && p i)
  | 0, i => by simp [zbits]
  | n + 1, i => by
    rw [zbits, Nat.testBit_or, zbits_tb p n i, z_tbm]
    by_cases h1 : i = n
    · subst h1; simp
    · by_cases h2 : i < n
      · have : i < n + 1 := by omega
        simp [h1, h2, this]
      · have : ¬ i < n + 1 := by omega
        simp [h1, h2, this]
theorem z_lt_tb {x n : Nat} (h : ∀ i, n ≤ i → x.testBit i = false) : x < 2 ^ n := Nat.lt_pow_two_of_testBit x h
theorem zbits_lt (p : Nat → Bool) (n : Nat) : zbits p n < 2 ^ n := z_lt_tb (fun i h => by rw [zbits_tb]; simp [Nat.not_lt.mpr h])
theorem zbits_cg {p q : Nat → Bool} {n : Nat} (h : ∀ i, i < n → p i = q i) : zbits p n = zbits q n := by
  apply Nat.eq_of_testBit_eq
  intro i
  rw [zbits_tb, zbits_tb]
  by_cases hi : i < n
  · rw [h i hi]
  · simp [hi]
/-- bits from n on are off: the longer number is the same -/
theorem zbits_ext {p : Nat → Bool} {n m : Nat} (hnm : n ≤ m) (h : ∀ i, n ≤ i → i < m → p i = false) : zbits p m = zbits p n := by
  apply Nat.eq_of_testBit_eq
  intro i
  rw [zbits_tb, zbits_tb]
  by_cases h1 : i < n
  · have : i < m := by omega
    simp [h1, this]
  · by_cases h2 : i < m
    · simp [h1, h2, h i (by omega) h2]
    · simp [h1, h2]
theorem z_tb1 (x b : Nat) : x / 2 ^ b &&& 1 = (x.testBit b).toNat := by rw [z_and1, Nat.toNat_testBit]
theorem z_tb_lt {x n i : Nat} (h : x < 2 ^ n) (hi : n ≤ i) : x.testBit i = false := Nat.testBit_lt_two_pow (Nat.lt_of_lt_of_le h (Nat.pow_le_pow_right (by decide) hi))
/-! the field: one step of the reduction, all of it, the product -/
def zst (ov i P : Nat) : Nat := P ^^^ ((P.testBit i).toNat * ((2 ^ 128 + ov) * 2 ^ (i - 128)))
def zred (ov : Nat) : Nat → Nat → Nat
  | 0, P => P
  | n + 1, P => zred ov n (zst ov (128 + n) P)
def zxt (ov T : Nat) : Nat := zred ov 1 (2 * T)
def zx (ov H : Nat) : Nat → Nat
  | 0 => H
  | k + 1 => zxt ov (zx ov H k)
def zml (ov S H : Nat) : Nat → Nat
  | 0 => 0
  | k + 1 => zml ov S H k ^^^ (S.testBit k).toNat * zx ov H k
def zmP (S H : Nat) : Nat → Nat
  | 0 => 0
  | k + 1 => zmP S H k ^^^ (S.testBit k).toNat * (H * 2 ^ k)
theorem z_bxor (a b : Bool) (c : Nat) : (a ^^ b).toNat * c = a.toNat * c ^^^ b.toNat * c := by
  cases a <;> cases b <;> simp
theorem zst_xor (ov i a b : Nat) : zst ov i (a ^^^ b) = zst ov i a ^^^ zst ov i b := by
  unfold zst
  rw [Nat.testBit_xor, z_bxor]
  generalize (a.testBit i).toNat * ((2 ^ 128 + ov) * 2 ^ (i - 128)) = x
  generalize (b.testBit i).toNat * ((2 ^ 128 + ov) * 2 ^ (i - 128)) = y
  rw [Nat.xor_assoc, Nat.xor_assoc]
  congr 1
  rw [← Nat.xor_assoc, ← Nat.xor_assoc, Nat.xor_comm b x]
theorem zst_0 (ov i : Nat) : zst ov i 0 = 0 := by simp [zst]
theorem zred_xor (ov : Nat) : ∀ n a b, zred ov n (a ^^^ b) = zred ov n a ^^^ zred ov n b
  | 0, a, b => rfl
  | n + 1, a, b => by rw [zred, zst_xor, zred_xor ov n]; rfl
theorem zred_0 (ov : Nat) : ∀ n, zred ov n 0 = 0
  | 0 => rfl
  | n + 1 => by rw [zred, zst_0, zred_0 ov n]
theorem zst_skip {ov i P : Nat} (h : P.testBit i = false) : zst ov i P = P := by simp [zst, h]
theorem zst_lt {ov n P : Nat} (hov : ov < 2 ^ 128) (h : P < 2 ^ (128 + (n + 1))) : zst ov (128 + n) P < 2 ^ (128 + n) := by
  have hq : (2 ^ 128 + ov) * 2 ^ n < 2 ^ (128 + (n + 1)) := by
    have : 2 ^ (128 + (n + 1)) = 2 ^ 129 * 2 ^ n := by rw [← Nat.pow_add]; congr 1; omega
    rw [this]
    exact Nat.mul_lt_mul_of_pos_right (by omega) (Nat.two_pow_pos n)
  have hb : ((2 ^ 128 + ov) * 2 ^ n).testBit (128 + n) = true := by
    rw [Nat.testBit_mul_two_pow]
    have : 128 + n - n = 128 := by omega
    rw [this, Nat.testBit_two_pow_add_eq, z_tb_lt hov (Nat.le_refl _)]
    simp
  apply z_lt_tb
  intro i hi
  unfold zst
  rw [show 128 + n - 128 = n by omega, Nat.testBit_xor]
  cases hP : P.testBit (128 + n) with
  | false =>
    rw [Bool.toNat_false, Nat.zero_mul, Nat.zero_testBit, Bool.xor_false]
    by_cases h2 : i = 128 + n
    · rw [h2]; exact hP
    · exact z_tb_lt h (by omega)
  | true =>
    rw [Bool.toNat_true, Nat.one_mul]
    by_cases h2 : i = 128 + n
    · rw [h2, hP, hb]; rfl
    · rw [z_tb_lt h (by omega), z_tb_lt hq (by omega)]; rfl
theorem z_tb2 (v k : Nat) : (2 * v).testBit (k + 1) = v.testBit k := by rw [Nat.testBit_succ, Nat.mul_div_cancel_left _ (by decide : 0 < 2)]
theorem zst_two (ov n v : Nat) : zst ov (128 + (n + 1)) (2 * v) = 2 * zst ov (128 + n) v := by
  unfold zst
  have e : (2 * v).testBit (128 + (n + 1)) = v.testBit (128 + n) := by
    exact z_tb2 v (128 + n)
  rw [e, show 128 + (n + 1) - 128 = n + 1 by omega, show 128 + n - 128 = n by omega]
  cases v.testBit (128 + n) with
  | false => simp
  | true =>
    have e2 : ∀ q : Nat, q * 2 ^ (n + 1) = 2 * (q * 2 ^ n) := fun q => by rw [Nat.pow_succ, ← Nat.mul_assoc, Nat.mul_comm]
    rw [Bool.toNat_true, Nat.one_mul, Nat.one_mul, e2]
    apply Nat.eq_of_testBit_eq
    intro i
    rw [Nat.testBit_xor]
    cases i with
    | zero => simp
    | succ i => rw [z_tb2, z_tb2, z_tb2, Nat.testBit_xor]
theorem zred_two {ov : Nat} (hov : ov < 2 ^ 128) : ∀ n v, v < 2 ^ (128 + n) → zred ov (n + 1) (2 * v) = zred ov 1 (2 * zred ov n v)
  | 0, v, _ => rfl
  | n + 1, v, h => by
    have h1 : zst ov (128 + n) v < 2 ^ (128 + n) := zst_lt hov h
    show zred ov (n + 1) (zst ov (128 + (n + 1)) (2 * v)) = zred ov 1 (2 * zred ov n (zst ov (128 + n) v))
    rw [zst_two, zred_two hov n _ h1]
theorem zred_lt {ov : Nat} (hov : ov < 2 ^ 128) : ∀ n v, v < 2 ^ (128 + n) → zred ov n v < 2 ^ 128
  | 0, v, h => h
  | n + 1, v, h => zred_lt hov n _ (zst_lt hov h)
/-- steps above the number do nothing -/
theorem zred_up {ov : Nat} : ∀ n m v, v < 2 ^ (128 + n) → n ≤ m → zred ov m v = zred ov n v := by
  intro n m
  induction m with
  | zero => intro v _ h; have : n = 0 := by omega
            subst this; rfl
  | succ m ih =>
    intro v hv h
    by_cases e : n = m + 1
    · rw [e]
    · rw [zred, zst_skip (z_tb_lt hv (by omega))]
      exact ih v hv (by omega)
theorem zx_lt {ov H : Nat} (hov : ov < 2 ^ 128) (hH : H < 2 ^ 128) : ∀ k, zx ov H k < 2 ^ 128
  | 0 => hH
  | k + 1 => by
    have := zx_lt hov hH k
    exact zred_lt hov 1 _ (by rw [show 128 + 1 = 129 from rfl]; omega)
theorem zred_shift {ov H : Nat} (hov : ov < 2 ^ 128) (hH : H < 2 ^ 128) : ∀ k, zred ov k (H * 2 ^ k) = zx ov H k
  | 0 => by rw [Nat.pow_zero, Nat.mul_one]; rfl
  | k + 1 => by
    have hb : H * 2 ^ k < 2 ^ (128 + k) := by rw [Nat.pow_add]; exact Nat.mul_lt_mul_of_pos_right hH (Nat.two_pow_pos k)
    rw [show H * 2 ^ (k + 1) = 2 * (H * 2 ^ k) by rw [Nat.pow_succ, ← Nat.mul_assoc, Nat.mul_comm], zred_two hov k _ hb, zred_shift hov hH k]
    rfl
theorem zred_sh128 {ov H : Nat} (hov : ov < 2 ^ 128) (hH : H < 2 ^ 128) {k : Nat} (hk : k ≤ 128) : zred ov 128 (H * 2 ^ k) = zx ov H k := by
  have hb : H * 2 ^ k < 2 ^ (128 + k) := by rw [Nat.pow_add]; exact Nat.mul_lt_mul_of_pos_right hH (Nat.two_pow_pos k)
  rw [zred_up k 128 _ hb hk, zred_shift hov hH]
theorem zred_mP {ov H : Nat} (S : Nat) (hov : ov < 2 ^ 128) (hH : H < 2 ^ 128) : ∀ k, k ≤ 128 → zred ov 128 (zmP S H k) = zml ov S H k
  | 0, _ => zred_0 ov 128
  | k + 1, h => by
    rw [zmP, zred_xor, zred_mP S hov hH k (by omega), zml]
    congr 1
    cases S.testBit k with
    | false => rw [Bool.toNat_false, Nat.zero_mul, Nat.zero_mul, zred_0]
    | true => rw [Bool.toNat_true, Nat.one_mul, Nat.one_mul, zred_sh128 hov hH (by omega)]
theorem zml_lt {ov S H : Nat} (hov : ov < 2 ^ 128) (hH : H < 2 ^ 128) : ∀ k, zml ov S H k < 2 ^ 128
  | 0 => Nat.two_pow_pos 128
  | k + 1 => by
    rw [zml]
    apply Nat.xor_lt_two_pow (zml_lt hov hH k)
    cases S.testBit k with
    | false => rw [Bool.toNat_false, Nat.zero_mul]; decide
    | true => rw [Bool.toNat_true, Nat.one_mul]; exact zx_lt hov hH k
theorem zmP_skip {S H a : Nat} : ∀ b, a ≤ b → (∀ i, a ≤ i → i < b → S.testBit i = false) → zmP S H b = zmP S H a := by
  intro b
  induction b with
  | zero => intro h _; have : a = 0 := by omega
            subst this; rfl
  | succ b ih =>
    intro h hs
    by_cases e : a = b + 1
    · rw [e]
    · rw [zmP, hs b (by omega) (by omega), Bool.toNat_false, Nat.zero_mul, Nat.xor_zero]
      exact ih (by omega) (fun i h1 h2 => hs i h1 (by omega))
theorem zmP_on {S H k : Nat} (h : S.testBit k = true) : zmP S H (k + 1) = zmP S H k ^^^ H * 2 ^ k := by rw [zmP, h, Bool.toNat_true, Nat.one_mul]
def zmul (ov S H : Nat) : Nat := zml ov S H 128
/-- the two polynomials -/
def zovO : Nat := 135
def zovI : Nat := 2 ^ 64 * 13979173243358019584 + 1
def zbes : Nat := 2 ^ 64 * 10521534629444321280 + 1
theorem zovO_lt : zovO < 2 ^ 128 := by decide
theorem zovI_lt : zovI < 2 ^ 128 := by decide
/-- the inward key -/
theorem z_besides {ov H : Nat} (hov : ov < 2 ^ 128) (hH : H < 2 ^ 128) : zmul ov zbes H = zred ov 128 (((((0 ^^^ H * 2 ^ 127) ^^^ H * 2 ^ 124) ^^^ H * 2 ^ 121) ^^^ H * 2 ^ 114) ^^^ H * 2 ^ 0) := by
  have key : ∀ a b c d e : Nat, ((((0 ^^^ e) ^^^ d) ^^^ c) ^^^ b) ^^^ a = ((((0 ^^^ a) ^^^ b) ^^^ c) ^^^ d) ^^^ e := by
    intro a b c d e
    apply Nat.eq_of_testBit_eq
    intro i
    simp only [Nat.testBit_xor, Nat.zero_testBit]
    cases a.testBit i <;> cases b.testBit i <;> cases c.testBit i <;> cases d.testBit i <;> cases e.testBit i <;> rfl
  rw [zmul, ← zred_mP zbes hov hH 128 (Nat.le_refl _)]
  congr 1
  have off : ∀ i, i < 128 → (zbes.testBit i = false ∨ i = 0 ∨ i = 114 ∨ i = 121 ∨ i = 124 ∨ i = 127) := by decide +kernel
  rw [zmP_on (k := 127) (by decide +kernel), zmP_skip (a := 125) 127 (by omega) (fun i h1 h2 => (off i (by omega)).resolve_right (by omega)),
    zmP_on (k := 124) (by decide +kernel), zmP_skip (a := 122) 124 (by omega) (fun i h1 h2 => (off i (by omega)).resolve_right (by omega)),
    zmP_on (k := 121) (by decide +kernel), zmP_skip (a := 115) 121 (by omega) (fun i h1 h2 => (off i (by omega)).resolve_right (by omega)),
    zmP_on (k := 114) (by decide +kernel), zmP_skip (a := 1) 114 (by omega) (fun i h1 h2 => (off i (by omega)).resolve_right (by omega)),
    zmP_on (k := 0) (by decide +kernel), zmP]
  exact key (H * 2 ^ 127) (H * 2 ^ 124) (H * 2 ^ 121) (H * 2 ^ 114) (H * 2 ^ 0)
/-! a number in two longs -/
theorem z_jn_tb {h l : Nat} (hl : l < 2 ^ 64) (i : Nat) : (2 ^ 64 * h + l).testBit i = if i < 64 then l.testBit i else h.testBit (i - 64) := Nat.testBit_two_pow_mul_add h hl i
theorem z_jn_xor {a b c d : Nat} (hb : b < 2 ^ 64) (hd : d < 2 ^ 64) : (2 ^ 64 * a + b) ^^^ (2 ^ 64 * c + d) = 2 ^ 64 * (a ^^^ c) + (b ^^^ d) := by
  apply Nat.eq_of_testBit_eq
  intro i
  rw [Nat.testBit_xor, z_jn_tb hb, z_jn_tb hd, z_jn_tb (Nat.xor_lt_two_pow hb hd), Nat.testBit_xor, Nat.testBit_xor]
  split <;> rfl
/-- doubling: the high and the low half -/
def zth (th tl : Nat) : Nat := (2 * th + tl / 2 ^ 63) % 2 ^ 64
def ztl (tl : Nat) : Nat := 2 * tl % 2 ^ 64
theorem zxt_jn {oh ol th tl : Nat} (hoh : oh < 2 ^ 64) (hol : ol < 2 ^ 64) (h1 : th < 2 ^ 64) (h2 : tl < 2 ^ 64) :
    zxt (2 ^ 64 * oh + ol) (2 ^ 64 * th + tl) = if th < 2 ^ 63 then 2 ^ 64 * zth th tl + ztl tl else 2 ^ 64 * (zth th tl ^^^ oh) + (ztl tl ^^^ ol) := by
  have hz : ztl tl < 2 ^ 64 := Nat.mod_lt _ (by decide)
  show zst _ 128 (2 * (2 ^ 64 * th + tl)) = _
  unfold zst
  rw [show 128 - 128 = 0 from rfl, Nat.pow_zero, Nat.mul_one]
  by_cases h : th < 2 ^ 63
  · rw [if_pos h, z_tb_lt (n := 128) (by omega) (Nat.le_refl _), Bool.toNat_false, Nat.zero_mul, Nat.xor_zero]
    unfold zth ztl
    omega
  · rw [if_neg h]
    have e : 2 * (2 ^ 64 * th + tl) = 2 ^ 128 + (2 ^ 64 * zth th tl + ztl tl) := by unfold zth ztl; omega
    have hlt : 2 ^ 64 * zth th tl + ztl tl < 2 ^ 128 := by
      have : zth th tl < 2 ^ 64 := Nat.mod_lt _ (by decide)
      omega
    have hb : (2 * (2 ^ 64 * th + tl)).testBit 128 = true := by
      rw [e, Nat.testBit_two_pow_add_eq, z_tb_lt hlt (Nat.le_refl _)]; rfl
    rw [hb, Bool.toNat_true, Nat.one_mul, e, ← z_jn_xor hz hol]
    have h128 : ∀ x y : Nat, x < 2 ^ 128 → y < 2 ^ 128 → (2 ^ 128 + x) ^^^ (2 ^ 128 + y) = x ^^^ y := by
      intro x y hx hy
      apply Nat.eq_of_testBit_eq
      intro i
      have k1 := Nat.testBit_two_pow_mul_add 1 hx i
      have k2 := Nat.testBit_two_pow_mul_add 1 hy i
      rw [Nat.mul_one] at k1 k2
      rw [Nat.testBit_xor, Nat.testBit_xor, k1, k2]
      by_cases hi : i < 128
      · simp [hi]
      · rw [if_neg hi, if_neg hi, z_tb_lt hx (by omega), z_tb_lt hy (by omega), Bool.xor_self]; rfl
    exact h128 _ _ hlt (by omega)
/-! blocks as numbers, numbers as blocks -/
def zp (mr : Nat) (b : Nat → Nat) (fr len k : Nat) : Bool := decide (fr + k / 8 < len) && (b (fr + k / 8)).testBit (k % 8 ^^^ mr)
def zblk (mr : Nat) (b : Nat → Nat) (fr len : Nat) : Nat := zbits (zp mr b fr len) 128
theorem zblk_jn (mr : Nat) (b : Nat → Nat) (fr len : Nat) : 2 ^ 64 * zbits (zp mr b (fr + 8) len) 64 + zbits (zp mr b fr len) 64 = zblk mr b fr len := by
  apply Nat.eq_of_testBit_eq
  intro i
  rw [z_jn_tb (zbits_lt _ _), zblk, zbits_tb, zbits_tb, zbits_tb]
  by_cases h : i < 64
  · have h2 : i < 128 := by omega
    simp [h, h2]
  · rw [if_neg h]
    by_cases h2 : i < 128
    · have h3 : i - 64 < 64 := by omega
      have e1 : fr + 8 + (i - 64) / 8 = fr + i / 8 := by omega
      have e2 : (i - 64) % 8 = i % 8 := by omega
      simp [h2, h3, zp, e1, e2]
    · have h3 : ¬ i - 64 < 64 := by omega
      simp [h2, h3]
theorem zblk_lt (mr : Nat) (b : Nat → Nat) (fr len : Nat) : zblk mr b fr len < 2 ^ 128 := zbits_lt _ _
theorem zblk_cg {mr : Nat} {b b' : Nat → Nat} {fr len : Nat} (h : ∀ j, j < 16 → fr + j < len → b (fr + j) = b' (fr + j)) : zblk mr b fr len = zblk mr b' fr len := by
  apply zbits_cg
  intro i hi
  unfold zp
  by_cases h2 : fr + i / 8 < len
  · rw [h (i / 8) (by omega) h2]
  · simp [h2]
/-- the sum behind q blocks of a row -/
def zfr (mr ov H : Nat) (b : Nat → Nat) (len S : Nat) : Nat → Nat
  | 0 => S
  | q + 1 => zmul ov (zfr mr ov H b len S q ^^^ zblk mr b (16 * q) len) H
theorem zfr_lt {mr ov H : Nat} {b : Nat → Nat} {len S : Nat} (hov : ov < 2 ^ 128) (hH : H < 2 ^ 128) (hS : S < 2 ^ 128) : ∀ q, zfr mr ov H b len S q < 2 ^ 128
  | 0 => hS
  | q + 1 => zml_lt hov hH 128
theorem zfr_cg {mr ov H : Nat} {b b' : Nat → Nat} {len S : Nat} (h : ∀ j, j < len → b j = b' j) : ∀ q, zfr mr ov H b len S q = zfr mr ov H b' len S q
  | 0 => rfl
  | q + 1 => by rw [zfr, zfr, zfr_cg h q, zblk_cg (fun j _ hj => h _ hj)]
/-- byte m of a number -/
def zbyk (mr X m k : Nat) : Nat := zbits (fun t => decide (8 * m + (t ^^^ mr) < k) && X.testBit (8 * m + (t ^^^ mr))) 8
def zby (mr X m : Nat) : Nat := zbits (fun t => X.testBit (8 * m + (t ^^^ mr))) 8
def zmr (mr : Nat) : Prop := mr = 7 ∨ mr = 0
theorem zmr_lt {mr t : Nat} (h : zmr mr) (ht : t < 8) : t ^^^ mr < 8 := by
  rcases h with rfl | rfl
  · exact Nat.xor_lt_two_pow (n := 3) ht (by decide)
  · rw [Nat.xor_zero]; exact ht
theorem zmr_inv {mr : Nat} (t : Nat) : (t ^^^ mr) ^^^ mr = t := by rw [Nat.xor_assoc, Nat.xor_self, Nat.xor_zero]
theorem zbyk_0 (mr X m : Nat) : zbyk mr X m 0 = 0 := by
  apply Nat.eq_of_testBit_eq
  intro i
  rw [zbyk, zbits_tb]
  simp
theorem zbyk_end {mr X m k : Nat} (hm : zmr mr) (h : 8 * m + 8 ≤ k) : zbyk mr X m k = zby mr X m := by
  apply zbits_cg
  intro t ht
  have := zmr_lt hm ht
  have h2 : 8 * m + (t ^^^ mr) < k := by omega
  simp [h2]
theorem zbyk_at {mr X k : Nat} (hm : zmr mr) : zbyk mr X (k / 8) k ||| (X.testBit k).toNat * 2 ^ (k % 8 ^^^ mr) = zbyk mr X (k / 8) (k + 1) := by
  apply Nat.eq_of_testBit_eq
  intro t
  rw [Nat.testBit_or, z_tbm, zbyk, zbyk, zbits_tb, zbits_tb]
  have hk8 := zmr_lt hm (Nat.mod_lt k (by decide : 0 < 8))
  by_cases ht : t < 8
  · by_cases e : t = k % 8 ^^^ mr
    · subst e
      have e2 : 8 * (k / 8) + k % 8 = k := by omega
      simp [hk8, zmr_inv, e2]
    · have h1 := zmr_lt hm ht
      have h2 : t ^^^ mr ≠ k % 8 := fun q => e (by rw [← q, zmr_inv])
      have h3 : (8 * (k / 8) + (t ^^^ mr) < k) ↔ (8 * (k / 8) + (t ^^^ mr) < k + 1) := by omega
      simp [ht, e, h3]
  · have e : ¬ t = k % 8 ^^^ mr := by omega
    simp [ht, e]
theorem zbyk_ne {mr X k m : Nat} (hm : zmr mr) (h : m ≠ k / 8) : zbyk mr X m (k + 1) = zbyk mr X m k := by
  apply zbits_cg
  intro t ht
  have h1 := zmr_lt hm ht
  have h3 : (8 * m + (t ^^^ mr) < k + 1) ↔ (8 * m + (t ^^^ mr) < k) := by omega
  simp [h3]
theorem zbyk_lt (mr X m k : Nat) : zbyk mr X m k < 256 := zbits_lt _ 8
theorem zby_lt (mr X m : Nat) : zby mr X m < 256 := zbits_lt _ 8
theorem zby_jn {mr h l m : Nat} (hm : zmr mr) (hl : l < 2 ^ 64) : zby mr (2 ^ 64 * h + l) m = if m < 8 then zby mr l m else zby mr h (m - 8) := by
  have key : ∀ t, t < 8 → (2 ^ 64 * h + l).testBit (8 * m + (t ^^^ mr)) = if m < 8 then l.testBit (8 * m + (t ^^^ mr)) else h.testBit (8 * (m - 8) + (t ^^^ mr)) := by
    intro t ht
    have := zmr_lt hm ht
    rw [z_jn_tb hl]
    by_cases h8 : m < 8
    · rw [if_pos h8, if_pos (by omega)]
    · rw [if_neg h8, if_neg (by omega), show 8 * m + (t ^^^ mr) - 64 = 8 * (m - 8) + (t ^^^ mr) by omega]
  by_cases h8 : m < 8
  · rw [if_pos h8]
    exact zbits_cg (fun t ht => by rw [key t ht, if_pos h8])
  · rw [if_neg h8]
    exact zbits_cg (fun t ht => by rw [key t ht, if_neg h8])
end
section
theorem z_fitb {p : Prop} {dp : Decidable p} : z_fit (some .boolean) (some (.int (nI (@ite Nat p dp 1 0)))) := by
  refine Or.inr ⟨rfl, ?_⟩
  by_cases h : p
  · rw [if_pos h]; rfl
  · rw [if_neg h]; rfl
theorem z_lge {a : Nat} (h : a < 2 ^ 64) : lN 0 ≤ lN a ↔ a < 2 ^ 63 := by
  have e0 : (lN 0).toInt = 0 := by decide
  rw [Int64.le_iff_toInt_le, lN_ti h, e0]
  by_cases h2 : a < 2 ^ 63
  · rw [if_pos h2]; exact ⟨fun _ => h2, fun _ => by omega⟩
  · rw [if_neg h2]; exact ⟨fun q => by omega, fun q => absurd q h2⟩
section
variable {l : Launch} {g : z_G} {ad : Nat → Nat} {A B : z_A}
theorem c_hasRoomFor {k kb n w : Nat} (ho : z_ob k 2 [(2, kb), (0, 0)]) (hb : z_ia kb n) (hw : w < 2 ^ 31) : z_Met l g ad mR_hasRoomFor (z_rm 0) [.ref (ad k), .int (nI w)] A B (z_eq (some (.int (nI (if w ≤ n then 1 else 0)))) A B) := by
  refine z_Met.of (L := [(0, _), (1, _)]) (by decide) (Nat.le_of_ble_eq_true rfl) (z_fit_eq z_fitb) rfl ?_
  intro Ex hEx
  have hn := hb.2.2
  refine z_iload_n (pc := 0) dR_hasRoomFor_0 rfl rfl ?_
  refine z_aload_n (pc := 1) dR_hasRoomFor_1 rfl rfl ?_
  refine z_getR (pc := 2) ho rfl zf_R_7_2 dR_hasRoomFor_2 ?_
  refine z_alen (pc := 5) hb dR_hasRoomFor_5 ?_
  refine z_icmp_gt (pc := 6) (by omega) (by omega) (tgt := 13) dR_hasRoomFor_6 rfl (fun h1 => ?_) (fun h2 => ?_)
  · refine z_iconst (pc := 13) dR_hasRoomFor_13 zi_0 ?_
    exact z_reti (pc := 14) dR_hasRoomFor_14 (hEx _ _ _ (⟨by first | rw [if_neg (by omega)] | rw [if_pos (by omega)], rfl, rfl⟩))
  · refine z_iconst (pc := 9) dR_hasRoomFor_9 zi_1 ?_
    refine z_goto (pc := 10) (tgt := 14) dR_hasRoomFor_10 rfl ?_
    exact z_reti (pc := 14) dR_hasRoomFor_14 (hEx _ _ _ (⟨by first | rw [if_neg (by omega)] | rw [if_pos (by omega)], rfl, rfl⟩))
theorem c_has1 {k kb n i : Nat} (ho : z_ob k 2 [(2, kb), (0, 0)]) (hb : z_ia kb n) (hi : i < A k 1) (hl : A k 1 < 2 ^ 31) : z_Met l g ad mR_has (z_rm 0) [.ref (ad k), .int (nI i)] A B (z_eq (some (.int (nI 1))) A B) := by
  refine z_Met.of (L := [(0, _), (1, _)]) (by decide) (Nat.le_of_ble_eq_true rfl) (z_fit_eq (Or.inr ⟨rfl, rfl⟩)) rfl ?_
  intro Ex hEx
  refine z_iload_n (pc := 0) dR_has_0 rfl rfl ?_
  refine z_if_lt (pc := 1) (by omega) (tgt := 16) dR_has_1 rfl (fun h => by exfalso; omega) (fun h => ?_)
  refine z_iload_n (pc := 4) dR_has_4 rfl rfl ?_
  refine z_aload_n (pc := 5) dR_has_5 rfl rfl ?_
  refine z_getI (pc := 6) ho rfl zf_R_13_2 dR_has_6 ?_
  refine z_icmp_ge (pc := 9) (by omega) (by omega) (tgt := 16) dR_has_9 rfl (fun h => by exfalso; omega) (fun h => ?_)
  refine z_iconst (pc := 12) dR_has_12 zi_1 ?_
  refine z_goto (pc := 13) (tgt := 17) dR_has_13 rfl ?_
  exact z_reti (pc := 17) dR_has_17 (hEx _ _ _ (⟨rfl, rfl, rfl⟩))
theorem c_has0 {k kb n : Nat} {x : Int32} (ho : z_ob k 2 [(2, kb), (0, 0)]) (hb : z_ia kb n) (hx : x < 0 ∨ nI (A k 1) ≤ x) : z_Met l g ad mR_has (z_rm 0) [.ref (ad k), .int x] A B (z_eq (some (.int (nI 0))) A B) := by
  refine z_Met.of (L := [(0, _), (1, _)]) (by decide) (Nat.le_of_ble_eq_true rfl) (z_fit_eq (Or.inr ⟨rfl, rfl⟩)) rfl ?_
  intro Ex hEx
  refine z_iload_n (pc := 0) dR_has_0 rfl rfl ?_
  refine z_ifX_lt (pc := 1) (tgt := 16) dR_has_1 rfl (fun h1 => ?_) (fun h1 => ?_)
  · refine z_iconst (pc := 16) dR_has_16 zi_0 ?_
    exact z_reti (pc := 17) dR_has_17 (hEx _ _ _ (⟨rfl, rfl, rfl⟩))
  · refine z_iload_n (pc := 4) dR_has_4 rfl rfl ?_
    refine z_aload_n (pc := 5) dR_has_5 rfl rfl ?_
    refine z_getI (pc := 6) ho rfl zf_R_13_2 dR_has_6 ?_
    refine z_icmpX_ge (pc := 9) (tgt := 16) dR_has_9 rfl (fun h => ?_) (fun h => absurd (hx.resolve_left h1) h)
    refine z_iconst (pc := 16) dR_has_16 zi_0 ?_
    exact z_reti (pc := 17) dR_has_17 (hEx _ _ _ (⟨rfl, rfl, rfl⟩))
theorem c_append {k kb n v : Nat} (ho : z_ob k 2 [(2, kb), (0, 0)]) (hb : z_ia kb n) (hl : A k 1 < n) : z_Met l g ad mR_append (z_rm 0) [.ref (ad k), .int (nI v)] A B (z_eq none (z_set (z_set A kb (A k 1) v) k 1 (z_set A kb (A k 1) v k 1 + 1)) B) := by
  refine z_Met.of (L := [(0, _), (1, _)]) (by decide) (Nat.le_of_ble_eq_true rfl) (z_fit_eq rfl) rfl ?_
  intro Ex hEx
  refine z_aload_n (pc := 0) dR_append_0 rfl rfl ?_
  refine z_getR (pc := 1) ho rfl zf_R_7_2 dR_append_1 ?_
  refine z_aload_n (pc := 4) dR_append_4 rfl rfl ?_
  refine z_getI (pc := 5) ho rfl zf_R_13_2 dR_append_5 ?_
  refine z_iload_n (pc := 8) dR_append_8 rfl rfl ?_
  refine z_iastore (pc := 9) hb (by omega) dR_append_9 ?_
  refine z_aload_n (pc := 10) dR_append_10 rfl rfl ?_
  refine z_dup (pc := 11) dR_append_11 rfl ?_
  refine z_getI (pc := 12) ho rfl zf_R_13_2 dR_append_12 ?_
  refine z_iconst (pc := 15) dR_append_15 zi_1 ?_
  refine z_iadd (pc := 16) dR_append_16 ?_
  refine z_putI (pc := 17) ho rfl zp_R_13_2 dR_append_17 ?_
  exact z_ret0 (pc := 20) dR_append_20 (hEx _ _ _ (⟨rfl, rfl, rfl⟩))
theorem c_become {k kb n k2 kb2 n2 : Nat} (ho : z_ob k 2 [(2, kb), (0, 0)]) (hb : z_ia kb n) (ho2 : z_ob k2 2 [(2, kb2), (0, 0)]) (hb2 : z_ia kb2 n2) (h1 : A k2 1 ≤ n) (h2 : A k2 1 ≤ n2) : z_Met l g ad mR_become (z_rm 1) [.ref (ad k), .ref (ad k2)] A B (z_eq none (z_set (z_seg A kb 0 (A k2 1) (fun j => A kb2 (0 + (j - 0)))) k 1 ((z_seg A kb 0 (A k2 1) (fun j => A kb2 (0 + (j - 0)))) k2 1)) B) := by
  refine z_Met.of (L := [(0, _), (1, _)]) (by decide) (Nat.le_of_ble_eq_true rfl) (z_fit_eq rfl) rfl ?_
  intro Ex hEx
  refine z_aload_n (pc := 0) dR_become_0 rfl rfl ?_
  refine z_getR (pc := 1) ho2 rfl zf_R_7_2 dR_become_1 ?_
  refine z_iconst (pc := 4) dR_become_4 zi_0 ?_
  refine z_aload_n (pc := 5) dR_become_5 rfl rfl ?_
  refine z_getR (pc := 6) ho rfl zf_R_7_2 dR_become_6 ?_
  refine z_iconst (pc := 9) dR_become_9 zi_0 ?_
  refine z_aload_n (pc := 10) dR_become_10 rfl rfl ?_
  refine z_getI (pc := 11) ho2 rfl zf_R_13_2 dR_become_11 ?_
  refine z_copy (pc := 14) hb2 hb (by omega) (by omega) zy_R_17 (by decide) (Nat.le_of_ble_eq_true rfl) (by decide) dR_become_14 ?_
  refine z_aload_n (pc := 17) dR_become_17 rfl rfl ?_
  refine z_aload_n (pc := 18) dR_become_18 rfl rfl ?_
  refine z_getI (pc := 19) ho2 rfl zf_R_13_2 dR_become_19 ?_
  refine z_putI (pc := 22) ho rfl zp_R_13_2 dR_become_22 ?_
  exact z_ret0 (pc := 25) dR_become_25 (hEx _ _ _ (⟨rfl, rfl, rfl⟩))
def zHf (kl : Nat) : List (Nat × Nat) := [(0, 0), (0, 0), (1, 0), (1, 0), (2, kl), (1, 0), (1, 0), (1, 0), (1, 0)]
theorem c_readHalf {k kl c n fr len mr : Nat} (ho : z_ob k 1 (zHf kl)) (hc : z_ia c n) (hlen : len ≤ n) (hfr : fr < 2 ^ 30) (hby : ∀ j, j < len → A c j < 256) (h1 : A k 1 = mr) (hm : zmr mr) : z_Met l g ad mH_readHalf (z_rm 0) [.ref (ad k), .ref (ad c), .int (nI fr), .int (nI len)] A B (z_eq (some (.long (lN (zbits (zp mr (A c) fr len) 64)))) A B) := by
  refine z_Met.of (L := [(0, _), (1, _), (2, _), (3, _)]) (by decide) (Nat.le_of_ble_eq_true rfl) (z_fit_eq rfl) rfl ?_
  intro Ex hEx
  subst h1
  refine z_lconst (pc := 0) dH_readHalf_0 zl_0 ?_
  refine z_lstore (L' := [(4, _), (0, _), (1, _), (2, _), (3, _)]) (pc := 1) dH_readHalf_1 (by decide) rfl ?_
  refine z_iconst (pc := 3) dH_readHalf_3 zi_0 ?_
  refine z_istore (L' := [(6, _), (4, _), (0, _), (1, _), (2, _), (3, _)]) (pc := 4) dH_readHalf_4 (by decide) rfl ?_
  have hn := hc.2.2
  refine z_for (min 64 (8 * (len - fr))) (fun i => [(6, .int (nI i)), (4, .long (lN (zbits (zp (A k 1) (A c) fr len) i))), (0, .ref (ad k)), (1, .ref (ad c)), (2, .int (nI fr)), (3, .int (nI len))]) (fun i => A) (fun i => B) (fun i hi ki => ?_) ?_
  · refine z_iload (pc := 6) dH_readHalf_6 rfl ?_
    refine z_bipush (pc := 8) dH_readHalf_8 zb_64 ?_
    refine z_icmp_ge (pc := 10) (by omega) (by omega) (tgt := 65) dH_readHalf_10 rfl (fun h => by exfalso; omega) (fun h => ?_)
    refine z_iload_n (pc := 13) dH_readHalf_13 rfl rfl ?_
    refine z_iload (pc := 14) dH_readHalf_14 rfl ?_
    refine z_bipush (pc := 16) dH_readHalf_16 zb_8 ?_
    refine z_idiv (pc := 18) dH_readHalf_18 (by omega) (by omega) (by omega) ?_
    refine z_iadd (pc := 19) dH_readHalf_19 ?_
    refine z_iload_n (pc := 20) dH_readHalf_20 rfl rfl ?_
    refine z_icmp_ge (pc := 21) (by omega) (by omega) (tgt := 65) dH_readHalf_21 rfl (fun h => by exfalso; omega) (fun h => ?_)
    refine z_aload_n (pc := 24) dH_readHalf_24 rfl rfl ?_
    refine z_iload_n (pc := 25) dH_readHalf_25 rfl rfl ?_
    refine z_iload (pc := 26) dH_readHalf_26 rfl ?_
    refine z_bipush (pc := 28) dH_readHalf_28 zb_8 ?_
    refine z_idiv (pc := 30) dH_readHalf_30 (by omega) (by omega) (by omega) ?_
    refine z_iadd (pc := 31) dH_readHalf_31 ?_
    refine z_iaload (pc := 32) hc (by omega) dH_readHalf_32 ?_
    refine z_iload (pc := 33) dH_readHalf_33 rfl ?_
    refine z_bipush (pc := 35) dH_readHalf_35 zb_8 ?_
    refine z_irem (pc := 37) dH_readHalf_37 (by omega) (by omega) (by omega) ?_
    refine z_aload_n (pc := 38) dH_readHalf_38 rfl rfl ?_
    refine z_getI (pc := 39) ho rfl zf_H_15_1 dH_readHalf_39 ?_
    refine z_ixor (pc := 42) dH_readHalf_42 ?_
    refine z_ishr (pc := 43) dH_readHalf_43 (by have := hby (fr + i / 8) (by omega); omega) (by have := zmr_lt hm (Nat.mod_lt i (by decide : 0 < 8)); omega) ?_
    refine z_iconst (pc := 44) dH_readHalf_44 zi_1 ?_
    refine z_iand (pc := 45) dH_readHalf_45 ?_
    refine z_top (congrArg (fun x => Value.int (nI x)) (show _ = ((zp (A k 1) (A c) fr len) i).toNat from (by rw [z_tb1, zp, decide_eq_true (show fr + i / 8 < len by omega), Bool.true_and]))) ?_
    refine z_i2l (pc := 46) dH_readHalf_46 (by have := Bool.toNat_lt ((zp (A k 1) (A c) fr len) i); omega) ?_
    refine z_lstore (L' := [(7, _), (6, _), (4, _), (0, _), (1, _), (2, _), (3, _)]) (pc := 47) dH_readHalf_47 (by decide) rfl ?_
    refine z_lload (pc := 49) dH_readHalf_49 rfl ?_
    refine z_lload (pc := 51) dH_readHalf_51 rfl ?_
    refine z_iload (pc := 53) dH_readHalf_53 rfl ?_
    refine z_lshl (pc := 55) dH_readHalf_55 (by omega) ?_
    refine z_lor (pc := 56) dH_readHalf_56 ?_
    refine z_lstore (L' := [(4, _), (7, _), (6, _), (0, _), (1, _), (2, _), (3, _)]) (pc := 57) dH_readHalf_57 (by decide) rfl ?_
    refine z_iinc (L' := [(6, _), (4, _), (7, _), (0, _), (1, _), (2, _), (3, _)]) (pc := 59) dH_readHalf_59 rfl zi_1 (by decide) rfl ?_
    refine z_goto (pc := 62) (tgt := 6) dH_readHalf_62 rfl ?_
    refine z_ls (L' := [(6, _), (4, _), (0, _), (1, _), (2, _), (3, _)]) [0, 1, 3, 4, 5, 6] rfl ?_
    exact ki
  · refine z_iload (pc := 6) dH_readHalf_6 rfl ?_
    refine z_bipush (pc := 8) dH_readHalf_8 zb_64 ?_
    refine z_icmp_ge (pc := 10) (by omega) (by omega) (tgt := 65) dH_readHalf_10 rfl (fun h5 => ?_) (fun h5 => ?_)
    · refine z_lload (pc := 65) dH_readHalf_65 rfl ?_
      exact z_retl (pc := 67) dH_readHalf_67 (hEx _ _ _ (⟨by rw [zbits_ext (n := min 64 (8 * (len - fr))) (by omega) (fun i h6 h7 => by rw [zp, decide_eq_false (by omega), Bool.false_and])], rfl, rfl⟩))
    · refine z_iload_n (pc := 13) dH_readHalf_13 rfl rfl ?_
      refine z_iload (pc := 14) dH_readHalf_14 rfl ?_
      refine z_bipush (pc := 16) dH_readHalf_16 zb_8 ?_
      refine z_idiv (pc := 18) dH_readHalf_18 (by omega) (by omega) (by omega) ?_
      refine z_iadd (pc := 19) dH_readHalf_19 ?_
      refine z_iload_n (pc := 20) dH_readHalf_20 rfl rfl ?_
      refine z_icmp_ge (pc := 21) (by omega) (by omega) (tgt := 65) dH_readHalf_21 rfl (fun h => ?_) (fun h => by exfalso; omega)
      refine z_lload (pc := 65) dH_readHalf_65 rfl ?_
      exact z_retl (pc := 67) dH_readHalf_67 (hEx _ _ _ (⟨by rw [zbits_ext (n := min 64 (8 * (len - fr))) (by omega) (fun i h6 h7 => by rw [zp, decide_eq_false (by omega), Bool.false_and])], rfl, rfl⟩))
theorem z_dbl {th tl : Nat} (h1 : th < 2 ^ 64) (h2 : tl < 2 ^ 64) : lN (th * 2 ^ 1 ||| tl / 2 ^ 63) = lN (zth th tl) := by
  rw [wb_mod]
  congr 1
  have h3 : tl / 2 ^ 63 < 2 ^ 1 := by omega
  rw [show th * 2 ^ 1 = 2 ^ 1 * th by omega, ← Nat.two_pow_add_eq_or_of_lt h3 th]
  rfl
/-- only the hasher's key and sum have changed -/
def z_hB (B B' : z_A) (k : Nat) : Prop := ∀ k' f, k' ≠ k ∨ f < 5 → B' k' f = B k' f
theorem z_hB.rf {B : z_A} {k : Nat} : z_hB B B k := fun _ _ _ => rfl
theorem z_hB.tr {B B' B'' : z_A} {k : Nat} (h : z_hB B B' k) (h' : z_hB B' B'' k) : z_hB B B'' k := fun k' f q => (h' k' f q).trans (h k' f q)
theorem z_hB.set {B B' : z_A} {k f x : Nat} (h : z_hB B B' k) (hf : 5 ≤ f) : z_hB B (z_set B' k f x) k := by
  intro k' f' q
  rw [← h k' f' q]
  by_cases e : k' = k
  · subst e; exact z_set_nj (by omega)
  · rw [z_set_ne e]
/-- the hasher's own constants -/
def z_hw (A B : z_A) (k o mr ov : Nat) : Prop := A k 0 = o ∧ A k 1 = mr ∧ zmr mr ∧ B k 2 < 2 ^ 64 ∧ B k 3 < 2 ^ 64 ∧ 2 ^ 64 * B k 2 + B k 3 = ov
theorem z_hw.mv {A A' B B' : z_A} {k o mr ov : Nat} (h : z_hw A B k o mr ov) (hA : A' k = A k) (hB : z_hB B B' k) : z_hw A' B' k o mr ov := by
  obtain ⟨h0, h1, hm, h2, h3, h4⟩ := h
  refine ⟨by rw [hA]; exact h0, by rw [hA]; exact h1, hm, ?_, ?_, ?_⟩
  · rw [hB k 2 (Or.inr (by decide))]; exact h2
  · rw [hB k 3 (Or.inr (by decide))]; exact h3
  · rw [hB k 2 (Or.inr (by decide)), hB k 3 (Or.inr (by decide))]; exact h4
/-- its key H and its sum S -/
def z_hk (B : z_A) (k H S : Nat) : Prop := B k 5 < 2 ^ 64 ∧ B k 6 < 2 ^ 64 ∧ B k 7 < 2 ^ 64 ∧ B k 8 < 2 ^ 64 ∧ 2 ^ 64 * B k 5 + B k 6 = H ∧ 2 ^ 64 * B k 7 + B k 8 = S
theorem z_hk.lt {B : z_A} {k H S : Nat} (h : z_hk B k H S) : H < 2 ^ 128 ∧ S < 2 ^ 128 := by
  obtain ⟨h5, h6, h7, h8, e1, e2⟩ := h
  omega
theorem z_hk.s78 {B : z_A} {k H S x y : Nat} (h : z_hk B k H S) (hx : x < 2 ^ 64) (hy : y < 2 ^ 64) : z_hk (z_set (z_set B k 7 x) k 8 y) k H (2 ^ 64 * x + y) := by
  obtain ⟨h5, h6, h7, h8, e1, e2⟩ := h
  have a5 : z_set (z_set B k 7 x) k 8 y k 5 = B k 5 := by rw [z_set_nj (by decide), z_set_nj (by decide)]
  have a6 : z_set (z_set B k 7 x) k 8 y k 6 = B k 6 := by rw [z_set_nj (by decide), z_set_nj (by decide)]
  have a7 : z_set (z_set B k 7 x) k 8 y k 7 = x := by rw [z_set_nj (by decide), z_set_at]
  have a8 : z_set (z_set B k 7 x) k 8 y k 8 = y := z_set_at
  unfold z_hk
  rw [a5, a6, a7, a8]
  exact ⟨h5, h6, hx, hy, e1, rfl⟩
theorem z_hk.s87 {B : z_A} {k H S x y : Nat} (h : z_hk B k H S) (hx : x < 2 ^ 64) (hy : y < 2 ^ 64) : z_hk (z_set (z_set B k 8 y) k 7 x) k H (2 ^ 64 * x + y) := by
  obtain ⟨h5, h6, h7, h8, e1, e2⟩ := h
  have a5 : z_set (z_set B k 8 y) k 7 x k 5 = B k 5 := by rw [z_set_nj (by decide), z_set_nj (by decide)]
  have a6 : z_set (z_set B k 8 y) k 7 x k 6 = B k 6 := by rw [z_set_nj (by decide), z_set_nj (by decide)]
  have a8 : z_set (z_set B k 8 y) k 7 x k 8 = y := by rw [z_set_nj (by decide), z_set_at]
  have a7 : z_set (z_set B k 8 y) k 7 x k 7 = x := z_set_at
  unfold z_hk
  rw [a5, a6, a7, a8]
  exact ⟨h5, h6, hx, hy, e1, rfl⟩
theorem z_hk.s56 {B : z_A} {k H S x y : Nat} (h : z_hk B k H S) (hx : x < 2 ^ 64) (hy : y < 2 ^ 64) : z_hk (z_set (z_set B k 5 x) k 6 y) k (2 ^ 64 * x + y) S := by
  obtain ⟨h5, h6, h7, h8, e1, e2⟩ := h
  have a7 : z_set (z_set B k 5 x) k 6 y k 7 = B k 7 := by rw [z_set_nj (by decide), z_set_nj (by decide)]
  have a8 : z_set (z_set B k 5 x) k 6 y k 8 = B k 8 := by rw [z_set_nj (by decide), z_set_nj (by decide)]
  have a5 : z_set (z_set B k 5 x) k 6 y k 5 = x := by rw [z_set_nj (by decide), z_set_at]
  have a6 : z_set (z_set B k 5 x) k 6 y k 6 = y := z_set_at
  unfold z_hk
  rw [a5, a6, a7, a8]
  exact ⟨hx, hy, h7, h8, rfl, e2⟩
theorem c_mul {k kl o mr ov H S : Nat} (ho : z_ob k 1 (zHf kl)) (hw : z_hw A B k o mr ov) (hq : z_hk B k H S) : z_Met l g ad mH_multiplySumByKey (z_rm 0) [.ref (ad k)] A B (z_vd (fun A' B' => A = A' ∧ z_hB B B' k ∧ z_hk B' k H (zmul ov S H))) := by
  refine z_Met.of (L := [(0, _)]) (by decide) (Nat.le_of_ble_eq_true rfl) z_fit_vd rfl ?_
  intro Ex hEx
  obtain ⟨h0, h1, hm, h2, h3, rfl⟩ := hw
  obtain ⟨h5, h6, h7, h8, rfl, rfl⟩ := hq
  refine z_aload_n (pc := 0) dH_multiplySumByKey_0 rfl rfl ?_
  refine z_getJ (pc := 1) ho rfl zf_H_38_1 dH_multiplySumByKey_1 ?_
  refine z_lstore_n (L' := [(1, _), (0, _)]) (pc := 4) dH_multiplySumByKey_4 rfl (by decide) rfl ?_
  refine z_aload_n (pc := 5) dH_multiplySumByKey_5 rfl rfl ?_
  refine z_getJ (pc := 6) ho rfl zf_H_41_1 dH_multiplySumByKey_6 ?_
  refine z_lstore_n (L' := [(3, _), (1, _), (0, _)]) (pc := 9) dH_multiplySumByKey_9 rfl (by decide) rfl ?_
  refine z_lconst (pc := 10) dH_multiplySumByKey_10 zl_0 ?_
  refine z_lstore (L' := [(5, _), (3, _), (1, _), (0, _)]) (pc := 11) dH_multiplySumByKey_11 (by decide) rfl ?_
  refine z_lconst (pc := 13) dH_multiplySumByKey_13 zl_0 ?_
  refine z_lstore (L' := [(7, _), (5, _), (3, _), (1, _), (0, _)]) (pc := 14) dH_multiplySumByKey_14 (by decide) rfl ?_
  refine z_iconst (pc := 16) dH_multiplySumByKey_16 zi_0 ?_
  refine z_istore (L' := [(9, _), (7, _), (5, _), (3, _), (1, _), (0, _)]) (pc := 17) dH_multiplySumByKey_17 (by decide) rfl ?_
  refine z_loop 128 (fun i L A' B' => A = A' ∧ B = B' ∧ ∃ th tl ph pl, th < 2 ^ 64 ∧ tl < 2 ^ 64 ∧ ph < 2 ^ 64 ∧ pl < 2 ^ 64 ∧ 2 ^ 64 * th + tl = zx (2 ^ 64 * B k 2 + B k 3) (2 ^ 64 * B k 5 + B k 6) i ∧ 2 ^ 64 * ph + pl = zml (2 ^ 64 * B k 2 + B k 3) (2 ^ 64 * B k 7 + B k 8) (2 ^ 64 * B k 5 + B k 6) i ∧ L = [(9, .int (nI i)), (7, .long (lN pl)), (5, .long (lN ph)), (3, .long (lN tl)), (1, .long (lN th)), (0, .ref (ad k))]) ?_ ?_ _ _ _ ⟨rfl, rfl, _, _, 0, 0, h5, h6, by decide, by decide, rfl, rfl, rfl⟩
  · rintro i L A' B' hi ⟨rfl, rfl, th, tl, ph, pl, hth, htl, hph, hpl, hT, hP, rfl⟩ ki
    have J3 : ∀ th' tl', th' < 2 ^ 64 → tl' < 2 ^ 64 → 2 ^ 64 * th' + tl' = zx (2 ^ 64 * B k 2 + B k 3) (2 ^ 64 * B k 5 + B k 6) (i + 1) → ∀ ph' pl', ph' < 2 ^ 64 → pl' < 2 ^ 64 → 2 ^ 64 * ph' + pl' = zml (2 ^ 64 * B k 2 + B k 3) (2 ^ 64 * B k 7 + B k 8) (2 ^ 64 * B k 5 + B k 6) (i + 1) → z_R l g ad mH_multiplySumByKey (z_rm 0) Ex 0 0  119 [(9, .int (nI i)), (7, .long (lN pl')), (5, .long (lN ph')), (3, .long (lN tl')), (1, .long (lN th')), (0, .ref (ad k))] [] A B := by
      intro th' tl' h1 h2 h3 ph' pl' h4 h5 h6
      refine z_iinc (L' := [(9, _), (7, _), (5, _), (3, _), (1, _), (0, _)]) (pc := 119) dH_multiplySumByKey_119 rfl zi_1 (by decide) rfl ?_
      refine z_goto (pc := 122) (tgt := 19) dH_multiplySumByKey_122 rfl ?_
      exact ki _ _ _ ⟨rfl, rfl, th', tl', ph', pl', h1, h2, h4, h5, h3, h6, rfl⟩
    have hx : zx (2 ^ 64 * B k 2 + B k 3) (2 ^ 64 * B k 5 + B k 6) (i + 1) = if th < 2 ^ 63 then 2 ^ 64 * zth th tl + ztl tl else 2 ^ 64 * (zth th tl ^^^ B k 2) + (ztl tl ^^^ B k 3) := by
      show zxt _ (zx _ _ i) = _
      rw [← hT, zxt_jn h2 h3 hth htl]
    have hz1 : zth th tl < 2 ^ 64 := Nat.mod_lt _ (by decide)
    have hz2 : ztl tl < 2 ^ 64 := Nat.mod_lt _ (by decide)
    have J2 : ∀ ph' pl' hf, ph' < 2 ^ 64 → pl' < 2 ^ 64 → 2 ^ 64 * ph' + pl' = zml (2 ^ 64 * B k 2 + B k 3) (2 ^ 64 * B k 7 + B k 8) (2 ^ 64 * B k 5 + B k 6) (i + 1) → z_R l g ad mH_multiplySumByKey (z_rm 0) Ex 0 0  74 [(10, .long (lN hf)), (9, .int (nI i)), (7, .long (lN pl')), (5, .long (lN ph')), (3, .long (lN tl)), (1, .long (lN th)), (0, .ref (ad k))] [] A B := by
      intro ph' pl' hf h4 h5 h6
      refine z_lload_n (pc := 74) dH_multiplySumByKey_74 rfl rfl ?_
      refine z_lconst (pc := 75) dH_multiplySumByKey_75 zl_0 ?_
      refine z_lcmp (pc := 76) dH_multiplySumByKey_76 ?_
      refine z_ifX_ge (pc := 77) (tgt := 84) dH_multiplySumByKey_77 rfl (fun h7 => ?_) (fun h7 => ?_)
      · have h8 : th < 2 ^ 63 := (z_lge hth).mp ((lg_cmp_ge _ _).mp h7)
        refine z_iconst (pc := 84) dH_multiplySumByKey_84 zi_0 ?_
        refine z_istore (L' := [(12, _), (10, _), (9, _), (7, _), (5, _), (3, _), (1, _), (0, _)]) (pc := 85) dH_multiplySumByKey_85 (by decide) rfl ?_
        refine z_lload_n (pc := 87) dH_multiplySumByKey_87 rfl rfl ?_
        refine z_iconst (pc := 88) dH_multiplySumByKey_88 zi_1 ?_
        refine z_lshl (pc := 89) dH_multiplySumByKey_89 (by omega) ?_
        refine z_lload_n (pc := 90) dH_multiplySumByKey_90 rfl rfl ?_
        refine z_bipush (pc := 91) dH_multiplySumByKey_91 zb_63 ?_
        refine z_lushr (pc := 93) dH_multiplySumByKey_93 (by omega) (by omega) ?_
        refine z_lor (pc := 94) dH_multiplySumByKey_94 ?_
        refine z_top (congrArg Value.long (show _ = lN (zth th tl) from (by rw [z_dbl hth htl]))) ?_
        refine z_lstore_n (L' := [(1, _), (12, _), (10, _), (9, _), (7, _), (5, _), (3, _), (0, _)]) (pc := 95) dH_multiplySumByKey_95 rfl (by decide) rfl ?_
        refine z_lload_n (pc := 96) dH_multiplySumByKey_96 rfl rfl ?_
        refine z_iconst (pc := 97) dH_multiplySumByKey_97 zi_1 ?_
        refine z_lshl (pc := 98) dH_multiplySumByKey_98 (by omega) ?_
        refine z_top (congrArg Value.long (show _ = lN (ztl tl) from wb_mod _ |>.trans (by rw [Nat.pow_one, Nat.mul_comm]; rfl))) ?_
        refine z_lstore_n (L' := [(3, _), (1, _), (12, _), (10, _), (9, _), (7, _), (5, _), (0, _)]) (pc := 99) dH_multiplySumByKey_99 rfl (by decide) rfl ?_
        refine z_iload (pc := 100) dH_multiplySumByKey_100 rfl ?_
        refine z_if_eq (pc := 102) (by omega) (tgt := 119) dH_multiplySumByKey_102 rfl (fun h => ?_) (fun h => by exfalso; omega)
        refine z_ls (L' := [(9, _), (7, _), (5, _), (3, _), (1, _), (0, _)]) [4, 5, 6, 0, 1, 7] rfl ?_
        exact J3 _ _ hz1 hz2 (by rw [hx, if_pos h8]) _ _ h4 h5 h6
      · have h8 : ¬ th < 2 ^ 63 := fun q => h7 ((lg_cmp_ge _ _).mpr ((z_lge hth).mpr q))
        refine z_iconst (pc := 80) dH_multiplySumByKey_80 zi_1 ?_
        refine z_goto (pc := 81) (tgt := 85) dH_multiplySumByKey_81 rfl ?_
        refine z_istore (L' := [(12, _), (10, _), (9, _), (7, _), (5, _), (3, _), (1, _), (0, _)]) (pc := 85) dH_multiplySumByKey_85 (by decide) rfl ?_
        refine z_lload_n (pc := 87) dH_multiplySumByKey_87 rfl rfl ?_
        refine z_iconst (pc := 88) dH_multiplySumByKey_88 zi_1 ?_
        refine z_lshl (pc := 89) dH_multiplySumByKey_89 (by omega) ?_
        refine z_lload_n (pc := 90) dH_multiplySumByKey_90 rfl rfl ?_
        refine z_bipush (pc := 91) dH_multiplySumByKey_91 zb_63 ?_
        refine z_lushr (pc := 93) dH_multiplySumByKey_93 (by omega) (by omega) ?_
        refine z_lor (pc := 94) dH_multiplySumByKey_94 ?_
        refine z_top (congrArg Value.long (show _ = lN (zth th tl) from (by rw [z_dbl hth htl]))) ?_
        refine z_lstore_n (L' := [(1, _), (12, _), (10, _), (9, _), (7, _), (5, _), (3, _), (0, _)]) (pc := 95) dH_multiplySumByKey_95 rfl (by decide) rfl ?_
        refine z_lload_n (pc := 96) dH_multiplySumByKey_96 rfl rfl ?_
        refine z_iconst (pc := 97) dH_multiplySumByKey_97 zi_1 ?_
        refine z_lshl (pc := 98) dH_multiplySumByKey_98 (by omega) ?_
        refine z_top (congrArg Value.long (show _ = lN (ztl tl) from wb_mod _ |>.trans (by rw [Nat.pow_one, Nat.mul_comm]; rfl))) ?_
        refine z_lstore_n (L' := [(3, _), (1, _), (12, _), (10, _), (9, _), (7, _), (5, _), (0, _)]) (pc := 99) dH_multiplySumByKey_99 rfl (by decide) rfl ?_
        refine z_iload (pc := 100) dH_multiplySumByKey_100 rfl ?_
        refine z_if_eq (pc := 102) (by omega) (tgt := 119) dH_multiplySumByKey_102 rfl (fun h => by exfalso; omega) (fun h => ?_)
        refine z_lload_n (pc := 105) dH_multiplySumByKey_105 rfl rfl ?_
        refine z_aload_n (pc := 106) dH_multiplySumByKey_106 rfl rfl ?_
        refine z_getJ (pc := 107) ho rfl zf_H_21_1 dH_multiplySumByKey_107 ?_
        refine z_lxor (pc := 110) dH_multiplySumByKey_110 ?_
        refine z_lstore_n (L' := [(1, _), (3, _), (12, _), (10, _), (9, _), (7, _), (5, _), (0, _)]) (pc := 111) dH_multiplySumByKey_111 rfl (by decide) rfl ?_
        refine z_lload_n (pc := 112) dH_multiplySumByKey_112 rfl rfl ?_
        refine z_aload_n (pc := 113) dH_multiplySumByKey_113 rfl rfl ?_
        refine z_getJ (pc := 114) ho rfl zf_H_27_1 dH_multiplySumByKey_114 ?_
        refine z_lxor (pc := 117) dH_multiplySumByKey_117 ?_
        refine z_lstore_n (L' := [(3, _), (1, _), (12, _), (10, _), (9, _), (7, _), (5, _), (0, _)]) (pc := 118) dH_multiplySumByKey_118 rfl (by decide) rfl ?_
        refine z_ls (L' := [(9, _), (7, _), (5, _), (3, _), (1, _), (0, _)]) [4, 5, 6, 0, 1, 7] rfl ?_
        exact J3 _ _ (Nat.xor_lt_two_pow hz1 h2) (Nat.xor_lt_two_pow hz2 h3) (by rw [hx, if_neg h8]) _ _ h4 h5 h6
    have J1 : ∀ hf, hf < 2 ^ 64 → hf.testBit (i % 64) = (2 ^ 64 * B k 7 + B k 8).testBit i → z_R l g ad mH_multiplySumByKey (z_rm 0) Ex 0 0  47 [(10, .long (lN hf)), (9, .int (nI i)), (7, .long (lN pl)), (5, .long (lN ph)), (3, .long (lN tl)), (1, .long (lN th)), (0, .ref (ad k))] [] A B := by
      intro hf h4 h5
      have hb1 : hf / 2 ^ (i % 64) &&& 1 = (hf.testBit (i % 64)).toNat := z_tb1 _ _
      have hb2 := Bool.toNat_lt (hf.testBit (i % 64))
      refine z_lload (pc := 47) dH_multiplySumByKey_47 rfl ?_
      refine z_iload (pc := 49) dH_multiplySumByKey_49 rfl ?_
      refine z_bipush (pc := 51) dH_multiplySumByKey_51 zb_64 ?_
      refine z_irem (pc := 53) dH_multiplySumByKey_53 (by omega) (by omega) (by omega) ?_
      refine z_lushr (pc := 54) dH_multiplySumByKey_54 (by omega) (by omega) ?_
      refine z_lconst (pc := 55) dH_multiplySumByKey_55 zl_1 ?_
      refine z_land (pc := 56) dH_multiplySumByKey_56 ?_
      refine z_lconst (pc := 57) dH_multiplySumByKey_57 zl_0 ?_
      refine z_lcmp (pc := 58) dH_multiplySumByKey_58 ?_
      refine z_ifX_eq (pc := 59) (tgt := 74) dH_multiplySumByKey_59 rfl (fun h7 => ?_) (fun h7 => ?_)
      · have h7' := (pk_lEQ (by rw [hb1]; omega) (by decide)).mp ((lg_cmp_eq _ _).mp h7)
        rw [hb1] at h7'
        have h8 : (2 ^ 64 * B k 7 + B k 8).testBit i = false := by rw [← h5]; exact Bool.toNat_eq_zero.mp h7'
        exact J2 _ _ _ hph hpl (by rw [zml, h8, hP, Bool.toNat_false, Nat.zero_mul, Nat.xor_zero])
      · have h7' : (hf.testBit (i % 64)).toNat ≠ 0 := fun q => h7 ((lg_cmp_eq _ _).mpr (by rw [hb1, q]))
        have h8 : (2 ^ 64 * B k 7 + B k 8).testBit i = true := by rw [← h5]; exact Bool.toNat_eq_one.mp (by omega)
        refine z_lload (pc := 62) dH_multiplySumByKey_62 rfl ?_
        refine z_lload_n (pc := 64) dH_multiplySumByKey_64 rfl rfl ?_
        refine z_lxor (pc := 65) dH_multiplySumByKey_65 ?_
        refine z_lstore (L' := [(5, _), (10, _), (9, _), (7, _), (3, _), (1, _), (0, _)]) (pc := 66) dH_multiplySumByKey_66 (by decide) rfl ?_
        refine z_lload (pc := 68) dH_multiplySumByKey_68 rfl ?_
        refine z_lload_n (pc := 70) dH_multiplySumByKey_70 rfl rfl ?_
        refine z_lxor (pc := 71) dH_multiplySumByKey_71 ?_
        refine z_lstore (L' := [(7, _), (5, _), (10, _), (9, _), (3, _), (1, _), (0, _)]) (pc := 72) dH_multiplySumByKey_72 (by decide) rfl ?_
        refine z_ls (L' := [(10, _), (9, _), (7, _), (5, _), (3, _), (1, _), (0, _)]) [2, 3, 0, 1, 4, 5, 6] rfl ?_
        exact J2 _ _ _ (Nat.xor_lt_two_pow hph hth) (Nat.xor_lt_two_pow hpl htl) (by rw [zml, h8, Bool.toNat_true, Nat.one_mul, ← hP, ← hT, z_jn_xor hpl htl])
    refine z_iload (pc := 19) dH_multiplySumByKey_19 rfl ?_
    refine z_sipush (pc := 21) dH_multiplySumByKey_21 zs_128 ?_
    refine z_icmp_ge (pc := 24) (by omega) (by omega) (tgt := 125) dH_multiplySumByKey_24 rfl (fun h => by exfalso; omega) (fun h => ?_)
    refine z_iload (pc := 27) dH_multiplySumByKey_27 rfl ?_
    refine z_bipush (pc := 29) dH_multiplySumByKey_29 zb_64 ?_
    refine z_icmp_ge (pc := 31) (by omega) (by omega) (tgt := 41) dH_multiplySumByKey_31 rfl (fun h4 => ?_) (fun h4 => ?_)
    · refine z_aload_n (pc := 41) dH_multiplySumByKey_41 rfl rfl ?_
      refine z_getJ (pc := 42) ho rfl zf_H_47_1 dH_multiplySumByKey_42 ?_
      refine z_lstore (L' := [(10, _), (9, _), (7, _), (5, _), (3, _), (1, _), (0, _)]) (pc := 45) dH_multiplySumByKey_45 (by decide) rfl ?_
      exact J1 _ h7 (by rw [z_jn_tb h8, if_neg (by omega), show i % 64 = i - 64 by omega])
    · refine z_aload_n (pc := 34) dH_multiplySumByKey_34 rfl rfl ?_
      refine z_getJ (pc := 35) ho rfl zf_H_50_1 dH_multiplySumByKey_35 ?_
      refine z_goto (pc := 38) (tgt := 45) dH_multiplySumByKey_38 rfl ?_
      refine z_lstore (L' := [(10, _), (9, _), (7, _), (5, _), (3, _), (1, _), (0, _)]) (pc := 45) dH_multiplySumByKey_45 (by decide) rfl ?_
      exact J1 _ h8 (by rw [z_jn_tb h8, if_pos (by omega), show i % 64 = i by omega])
  · rintro L A' B' ⟨rfl, rfl, th, tl, ph, pl, hth, htl, hph, hpl, hT, hP, rfl⟩
    refine z_iload (pc := 19) dH_multiplySumByKey_19 rfl ?_
    refine z_sipush (pc := 21) dH_multiplySumByKey_21 zs_128 ?_
    refine z_icmp_ge (pc := 24) (by omega) (by omega) (tgt := 125) dH_multiplySumByKey_24 rfl (fun h => ?_) (fun h => by exfalso; omega)
    refine z_aload_n (pc := 125) dH_multiplySumByKey_125 rfl rfl ?_
    refine z_lload (pc := 126) dH_multiplySumByKey_126 rfl ?_
    refine z_putJ (pc := 128) ho rfl zp_H_47_1 dH_multiplySumByKey_128 ?_
    refine z_aload_n (pc := 131) dH_multiplySumByKey_131 rfl rfl ?_
    refine z_lload (pc := 132) dH_multiplySumByKey_132 rfl ?_
    refine z_putJ (pc := 134) ho rfl zp_H_50_1 dH_multiplySumByKey_134 ?_
    exact z_ret0 (pc := 137) dH_multiplySumByKey_137 (hEx _ _ _ (⟨rfl, rfl, (z_hB.rf.set (by decide)).set (by decide), by have q := z_hk.s78 (B := B) (k := k) ⟨h5, h6, h7, h8, rfl, rfl⟩ hph hpl; rw [hP] at q; exact q⟩))
end
end
section
theorem z_seg_upd {A : z_A} {k a n i x : Nat} {f f' : Nat → Nat} (h1 : a ≤ i) (h2 : i < a + n) (hx : x = f' i) (h : ∀ j, a ≤ j → j < a + n → j ≠ i → f j = f' j) : z_set (z_seg A k a n f) k i x = z_seg A k a n f' := by
  funext k' j
  by_cases hk : k' = k
  · subst hk
    by_cases hj : j = i
    · subst hj; rw [z_set_at, z_seg_in h1 h2, hx]
    · rw [z_set_nj hj]
      by_cases h3 : a ≤ j ∧ j < a + n
      · rw [z_seg_in h3.1 h3.2, z_seg_in h3.1 h3.2, h j h3.1 h3.2 hj]
      · rw [z_seg_out (by omega), z_seg_out (by omega)]
  · rw [z_set_ne hk, z_seg_ne hk, z_seg_ne hk]
theorem z_seg_dn {A : z_A} {k a b n x : Nat} {f : Nat → Nat} (hb : b = a + 1) (hx : x = f a) : z_set (z_seg A k b n f) k a x = z_seg A k a (n + 1) f := by
  subst hb
  funext k' j
  by_cases hk : k' = k
  · subst hk
    by_cases hj : j = a
    · subst hj; rw [z_set_at, z_seg_in (Nat.le_refl _) (by omega), hx]
    · rw [z_set_nj hj]
      by_cases h3 : a ≤ j ∧ j < a + (n + 1)
      · rw [z_seg_in (by omega) (by omega), z_seg_in h3.1 h3.2]
      · rw [z_seg_out (by omega), z_seg_out (by omega)]
  · rw [z_set_ne hk, z_seg_ne hk, z_seg_ne hk]
theorem z_seg_cg {A : z_A} {k a n : Nat} {f f' : Nat → Nat} (h : ∀ j, a ≤ j → j < a + n → f j = f' j) : z_seg A k a n f = z_seg A k a n f' := by
  unfold z_seg
  congr 1
  funext j
  by_cases hj : a ≤ j ∧ j < a + n
  · rw [if_pos hj, if_pos hj, h j hj.1 hj.2]
  · rw [if_neg hj, if_neg hj]
section
variable {l : Launch} {g : z_G} {ad : Nat → Nat} {A B : z_A}
theorem c_writeHalf {k kl c n fr mr X : Nat} (ho : z_ob k 1 (zHf kl)) (hc : z_ia c n) (hfr : fr + 8 ≤ n) (hX : X < 2 ^ 64) (hkc : k ≠ c) (h1 : A k 1 = mr) (hm : zmr mr) : z_Met l g ad mH_writeHalf (z_rm 0) [.ref (ad k), .long (lN X), .ref (ad c), .int (nI fr)] A B (z_eq none (z_seg A c fr 8 (fun j => zby mr X (j - fr))) B) := by
  refine z_Met.of (L := [(0, _), (1, _), (3, _), (4, _)]) (by decide) (Nat.le_of_ble_eq_true rfl) (z_fit_eq rfl) rfl ?_
  intro Ex hEx
  have hn := hc.2.2
  refine z_iconst (pc := 0) dH_writeHalf_0 zi_0 ?_
  refine z_istore (L' := [(5, _), (0, _), (1, _), (3, _), (4, _)]) (pc := 1) dH_writeHalf_1 (by decide) rfl ?_
  refine z_wd (z_seg_0 A c fr (fun _ => 0)).symm rfl ?_
  refine z_for 8 (fun i => [(5, .int (nI i)), (0, .ref (ad k)), (1, .long (lN X)), (3, .ref (ad c)), (4, .int (nI fr))]) (fun i => z_seg A c fr i (fun _ => 0)) (fun i => B) (fun i hi ki => ?_) ?_
  · refine z_iload (pc := 3) dH_writeHalf_3 rfl ?_
    refine z_bipush (pc := 5) dH_writeHalf_5 zb_8 ?_
    refine z_icmp_ge (pc := 7) (by omega) (by omega) (tgt := 24) dH_writeHalf_7 rfl (fun h => by exfalso; omega) (fun h => ?_)
    refine z_aload_n (pc := 10) dH_writeHalf_10 rfl rfl ?_
    refine z_iload (pc := 11) dH_writeHalf_11 rfl ?_
    refine z_iload (pc := 13) dH_writeHalf_13 rfl ?_
    refine z_iadd (pc := 15) dH_writeHalf_15 ?_
    refine z_iconst (pc := 16) dH_writeHalf_16 zi_0 ?_
    refine z_iastore (pc := 17) hc (by omega) dH_writeHalf_17 ?_
    refine z_iinc (L' := [(5, _), (0, _), (1, _), (3, _), (4, _)]) (pc := 18) dH_writeHalf_18 rfl zi_1 (by decide) rfl ?_
    refine z_goto (pc := 21) (tgt := 3) dH_writeHalf_21 rfl ?_
    exact z_wd (z_seg_set rfl) rfl ki
  · refine z_iload (pc := 3) dH_writeHalf_3 rfl ?_
    refine z_bipush (pc := 5) dH_writeHalf_5 zb_8 ?_
    refine z_icmp_ge (pc := 7) (by omega) (by omega) (tgt := 24) dH_writeHalf_7 rfl (fun h => ?_) (fun h => by exfalso; omega)
    refine z_iconst (pc := 24) dH_writeHalf_24 zi_0 ?_
    refine z_istore (L' := [(5, _), (0, _), (1, _), (3, _), (4, _)]) (pc := 25) dH_writeHalf_25 (by decide) rfl ?_
    refine z_wd (A' := z_seg A c fr 8 (fun j => zbyk mr X (j - fr) 0)) (z_seg_cg (fun j _ _ => (zbyk_0 _ _ _).symm)) rfl ?_
    refine z_for 64 (fun i => [(5, .int (nI i)), (0, .ref (ad k)), (1, .long (lN X)), (3, .ref (ad c)), (4, .int (nI fr))]) (fun i => z_seg A c fr 8 (fun j => zbyk mr X (j - fr) i)) (fun i => B) (fun i hi ki => ?_) ?_
    · refine z_iload (pc := 27) dH_writeHalf_27 rfl ?_
      refine z_bipush (pc := 29) dH_writeHalf_29 zb_64 ?_
      refine z_icmp_ge (pc := 31) (by omega) (by omega) (tgt := 75) dH_writeHalf_31 rfl (fun h => by exfalso; omega) (fun h => ?_)
      refine z_lload_n (pc := 34) dH_writeHalf_34 rfl rfl ?_
      refine z_iload (pc := 35) dH_writeHalf_35 rfl ?_
      refine z_lushr (pc := 37) dH_writeHalf_37 (by omega) (by omega) ?_
      refine z_l2i (pc := 38) dH_writeHalf_38 ?_
      refine z_iconst (pc := 39) dH_writeHalf_39 zi_1 ?_
      refine z_iand (pc := 40) dH_writeHalf_40 ?_
      refine z_top (congrArg (fun x => Value.int (nI x)) (z_tb1 X i)) ?_
      refine z_istore (L' := [(6, _), (5, _), (0, _), (1, _), (3, _), (4, _)]) (pc := 41) dH_writeHalf_41 (by decide) rfl ?_
      refine z_aload_n (pc := 43) dH_writeHalf_43 rfl rfl ?_
      refine z_iload (pc := 44) dH_writeHalf_44 rfl ?_
      refine z_iload (pc := 46) dH_writeHalf_46 rfl ?_
      refine z_bipush (pc := 48) dH_writeHalf_48 zb_8 ?_
      refine z_idiv (pc := 50) dH_writeHalf_50 (by omega) (by omega) (by omega) ?_
      refine z_iadd (pc := 51) dH_writeHalf_51 ?_
      refine z_dup2 (pc := 52) dH_writeHalf_52 rfl rfl ?_
      refine z_iaload (pc := 53) hc (by omega) dH_writeHalf_53 ?_
      refine z_iload (pc := 54) dH_writeHalf_54 rfl ?_
      refine z_iload (pc := 56) dH_writeHalf_56 rfl ?_
      refine z_bipush (pc := 58) dH_writeHalf_58 zb_8 ?_
      refine z_irem (pc := 60) dH_writeHalf_60 (by omega) (by omega) (by omega) ?_
      refine z_aload_n (pc := 61) dH_writeHalf_61 rfl rfl ?_
      refine z_getI (pc := 62) ho rfl zf_H_15_1 dH_writeHalf_62 ?_
      refine z_ixor (pc := 65) dH_writeHalf_65 ?_
      refine z_ishl (pc := 66) dH_writeHalf_66 (by rw [z_seg_ne hkc, h1]; have := zmr_lt hm (Nat.mod_lt i (by decide : 0 < 8)); omega) ?_
      refine z_ior (pc := 67) dH_writeHalf_67 ?_
      refine z_iastore (pc := 68) hc (by omega) dH_writeHalf_68 ?_
      refine z_iinc (L' := [(5, _), (6, _), (0, _), (1, _), (3, _), (4, _)]) (pc := 69) dH_writeHalf_69 rfl zi_1 (by decide) rfl ?_
      refine z_goto (pc := 72) (tgt := 27) dH_writeHalf_72 rfl ?_
      refine z_ls (L' := [(5, _), (0, _), (1, _), (3, _), (4, _)]) [0, 2, 3, 4, 5] rfl ?_
      refine z_wd (z_seg_upd (by omega) (by omega) ?_ (fun j h2 h3 h4 => (zbyk_ne hm (by omega)).symm)) rfl ki
      rw [z_seg_in (by omega) (by omega), z_seg_ne hkc, h1, Nat.add_sub_cancel_left]
      exact zbyk_at hm
    · refine z_iload (pc := 27) dH_writeHalf_27 rfl ?_
      refine z_bipush (pc := 29) dH_writeHalf_29 zb_64 ?_
      refine z_icmp_ge (pc := 31) (by omega) (by omega) (tgt := 75) dH_writeHalf_31 rfl (fun h => ?_) (fun h => by exfalso; omega)
      exact z_ret0 (pc := 75) dH_writeHalf_75 (hEx _ _ _ (⟨rfl, z_seg_cg (fun j h2 h3 => (zbyk_end hm (by omega)).symm), rfl⟩))
theorem c_write {k kl c n mr H S : Nat} (ho : z_ob k 1 (zHf kl)) (hc : z_ia c n) (hn : 16 ≤ n) (hkc : k ≠ c) (h1 : A k 1 = mr) (hm : zmr mr) (hq : z_hk B k H S) : z_Met l g ad mH_write (z_rm 1) [.ref (ad k), .ref (ad c)] A B (z_vd (fun A' B' => B = B' ∧ (∀ c', c' ≠ c → A' c' = A c') ∧ (∀ j, j < 16 → A' c j = zby mr S j) ∧ ∀ j, 16 ≤ j → A' c j = A c j)) := by
  refine z_Met.of (L := [(0, _), (1, _)]) (by decide) (Nat.le_of_ble_eq_true rfl) z_fit_vd rfl ?_
  intro Ex hEx
  obtain ⟨h5, h6, h7, h8, rfl, rfl⟩ := hq
  refine z_aload_n (pc := 0) dH_write_0 rfl rfl ?_
  refine z_aload_n (pc := 1) dH_write_1 rfl rfl ?_
  refine z_getJ (pc := 2) ho rfl zf_H_50_1 dH_write_2 ?_
  refine z_aload_n (pc := 5) dH_write_5 rfl rfl ?_
  refine z_iconst (pc := 6) dH_write_6 zi_0 ?_
  refine z_callV (pc := 7) (c_writeHalf (fr := 0) ho hc (by omega) h8 hkc h1 hm) (by decide) ho rfl zc_H_68 rfl rfl (Nat.le_of_ble_eq_true rfl) z_cn0 dH_write_7 (fun r A' B' hE => ?_)
  obtain ⟨rfl, rfl, rfl⟩ := hE
  refine z_r0 ?_
  refine z_aload_n (pc := 10) dH_write_10 rfl rfl ?_
  refine z_aload_n (pc := 11) dH_write_11 rfl rfl ?_
  refine z_getJ (pc := 12) ho rfl zf_H_47_1 dH_write_12 ?_
  refine z_aload_n (pc := 15) dH_write_15 rfl rfl ?_
  refine z_bipush (pc := 16) dH_write_16 zb_8 ?_
  refine z_callV (pc := 18) (c_writeHalf (fr := 8) ho hc (by omega) h7 hkc (by rw [z_seg_ne hkc]; exact h1) hm) (by decide) ho rfl zc_H_68 rfl rfl (Nat.le_of_ble_eq_true rfl) z_cn0 dH_write_18 (fun r A' B' hE => ?_)
  obtain ⟨rfl, rfl, rfl⟩ := hE
  refine z_r0 ?_
  refine z_ret0 (pc := 21) dH_write_21 (hEx _ _ _ (⟨rfl, rfl, fun c' hc' => by rw [z_seg_ne hc', z_seg_ne hc'], fun j hj => ?_, fun j hj => by rw [z_seg_out (by omega), z_seg_out (by omega)]⟩))
  rw [zby_jn hm h8]
  by_cases h : j < 8
  · rw [if_pos h, z_seg_out (Or.inl h), z_seg_in (Nat.zero_le _) (by omega), Nat.sub_zero]
  · rw [if_neg h, z_seg_in (by omega) (by omega)]
theorem c_putLength1 {k kl fr v : Nat} (ho : z_ob k 1 (zHf kl)) (hl : z_ia kl 16) (hkl : k ≠ kl) (h0 : A k 0 = 1) (hfr : fr ≤ 8) (hv : v < 2 ^ 64) : z_Met l g ad mH_putLength (z_rm 0) [.ref (ad k), .int (nI fr), .long (lN v)] A B (z_eq none (z_seg A kl fr 8 (fun i => v / 2 ^ (8 * (fr + 7 - i)) % 256)) B) := by
  refine z_Met.of (L := [(0, _), (1, _), (2, _)]) (by decide) (Nat.le_of_ble_eq_true rfl) (z_fit_eq rfl) rfl ?_
  intro Ex hEx
  refine z_iconst (pc := 0) dH_putLength_0 zi_0 ?_
  refine z_istore (L' := [(4, _), (0, _), (1, _), (2, _)]) (pc := 1) dH_putLength_1 (by decide) rfl ?_
  refine z_wd (z_seg_0 A kl (fr + 8) (fun i => v / 2 ^ (8 * (fr + 7 - i)) % 256)).symm rfl ?_
  refine z_for 8 (fun i => [(4, .int (nI i)), (0, .ref (ad k)), (1, .int (nI fr)), (2, .long (lN v))]) (fun i => z_seg A kl (fr + 8 - i) i (fun i => v / 2 ^ (8 * (fr + 7 - i)) % 256)) (fun i => B) (fun i hi ki => ?_) ?_
  · refine z_iload (pc := 3) dH_putLength_3 rfl ?_
    refine z_bipush (pc := 5) dH_putLength_5 zb_8 ?_
    refine z_icmp_ge (pc := 7) (by omega) (by omega) (tgt := 56) dH_putLength_7 rfl (fun h => by exfalso; omega) (fun h => ?_)
    refine z_aload_n (pc := 10) dH_putLength_10 rfl rfl ?_
    refine z_getI (pc := 11) ho rfl zf_H_9_1 dH_putLength_11 ?_
    refine z_if_eq (pc := 14) (by rw [z_seg_ne hkl, h0]; decide) (tgt := 25) dH_putLength_14 rfl (fun h => by rw [z_seg_ne hkl, h0] at h; omega) (fun h => ?_)
    refine z_bipush (pc := 17) dH_putLength_17 zb_7 ?_
    refine z_iload (pc := 19) dH_putLength_19 rfl ?_
    refine z_isub (pc := 21) dH_putLength_21 (by omega) ?_
    refine z_goto (pc := 22) (tgt := 27) dH_putLength_22 rfl ?_
    refine z_istore (L' := [(5, _), (4, _), (0, _), (1, _), (2, _)]) (pc := 27) dH_putLength_27 (by decide) rfl ?_
    refine z_aload_n (pc := 29) dH_putLength_29 rfl rfl ?_
    refine z_getR (pc := 30) ho rfl zf_H_30_1 dH_putLength_30 ?_
    refine z_iload_n (pc := 33) dH_putLength_33 rfl rfl ?_
    refine z_iload (pc := 34) dH_putLength_34 rfl ?_
    refine z_iadd (pc := 36) dH_putLength_36 ?_
    refine z_lload_n (pc := 37) dH_putLength_37 rfl rfl ?_
    refine z_bipush (pc := 38) dH_putLength_38 zb_8 ?_
    refine z_iload (pc := 40) dH_putLength_40 rfl ?_
    refine z_imul (pc := 42) dH_putLength_42 ?_
    refine z_lushr (pc := 43) dH_putLength_43 (by omega) (by omega) ?_
    refine z_l2i (pc := 44) dH_putLength_44 ?_
    refine z_sipush (pc := 45) dH_putLength_45 zs_255 ?_
    refine z_iand (pc := 48) dH_putLength_48 ?_
    refine z_iastore (pc := 49) hl (by omega) dH_putLength_49 ?_
    refine z_iinc (L' := [(4, _), (5, _), (0, _), (1, _), (2, _)]) (pc := 50) dH_putLength_50 rfl zi_1 (by decide) rfl ?_
    refine z_goto (pc := 53) (tgt := 3) dH_putLength_53 rfl ?_
    refine z_ls (L' := [(4, _), (0, _), (1, _), (2, _)]) [0, 2, 3, 4] rfl ?_
    refine z_wd (z_seg_dn (by omega) ?_) rfl (by rw [show fr + 8 - (i + 1) = fr + (7 - i) by omega] at ki; exact ki)
    rw [z_and255, show fr + 7 - (fr + (7 - i)) = i by omega]
  · refine z_iload (pc := 3) dH_putLength_3 rfl ?_
    refine z_bipush (pc := 5) dH_putLength_5 zb_8 ?_
    refine z_icmp_ge (pc := 7) (by omega) (by omega) (tgt := 56) dH_putLength_7 rfl (fun h => ?_) (fun h => by exfalso; omega)
    exact z_ret0 (pc := 56) dH_putLength_56 (hEx _ _ _ (⟨rfl, rfl, rfl⟩))
theorem c_putLength0 {k kl fr v : Nat} (ho : z_ob k 1 (zHf kl)) (hl : z_ia kl 16) (hkl : k ≠ kl) (h0 : A k 0 = 0) (hfr : fr ≤ 8) (hv : v < 2 ^ 64) : z_Met l g ad mH_putLength (z_rm 0) [.ref (ad k), .int (nI fr), .long (lN v)] A B (z_eq none (z_seg A kl fr 8 (fun i => v / 2 ^ (8 * (i - fr)) % 256)) B) := by
  refine z_Met.of (L := [(0, _), (1, _), (2, _)]) (by decide) (Nat.le_of_ble_eq_true rfl) (z_fit_eq rfl) rfl ?_
  intro Ex hEx
  refine z_iconst (pc := 0) dH_putLength_0 zi_0 ?_
  refine z_istore (L' := [(4, _), (0, _), (1, _), (2, _)]) (pc := 1) dH_putLength_1 (by decide) rfl ?_
  refine z_wd (z_seg_0 A kl fr (fun i => v / 2 ^ (8 * (i - fr)) % 256)).symm rfl ?_
  refine z_for 8 (fun i => [(4, .int (nI i)), (0, .ref (ad k)), (1, .int (nI fr)), (2, .long (lN v))]) (fun i => z_seg A kl fr i (fun i => v / 2 ^ (8 * (i - fr)) % 256)) (fun i => B) (fun i hi ki => ?_) ?_
  · refine z_iload (pc := 3) dH_putLength_3 rfl ?_
    refine z_bipush (pc := 5) dH_putLength_5 zb_8 ?_
    refine z_icmp_ge (pc := 7) (by omega) (by omega) (tgt := 56) dH_putLength_7 rfl (fun h => by exfalso; omega) (fun h => ?_)
    refine z_aload_n (pc := 10) dH_putLength_10 rfl rfl ?_
    refine z_getI (pc := 11) ho rfl zf_H_9_1 dH_putLength_11 ?_
    refine z_if_eq (pc := 14) (by rw [z_seg_ne hkl, h0]; decide) (tgt := 25) dH_putLength_14 rfl (fun h => ?_) (fun h => by rw [z_seg_ne hkl, h0] at h; omega)
    refine z_iload (pc := 25) dH_putLength_25 rfl ?_
    refine z_istore (L' := [(5, _), (4, _), (0, _), (1, _), (2, _)]) (pc := 27) dH_putLength_27 (by decide) rfl ?_
    refine z_aload_n (pc := 29) dH_putLength_29 rfl rfl ?_
    refine z_getR (pc := 30) ho rfl zf_H_30_1 dH_putLength_30 ?_
    refine z_iload_n (pc := 33) dH_putLength_33 rfl rfl ?_
    refine z_iload (pc := 34) dH_putLength_34 rfl ?_
    refine z_iadd (pc := 36) dH_putLength_36 ?_
    refine z_lload_n (pc := 37) dH_putLength_37 rfl rfl ?_
    refine z_bipush (pc := 38) dH_putLength_38 zb_8 ?_
    refine z_iload (pc := 40) dH_putLength_40 rfl ?_
    refine z_imul (pc := 42) dH_putLength_42 ?_
    refine z_lushr (pc := 43) dH_putLength_43 (by omega) (by omega) ?_
    refine z_l2i (pc := 44) dH_putLength_44 ?_
    refine z_sipush (pc := 45) dH_putLength_45 zs_255 ?_
    refine z_iand (pc := 48) dH_putLength_48 ?_
    refine z_iastore (pc := 49) hl (by omega) dH_putLength_49 ?_
    refine z_iinc (L' := [(4, _), (5, _), (0, _), (1, _), (2, _)]) (pc := 50) dH_putLength_50 rfl zi_1 (by decide) rfl ?_
    refine z_goto (pc := 53) (tgt := 3) dH_putLength_53 rfl ?_
    refine z_ls (L' := [(4, _), (0, _), (1, _), (2, _)]) [0, 2, 3, 4] rfl ?_
    refine z_wd (z_seg_set ?_) rfl ki
    rw [z_and255, Nat.add_sub_cancel_left]
  · refine z_iload (pc := 3) dH_putLength_3 rfl ?_
    refine z_bipush (pc := 5) dH_putLength_5 zb_8 ?_
    refine z_icmp_ge (pc := 7) (by omega) (by omega) (tgt := 56) dH_putLength_7 rfl (fun h => ?_) (fun h => by exfalso; omega)
    exact z_ret0 (pc := 56) dH_putLength_56 (hEx _ _ _ (⟨rfl, rfl, rfl⟩))
theorem c_add {k kl c n len o mr ov H S : Nat} (ho : z_ob k 1 (zHf kl)) (hc : z_ia c n) (hlen : len ≤ n) (hn : n ≤ 1000) (hby : ∀ j, j < len → A c j < 256) (hw : z_hw A B k o mr ov) (hq : z_hk B k H S) : z_Met l g ad mH_add (z_rm 1) [.ref (ad k), .ref (ad c), .int (nI len)] A B (z_vd (fun A' B' => A = A' ∧ z_hB B B' k ∧ z_hk B' k H (zfr mr ov H (A c) len S ((len + 15) / 16)))) := by
  refine z_Met.of (L := [(0, _), (1, _), (2, _)]) (by decide) (Nat.le_of_ble_eq_true rfl) z_fit_vd rfl ?_
  intro Ex hEx
  refine z_iconst (pc := 0) dH_add_0 zi_0 ?_
  refine z_istore_n (L' := [(3, _), (0, _), (1, _), (2, _)]) (pc := 1) dH_add_1 rfl (by decide) rfl ?_
  refine z_loop ((len + 15) / 16) (fun q L A' B' => A = A' ∧ z_hB B B' k ∧ z_hk B' k H (zfr mr ov H (A c) len S q) ∧ L = [(3, .int (nI (16 * q))), (0, .ref (ad k)), (1, .ref (ad c)), (2, .int (nI len))]) ?_ ?_ _ _ _ ⟨rfl, z_hB.rf, hq, rfl⟩
  · rintro q L A' B' hi ⟨rfl, hB, hq', rfl⟩ kq
    obtain ⟨h5, h6, h7, h8, e5, e7⟩ := hq'
    refine z_iload_n (pc := 2) dH_add_2 rfl rfl ?_
    refine z_iload_n (pc := 3) dH_add_3 rfl rfl ?_
    refine z_icmp_ge (pc := 4) (by omega) (by omega) (tgt := 52) dH_add_4 rfl (fun h => by exfalso; omega) (fun h => ?_)
    refine z_aload_n (pc := 7) dH_add_7 rfl rfl ?_
    refine z_dup (pc := 8) dH_add_8 rfl ?_
    refine z_getJ (pc := 9) ho rfl zf_H_50_1 dH_add_9 ?_
    refine z_aload_n (pc := 12) dH_add_12 rfl rfl ?_
    refine z_aload_n (pc := 13) dH_add_13 rfl rfl ?_
    refine z_iload_n (pc := 14) dH_add_14 rfl rfl ?_
    refine z_iload_n (pc := 15) dH_add_15 rfl rfl ?_
    refine z_callV (pc := 16) (c_readHalf ho hc hlen (by omega) hby hw.2.1 hw.2.2.1) (by decide) ho rfl zc_H_34 rfl rfl (Nat.le_of_ble_eq_true rfl) z_cn0 dH_add_16 (fun r A' B' hE => ?_)
    obtain ⟨rfl, rfl, rfl⟩ := hE
    refine z_r1 ?_
    refine z_lxor (pc := 19) dH_add_19 ?_
    refine z_putJ (pc := 20) ho rfl zp_H_50_1 dH_add_20 ?_
    refine z_aload_n (pc := 23) dH_add_23 rfl rfl ?_
    refine z_dup (pc := 24) dH_add_24 rfl ?_
    refine z_getJ (pc := 25) ho rfl zf_H_47_1 dH_add_25 ?_
    refine z_aload_n (pc := 28) dH_add_28 rfl rfl ?_
    refine z_aload_n (pc := 29) dH_add_29 rfl rfl ?_
    refine z_iload_n (pc := 30) dH_add_30 rfl rfl ?_
    refine z_bipush (pc := 31) dH_add_31 zb_8 ?_
    refine z_iadd (pc := 33) dH_add_33 ?_
    refine z_iload_n (pc := 34) dH_add_34 rfl rfl ?_
    refine z_callV (pc := 35) (c_readHalf ho hc hlen (by omega) hby hw.2.1 hw.2.2.1) (by decide) ho rfl zc_H_34 rfl rfl (Nat.le_of_ble_eq_true rfl) z_cn0 dH_add_35 (fun r A' B' hE => ?_)
    obtain ⟨rfl, rfl, rfl⟩ := hE
    refine z_r1 ?_
    refine z_lxor (pc := 38) dH_add_38 ?_
    refine z_putJ (pc := 39) ho rfl zp_H_47_1 dH_add_39 ?_
    refine z_aload_n (pc := 42) dH_add_42 rfl rfl ?_
    have hq2 := z_hk.s87 (B := B') (k := k) ⟨h5, h6, h7, h8, e5, e7⟩ (Nat.xor_lt_two_pow h7 (zbits_lt (zp mr (A c) (16 * q + 8) len) 64)) (Nat.xor_lt_two_pow h8 (zbits_lt (zp mr (A c) (16 * q) len) 64))
    rw [← z_jn_xor h8 (zbits_lt _ _), zblk_jn, e7] at hq2
    refine z_wd (A' := A) (B' := z_set (z_set B' k 8 (B' k 8 ^^^ zbits (zp mr (A c) (16 * q) len) 64)) k 7 (B' k 7 ^^^ zbits (zp mr (A c) (16 * q + 8) len) 64)) rfl (by rw [z_set_nj (by decide)]) ?_
    refine z_callV (pc := 43) (c_mul ho (hw.mv rfl ((hB.set (by decide)).set (by decide))) hq2) (by decide) ho rfl zc_H_55 rfl rfl (Nat.le_of_ble_eq_true rfl) z_cn0 dH_add_43 (fun r A' B' hE => ?_)
    obtain ⟨rfl, rfl, hB2, hq3⟩ := hE
    refine z_r0 ?_
    refine z_iinc (L' := [(3, _), (0, _), (1, _), (2, _)]) (pc := 46) dH_add_46 rfl zi_16 (by decide) rfl ?_
    refine z_goto (pc := 49) (tgt := 2) dH_add_49 rfl ?_
    exact kq _ _ _ ⟨rfl, ((hB.set (by decide)).set (by decide)).tr hB2, hq3, rfl⟩
  · rintro L A' B' ⟨rfl, hB, hq', rfl⟩
    refine z_iload_n (pc := 2) dH_add_2 rfl rfl ?_
    refine z_iload_n (pc := 3) dH_add_3 rfl rfl ?_
    refine z_icmp_ge (pc := 4) (by omega) (by omega) (tgt := 52) dH_add_4 rfl (fun h => ?_) (fun h => by exfalso; omega)
    exact z_ret0 (pc := 52) dH_add_52 (hEx _ _ _ (⟨rfl, rfl, hB, hq'⟩))
theorem c_besides {k kl o mr ov H S : Nat} (ho : z_ob k 1 (zHf kl)) (hw : z_hw A B k o mr ov) (hq : z_hk B k H S) : z_Met l g ad mH_putBesidesIntoKey (z_rm 1) [.ref (ad k)] A B (z_vd (fun A' B' => A = A' ∧ z_hB B B' k ∧ ∃ S', z_hk B' k (zmul ov zbes H) S')) := by
  refine z_Met.of (L := [(0, _)]) (by decide) (Nat.le_of_ble_eq_true rfl) z_fit_vd rfl ?_
  intro Ex hEx
  obtain ⟨h5, h6, h7, h8, e5, e7⟩ := hq
  refine z_aload_n (pc := 0) dH_putBesidesIntoKey_0 rfl rfl ?_
  refine z_ldc2 (pc := 1) dH_putBesidesIntoKey_1 wk_H_53 zk_H_53 ?_
  refine z_putJ (pc := 4) ho rfl zp_H_47_1 dH_putBesidesIntoKey_4 ?_
  refine z_aload_n (pc := 7) dH_putBesidesIntoKey_7 rfl rfl ?_
  refine z_lconst (pc := 8) dH_putBesidesIntoKey_8 zl_1 ?_
  refine z_putJ (pc := 9) ho rfl zp_H_50_1 dH_putBesidesIntoKey_9 ?_
  refine z_aload_n (pc := 12) dH_putBesidesIntoKey_12 rfl rfl ?_
  have hq2 : z_hk (z_set (z_set B k 7 10521534629444321280) k 8 1) k H zbes := z_hk.s78 (B := B) (k := k) ⟨h5, h6, h7, h8, e5, e7⟩ (by decide) (by decide)
  refine z_callV (pc := 13) (c_mul ho (hw.mv rfl ((z_hB.rf.set (by decide)).set (by decide))) hq2) (by decide) ho rfl zc_H_55 rfl rfl (Nat.le_of_ble_eq_true rfl) z_cn0 dH_putBesidesIntoKey_13 (fun r A' B' hE => ?_)
  obtain ⟨rfl, rfl, hB2, g5, g6, g7, g8, e1, e2⟩ := hE
  refine z_r0 ?_
  refine z_aload_n (pc := 16) dH_putBesidesIntoKey_16 rfl rfl ?_
  refine z_aload_n (pc := 17) dH_putBesidesIntoKey_17 rfl rfl ?_
  refine z_getJ (pc := 18) ho rfl zf_H_47_1 dH_putBesidesIntoKey_18 ?_
  refine z_putJ (pc := 21) ho rfl zp_H_38_1 dH_putBesidesIntoKey_21 ?_
  refine z_aload_n (pc := 24) dH_putBesidesIntoKey_24 rfl rfl ?_
  refine z_aload_n (pc := 25) dH_putBesidesIntoKey_25 rfl rfl ?_
  refine z_getJ (pc := 26) ho rfl zf_H_50_1 dH_putBesidesIntoKey_26 ?_
  refine z_putJ (pc := 29) ho rfl zp_H_41_1 dH_putBesidesIntoKey_29 ?_
  exact z_ret0 (pc := 32) dH_putBesidesIntoKey_32 (hEx _ _ _ (⟨rfl, rfl, ((((z_hB.rf.set (by decide)).set (by decide)).tr hB2).set (by decide)).set (by decide), zmul ov zbes H, by have q := z_hk.s56 (B := B') (k := k) ⟨g5, g6, g7, g8, e1, e2⟩ g7 g8; rw [e2] at q; rw [z_set_nj (i := 8) (by decide)]; exact q⟩))
/-- the key that a hash works with -/
def zHk (o ov X : Nat) : Nat := if o = 1 then X else zmul ov zbes X
theorem c_begin {k kl c n o mr ov H S : Nat} (ho : z_ob k 1 (zHf kl)) (hc : z_ia c n) (hn : 16 ≤ n) (hby : ∀ j, j < 16 → A c j < 256) (ho1 : o = 1 ∨ o = 0) (hw : z_hw A B k o mr ov) (hq : z_hk B k H S) : z_Met l g ad mH_begin (z_rm 2) [.ref (ad k), .ref (ad c)] A B (z_vd (fun A' B' => A = A' ∧ z_hB B B' k ∧ z_hk B' k (zHk o ov (zblk mr (A c) 0 16)) 0)) := by
  refine z_Met.of (L := [(0, _), (1, _)]) (by decide) (Nat.le_of_ble_eq_true rfl) z_fit_vd rfl ?_
  intro Ex hEx
  obtain ⟨h5, h6, h7, h8, e5, e7⟩ := hq
  refine z_aload_n (pc := 0) dH_begin_0 rfl rfl ?_
  refine z_aload_n (pc := 1) dH_begin_1 rfl rfl ?_
  refine z_aload_n (pc := 2) dH_begin_2 rfl rfl ?_
  refine z_bipush (pc := 3) dH_begin_3 zb_8 ?_
  refine z_bipush (pc := 5) dH_begin_5 zb_16 ?_
  refine z_callV (pc := 7) (c_readHalf (fr := 8) (len := 16) ho hc hn (by omega) hby hw.2.1 hw.2.2.1) (by decide) ho rfl zc_H_34 rfl rfl (Nat.le_of_ble_eq_true rfl) z_cn0 dH_begin_7 (fun r A' B' hE => ?_)
  obtain ⟨rfl, rfl, rfl⟩ := hE
  refine z_r1 ?_
  refine z_putJ (pc := 10) ho rfl zp_H_38_1 dH_begin_10 ?_
  refine z_aload_n (pc := 13) dH_begin_13 rfl rfl ?_
  refine z_aload_n (pc := 14) dH_begin_14 rfl rfl ?_
  refine z_aload_n (pc := 15) dH_begin_15 rfl rfl ?_
  refine z_iconst (pc := 16) dH_begin_16 zi_0 ?_
  refine z_bipush (pc := 17) dH_begin_17 zb_16 ?_
  refine z_callV (pc := 19) (c_readHalf (fr := 0) (len := 16) ho hc hn (by omega) hby hw.2.1 hw.2.2.1) (by decide) ho rfl zc_H_34 rfl rfl (Nat.le_of_ble_eq_true rfl) z_cn0 dH_begin_19 (fun r A' B' hE => ?_)
  obtain ⟨rfl, rfl, rfl⟩ := hE
  refine z_r1 ?_
  refine z_putJ (pc := 22) ho rfl zp_H_41_1 dH_begin_22 ?_
  have hB2 : z_hB B (z_set (z_set B k 5 (zbits (zp mr (A c) 8 16) 64)) k 6 (zbits (zp mr (A c) 0 16) 64)) k := (z_hB.rf.set (by decide)).set (by decide)
  have hq2 : z_hk (z_set (z_set B k 5 (zbits (zp mr (A c) 8 16) 64)) k 6 (zbits (zp mr (A c) 0 16) 64)) k (zblk mr (A c) 0 16) S := by have q := z_hk.s56 (B := B) (k := k) ⟨h5, h6, h7, h8, e5, e7⟩ (zbits_lt (zp mr (A c) 8 16) 64) (zbits_lt (zp mr (A c) 0 16) 64); rw [show (8 : Nat) = 0 + 8 from rfl, zblk_jn] at q; exact q
  refine z_aload_n (pc := 25) dH_begin_25 rfl rfl ?_
  refine z_getI (pc := 26) ho rfl zf_H_9_1 dH_begin_26 ?_
  refine z_if_ne (pc := 29) (by rcases ho1 with q | q <;> rw [hw.1, q] <;> decide) (tgt := 36) dH_begin_29 rfl (fun h1 => ?_) (fun h1 => ?_)
  · refine z_aload_n (pc := 36) dH_begin_36 rfl rfl ?_
    refine z_lconst (pc := 37) dH_begin_37 zl_0 ?_
    refine z_putJ (pc := 38) ho rfl zp_H_47_1 dH_begin_38 ?_
    refine z_aload_n (pc := 41) dH_begin_41 rfl rfl ?_
    refine z_lconst (pc := 42) dH_begin_42 zl_0 ?_
    refine z_putJ (pc := 43) ho rfl zp_H_50_1 dH_begin_43 ?_
    exact z_ret0 (pc := 46) dH_begin_46 (hEx _ _ _ (⟨rfl, rfl, (hB2.set (by decide)).set (by decide), by rw [zHk, if_pos (by rcases ho1 with q | q <;> rw [hw.1] at h1 <;> omega)]; exact hq2.s78 (by decide) (by decide)⟩))
  · refine z_aload_n (pc := 32) dH_begin_32 rfl rfl ?_
    refine z_callV (pc := 33) (c_besides ho (hw.mv rfl hB2) hq2) (by decide) ho rfl zc_H_44 rfl rfl (Nat.le_of_ble_eq_true rfl) z_cn0 dH_begin_33 (fun r A' B' hE => ?_)
    obtain ⟨rfl, rfl, hB3, S', hq3⟩ := hE
    refine z_r0 ?_
    refine z_aload_n (pc := 36) dH_begin_36 rfl rfl ?_
    refine z_lconst (pc := 37) dH_begin_37 zl_0 ?_
    refine z_putJ (pc := 38) ho rfl zp_H_47_1 dH_begin_38 ?_
    refine z_aload_n (pc := 41) dH_begin_41 rfl rfl ?_
    refine z_lconst (pc := 42) dH_begin_42 zl_0 ?_
    refine z_putJ (pc := 43) ho rfl zp_H_50_1 dH_begin_43 ?_
    exact z_ret0 (pc := 46) dH_begin_46 (hEx _ _ _ (⟨rfl, rfl, ((hB2.tr hB3).set (by decide)).set (by decide), by rw [zHk, if_neg (by rw [hw.1] at h1; omega)]; exact hq3.s78 (by decide) (by decide)⟩))
/-- the block of two lengths -/
def zlb (o a b i : Nat) : Nat := if i < 8 then 8 * a / 2 ^ (8 * (if o = 1 then 7 - i else i)) % 256 else 8 * b / 2 ^ (8 * (if o = 1 then 15 - i else i - 8)) % 256
theorem c_addLengths1 {k kl a b mr ov H S : Nat} (ho : z_ob k 1 (zHf kl)) (hl : z_ia kl 16) (hkl : k ≠ kl) (ha : a < 1000) (hb : b < 1000) (hw : z_hw A B k 1 mr ov) (hq : z_hk B k H S) : z_Met l g ad mH_addLengths (z_rm 2) [.ref (ad k), .int (nI a), .int (nI b)] A B (z_vd (fun A' B' => (∀ c', c' ≠ kl → A' c' = A c') ∧ z_hB B B' k ∧ z_hk B' k H (zmul ov (S ^^^ zblk mr (zlb 1 a b) 0 16) H))) := by
  refine z_Met.of (L := [(0, _), (1, _), (2, _)]) (by decide) (Nat.le_of_ble_eq_true rfl) z_fit_vd rfl ?_
  intro Ex hEx
  refine z_aload_n (pc := 0) dH_addLengths_0 rfl rfl ?_
  refine z_iconst (pc := 1) dH_addLengths_1 zi_0 ?_
  refine z_ldc2 (pc := 2) dH_addLengths_2 wk_H_58 zk_H_58 ?_
  refine z_iload_n (pc := 5) dH_addLengths_5 rfl rfl ?_
  refine z_i2l (pc := 6) dH_addLengths_6 (by omega) ?_
  refine z_lmul (pc := 7) dH_addLengths_7 ?_
  refine z_callV (pc := 8) (c_putLength1 (fr := 0) ho hl hkl hw.1 (by omega) (by omega)) (by decide) ho rfl zc_H_60 rfl rfl (Nat.le_of_ble_eq_true rfl) z_cn0 dH_addLengths_8 (fun r A' B' hE => ?_)
  obtain ⟨rfl, rfl, rfl⟩ := hE
  refine z_r0 ?_
  refine z_aload_n (pc := 11) dH_addLengths_11 rfl rfl ?_
  refine z_bipush (pc := 12) dH_addLengths_12 zb_8 ?_
  refine z_ldc2 (pc := 14) dH_addLengths_14 wk_H_58 zk_H_58 ?_
  refine z_iload_n (pc := 17) dH_addLengths_17 rfl rfl ?_
  refine z_i2l (pc := 18) dH_addLengths_18 (by omega) ?_
  refine z_lmul (pc := 19) dH_addLengths_19 ?_
  refine z_callV (pc := 20) (c_putLength1 (fr := 8) ho hl hkl (by rw [z_seg_ne hkl]; exact hw.1) (by omega) (by omega)) (by decide) ho rfl zc_H_60 rfl rfl (Nat.le_of_ble_eq_true rfl) z_cn0 dH_addLengths_20 (fun r A' B' hE => ?_)
  obtain ⟨rfl, rfl, rfl⟩ := hE
  refine z_r0 ?_
  refine z_aload_n (pc := 23) dH_addLengths_23 rfl rfl ?_
  refine z_aload_n (pc := 24) dH_addLengths_24 rfl rfl ?_
  refine z_getR (pc := 25) ho rfl zf_H_30_1 dH_addLengths_25 ?_
  refine z_bipush (pc := 28) dH_addLengths_28 zb_16 ?_
  have hlb : ∀ j, j < 16 → (z_seg (z_seg A kl 0 8 (fun i => (8 * a) / 2 ^ (8 * (0 + 7 - i)) % 256)) kl 8 8 (fun i => (8 * b) / 2 ^ (8 * (8 + 7 - i)) % 256)) kl j = zlb 1 a b j := by
    intro j hj
    unfold zlb
    by_cases h : j < 8
    · rw [if_pos h, z_seg_out (Or.inl h), z_seg_in (Nat.zero_le _) (by omega)]
      simp
    · rw [if_neg h, z_seg_in (by omega) (by omega)]
      simp
  have hw2 : z_hw (z_seg (z_seg A kl 0 8 (fun i => (8 * a) / 2 ^ (8 * (0 + 7 - i)) % 256)) kl 8 8 (fun i => (8 * b) / 2 ^ (8 * (8 + 7 - i)) % 256)) B k 1 mr ov := hw.mv (by rw [z_seg_ne hkl, z_seg_ne hkl]) z_hB.rf
  refine z_callV (pc := 30) (c_add (n := 16) (len := 16) ho hl (by omega) (by omega) (fun j hj => by rw [hlb j hj]; unfold zlb; split <;> exact Nat.mod_lt _ (by decide)) hw2 hq) (by decide) ho rfl zc_H_64 rfl rfl (Nat.le_of_ble_eq_true rfl) z_cn0 dH_addLengths_30 (fun r A' B' hE => ?_)
  obtain ⟨rfl, rfl, hB, hq'⟩ := hE
  refine z_r0 ?_
  have hf : zfr mr ov H ((z_seg (z_seg A kl 0 8 (fun i => (8 * a) / 2 ^ (8 * (0 + 7 - i)) % 256)) kl 8 8 (fun i => (8 * b) / 2 ^ (8 * (8 + 7 - i)) % 256)) kl) 16 S ((16 + 15) / 16) = zmul ov (S ^^^ zblk mr (zlb 1 a b) 0 16) H := by
    rw [← zblk_cg (b := (z_seg (z_seg A kl 0 8 (fun i => (8 * a) / 2 ^ (8 * (0 + 7 - i)) % 256)) kl 8 8 (fun i => (8 * b) / 2 ^ (8 * (8 + 7 - i)) % 256)) kl) (b' := zlb 1 a b) (mr := mr) (fr := 0) (len := 16) (fun j hj _ => hlb (0 + j) (by omega))]
    rfl
  rw [hf] at hq'
  exact z_ret0 (pc := 33) dH_addLengths_33 (hEx _ _ _ (⟨rfl, fun c' hc' => by rw [z_seg_ne hc', z_seg_ne hc'], hB, hq'⟩))
theorem c_addLengths0 {k kl a b mr ov H S : Nat} (ho : z_ob k 1 (zHf kl)) (hl : z_ia kl 16) (hkl : k ≠ kl) (ha : a < 1000) (hb : b < 1000) (hw : z_hw A B k 0 mr ov) (hq : z_hk B k H S) : z_Met l g ad mH_addLengths (z_rm 2) [.ref (ad k), .int (nI a), .int (nI b)] A B (z_vd (fun A' B' => (∀ c', c' ≠ kl → A' c' = A c') ∧ z_hB B B' k ∧ z_hk B' k H (zmul ov (S ^^^ zblk mr (zlb 0 a b) 0 16) H))) := by
  refine z_Met.of (L := [(0, _), (1, _), (2, _)]) (by decide) (Nat.le_of_ble_eq_true rfl) z_fit_vd rfl ?_
  intro Ex hEx
  refine z_aload_n (pc := 0) dH_addLengths_0 rfl rfl ?_
  refine z_iconst (pc := 1) dH_addLengths_1 zi_0 ?_
  refine z_ldc2 (pc := 2) dH_addLengths_2 wk_H_58 zk_H_58 ?_
  refine z_iload_n (pc := 5) dH_addLengths_5 rfl rfl ?_
  refine z_i2l (pc := 6) dH_addLengths_6 (by omega) ?_
  refine z_lmul (pc := 7) dH_addLengths_7 ?_
  refine z_callV (pc := 8) (c_putLength0 (fr := 0) ho hl hkl hw.1 (by omega) (by omega)) (by decide) ho rfl zc_H_60 rfl rfl (Nat.le_of_ble_eq_true rfl) z_cn0 dH_addLengths_8 (fun r A' B' hE => ?_)
  obtain ⟨rfl, rfl, rfl⟩ := hE
  refine z_r0 ?_
  refine z_aload_n (pc := 11) dH_addLengths_11 rfl rfl ?_
  refine z_bipush (pc := 12) dH_addLengths_12 zb_8 ?_
  refine z_ldc2 (pc := 14) dH_addLengths_14 wk_H_58 zk_H_58 ?_
  refine z_iload_n (pc := 17) dH_addLengths_17 rfl rfl ?_
  refine z_i2l (pc := 18) dH_addLengths_18 (by omega) ?_
  refine z_lmul (pc := 19) dH_addLengths_19 ?_
  refine z_callV (pc := 20) (c_putLength0 (fr := 8) ho hl hkl (by rw [z_seg_ne hkl]; exact hw.1) (by omega) (by omega)) (by decide) ho rfl zc_H_60 rfl rfl (Nat.le_of_ble_eq_true rfl) z_cn0 dH_addLengths_20 (fun r A' B' hE => ?_)
  obtain ⟨rfl, rfl, rfl⟩ := hE
  refine z_r0 ?_
  refine z_aload_n (pc := 23) dH_addLengths_23 rfl rfl ?_
  refine z_aload_n (pc := 24) dH_addLengths_24 rfl rfl ?_
  refine z_getR (pc := 25) ho rfl zf_H_30_1 dH_addLengths_25 ?_
  refine z_bipush (pc := 28) dH_addLengths_28 zb_16 ?_
  have hlb : ∀ j, j < 16 → (z_seg (z_seg A kl 0 8 (fun i => (8 * a) / 2 ^ (8 * (i - 0)) % 256)) kl 8 8 (fun i => (8 * b) / 2 ^ (8 * (i - 8)) % 256)) kl j = zlb 0 a b j := by
    intro j hj
    unfold zlb
    by_cases h : j < 8
    · rw [if_pos h, z_seg_out (Or.inl h), z_seg_in (Nat.zero_le _) (by omega)]
      simp
    · rw [if_neg h, z_seg_in (by omega) (by omega)]
      simp
  have hw2 : z_hw (z_seg (z_seg A kl 0 8 (fun i => (8 * a) / 2 ^ (8 * (i - 0)) % 256)) kl 8 8 (fun i => (8 * b) / 2 ^ (8 * (i - 8)) % 256)) B k 0 mr ov := hw.mv (by rw [z_seg_ne hkl, z_seg_ne hkl]) z_hB.rf
  refine z_callV (pc := 30) (c_add (n := 16) (len := 16) ho hl (by omega) (by omega) (fun j hj => by rw [hlb j hj]; unfold zlb; split <;> exact Nat.mod_lt _ (by decide)) hw2 hq) (by decide) ho rfl zc_H_64 rfl rfl (Nat.le_of_ble_eq_true rfl) z_cn0 dH_addLengths_30 (fun r A' B' hE => ?_)
  obtain ⟨rfl, rfl, hB, hq'⟩ := hE
  refine z_r0 ?_
  have hf : zfr mr ov H ((z_seg (z_seg A kl 0 8 (fun i => (8 * a) / 2 ^ (8 * (i - 0)) % 256)) kl 8 8 (fun i => (8 * b) / 2 ^ (8 * (i - 8)) % 256)) kl) 16 S ((16 + 15) / 16) = zmul ov (S ^^^ zblk mr (zlb 0 a b) 0 16) H := by
    rw [← zblk_cg (b := (z_seg (z_seg A kl 0 8 (fun i => (8 * a) / 2 ^ (8 * (i - 0)) % 256)) kl 8 8 (fun i => (8 * b) / 2 ^ (8 * (i - 8)) % 256)) kl) (b' := zlb 0 a b) (mr := mr) (fr := 0) (len := 16) (fun j hj _ => hlb (0 + j) (by omega))]
    rfl
  rw [hf] at hq'
  exact z_ret0 (pc := 33) dH_addLengths_33 (hEx _ _ _ (⟨rfl, fun c' hc' => by rw [z_seg_ne hc', z_seg_ne hc'], hB, hq'⟩))
end
end
section
theorem z_or256 (x : Nat) {y : Nat} (h : y < 256) : x * 2 ^ 8 ||| y = x * 256 + y := by
  have e := Nat.two_pow_add_eq_or_of_lt (i := 8) h x
  rw [show x * 2 ^ 8 = 2 ^ 8 * x by omega, ← e]
  omega
section
variable {l : Launch} {g : z_G} {ad : Nat → Nat} {A B : z_A}
theorem c_count0 {part : Nat} (hp : part < 1000) (hJ : ∀ j, j < 16 → A 27 j < 256) : z_Met l g ad mZ_count (z_rm 1) [.ref (ad 25), .int (nI part)] A B (z_vd (fun A' B' => B = B' ∧ (∀ q, q ≠ 28 → A' q = A q) ∧ ∀ j, j < 16 → A' 28 j = zcnt 0 (A 27) (part + 1) j)) := by
  refine z_Met.of (L := [(0, _), (1, _)]) (by decide) (Nat.le_of_ble_eq_true rfl) z_fit_vd rfl ?_
  intro Ex hEx
  have h12 := hJ 12 (by decide)
  have h13 := hJ 13 (by decide)
  have h14 := hJ 14 (by decide)
  have h15 := hJ 15 (by decide)
  refine z_aload_n (pc := 0) dZ_count_0 rfl rfl ?_
  refine z_getR (pc := 1) zo_25 rfl zf_Z_41_4 dZ_count_1 ?_
  refine z_iconst (pc := 4) dZ_count_4 zi_0 ?_
  refine z_aload_n (pc := 5) dZ_count_5 rfl rfl ?_
  refine z_getR (pc := 6) zo_25 rfl zf_Z_95_4 dZ_count_6 ?_
  refine z_iconst (pc := 9) dZ_count_9 zi_0 ?_
  refine z_bipush (pc := 10) dZ_count_10 zb_16 ?_
  refine z_copy (pc := 12) za_27 za_28 (by omega) (by omega) zy_Z_44 (by decide) (Nat.le_of_ble_eq_true rfl) (by decide) dZ_count_12 ?_
  refine z_iconst (pc := 15) dZ_count_15 zi_0 ?_
  refine z_istore_n (L' := [(2, _), (0, _), (1, _)]) (pc := 16) dZ_count_16 rfl (by decide) rfl ?_
  refine z_bipush (pc := 17) dZ_count_17 zb_12 ?_
  refine z_istore_n (L' := [(3, _), (2, _), (0, _), (1, _)]) (pc := 19) dZ_count_19 rfl (by decide) rfl ?_
  refine z_iload_n (pc := 20) dZ_count_20 rfl rfl ?_
  refine z_bipush (pc := 21) dZ_count_21 zb_16 ?_
  refine z_icmp_ge (pc := 23) (by omega) (by omega) (tgt := 44) dZ_count_23 rfl (fun h => by exfalso; omega) (fun h => ?_)
  refine z_iload_n (pc := 26) dZ_count_26 rfl rfl ?_
  refine z_bipush (pc := 27) dZ_count_27 zb_8 ?_
  refine z_ishl (pc := 29) dZ_count_29 (by omega) ?_
  refine z_aload_n (pc := 30) dZ_count_30 rfl rfl ?_
  refine z_getR (pc := 31) zo_25 rfl zf_Z_41_4 dZ_count_31 ?_
  refine z_iload_n (pc := 34) dZ_count_34 rfl rfl ?_
  refine z_iaload (pc := 35) za_27 (by omega) dZ_count_35 ?_
  refine z_ior (pc := 36) dZ_count_36 ?_
  refine z_top (congrArg (fun x => Value.int (nI x)) (show _ = A 27 12 by rw [z_seg_ne (by decide), z_or256 _ (hJ _ (by decide)), Nat.zero_mul, Nat.zero_add])) ?_
  refine z_istore_n (L' := [(2, _), (3, _), (0, _), (1, _)]) (pc := 37) dZ_count_37 rfl (by decide) rfl ?_
  refine z_iinc (L' := [(3, _), (2, _), (0, _), (1, _)]) (pc := 38) dZ_count_38 rfl zi_1 (by decide) rfl ?_
  refine z_goto (pc := 41) (tgt := 20) dZ_count_41 rfl ?_
  refine z_iload_n (pc := 20) dZ_count_20 rfl rfl ?_
  refine z_bipush (pc := 21) dZ_count_21 zb_16 ?_
  refine z_icmp_ge (pc := 23) (by omega) (by omega) (tgt := 44) dZ_count_23 rfl (fun h => by exfalso; omega) (fun h => ?_)
  refine z_iload_n (pc := 26) dZ_count_26 rfl rfl ?_
  refine z_bipush (pc := 27) dZ_count_27 zb_8 ?_
  refine z_ishl (pc := 29) dZ_count_29 (by omega) ?_
  refine z_aload_n (pc := 30) dZ_count_30 rfl rfl ?_
  refine z_getR (pc := 31) zo_25 rfl zf_Z_41_4 dZ_count_31 ?_
  refine z_iload_n (pc := 34) dZ_count_34 rfl rfl ?_
  refine z_iaload (pc := 35) za_27 (by omega) dZ_count_35 ?_
  refine z_ior (pc := 36) dZ_count_36 ?_
  refine z_top (congrArg (fun x => Value.int (nI x)) (show _ = A 27 12 * 256 + A 27 13 by rw [z_seg_ne (by decide), z_or256 _ (hJ _ (by decide))])) ?_
  refine z_istore_n (L' := [(2, _), (3, _), (0, _), (1, _)]) (pc := 37) dZ_count_37 rfl (by decide) rfl ?_
  refine z_iinc (L' := [(3, _), (2, _), (0, _), (1, _)]) (pc := 38) dZ_count_38 rfl zi_1 (by decide) rfl ?_
  refine z_goto (pc := 41) (tgt := 20) dZ_count_41 rfl ?_
  refine z_iload_n (pc := 20) dZ_count_20 rfl rfl ?_
  refine z_bipush (pc := 21) dZ_count_21 zb_16 ?_
  refine z_icmp_ge (pc := 23) (by omega) (by omega) (tgt := 44) dZ_count_23 rfl (fun h => by exfalso; omega) (fun h => ?_)
  refine z_iload_n (pc := 26) dZ_count_26 rfl rfl ?_
  refine z_bipush (pc := 27) dZ_count_27 zb_8 ?_
  refine z_ishl (pc := 29) dZ_count_29 (by omega) ?_
  refine z_aload_n (pc := 30) dZ_count_30 rfl rfl ?_
  refine z_getR (pc := 31) zo_25 rfl zf_Z_41_4 dZ_count_31 ?_
  refine z_iload_n (pc := 34) dZ_count_34 rfl rfl ?_
  refine z_iaload (pc := 35) za_27 (by omega) dZ_count_35 ?_
  refine z_ior (pc := 36) dZ_count_36 ?_
  refine z_top (congrArg (fun x => Value.int (nI x)) (show _ = (A 27 12 * 256 + A 27 13) * 256 + A 27 14 by rw [z_seg_ne (by decide), z_or256 _ (hJ _ (by decide))])) ?_
  refine z_istore_n (L' := [(2, _), (3, _), (0, _), (1, _)]) (pc := 37) dZ_count_37 rfl (by decide) rfl ?_
  refine z_iinc (L' := [(3, _), (2, _), (0, _), (1, _)]) (pc := 38) dZ_count_38 rfl zi_1 (by decide) rfl ?_
  refine z_goto (pc := 41) (tgt := 20) dZ_count_41 rfl ?_
  refine z_iload_n (pc := 20) dZ_count_20 rfl rfl ?_
  refine z_bipush (pc := 21) dZ_count_21 zb_16 ?_
  refine z_icmp_ge (pc := 23) (by omega) (by omega) (tgt := 44) dZ_count_23 rfl (fun h => by exfalso; omega) (fun h => ?_)
  refine z_iload_n (pc := 26) dZ_count_26 rfl rfl ?_
  refine z_bipush (pc := 27) dZ_count_27 zb_8 ?_
  refine z_ishl (pc := 29) dZ_count_29 (by omega) ?_
  refine z_aload_n (pc := 30) dZ_count_30 rfl rfl ?_
  refine z_getR (pc := 31) zo_25 rfl zf_Z_41_4 dZ_count_31 ?_
  refine z_iload_n (pc := 34) dZ_count_34 rfl rfl ?_
  refine z_iaload (pc := 35) za_27 (by omega) dZ_count_35 ?_
  refine z_ior (pc := 36) dZ_count_36 ?_
  refine z_top (congrArg (fun x => Value.int (nI x)) (show _ = ((A 27 12 * 256 + A 27 13) * 256 + A 27 14) * 256 + A 27 15 by rw [z_seg_ne (by decide), z_or256 _ (hJ _ (by decide))])) ?_
  refine z_istore_n (L' := [(2, _), (3, _), (0, _), (1, _)]) (pc := 37) dZ_count_37 rfl (by decide) rfl ?_
  refine z_iinc (L' := [(3, _), (2, _), (0, _), (1, _)]) (pc := 38) dZ_count_38 rfl zi_1 (by decide) rfl ?_
  refine z_goto (pc := 41) (tgt := 20) dZ_count_41 rfl ?_
  refine z_iload_n (pc := 20) dZ_count_20 rfl rfl ?_
  refine z_bipush (pc := 21) dZ_count_21 zb_16 ?_
  refine z_icmp_ge (pc := 23) (by omega) (by omega) (tgt := 44) dZ_count_23 rfl (fun h => ?_) (fun h => by exfalso; omega)
  refine z_iload_n (pc := 44) dZ_count_44 rfl rfl ?_
  refine z_iload_n (pc := 45) dZ_count_45 rfl rfl ?_
  refine z_iconst (pc := 46) dZ_count_46 zi_1 ?_
  refine z_iadd (pc := 47) dZ_count_47 ?_
  refine z_iadd (pc := 48) dZ_count_48 ?_
  refine z_top (congrArg Value.int (z_nmod _)) ?_
  refine z_istore_n (L' := [(2, _), (3, _), (0, _), (1, _)]) (pc := 49) dZ_count_49 rfl (by decide) rfl ?_
  refine z_bipush (pc := 50) dZ_count_50 zb_15 ?_
  refine z_istore_n (L' := [(3, _), (2, _), (0, _), (1, _)]) (pc := 52) dZ_count_52 rfl (by decide) rfl ?_
  refine z_iload_n (pc := 53) dZ_count_53 rfl rfl ?_
  refine z_bipush (pc := 54) dZ_count_54 zb_12 ?_
  refine z_icmp_lt (pc := 56) (by omega) (by omega) (tgt := 81) dZ_count_56 rfl (fun h => by exfalso; omega) (fun h => ?_)
  refine z_aload_n (pc := 59) dZ_count_59 rfl rfl ?_
  refine z_getR (pc := 60) zo_25 rfl zf_Z_95_4 dZ_count_60 ?_
  refine z_iload_n (pc := 63) dZ_count_63 rfl rfl ?_
  refine z_iload_n (pc := 64) dZ_count_64 rfl rfl ?_
  refine z_sipush (pc := 65) dZ_count_65 zs_255 ?_
  refine z_iand (pc := 68) dZ_count_68 ?_
  refine z_iastore (pc := 69) za_28 (by omega) dZ_count_69 ?_
  refine z_iload_n (pc := 70) dZ_count_70 rfl rfl ?_
  refine z_bipush (pc := 71) dZ_count_71 zb_8 ?_
  refine z_iushr (pc := 73) dZ_count_73 (by omega) (by omega) ?_
  refine z_istore_n (L' := [(2, _), (3, _), (0, _), (1, _)]) (pc := 74) dZ_count_74 rfl (by decide) rfl ?_
  refine z_iinc (L' := [(3, _), (2, _), (0, _), (1, _)]) (pc := 75) dZ_count_75 rfl zi_m1 (by decide) rfl ?_
  refine z_goto (pc := 78) (tgt := 53) dZ_count_78 rfl ?_
  refine z_ls (L' := [(3, .int (nI 14)), (2, _), (0, _), (1, _)]) [0, 1, 2, 3] rfl ?_
  refine z_iload_n (pc := 53) dZ_count_53 rfl rfl ?_
  refine z_bipush (pc := 54) dZ_count_54 zb_12 ?_
  refine z_icmp_lt (pc := 56) (by omega) (by omega) (tgt := 81) dZ_count_56 rfl (fun h => by exfalso; omega) (fun h => ?_)
  refine z_aload_n (pc := 59) dZ_count_59 rfl rfl ?_
  refine z_getR (pc := 60) zo_25 rfl zf_Z_95_4 dZ_count_60 ?_
  refine z_iload_n (pc := 63) dZ_count_63 rfl rfl ?_
  refine z_iload_n (pc := 64) dZ_count_64 rfl rfl ?_
  refine z_sipush (pc := 65) dZ_count_65 zs_255 ?_
  refine z_iand (pc := 68) dZ_count_68 ?_
  refine z_iastore (pc := 69) za_28 (by omega) dZ_count_69 ?_
  refine z_iload_n (pc := 70) dZ_count_70 rfl rfl ?_
  refine z_bipush (pc := 71) dZ_count_71 zb_8 ?_
  refine z_iushr (pc := 73) dZ_count_73 (by omega) (by omega) ?_
  refine z_istore_n (L' := [(2, _), (3, _), (0, _), (1, _)]) (pc := 74) dZ_count_74 rfl (by decide) rfl ?_
  refine z_iinc (L' := [(3, _), (2, _), (0, _), (1, _)]) (pc := 75) dZ_count_75 rfl zi_m1 (by decide) rfl ?_
  refine z_goto (pc := 78) (tgt := 53) dZ_count_78 rfl ?_
  refine z_ls (L' := [(3, .int (nI 13)), (2, _), (0, _), (1, _)]) [0, 1, 2, 3] rfl ?_
  refine z_iload_n (pc := 53) dZ_count_53 rfl rfl ?_
  refine z_bipush (pc := 54) dZ_count_54 zb_12 ?_
  refine z_icmp_lt (pc := 56) (by omega) (by omega) (tgt := 81) dZ_count_56 rfl (fun h => by exfalso; omega) (fun h => ?_)
  refine z_aload_n (pc := 59) dZ_count_59 rfl rfl ?_
  refine z_getR (pc := 60) zo_25 rfl zf_Z_95_4 dZ_count_60 ?_
  refine z_iload_n (pc := 63) dZ_count_63 rfl rfl ?_
  refine z_iload_n (pc := 64) dZ_count_64 rfl rfl ?_
  refine z_sipush (pc := 65) dZ_count_65 zs_255 ?_
  refine z_iand (pc := 68) dZ_count_68 ?_
  refine z_iastore (pc := 69) za_28 (by omega) dZ_count_69 ?_
  refine z_iload_n (pc := 70) dZ_count_70 rfl rfl ?_
  refine z_bipush (pc := 71) dZ_count_71 zb_8 ?_
  refine z_iushr (pc := 73) dZ_count_73 (by omega) (by omega) ?_
  refine z_istore_n (L' := [(2, _), (3, _), (0, _), (1, _)]) (pc := 74) dZ_count_74 rfl (by decide) rfl ?_
  refine z_iinc (L' := [(3, _), (2, _), (0, _), (1, _)]) (pc := 75) dZ_count_75 rfl zi_m1 (by decide) rfl ?_
  refine z_goto (pc := 78) (tgt := 53) dZ_count_78 rfl ?_
  refine z_ls (L' := [(3, .int (nI 12)), (2, _), (0, _), (1, _)]) [0, 1, 2, 3] rfl ?_
  refine z_iload_n (pc := 53) dZ_count_53 rfl rfl ?_
  refine z_bipush (pc := 54) dZ_count_54 zb_12 ?_
  refine z_icmp_lt (pc := 56) (by omega) (by omega) (tgt := 81) dZ_count_56 rfl (fun h => by exfalso; omega) (fun h => ?_)
  refine z_aload_n (pc := 59) dZ_count_59 rfl rfl ?_
  refine z_getR (pc := 60) zo_25 rfl zf_Z_95_4 dZ_count_60 ?_
  refine z_iload_n (pc := 63) dZ_count_63 rfl rfl ?_
  refine z_iload_n (pc := 64) dZ_count_64 rfl rfl ?_
  refine z_sipush (pc := 65) dZ_count_65 zs_255 ?_
  refine z_iand (pc := 68) dZ_count_68 ?_
  refine z_iastore (pc := 69) za_28 (by omega) dZ_count_69 ?_
  refine z_iload_n (pc := 70) dZ_count_70 rfl rfl ?_
  refine z_bipush (pc := 71) dZ_count_71 zb_8 ?_
  refine z_iushr (pc := 73) dZ_count_73 (by omega) (by omega) ?_
  refine z_istore_n (L' := [(2, _), (3, _), (0, _), (1, _)]) (pc := 74) dZ_count_74 rfl (by decide) rfl ?_
  refine z_iinc (L' := [(3, _), (2, _), (0, _), (1, _)]) (pc := 75) dZ_count_75 rfl zi_m1 (by decide) rfl ?_
  refine z_goto (pc := 78) (tgt := 53) dZ_count_78 rfl ?_
  refine z_ls (L' := [(3, .int (nI 11)), (2, _), (0, _), (1, _)]) [0, 1, 2, 3] rfl ?_
  refine z_iload_n (pc := 53) dZ_count_53 rfl rfl ?_
  refine z_bipush (pc := 54) dZ_count_54 zb_12 ?_
  refine z_icmp_lt (pc := 56) (by omega) (by omega) (tgt := 81) dZ_count_56 rfl (fun h => ?_) (fun h => by exfalso; omega)
  exact z_ret0 (pc := 81) dZ_count_81 (hEx _ _ _ (⟨rfl, rfl, fun q hq => by rw [z_set_ne hq, z_set_ne hq, z_set_ne hq, z_set_ne hq, z_seg_ne hq], fun j hj => by rcases z_c16 hj with rfl | rfl | rfl | rfl | rfl | rfl | rfl | rfl | rfl | rfl | rfl | rfl | rfl | rfl | rfl | rfl <;> simp [z_set, va_up, z_seg, zcnt, zcn, z128, z_and255] <;> omega⟩))
theorem c_count1 {part : Nat} (hp : part < 1000) (hJ : ∀ j, j < 16 → A 34 j < 256) : z_Met l g ad mO_count (z_rm 1) [.ref (ad 32), .int (nI part)] A B (z_vd (fun A' B' => B = B' ∧ (∀ q, q ≠ 35 → A' q = A q) ∧ ∀ j, j < 16 → A' 35 j = zcnt 1 (z128 (A 34)) part j)) := by
  refine z_Met.of (L := [(0, _), (1, _)]) (by decide) (Nat.le_of_ble_eq_true rfl) z_fit_vd rfl ?_
  intro Ex hEx
  have h3 := hJ 3 (by decide)
  have h2 := hJ 2 (by decide)
  have h1 := hJ 1 (by decide)
  have h0 := hJ 0 (by decide)
  refine z_aload_n (pc := 0) dO_count_0 rfl rfl ?_
  refine z_getR (pc := 1) zo_32 rfl zf_O_64_3 dO_count_1 ?_
  refine z_iconst (pc := 4) dO_count_4 zi_0 ?_
  refine z_aload_n (pc := 5) dO_count_5 rfl rfl ?_
  refine z_getR (pc := 6) zo_32 rfl zf_O_37_3 dO_count_6 ?_
  refine z_iconst (pc := 9) dO_count_9 zi_0 ?_
  refine z_bipush (pc := 10) dO_count_10 zb_16 ?_
  refine z_copy (pc := 12) za_34 za_35 (by omega) (by omega) zy_O_40 (by decide) (Nat.le_of_ble_eq_true rfl) (by decide) dO_count_12 ?_
  refine z_aload_n (pc := 15) dO_count_15 rfl rfl ?_
  refine z_getR (pc := 16) zo_32 rfl zf_O_37_3 dO_count_16 ?_
  refine z_bipush (pc := 19) dO_count_19 zb_15 ?_
  refine z_dup2 (pc := 21) dO_count_21 rfl rfl ?_
  refine z_iaload (pc := 22) za_35 (by omega) dO_count_22 ?_
  refine z_sipush (pc := 23) dO_count_23 zs_128 ?_
  refine z_ior (pc := 26) dO_count_26 ?_
  refine z_iastore (pc := 27) za_35 (by omega) dO_count_27 ?_
  refine z_iconst (pc := 28) dO_count_28 zi_0 ?_
  refine z_istore_n (L' := [(2, _), (0, _), (1, _)]) (pc := 29) dO_count_29 rfl (by decide) rfl ?_
  refine z_iconst (pc := 30) dO_count_30 zi_3 ?_
  refine z_istore_n (L' := [(3, _), (2, _), (0, _), (1, _)]) (pc := 31) dO_count_31 rfl (by decide) rfl ?_
  refine z_iload_n (pc := 32) dO_count_32 rfl rfl ?_
  refine z_if_lt (pc := 33) (by omega) (tgt := 54) dO_count_33 rfl (fun h => by exfalso; omega) (fun h => ?_)
  refine z_iload_n (pc := 36) dO_count_36 rfl rfl ?_
  refine z_bipush (pc := 37) dO_count_37 zb_8 ?_
  refine z_ishl (pc := 39) dO_count_39 (by omega) ?_
  refine z_aload_n (pc := 40) dO_count_40 rfl rfl ?_
  refine z_getR (pc := 41) zo_32 rfl zf_O_64_3 dO_count_41 ?_
  refine z_iload_n (pc := 44) dO_count_44 rfl rfl ?_
  refine z_iaload (pc := 45) za_34 (by omega) dO_count_45 ?_
  refine z_ior (pc := 46) dO_count_46 ?_
  refine z_top (congrArg (fun x => Value.int (nI x)) (show _ = A 34 3 by rw [z_set_ne (by decide), z_seg_ne (by decide), z_or256 _ (hJ _ (by decide)), Nat.zero_mul, Nat.zero_add])) ?_
  refine z_istore_n (L' := [(2, _), (3, _), (0, _), (1, _)]) (pc := 47) dO_count_47 rfl (by decide) rfl ?_
  refine z_iinc (L' := [(3, _), (2, _), (0, _), (1, _)]) (pc := 48) dO_count_48 rfl zi_m1 (by decide) rfl ?_
  refine z_goto (pc := 51) (tgt := 32) dO_count_51 rfl ?_
  refine z_ls (L' := [(3, .int (nI 2)), (2, _), (0, _), (1, _)]) [0, 1, 2, 3] rfl ?_
  refine z_iload_n (pc := 32) dO_count_32 rfl rfl ?_
  refine z_if_lt (pc := 33) (by omega) (tgt := 54) dO_count_33 rfl (fun h => by exfalso; omega) (fun h => ?_)
  refine z_iload_n (pc := 36) dO_count_36 rfl rfl ?_
  refine z_bipush (pc := 37) dO_count_37 zb_8 ?_
  refine z_ishl (pc := 39) dO_count_39 (by omega) ?_
  refine z_aload_n (pc := 40) dO_count_40 rfl rfl ?_
  refine z_getR (pc := 41) zo_32 rfl zf_O_64_3 dO_count_41 ?_
  refine z_iload_n (pc := 44) dO_count_44 rfl rfl ?_
  refine z_iaload (pc := 45) za_34 (by omega) dO_count_45 ?_
  refine z_ior (pc := 46) dO_count_46 ?_
  refine z_top (congrArg (fun x => Value.int (nI x)) (show _ = A 34 3 * 256 + A 34 2 by rw [z_set_ne (by decide), z_seg_ne (by decide), z_or256 _ (hJ _ (by decide))])) ?_
  refine z_istore_n (L' := [(2, _), (3, _), (0, _), (1, _)]) (pc := 47) dO_count_47 rfl (by decide) rfl ?_
  refine z_iinc (L' := [(3, _), (2, _), (0, _), (1, _)]) (pc := 48) dO_count_48 rfl zi_m1 (by decide) rfl ?_
  refine z_goto (pc := 51) (tgt := 32) dO_count_51 rfl ?_
  refine z_ls (L' := [(3, .int (nI 1)), (2, _), (0, _), (1, _)]) [0, 1, 2, 3] rfl ?_
  refine z_iload_n (pc := 32) dO_count_32 rfl rfl ?_
  refine z_if_lt (pc := 33) (by omega) (tgt := 54) dO_count_33 rfl (fun h => by exfalso; omega) (fun h => ?_)
  refine z_iload_n (pc := 36) dO_count_36 rfl rfl ?_
  refine z_bipush (pc := 37) dO_count_37 zb_8 ?_
  refine z_ishl (pc := 39) dO_count_39 (by omega) ?_
  refine z_aload_n (pc := 40) dO_count_40 rfl rfl ?_
  refine z_getR (pc := 41) zo_32 rfl zf_O_64_3 dO_count_41 ?_
  refine z_iload_n (pc := 44) dO_count_44 rfl rfl ?_
  refine z_iaload (pc := 45) za_34 (by omega) dO_count_45 ?_
  refine z_ior (pc := 46) dO_count_46 ?_
  refine z_top (congrArg (fun x => Value.int (nI x)) (show _ = (A 34 3 * 256 + A 34 2) * 256 + A 34 1 by rw [z_set_ne (by decide), z_seg_ne (by decide), z_or256 _ (hJ _ (by decide))])) ?_
  refine z_istore_n (L' := [(2, _), (3, _), (0, _), (1, _)]) (pc := 47) dO_count_47 rfl (by decide) rfl ?_
  refine z_iinc (L' := [(3, _), (2, _), (0, _), (1, _)]) (pc := 48) dO_count_48 rfl zi_m1 (by decide) rfl ?_
  refine z_goto (pc := 51) (tgt := 32) dO_count_51 rfl ?_
  refine z_ls (L' := [(3, .int (nI 0)), (2, _), (0, _), (1, _)]) [0, 1, 2, 3] rfl ?_
  refine z_iload_n (pc := 32) dO_count_32 rfl rfl ?_
  refine z_if_lt (pc := 33) (by omega) (tgt := 54) dO_count_33 rfl (fun h => by exfalso; omega) (fun h => ?_)
  refine z_iload_n (pc := 36) dO_count_36 rfl rfl ?_
  refine z_bipush (pc := 37) dO_count_37 zb_8 ?_
  refine z_ishl (pc := 39) dO_count_39 (by omega) ?_
  refine z_aload_n (pc := 40) dO_count_40 rfl rfl ?_
  refine z_getR (pc := 41) zo_32 rfl zf_O_64_3 dO_count_41 ?_
  refine z_iload_n (pc := 44) dO_count_44 rfl rfl ?_
  refine z_iaload (pc := 45) za_34 (by omega) dO_count_45 ?_
  refine z_ior (pc := 46) dO_count_46 ?_
  refine z_top (congrArg (fun x => Value.int (nI x)) (show _ = ((A 34 3 * 256 + A 34 2) * 256 + A 34 1) * 256 + A 34 0 by rw [z_set_ne (by decide), z_seg_ne (by decide), z_or256 _ (hJ _ (by decide))])) ?_
  refine z_istore_n (L' := [(2, _), (3, _), (0, _), (1, _)]) (pc := 47) dO_count_47 rfl (by decide) rfl ?_
  refine z_iinc (L' := [(3, _), (2, _), (0, _), (1, _)]) (pc := 48) dO_count_48 rfl zi_m1 (by decide) rfl ?_
  refine z_goto (pc := 51) (tgt := 32) dO_count_51 rfl ?_
  refine z_iload_n (pc := 32) dO_count_32 rfl rfl ?_
  refine z_ifX_lt (pc := 33) (tgt := 54) dO_count_33 rfl (fun h => ?_) (fun h => absurd (show nI (0 + 4294967295) < 0 by decide) h)
  refine z_iload_n (pc := 54) dO_count_54 rfl rfl ?_
  refine z_iload_n (pc := 55) dO_count_55 rfl rfl ?_
  refine z_iadd (pc := 56) dO_count_56 ?_
  refine z_top (congrArg Value.int (z_nmod _)) ?_
  refine z_istore_n (L' := [(2, _), (3, _), (0, _), (1, _)]) (pc := 57) dO_count_57 rfl (by decide) rfl ?_
  refine z_iconst (pc := 58) dO_count_58 zi_0 ?_
  refine z_istore_n (L' := [(3, _), (2, _), (0, _), (1, _)]) (pc := 59) dO_count_59 rfl (by decide) rfl ?_
  refine z_iload_n (pc := 60) dO_count_60 rfl rfl ?_
  refine z_iconst (pc := 61) dO_count_61 zi_4 ?_
  refine z_icmp_ge (pc := 62) (by omega) (by omega) (tgt := 87) dO_count_62 rfl (fun h => by exfalso; omega) (fun h => ?_)
  refine z_aload_n (pc := 65) dO_count_65 rfl rfl ?_
  refine z_getR (pc := 66) zo_32 rfl zf_O_37_3 dO_count_66 ?_
  refine z_iload_n (pc := 69) dO_count_69 rfl rfl ?_
  refine z_iload_n (pc := 70) dO_count_70 rfl rfl ?_
  refine z_sipush (pc := 71) dO_count_71 zs_255 ?_
  refine z_iand (pc := 74) dO_count_74 ?_
  refine z_iastore (pc := 75) za_35 (by omega) dO_count_75 ?_
  refine z_iload_n (pc := 76) dO_count_76 rfl rfl ?_
  refine z_bipush (pc := 77) dO_count_77 zb_8 ?_
  refine z_iushr (pc := 79) dO_count_79 (by omega) (by omega) ?_
  refine z_istore_n (L' := [(2, _), (3, _), (0, _), (1, _)]) (pc := 80) dO_count_80 rfl (by decide) rfl ?_
  refine z_iinc (L' := [(3, _), (2, _), (0, _), (1, _)]) (pc := 81) dO_count_81 rfl zi_1 (by decide) rfl ?_
  refine z_goto (pc := 84) (tgt := 60) dO_count_84 rfl ?_
  refine z_iload_n (pc := 60) dO_count_60 rfl rfl ?_
  refine z_iconst (pc := 61) dO_count_61 zi_4 ?_
  refine z_icmp_ge (pc := 62) (by omega) (by omega) (tgt := 87) dO_count_62 rfl (fun h => by exfalso; omega) (fun h => ?_)
  refine z_aload_n (pc := 65) dO_count_65 rfl rfl ?_
  refine z_getR (pc := 66) zo_32 rfl zf_O_37_3 dO_count_66 ?_
  refine z_iload_n (pc := 69) dO_count_69 rfl rfl ?_
  refine z_iload_n (pc := 70) dO_count_70 rfl rfl ?_
  refine z_sipush (pc := 71) dO_count_71 zs_255 ?_
  refine z_iand (pc := 74) dO_count_74 ?_
  refine z_iastore (pc := 75) za_35 (by omega) dO_count_75 ?_
  refine z_iload_n (pc := 76) dO_count_76 rfl rfl ?_
  refine z_bipush (pc := 77) dO_count_77 zb_8 ?_
  refine z_iushr (pc := 79) dO_count_79 (by omega) (by omega) ?_
  refine z_istore_n (L' := [(2, _), (3, _), (0, _), (1, _)]) (pc := 80) dO_count_80 rfl (by decide) rfl ?_
  refine z_iinc (L' := [(3, _), (2, _), (0, _), (1, _)]) (pc := 81) dO_count_81 rfl zi_1 (by decide) rfl ?_
  refine z_goto (pc := 84) (tgt := 60) dO_count_84 rfl ?_
  refine z_iload_n (pc := 60) dO_count_60 rfl rfl ?_
  refine z_iconst (pc := 61) dO_count_61 zi_4 ?_
  refine z_icmp_ge (pc := 62) (by omega) (by omega) (tgt := 87) dO_count_62 rfl (fun h => by exfalso; omega) (fun h => ?_)
  refine z_aload_n (pc := 65) dO_count_65 rfl rfl ?_
  refine z_getR (pc := 66) zo_32 rfl zf_O_37_3 dO_count_66 ?_
  refine z_iload_n (pc := 69) dO_count_69 rfl rfl ?_
  refine z_iload_n (pc := 70) dO_count_70 rfl rfl ?_
  refine z_sipush (pc := 71) dO_count_71 zs_255 ?_
  refine z_iand (pc := 74) dO_count_74 ?_
  refine z_iastore (pc := 75) za_35 (by omega) dO_count_75 ?_
  refine z_iload_n (pc := 76) dO_count_76 rfl rfl ?_
  refine z_bipush (pc := 77) dO_count_77 zb_8 ?_
  refine z_iushr (pc := 79) dO_count_79 (by omega) (by omega) ?_
  refine z_istore_n (L' := [(2, _), (3, _), (0, _), (1, _)]) (pc := 80) dO_count_80 rfl (by decide) rfl ?_
  refine z_iinc (L' := [(3, _), (2, _), (0, _), (1, _)]) (pc := 81) dO_count_81 rfl zi_1 (by decide) rfl ?_
  refine z_goto (pc := 84) (tgt := 60) dO_count_84 rfl ?_
  refine z_iload_n (pc := 60) dO_count_60 rfl rfl ?_
  refine z_iconst (pc := 61) dO_count_61 zi_4 ?_
  refine z_icmp_ge (pc := 62) (by omega) (by omega) (tgt := 87) dO_count_62 rfl (fun h => by exfalso; omega) (fun h => ?_)
  refine z_aload_n (pc := 65) dO_count_65 rfl rfl ?_
  refine z_getR (pc := 66) zo_32 rfl zf_O_37_3 dO_count_66 ?_
  refine z_iload_n (pc := 69) dO_count_69 rfl rfl ?_
  refine z_iload_n (pc := 70) dO_count_70 rfl rfl ?_
  refine z_sipush (pc := 71) dO_count_71 zs_255 ?_
  refine z_iand (pc := 74) dO_count_74 ?_
  refine z_iastore (pc := 75) za_35 (by omega) dO_count_75 ?_
  refine z_iload_n (pc := 76) dO_count_76 rfl rfl ?_
  refine z_bipush (pc := 77) dO_count_77 zb_8 ?_
  refine z_iushr (pc := 79) dO_count_79 (by omega) (by omega) ?_
  refine z_istore_n (L' := [(2, _), (3, _), (0, _), (1, _)]) (pc := 80) dO_count_80 rfl (by decide) rfl ?_
  refine z_iinc (L' := [(3, _), (2, _), (0, _), (1, _)]) (pc := 81) dO_count_81 rfl zi_1 (by decide) rfl ?_
  refine z_goto (pc := 84) (tgt := 60) dO_count_84 rfl ?_
  refine z_iload_n (pc := 60) dO_count_60 rfl rfl ?_
  refine z_iconst (pc := 61) dO_count_61 zi_4 ?_
  refine z_icmp_ge (pc := 62) (by omega) (by omega) (tgt := 87) dO_count_62 rfl (fun h => ?_) (fun h => by exfalso; omega)
  exact z_ret0 (pc := 87) dO_count_87 (hEx _ _ _ (⟨rfl, rfl, fun q hq => by rw [z_set_ne hq, z_set_ne hq, z_set_ne hq, z_set_ne hq, z_set_ne hq, z_seg_ne hq], fun j hj => by rcases z_c16 hj with rfl | rfl | rfl | rfl | rfl | rfl | rfl | rfl | rfl | rfl | rfl | rfl | rfl | rfl | rfl | rfl <;> simp [z_set, va_up, z_seg, zcnt, zcn, z128, z_and255] <;> omega⟩))
end
end
section
/-- times, as the reference has it -/
def ztmS (a b : Nat) : Nat → Nat × Nat
  | 0 => (0, a)
  | k + 1 => if b / 2 ^ k &&& 1 = 1 then ((ztmS a b k).1 ^^^ (ztmS a b k).2, zd (ztmS a b k).2) else ((ztmS a b k).1, zd (ztmS a b k).2)
def ztm (a b : Nat) : Nat := (ztmS a b 8).1
theorem ztmS_lt {a : Nat} (ha : a < 256) (b : Nat) : ∀ k, (ztmS a b k).2 < 256
  | 0 => ha
  | k + 1 => by
    unfold ztmS
    split <;> exact zd_lt _ (ztmS_lt ha b k)
theorem ztm2 : ∀ y, y < 256 → ztm 2 y = zd y := by decide +kernel
theorem ztm3 : ∀ y, y < 256 → ztm 3 y = zt y := by decide +kernel
theorem z_and1_lt (x : Nat) : x &&& 1 < 2 ^ 31 := Nat.lt_of_le_of_lt Nat.and_le_right (by decide)
section
variable {l : Launch} {g : z_G} {ad : Nat → Nat} {A B : z_A}
theorem m_doubled {a : Nat} (ha : a < 256) : z_Met l g ad mM_doubled (z_rm 0) [.int (nI a)] A B (z_eq (some (.int (nI (zd a)))) A B) := by
  refine z_Met.of (L := [(0, _)]) (by decide) (Nat.le_of_ble_eq_true rfl) (z_fit_eq (Or.inl rfl)) rfl ?_
  intro Ex hEx
  refine z_iload_n (pc := 0) dM_doubled_0 rfl rfl ?_
  refine z_bipush (pc := 1) dM_doubled_1 zb_127 ?_
  refine z_icmp_le (pc := 3) (by omega) (by omega) (tgt := 16) dM_doubled_3 rfl (fun h1 => ?_) (fun h1 => ?_)
  · refine z_iconst (pc := 16) dM_doubled_16 zi_2 ?_
    refine z_iload_n (pc := 17) dM_doubled_17 rfl rfl ?_
    refine z_imul (pc := 18) dM_doubled_18 ?_
    exact z_reti (pc := 19) dM_doubled_19 (hEx _ _ _ (⟨by first | rw [zd, if_pos (by omega)] | rw [zd, if_neg (by omega)], rfl, rfl⟩))
  · refine z_iconst (pc := 6) dM_doubled_6 zi_2 ?_
    refine z_iload_n (pc := 7) dM_doubled_7 rfl rfl ?_
    refine z_imul (pc := 8) dM_doubled_8 ?_
    refine z_sipush (pc := 9) dM_doubled_9 zs_283 ?_
    refine z_ixor (pc := 12) dM_doubled_12 ?_
    refine z_goto (pc := 13) (tgt := 19) dM_doubled_13 rfl ?_
    exact z_reti (pc := 19) dM_doubled_19 (hEx _ _ _ (⟨by first | rw [zd, if_pos (by omega)] | rw [zd, if_neg (by omega)], rfl, rfl⟩))
theorem m_times {a b : Nat} (ha : a < 256) (hb : b < 256) : z_Met l g ad mM_times (z_rm 1) [.int (nI a), .int (nI b)] A B (z_eq (some (.int (nI (ztm a b)))) A B) := by
  refine z_Met.of (L := [(0, _), (1, _)]) (by decide) (Nat.le_of_ble_eq_true rfl) (z_fit_eq (Or.inl rfl)) rfl ?_
  intro Ex hEx
  refine z_iconst (pc := 0) dM_times_0 zi_0 ?_
  refine z_istore_n (L' := [(2, _), (0, _), (1, _)]) (pc := 1) dM_times_1 rfl (by decide) rfl ?_
  refine z_iload_n (pc := 2) dM_times_2 rfl rfl ?_
  refine z_istore_n (L' := [(3, _), (2, _), (0, _), (1, _)]) (pc := 3) dM_times_3 rfl (by decide) rfl ?_
  refine z_iconst (pc := 4) dM_times_4 zi_0 ?_
  refine z_istore (L' := [(4, _), (3, _), (2, _), (0, _), (1, _)]) (pc := 5) dM_times_5 (by decide) rfl ?_
  
  refine z_for 8 (fun i => [(4, .int (nI i)), (3, .int (nI ((ztmS a b i).2))), (2, .int (nI ((ztmS a b i).1))), (0, .int (nI a)), (1, .int (nI b))]) (fun i => A) (fun i => B) (fun i hi ki => ?_) ?_
  · refine z_iload (pc := 7) dM_times_7 rfl ?_
    refine z_bipush (pc := 9) dM_times_9 zb_8 ?_
    refine z_icmp_ge (pc := 11) (by omega) (by omega) (tgt := 43) dM_times_11 rfl (fun h => by exfalso; omega) (fun h => ?_)
    refine z_iload_n (pc := 14) dM_times_14 rfl rfl ?_
    refine z_iload (pc := 15) dM_times_15 rfl ?_
    refine z_ishr (pc := 17) dM_times_17 (by omega) (by omega) ?_
    refine z_iconst (pc := 18) dM_times_18 zi_1 ?_
    refine z_iand (pc := 19) dM_times_19 ?_
    refine z_iconst (pc := 20) dM_times_20 zi_1 ?_
    refine z_icmp_ne (pc := 21) (by exact z_and1_lt _) (by omega) (tgt := 30) dM_times_21 rfl (fun h1 => ?_) (fun h1 => ?_)
    · have e : ztmS a b (i + 1) = ((ztmS a b i).1, zd (ztmS a b i).2) := by rw [ztmS, if_neg h1]
      rw [e] at ki
      refine z_iload_n (pc := 30) dM_times_30 rfl rfl ?_
      refine z_istore_n (L' := [(2, _), (4, _), (3, _), (0, _), (1, _)]) (pc := 31) dM_times_31 rfl (by decide) rfl ?_
      refine z_iload_n (pc := 32) dM_times_32 rfl rfl ?_
      refine z_callS (pc := 33) (m_doubled (ztmS_lt ha b i)) (by decide) zc_M_63 rfl rfl (Nat.le_of_ble_eq_true rfl) z_cn0 dM_times_33 (fun r A' B' hE => ?_)
      obtain ⟨rfl, rfl, rfl⟩ := hE
      refine z_r1 ?_
      refine z_istore_n (L' := [(3, _), (2, _), (4, _), (0, _), (1, _)]) (pc := 36) dM_times_36 rfl (by decide) rfl ?_
      refine z_iinc (L' := [(4, _), (3, _), (2, _), (0, _), (1, _)]) (pc := 37) dM_times_37 rfl zi_1 (by decide) rfl ?_
      refine z_goto (pc := 40) (tgt := 7) dM_times_40 rfl ?_
      exact ki
    · have e : ztmS a b (i + 1) = ((ztmS a b i).1 ^^^ (ztmS a b i).2, zd (ztmS a b i).2) := by rw [ztmS, if_pos h1]
      rw [e] at ki
      refine z_iload_n (pc := 24) dM_times_24 rfl rfl ?_
      refine z_iload_n (pc := 25) dM_times_25 rfl rfl ?_
      refine z_ixor (pc := 26) dM_times_26 ?_
      refine z_goto (pc := 27) (tgt := 31) dM_times_27 rfl ?_
      refine z_istore_n (L' := [(2, _), (4, _), (3, _), (0, _), (1, _)]) (pc := 31) dM_times_31 rfl (by decide) rfl ?_
      refine z_iload_n (pc := 32) dM_times_32 rfl rfl ?_
      refine z_callS (pc := 33) (m_doubled (ztmS_lt ha b i)) (by decide) zc_M_63 rfl rfl (Nat.le_of_ble_eq_true rfl) z_cn0 dM_times_33 (fun r A' B' hE => ?_)
      obtain ⟨rfl, rfl, rfl⟩ := hE
      refine z_r1 ?_
      refine z_istore_n (L' := [(3, _), (2, _), (4, _), (0, _), (1, _)]) (pc := 36) dM_times_36 rfl (by decide) rfl ?_
      refine z_iinc (L' := [(4, _), (3, _), (2, _), (0, _), (1, _)]) (pc := 37) dM_times_37 rfl zi_1 (by decide) rfl ?_
      refine z_goto (pc := 40) (tgt := 7) dM_times_40 rfl ?_
      exact ki
  · refine z_iload (pc := 7) dM_times_7 rfl ?_
    refine z_bipush (pc := 9) dM_times_9 zb_8 ?_
    refine z_icmp_ge (pc := 11) (by omega) (by omega) (tgt := 43) dM_times_11 rfl (fun h => ?_) (fun h => by exfalso; omega)
    refine z_iload_n (pc := 43) dM_times_43 rfl rfl ?_
    exact z_reti (pc := 44) dM_times_44 (hEx _ _ _ (⟨rfl, rfl, rfl⟩))
theorem m_addWords {r : Nat} (hr : r ≤ 10) : z_Met l g ad mM_addWords (z_rm 0) [.ref (ad 39), .int (nI r)] A B (z_eq none (z_map A 44 16 (fun j => A 44 j ^^^ A 43 (16 * r + j))) B) := by
  refine z_Met.of (L := [(0, _), (1, _)]) (by decide) (Nat.le_of_ble_eq_true rfl) (z_fit_eq rfl) rfl ?_
  intro Ex hEx
  refine z_iconst (pc := 0) dM_addWords_0 zi_0 ?_
  refine z_istore_n (L' := [(2, _), (0, _), (1, _)]) (pc := 1) dM_addWords_1 rfl (by decide) rfl ?_
  refine z_wd (z_map_0 A 44 (fun j => A 44 j ^^^ A 43 (16 * r + j))).symm rfl ?_
  refine z_for 16 (fun i => [(2, .int (nI i)), (0, .ref (ad 39)), (1, .int (nI r))]) (fun i => z_map A 44 i (fun j => A 44 j ^^^ A 43 (16 * r + j))) (fun i => B) (fun i hi ki => ?_) ?_
  · refine z_iload_n (pc := 2) dM_addWords_2 rfl rfl ?_
    refine z_bipush (pc := 3) dM_addWords_3 zb_16 ?_
    refine z_icmp_ge (pc := 5) (by omega) (by omega) (tgt := 38) dM_addWords_5 rfl (fun h => by exfalso; omega) (fun h => ?_)
    refine z_aload_n (pc := 8) dM_addWords_8 rfl rfl ?_
    refine z_getR (pc := 9) zo_39 rfl zf_M_22_6 dM_addWords_9 ?_
    refine z_iload_n (pc := 12) dM_addWords_12 rfl rfl ?_
    refine z_aload_n (pc := 13) dM_addWords_13 rfl rfl ?_
    refine z_getR (pc := 14) zo_39 rfl zf_M_22_6 dM_addWords_14 ?_
    refine z_iload_n (pc := 17) dM_addWords_17 rfl rfl ?_
    refine z_iaload (pc := 18) za_44 (by omega) dM_addWords_18 ?_
    refine z_aload_n (pc := 19) dM_addWords_19 rfl rfl ?_
    refine z_getR (pc := 20) zo_39 rfl zf_M_19_6 dM_addWords_20 ?_
    refine z_bipush (pc := 23) dM_addWords_23 zb_16 ?_
    refine z_iload_n (pc := 25) dM_addWords_25 rfl rfl ?_
    refine z_imul (pc := 26) dM_addWords_26 ?_
    refine z_iload_n (pc := 27) dM_addWords_27 rfl rfl ?_
    refine z_iadd (pc := 28) dM_addWords_28 ?_
    refine z_iaload (pc := 29) za_43 (by omega) dM_addWords_29 ?_
    refine z_ixor (pc := 30) dM_addWords_30 ?_
    refine z_iastore (pc := 31) za_44 (by omega) dM_addWords_31 ?_
    refine z_iinc (L' := [(2, _), (0, _), (1, _)]) (pc := 32) dM_addWords_32 rfl zi_1 (by decide) rfl ?_
    refine z_goto (pc := 35) (tgt := 2) dM_addWords_35 rfl ?_
    refine z_wd (z_map_set ?_) rfl ki
    rw [z_map_ge (Nat.le_refl _), z_map_ne (by decide)]
  · refine z_iload_n (pc := 2) dM_addWords_2 rfl rfl ?_
    refine z_bipush (pc := 3) dM_addWords_3 zb_16 ?_
    refine z_icmp_ge (pc := 5) (by omega) (by omega) (tgt := 38) dM_addWords_5 rfl (fun h => ?_) (fun h => by exfalso; omega)
    exact z_ret0 (pc := 38) dM_addWords_38 (hEx _ _ _ (⟨rfl, rfl, rfl⟩))
theorem m_mixed {c r : Nat} (hc : c < 4) (hr : r < 4) (ho : ∀ j, j < 16 → A 45 j < 256) : z_Met l g ad mM_mixed (z_rm 2) [.ref (ad 39), .int (nI c), .int (nI r)] A B (z_eq (some (.int (nI (zmx (A 45) (4 * c + r))))) A B) := by
  refine z_Met.of (L := [(0, _), (1, _), (2, _)]) (by decide) (Nat.le_of_ble_eq_true rfl) (z_fit_eq (Or.inl rfl)) rfl ?_
  intro Ex hEx
  refine z_aload_n (pc := 0) dM_mixed_0 rfl rfl ?_
  refine z_getR (pc := 1) zo_39 rfl zf_M_25_6 dM_mixed_1 ?_
  refine z_iconst (pc := 4) dM_mixed_4 zi_4 ?_
  refine z_iload_n (pc := 5) dM_mixed_5 rfl rfl ?_
  refine z_imul (pc := 6) dM_mixed_6 ?_
  refine z_iload_n (pc := 7) dM_mixed_7 rfl rfl ?_
  refine z_iadd (pc := 8) dM_mixed_8 ?_
  refine z_iaload (pc := 9) za_45 (by omega) dM_mixed_9 ?_
  refine z_istore_n (L' := [(3, _), (0, _), (1, _), (2, _)]) (pc := 10) dM_mixed_10 rfl (by decide) rfl ?_
  refine z_aload_n (pc := 11) dM_mixed_11 rfl rfl ?_
  refine z_getR (pc := 12) zo_39 rfl zf_M_25_6 dM_mixed_12 ?_
  refine z_iconst (pc := 15) dM_mixed_15 zi_4 ?_
  refine z_iload_n (pc := 16) dM_mixed_16 rfl rfl ?_
  refine z_imul (pc := 17) dM_mixed_17 ?_
  refine z_iload_n (pc := 18) dM_mixed_18 rfl rfl ?_
  refine z_iconst (pc := 19) dM_mixed_19 zi_1 ?_
  refine z_iadd (pc := 20) dM_mixed_20 ?_
  refine z_iconst (pc := 21) dM_mixed_21 zi_4 ?_
  refine z_irem (pc := 22) dM_mixed_22 (by omega) (by omega) (by omega) ?_
  refine z_iadd (pc := 23) dM_mixed_23 ?_
  refine z_iaload (pc := 24) za_45 (by omega) dM_mixed_24 ?_
  refine z_istore (L' := [(4, _), (3, _), (0, _), (1, _), (2, _)]) (pc := 25) dM_mixed_25 (by decide) rfl ?_
  refine z_iconst (pc := 27) dM_mixed_27 zi_2 ?_
  refine z_iload_n (pc := 28) dM_mixed_28 rfl rfl ?_
  refine z_callS (pc := 29) (m_times (by omega) (ho _ (by omega))) (by decide) zc_M_52 rfl rfl (Nat.le_of_ble_eq_true rfl) z_cn0 dM_mixed_29 (fun r A' B' hE => ?_)
  obtain ⟨rfl, rfl, rfl⟩ := hE
  refine z_r1 ?_
  refine z_iconst (pc := 32) dM_mixed_32 zi_3 ?_
  refine z_iload (pc := 33) dM_mixed_33 rfl ?_
  refine z_callS (pc := 35) (m_times (by omega) (ho _ (by omega))) (by decide) zc_M_52 rfl rfl (Nat.le_of_ble_eq_true rfl) z_cn0 dM_mixed_35 (fun r A' B' hE => ?_)
  obtain ⟨rfl, rfl, rfl⟩ := hE
  refine z_r1 ?_
  refine z_ixor (pc := 38) dM_mixed_38 ?_
  refine z_aload_n (pc := 39) dM_mixed_39 rfl rfl ?_
  refine z_getR (pc := 40) zo_39 rfl zf_M_25_6 dM_mixed_40 ?_
  refine z_iconst (pc := 43) dM_mixed_43 zi_4 ?_
  refine z_iload_n (pc := 44) dM_mixed_44 rfl rfl ?_
  refine z_imul (pc := 45) dM_mixed_45 ?_
  refine z_iload_n (pc := 46) dM_mixed_46 rfl rfl ?_
  refine z_iconst (pc := 47) dM_mixed_47 zi_2 ?_
  refine z_iadd (pc := 48) dM_mixed_48 ?_
  refine z_iconst (pc := 49) dM_mixed_49 zi_4 ?_
  refine z_irem (pc := 50) dM_mixed_50 (by omega) (by omega) (by omega) ?_
  refine z_iadd (pc := 51) dM_mixed_51 ?_
  refine z_iaload (pc := 52) za_45 (by omega) dM_mixed_52 ?_
  refine z_ixor (pc := 53) dM_mixed_53 ?_
  refine z_aload_n (pc := 54) dM_mixed_54 rfl rfl ?_
  refine z_getR (pc := 55) zo_39 rfl zf_M_25_6 dM_mixed_55 ?_
  refine z_iconst (pc := 58) dM_mixed_58 zi_4 ?_
  refine z_iload_n (pc := 59) dM_mixed_59 rfl rfl ?_
  refine z_imul (pc := 60) dM_mixed_60 ?_
  refine z_iload_n (pc := 61) dM_mixed_61 rfl rfl ?_
  refine z_iconst (pc := 62) dM_mixed_62 zi_3 ?_
  refine z_iadd (pc := 63) dM_mixed_63 ?_
  refine z_iconst (pc := 64) dM_mixed_64 zi_4 ?_
  refine z_irem (pc := 65) dM_mixed_65 (by omega) (by omega) (by omega) ?_
  refine z_iadd (pc := 66) dM_mixed_66 ?_
  refine z_iaload (pc := 67) za_45 (by omega) dM_mixed_67 ?_
  refine z_ixor (pc := 68) dM_mixed_68 ?_
  exact z_reti (pc := 69) dM_mixed_69 (hEx _ _ _ (⟨by rw [zmx, show (4 * c + r) / 4 = c by omega, show (4 * c + r) % 4 = r by omega, ztm2 _ (ho _ (by omega)), ztm3 _ (ho _ (by omega))], rfl, rfl⟩))
def zW1 (A : z_A) : Nat → Nat := fun j => if j < 16 then A 47 j else A 43 j
theorem zW1_lt {A : z_A} {j : Nat} (h : j < 16) : zW1 A j = A 47 j := if_pos h
theorem m_expand  (hb : z_box A 46) (hK : ∀ j, j < 16 → A 47 j < 256) : z_Met l g ad mM_expand (z_rm 1) [.ref (ad 39)] A B (z_vd (fun A' B' => B = B' ∧ (∀ k, k ≠ 43 → A' k = A k) ∧ ∀ j, j < 176 → A' 43 j = zKX (A 47) j)) := by
  refine z_Met.of (L := [(0, _)]) (by decide) (Nat.le_of_ble_eq_true rfl) z_fit_vd rfl ?_
  intro Ex hEx
  have hK0 : ∀ j, j < 16 → zW1 A j < 256 := fun j hj => by rw [zW1_lt hj]; exact hK j hj
  refine z_iconst (pc := 0) dM_expand_0 zi_0 ?_
  refine z_istore_n (L' := [(1, _), (0, _)]) (pc := 1) dM_expand_1 rfl (by decide) rfl ?_
  refine z_wd (z_map_0 A 43 (A 47)).symm rfl ?_
  refine z_for 16 (fun i => [(1, .int (nI i)), (0, .ref (ad 39))]) (fun i => z_map A 43 i (A 47)) (fun i => B) (fun i hi ki => ?_) ?_
  · refine z_iload_n (pc := 2) dM_expand_2 rfl rfl ?_
    refine z_bipush (pc := 3) dM_expand_3 zb_16 ?_
    refine z_icmp_ge (pc := 5) (by omega) (by omega) (tgt := 26) dM_expand_5 rfl (fun h => by exfalso; omega) (fun h => ?_)
    refine z_aload_n (pc := 8) dM_expand_8 rfl rfl ?_
    refine z_getR (pc := 9) zo_39 rfl zf_M_19_6 dM_expand_9 ?_
    refine z_iload_n (pc := 12) dM_expand_12 rfl rfl ?_
    refine z_aload_n (pc := 13) dM_expand_13 rfl rfl ?_
    refine z_getR (pc := 14) zo_39 rfl zf_M_31_6 dM_expand_14 ?_
    refine z_iload_n (pc := 17) dM_expand_17 rfl rfl ?_
    refine z_iaload (pc := 18) za_47 (by omega) dM_expand_18 ?_
    refine z_iastore (pc := 19) za_43 (by omega) dM_expand_19 ?_
    refine z_iinc (L' := [(1, _), (0, _)]) (pc := 20) dM_expand_20 rfl zi_1 (by decide) rfl ?_
    refine z_goto (pc := 23) (tgt := 2) dM_expand_23 rfl ?_
    refine z_wd (z_map_set ?_) rfl ki
    rw [z_map_ne (by decide)]
  · refine z_iload_n (pc := 2) dM_expand_2 rfl rfl ?_
    refine z_bipush (pc := 3) dM_expand_3 zb_16 ?_
    refine z_icmp_ge (pc := 5) (by omega) (by omega) (tgt := 26) dM_expand_5 rfl (fun h => ?_) (fun h => by exfalso; omega)
    refine z_iconst (pc := 26) dM_expand_26 zi_1 ?_
    refine z_istore_n (L' := [(1, _), (0, _)]) (pc := 27) dM_expand_27 rfl (by decide) rfl ?_
    refine z_iconst (pc := 28) dM_expand_28 zi_4 ?_
    refine z_istore_n (L' := [(2, _), (1, _), (0, _)]) (pc := 29) dM_expand_29 rfl (by decide) rfl ?_
    refine z_wd (A' := va_up A 43 (zkS (zW1 A) 0).1) rfl rfl ?_
    refine z_for 40 (fun m => [(2, .int (nI (m + 4))), (1, .int (nI ((zkS (zW1 A) m).2))), (0, .ref (ad 39))]) (fun m => va_up A 43 (zkS (zW1 A) m).1) (fun m => B) (fun m hm km => ?_) ?_
    · refine z_iload_n (pc := 30) dM_expand_30 rfl rfl ?_
      refine z_bipush (pc := 31) dM_expand_31 zb_44 ?_
      refine z_icmp_ge (pc := 33) (by omega) (by omega) (tgt := 154) dM_expand_33 rfl (fun h => by exfalso; omega) (fun h => ?_)
      refine z_iconst (pc := 36) dM_expand_36 zi_0 ?_
      refine z_istore_n (L' := [(3, _), (2, _), (1, _), (0, _)]) (pc := 37) dM_expand_37 rfl (by decide) rfl ?_
      by_cases h4 : (m + 4) % 4 = 0
      · have e : zkS (zW1 A) (m + 1) = (zkB (zkS (zW1 A) m).1 (m + 4) (zkS (zW1 A) m).2, zd (zkS (zW1 A) m).2) := by rw [zkS, if_pos h4]
        rw [e] at km
        refine z_wd (z_seg_0 (va_up A 43 (zkS (zW1 A) m).1) 43 (4 * (m + 4)) (zkw2 ((va_up A 43 (zkS (zW1 A) m).1) 43) (m + 4))).symm rfl ?_
        refine z_for 4 (fun r => [(3, .int (nI r)), (2, .int (nI (m + 4))), (1, .int (nI ((zkS (zW1 A) m).2))), (0, .ref (ad 39))]) (fun r => z_seg (va_up A 43 (zkS (zW1 A) m).1) 43 (4 * (m + 4)) r (zkw2 ((va_up A 43 (zkS (zW1 A) m).1) 43) (m + 4))) (fun r => B) (fun r hr kr => ?_) ?_
        · refine z_iload_n (pc := 38) dM_expand_38 rfl rfl ?_
          refine z_iconst (pc := 39) dM_expand_39 zi_4 ?_
          refine z_icmp_ge (pc := 40) (by omega) (by omega) (tgt := 119) dM_expand_40 rfl (fun h => by exfalso; omega) (fun h => ?_)
          refine z_iload_n (pc := 43) dM_expand_43 rfl rfl ?_
          refine z_iconst (pc := 44) dM_expand_44 zi_4 ?_
          refine z_irem (pc := 45) dM_expand_45 (by omega) (by omega) (by omega) ?_
          refine z_if_ne (pc := 46) (by omega) (tgt := 73) dM_expand_46 rfl (fun h => by exfalso; omega) (fun h => ?_)
          refine z_aload_n (pc := 49) dM_expand_49 rfl rfl ?_
          refine z_getR (pc := 50) zo_39 rfl zf_M_28_6 dM_expand_50 ?_
          refine z_aload_n (pc := 53) dM_expand_53 rfl rfl ?_
          refine z_getR (pc := 54) zo_39 rfl zf_M_19_6 dM_expand_54 ?_
          refine z_iconst (pc := 57) dM_expand_57 zi_4 ?_
          refine z_iload_n (pc := 58) dM_expand_58 rfl rfl ?_
          refine z_imul (pc := 59) dM_expand_59 ?_
          refine z_iconst (pc := 60) dM_expand_60 zi_4 ?_
          refine z_isub (pc := 61) dM_expand_61 (by omega) ?_
          refine z_iload_n (pc := 62) dM_expand_62 rfl rfl ?_
          refine z_iconst (pc := 63) dM_expand_63 zi_1 ?_
          refine z_iadd (pc := 64) dM_expand_64 ?_
          refine z_iconst (pc := 65) dM_expand_65 zi_4 ?_
          refine z_irem (pc := 66) dM_expand_66 (by omega) (by omega) (by omega) ?_
          refine z_iadd (pc := 67) dM_expand_67 ?_
          refine z_iaload (pc := 68) za_43 (by omega) dM_expand_68 ?_
          refine z_iaload (pc := 69) za_46 (by rw [z_seg_out (Or.inl (by omega)), va_up_self]; exact zkS_by hK0 m _ (by omega)) dM_expand_69 ?_
          refine z_goto (pc := 70) (tgt := 85) dM_expand_70 rfl ?_
          refine z_istore (L' := [(4, _), (3, _), (2, _), (1, _), (0, _)]) (pc := 85) dM_expand_85 (by decide) rfl ?_
          refine z_aload_n (pc := 87) dM_expand_87 rfl rfl ?_
          refine z_getR (pc := 88) zo_39 rfl zf_M_19_6 dM_expand_88 ?_
          refine z_iconst (pc := 91) dM_expand_91 zi_4 ?_
          refine z_iload_n (pc := 92) dM_expand_92 rfl rfl ?_
          refine z_imul (pc := 93) dM_expand_93 ?_
          refine z_iload_n (pc := 94) dM_expand_94 rfl rfl ?_
          refine z_iadd (pc := 95) dM_expand_95 ?_
          refine z_aload_n (pc := 96) dM_expand_96 rfl rfl ?_
          refine z_getR (pc := 97) zo_39 rfl zf_M_19_6 dM_expand_97 ?_
          refine z_iconst (pc := 100) dM_expand_100 zi_4 ?_
          refine z_iload_n (pc := 101) dM_expand_101 rfl rfl ?_
          refine z_imul (pc := 102) dM_expand_102 ?_
          refine z_bipush (pc := 103) dM_expand_103 zb_16 ?_
          refine z_isub (pc := 105) dM_expand_105 (by omega) ?_
          refine z_iload_n (pc := 106) dM_expand_106 rfl rfl ?_
          refine z_iadd (pc := 107) dM_expand_107 ?_
          refine z_iaload (pc := 108) za_43 (by omega) dM_expand_108 ?_
          refine z_iload (pc := 109) dM_expand_109 rfl ?_
          refine z_ixor (pc := 111) dM_expand_111 ?_
          refine z_iastore (pc := 112) za_43 (by omega) dM_expand_112 ?_
          refine z_iinc (L' := [(3, _), (4, _), (2, _), (1, _), (0, _)]) (pc := 113) dM_expand_113 rfl zi_1 (by decide) rfl ?_
          refine z_goto (pc := 116) (tgt := 38) dM_expand_116 rfl ?_
          refine z_ls (L' := [(3, _), (2, _), (1, _), (0, _)]) [0, 2, 3, 4] rfl ?_
          refine z_wd (z_seg_set ?_) rfl kr
          rw [z_seg_out (Or.inl (by omega)), z_seg_out (Or.inl (by omega)), z_seg_ne (by decide), va_up_ne _ _ (by decide), hb _ (by rw [va_up_self]; exact zkS_by hK0 m _ (by omega)), zkw2, Nat.add_sub_cancel_left, show 4 * (m + 4) - 16 + r = 4 * (m + 4 - 4) + r by omega, show 4 * (m + 4) - 4 + (r + 1) % 4 = 4 * (m + 4 - 1) + (r + 1) % 4 by omega]
        · refine z_iload_n (pc := 38) dM_expand_38 rfl rfl ?_
          refine z_iconst (pc := 39) dM_expand_39 zi_4 ?_
          refine z_icmp_ge (pc := 40) (by omega) (by omega) (tgt := 119) dM_expand_40 rfl (fun h => ?_) (fun h => by exfalso; omega)
          refine z_iload_n (pc := 119) dM_expand_119 rfl rfl ?_
          refine z_iconst (pc := 120) dM_expand_120 zi_4 ?_
          refine z_irem (pc := 121) dM_expand_121 (by omega) (by omega) (by omega) ?_
          refine z_if_ne (pc := 122) (by omega) (tgt := 148) dM_expand_122 rfl (fun h => by exfalso; omega) (fun h => ?_)
          refine z_aload_n (pc := 125) dM_expand_125 rfl rfl ?_
          refine z_getR (pc := 126) zo_39 rfl zf_M_19_6 dM_expand_126 ?_
          refine z_iconst (pc := 129) dM_expand_129 zi_4 ?_
          refine z_iload_n (pc := 130) dM_expand_130 rfl rfl ?_
          refine z_imul (pc := 131) dM_expand_131 ?_
          refine z_aload_n (pc := 132) dM_expand_132 rfl rfl ?_
          refine z_getR (pc := 133) zo_39 rfl zf_M_19_6 dM_expand_133 ?_
          refine z_iconst (pc := 136) dM_expand_136 zi_4 ?_
          refine z_iload_n (pc := 137) dM_expand_137 rfl rfl ?_
          refine z_imul (pc := 138) dM_expand_138 ?_
          refine z_iaload (pc := 139) za_43 (by omega) dM_expand_139 ?_
          refine z_iload_n (pc := 140) dM_expand_140 rfl rfl ?_
          refine z_ixor (pc := 141) dM_expand_141 ?_
          refine z_iastore (pc := 142) za_43 (by omega) dM_expand_142 ?_
          refine z_iload_n (pc := 143) dM_expand_143 rfl rfl ?_
          refine z_callS (pc := 144) (m_doubled (zkS_c _ _)) (by decide) zc_M_63 rfl rfl (Nat.le_of_ble_eq_true rfl) z_cn0 dM_expand_144 (fun r A' B' hE => ?_)
          obtain ⟨rfl, rfl, rfl⟩ := hE
          refine z_r1 ?_
          refine z_istore_n (L' := [(1, _), (3, _), (2, _), (0, _)]) (pc := 147) dM_expand_147 rfl (by decide) rfl ?_
          refine z_iinc (L' := [(2, _), (1, _), (3, _), (0, _)]) (pc := 148) dM_expand_148 rfl zi_1 (by decide) rfl ?_
          refine z_goto (pc := 151) (tgt := 30) dM_expand_151 rfl ?_
          refine z_ls (L' := [(2, _), (1, _), (0, _)]) [0, 1, 3] rfl ?_
          refine z_wd ?_ rfl km
          rw [z_kB, z_up_up, va_up_self]
      · have e : zkS (zW1 A) (m + 1) = (zkA (zkS (zW1 A) m).1 (m + 4), (zkS (zW1 A) m).2) := by rw [zkS, if_neg h4]
        rw [e] at km
        refine z_wd (z_seg_0 (va_up A 43 (zkS (zW1 A) m).1) 43 (4 * (m + 4)) (zkw1 ((va_up A 43 (zkS (zW1 A) m).1) 43) (m + 4))).symm rfl ?_
        refine z_for 4 (fun r => [(3, .int (nI r)), (2, .int (nI (m + 4))), (1, .int (nI ((zkS (zW1 A) m).2))), (0, .ref (ad 39))]) (fun r => z_seg (va_up A 43 (zkS (zW1 A) m).1) 43 (4 * (m + 4)) r (zkw1 ((va_up A 43 (zkS (zW1 A) m).1) 43) (m + 4))) (fun r => B) (fun r hr kr => ?_) ?_
        · refine z_iload_n (pc := 38) dM_expand_38 rfl rfl ?_
          refine z_iconst (pc := 39) dM_expand_39 zi_4 ?_
          refine z_icmp_ge (pc := 40) (by omega) (by omega) (tgt := 119) dM_expand_40 rfl (fun h => by exfalso; omega) (fun h => ?_)
          refine z_iload_n (pc := 43) dM_expand_43 rfl rfl ?_
          refine z_iconst (pc := 44) dM_expand_44 zi_4 ?_
          refine z_irem (pc := 45) dM_expand_45 (by omega) (by omega) (by omega) ?_
          refine z_if_ne (pc := 46) (by omega) (tgt := 73) dM_expand_46 rfl (fun h => ?_) (fun h => by exfalso; omega)
          refine z_aload_n (pc := 73) dM_expand_73 rfl rfl ?_
          refine z_getR (pc := 74) zo_39 rfl zf_M_19_6 dM_expand_74 ?_
          refine z_iconst (pc := 77) dM_expand_77 zi_4 ?_
          refine z_iload_n (pc := 78) dM_expand_78 rfl rfl ?_
          refine z_imul (pc := 79) dM_expand_79 ?_
          refine z_iconst (pc := 80) dM_expand_80 zi_4 ?_
          refine z_isub (pc := 81) dM_expand_81 (by omega) ?_
          refine z_iload_n (pc := 82) dM_expand_82 rfl rfl ?_
          refine z_iadd (pc := 83) dM_expand_83 ?_
          refine z_iaload (pc := 84) za_43 (by omega) dM_expand_84 ?_
          refine z_istore (L' := [(4, _), (3, _), (2, _), (1, _), (0, _)]) (pc := 85) dM_expand_85 (by decide) rfl ?_
          refine z_aload_n (pc := 87) dM_expand_87 rfl rfl ?_
          refine z_getR (pc := 88) zo_39 rfl zf_M_19_6 dM_expand_88 ?_
          refine z_iconst (pc := 91) dM_expand_91 zi_4 ?_
          refine z_iload_n (pc := 92) dM_expand_92 rfl rfl ?_
          refine z_imul (pc := 93) dM_expand_93 ?_
          refine z_iload_n (pc := 94) dM_expand_94 rfl rfl ?_
          refine z_iadd (pc := 95) dM_expand_95 ?_
          refine z_aload_n (pc := 96) dM_expand_96 rfl rfl ?_
          refine z_getR (pc := 97) zo_39 rfl zf_M_19_6 dM_expand_97 ?_
          refine z_iconst (pc := 100) dM_expand_100 zi_4 ?_
          refine z_iload_n (pc := 101) dM_expand_101 rfl rfl ?_
          refine z_imul (pc := 102) dM_expand_102 ?_
          refine z_bipush (pc := 103) dM_expand_103 zb_16 ?_
          refine z_isub (pc := 105) dM_expand_105 (by omega) ?_
          refine z_iload_n (pc := 106) dM_expand_106 rfl rfl ?_
          refine z_iadd (pc := 107) dM_expand_107 ?_
          refine z_iaload (pc := 108) za_43 (by omega) dM_expand_108 ?_
          refine z_iload (pc := 109) dM_expand_109 rfl ?_
          refine z_ixor (pc := 111) dM_expand_111 ?_
          refine z_iastore (pc := 112) za_43 (by omega) dM_expand_112 ?_
          refine z_iinc (L' := [(3, _), (4, _), (2, _), (1, _), (0, _)]) (pc := 113) dM_expand_113 rfl zi_1 (by decide) rfl ?_
          refine z_goto (pc := 116) (tgt := 38) dM_expand_116 rfl ?_
          refine z_ls (L' := [(3, _), (2, _), (1, _), (0, _)]) [0, 2, 3, 4] rfl ?_
          refine z_wd (z_seg_set ?_) rfl kr
          rw [z_seg_out (Or.inl (by omega)), z_seg_out (Or.inl (by omega)), zkw1, Nat.add_sub_cancel_left, show 4 * (m + 4) - 16 + r = 4 * (m + 4 - 4) + r by omega, show 4 * (m + 4) - 4 + r = 4 * (m + 4 - 1) + r by omega]
        · refine z_iload_n (pc := 38) dM_expand_38 rfl rfl ?_
          refine z_iconst (pc := 39) dM_expand_39 zi_4 ?_
          refine z_icmp_ge (pc := 40) (by omega) (by omega) (tgt := 119) dM_expand_40 rfl (fun h => ?_) (fun h => by exfalso; omega)
          refine z_iload_n (pc := 119) dM_expand_119 rfl rfl ?_
          refine z_iconst (pc := 120) dM_expand_120 zi_4 ?_
          refine z_irem (pc := 121) dM_expand_121 (by omega) (by omega) (by omega) ?_
          refine z_if_ne (pc := 122) (by omega) (tgt := 148) dM_expand_122 rfl (fun h => ?_) (fun h => by exfalso; omega)
          refine z_iinc (L' := [(2, _), (3, _), (1, _), (0, _)]) (pc := 148) dM_expand_148 rfl zi_1 (by decide) rfl ?_
          refine z_goto (pc := 151) (tgt := 30) dM_expand_151 rfl ?_
          refine z_ls (L' := [(2, _), (1, _), (0, _)]) [0, 2, 3] rfl ?_
          refine z_wd ?_ rfl km
          show va_up (va_up A 43 (zkS (zW1 A) m).1) 43 (zkA ((va_up A 43 (zkS (zW1 A) m).1) 43) (m + 4)) = _
          rw [z_up_up, va_up_self]
    · refine z_iload_n (pc := 30) dM_expand_30 rfl rfl ?_
      refine z_bipush (pc := 31) dM_expand_31 zb_44 ?_
      refine z_icmp_ge (pc := 33) (by omega) (by omega) (tgt := 154) dM_expand_33 rfl (fun h => ?_) (fun h => by exfalso; omega)
      exact z_ret0 (pc := 154) dM_expand_154 (hEx _ _ _ (⟨rfl, rfl, fun k hk => va_up_ne _ _ hk, fun j hj => by rw [va_up_self]; exact (zkS_cg (fun j' h' => zW1_lt h') 40).2 j (by omega)⟩))
theorem m_encipher  (hb : z_box A 46) (hK : ∀ j, j < 16 → A 47 j < 256) (hX : ∀ j, j < 16 → A 48 j < 256) : z_Met l g ad mM_encipher (z_rm 3) [.ref (ad 39)] A B (z_vd (fun A' B' => B = B' ∧ (∀ k, k ≠ 43 → k ≠ 44 → k ≠ 45 → k ≠ 48 → A' k = A k) ∧ ∀ j, j < 16 → A' 48 j = zE (A 47) (A 48) j)) := by
  refine z_Met.of (L := [(0, _)]) (by decide) (Nat.le_of_ble_eq_true rfl) z_fit_vd rfl ?_
  intro Ex hEx
  have hKb := zKX_by hK
  refine z_aload_n (pc := 0) dM_encipher_0 rfl rfl ?_
  refine z_callV (pc := 1) (m_expand hb hK) (by decide) zo_39 rfl zc_M_67 rfl rfl (Nat.le_of_ble_eq_true rfl) z_cn0 dM_encipher_1 (fun r A' B' hE => ?_)
  obtain ⟨rfl, rfl, hA0, hW0⟩ := hE
  refine z_r0 ?_
  refine z_iconst (pc := 4) dM_encipher_4 zi_0 ?_
  refine z_istore_n (L' := [(1, _), (0, _)]) (pc := 5) dM_encipher_5 rfl (by decide) rfl ?_
  refine z_wd (z_map_0 A' 44 (A' 48)).symm rfl ?_
  refine z_for 16 (fun i => [(1, .int (nI i)), (0, .ref (ad 39))]) (fun i => z_map A' 44 i (A' 48)) (fun i => B) (fun i hi ki => ?_) ?_
  · refine z_iload_n (pc := 6) dM_encipher_6 rfl rfl ?_
    refine z_bipush (pc := 7) dM_encipher_7 zb_16 ?_
    refine z_icmp_ge (pc := 9) (by omega) (by omega) (tgt := 30) dM_encipher_9 rfl (fun h => by exfalso; omega) (fun h => ?_)
    refine z_aload_n (pc := 12) dM_encipher_12 rfl rfl ?_
    refine z_getR (pc := 13) zo_39 rfl zf_M_22_6 dM_encipher_13 ?_
    refine z_iload_n (pc := 16) dM_encipher_16 rfl rfl ?_
    refine z_aload_n (pc := 17) dM_encipher_17 rfl rfl ?_
    refine z_getR (pc := 18) zo_39 rfl zf_M_34_6 dM_encipher_18 ?_
    refine z_iload_n (pc := 21) dM_encipher_21 rfl rfl ?_
    refine z_iaload (pc := 22) za_48 (by omega) dM_encipher_22 ?_
    refine z_iastore (pc := 23) za_44 (by omega) dM_encipher_23 ?_
    refine z_iinc (L' := [(1, _), (0, _)]) (pc := 24) dM_encipher_24 rfl zi_1 (by decide) rfl ?_
    refine z_goto (pc := 27) (tgt := 6) dM_encipher_27 rfl ?_
    refine z_wd (z_map_set ?_) rfl ki
    rw [z_map_ne (by decide)]
  · refine z_iload_n (pc := 6) dM_encipher_6 rfl rfl ?_
    refine z_bipush (pc := 7) dM_encipher_7 zb_16 ?_
    refine z_icmp_ge (pc := 9) (by omega) (by omega) (tgt := 30) dM_encipher_9 rfl (fun h => ?_) (fun h => by exfalso; omega)
    refine z_aload_n (pc := 30) dM_encipher_30 rfl rfl ?_
    refine z_iconst (pc := 31) dM_encipher_31 zi_0 ?_
    refine z_callV (pc := 32) (m_addWords (r := 0) (by omega)) (by decide) zo_39 rfl zc_M_70 rfl rfl (Nat.le_of_ble_eq_true rfl) z_cn0 dM_encipher_32 (fun r A' B' hE => ?_)
    obtain ⟨rfl, rfl, rfl⟩ := hE
    refine z_r0 ?_
    refine z_iconst (pc := 35) dM_encipher_35 zi_1 ?_
    refine z_istore_n (L' := [(1, _), (0, _)]) (pc := 36) dM_encipher_36 rfl (by decide) rfl ?_
    refine z_loop 10 (fun m L A' B' => L = [(1, .int (nI (m + 1))), (0, .ref (ad 39))] ∧ B = B' ∧ (∀ k, k ≠ 43 → k ≠ 44 → k ≠ 45 → A' k = A k) ∧ (∀ j, j < 176 → A' 43 j = zKX (A 47) j) ∧ ∀ j, j < 16 → A' 44 j = zEs (zKX (A 47)) (A 48) m j) ?_ ?_ _ _ _ ⟨rfl, rfl, ?_, ?_, ?_⟩
    · rintro m L A1 B1 hm ⟨rfl, rfl, hA, hW, hs⟩ km
      have hsb := zEs_by hKb hX m (by omega)
      have hb1 : z_box A1 46 := fun j hj => by rw [hA 46 (by decide) (by decide) (by decide)]; exact hb j hj
      refine z_iload_n (pc := 37) dM_encipher_37 rfl rfl ?_
      refine z_bipush (pc := 38) dM_encipher_38 zb_10 ?_
      refine z_icmp_gt (pc := 40) (by omega) (by omega) (tgt := 170) dM_encipher_40 rfl (fun h => by exfalso; omega) (fun h => ?_)
      refine z_iconst (pc := 43) dM_encipher_43 zi_0 ?_
      refine z_istore_n (L' := [(2, _), (1, _), (0, _)]) (pc := 44) dM_encipher_44 rfl (by decide) rfl ?_
      refine z_wd (z_map_0 A1 45 (zmv (A1 44))).symm rfl ?_
      refine z_for 4 (fun c => [(2, .int (nI c)), (1, .int (nI (m + 1))), (0, .ref (ad 39))]) (fun c => z_map A1 45 (4 * c) (zmv (A1 44))) (fun c => B) (fun c hc kc => ?_) ?_
      · refine z_iload_n (pc := 45) dM_encipher_45 rfl rfl ?_
        refine z_iconst (pc := 46) dM_encipher_46 zi_4 ?_
        refine z_icmp_ge (pc := 47) (by omega) (by omega) (tgt := 98) dM_encipher_47 rfl (fun h => by exfalso; omega) (fun h => ?_)
        refine z_iconst (pc := 50) dM_encipher_50 zi_0 ?_
        refine z_istore_n (L' := [(3, _), (2, _), (1, _), (0, _)]) (pc := 51) dM_encipher_51 rfl (by decide) rfl ?_
        refine z_for 4 (fun r => [(3, .int (nI r)), (2, .int (nI c)), (1, .int (nI (m + 1))), (0, .ref (ad 39))]) (fun r => z_map A1 45 (4 * c + r) (zmv (A1 44))) (fun r => B) (fun r hr kr => ?_) ?_
        · refine z_iload_n (pc := 52) dM_encipher_52 rfl rfl ?_
          refine z_iconst (pc := 53) dM_encipher_53 zi_4 ?_
          refine z_icmp_ge (pc := 54) (by omega) (by omega) (tgt := 92) dM_encipher_54 rfl (fun h => by exfalso; omega) (fun h => ?_)
          refine z_aload_n (pc := 57) dM_encipher_57 rfl rfl ?_
          refine z_getR (pc := 58) zo_39 rfl zf_M_25_6 dM_encipher_58 ?_
          refine z_iconst (pc := 61) dM_encipher_61 zi_4 ?_
          refine z_iload_n (pc := 62) dM_encipher_62 rfl rfl ?_
          refine z_imul (pc := 63) dM_encipher_63 ?_
          refine z_iload_n (pc := 64) dM_encipher_64 rfl rfl ?_
          refine z_iadd (pc := 65) dM_encipher_65 ?_
          refine z_aload_n (pc := 66) dM_encipher_66 rfl rfl ?_
          refine z_getR (pc := 67) zo_39 rfl zf_M_28_6 dM_encipher_67 ?_
          refine z_aload_n (pc := 70) dM_encipher_70 rfl rfl ?_
          refine z_getR (pc := 71) zo_39 rfl zf_M_22_6 dM_encipher_71 ?_
          refine z_iconst (pc := 74) dM_encipher_74 zi_4 ?_
          refine z_iload_n (pc := 75) dM_encipher_75 rfl rfl ?_
          refine z_iload_n (pc := 76) dM_encipher_76 rfl rfl ?_
          refine z_iadd (pc := 77) dM_encipher_77 ?_
          refine z_iconst (pc := 78) dM_encipher_78 zi_4 ?_
          refine z_irem (pc := 79) dM_encipher_79 (by omega) (by omega) (by omega) ?_
          refine z_imul (pc := 80) dM_encipher_80 ?_
          refine z_iload_n (pc := 81) dM_encipher_81 rfl rfl ?_
          refine z_iadd (pc := 82) dM_encipher_82 ?_
          refine z_iaload (pc := 83) za_44 (by omega) dM_encipher_83 ?_
          refine z_iaload (pc := 84) za_46 (by rw [z_map_ne (by decide), hs _ (by omega)]; exact hsb _ (by omega)) dM_encipher_84 ?_
          refine z_iastore (pc := 85) za_45 (by omega) dM_encipher_85 ?_
          refine z_iinc (L' := [(3, _), (2, _), (1, _), (0, _)]) (pc := 86) dM_encipher_86 rfl zi_1 (by decide) rfl ?_
          refine z_goto (pc := 89) (tgt := 52) dM_encipher_89 rfl ?_
          refine z_wd (z_map_set ?_) rfl kr
          rw [z_map_ne (by decide), z_map_ne (by decide), hb1 _ (by rw [hs _ (by omega)]; exact hsb _ (by omega)), zmv, show (4 * c + r) / 4 = c by omega, show (4 * c + r) % 4 = r by omega]
        · refine z_iload_n (pc := 52) dM_encipher_52 rfl rfl ?_
          refine z_iconst (pc := 53) dM_encipher_53 zi_4 ?_
          refine z_icmp_ge (pc := 54) (by omega) (by omega) (tgt := 92) dM_encipher_54 rfl (fun h => ?_) (fun h => by exfalso; omega)
          refine z_iinc (L' := [(2, _), (3, _), (1, _), (0, _)]) (pc := 92) dM_encipher_92 rfl zi_1 (by decide) rfl ?_
          refine z_goto (pc := 95) (tgt := 45) dM_encipher_95 rfl ?_
          refine z_ls (L' := [(2, _), (1, _), (0, _)]) [0, 2, 3] rfl ?_
          exact z_wd (by rw [show 4 * (c + 1) = 4 * c + 4 by omega]) rfl kc
      · refine z_iload_n (pc := 45) dM_encipher_45 rfl rfl ?_
        refine z_iconst (pc := 46) dM_encipher_46 zi_4 ?_
        refine z_icmp_ge (pc := 47) (by omega) (by omega) (tgt := 98) dM_encipher_47 rfl (fun h => ?_) (fun h => by exfalso; omega)
        refine z_iconst (pc := 98) dM_encipher_98 zi_0 ?_
        refine z_istore_n (L' := [(2, _), (1, _), (0, _)]) (pc := 99) dM_encipher_99 rfl (by decide) rfl ?_
        refine z_wd (z_map_0 (z_map A1 45 16 (zmv (A1 44))) 44 (fun j => if m + 1 < 10 then zmx ((z_map A1 45 16 (zmv (A1 44))) 45) j else (z_map A1 45 16 (zmv (A1 44))) 45 j)).symm rfl ?_
        refine z_for 4 (fun r => [(3, .int (nI r)), (2, .int (nI c)), (1, .int (nI (m + 1))), (0, .ref (ad 39))]) (fun r => z_map A1 45 (4 * c + r) (zmv (A1 44))) (fun r => B) (fun r hr kr => ?_) ?_
        · refine z_iload_n (pc := 52) dM_encipher_52 rfl rfl ?_
          refine z_iconst (pc := 53) dM_encipher_53 zi_4 ?_
          refine z_icmp_ge (pc := 54) (by omega) (by omega) (tgt := 92) dM_encipher_54 rfl (fun h => by exfalso; omega) (fun h => ?_)
          refine z_aload_n (pc := 57) dM_encipher_57 rfl rfl ?_
          refine z_getR (pc := 58) zo_39 rfl zf_M_25_6 dM_encipher_58 ?_
          refine z_iconst (pc := 61) dM_encipher_61 zi_4 ?_
          refine z_iload_n (pc := 62) dM_encipher_62 rfl rfl ?_
          refine z_imul (pc := 63) dM_encipher_63 ?_
          refine z_iload_n (pc := 64) dM_encipher_64 rfl rfl ?_
          refine z_iadd (pc := 65) dM_encipher_65 ?_
          refine z_aload_n (pc := 66) dM_encipher_66 rfl rfl ?_
          refine z_getR (pc := 67) zo_39 rfl zf_M_28_6 dM_encipher_67 ?_
          refine z_aload_n (pc := 70) dM_encipher_70 rfl rfl ?_
          refine z_getR (pc := 71) zo_39 rfl zf_M_22_6 dM_encipher_71 ?_
          refine z_iconst (pc := 74) dM_encipher_74 zi_4 ?_
          refine z_iload_n (pc := 75) dM_encipher_75 rfl rfl ?_
          refine z_iload_n (pc := 76) dM_encipher_76 rfl rfl ?_
          refine z_iadd (pc := 77) dM_encipher_77 ?_
          refine z_iconst (pc := 78) dM_encipher_78 zi_4 ?_
          refine z_irem (pc := 79) dM_encipher_79 (by omega) (by omega) (by omega) ?_
          refine z_imul (pc := 80) dM_encipher_80 ?_
          refine z_iload_n (pc := 81) dM_encipher_81 rfl rfl ?_
          refine z_iadd (pc := 82) dM_encipher_82 ?_
          refine z_iaload (pc := 83) za_44 (by omega) dM_encipher_83 ?_
          refine z_iaload (pc := 84) za_46 (by rw [z_map_ne (by decide), hs _ (by omega)]; exact hsb _ (by omega)) dM_encipher_84 ?_
          refine z_iastore (pc := 85) za_45 (by omega) dM_encipher_85 ?_
          refine z_iinc (L' := [(3, _), (2, _), (1, _), (0, _)]) (pc := 86) dM_encipher_86 rfl zi_1 (by decide) rfl ?_
          refine z_goto (pc := 89) (tgt := 52) dM_encipher_89 rfl ?_
          refine z_wd (z_map_set ?_) rfl kr
          rw [z_map_ne (by decide), z_map_ne (by decide), hb1 _ (by rw [hs _ (by omega)]; exact hsb _ (by omega)), zmv, show (4 * c + r) / 4 = c by omega, show (4 * c + r) % 4 = r by omega]
        · refine z_iload_n (pc := 52) dM_encipher_52 rfl rfl ?_
          refine z_iconst (pc := 53) dM_encipher_53 zi_4 ?_
          refine z_icmp_ge (pc := 54) (by omega) (by omega) (tgt := 92) dM_encipher_54 rfl (fun h => ?_) (fun h => by exfalso; omega)
          refine z_iinc (L' := [(2, _), (3, _), (1, _), (0, _)]) (pc := 92) dM_encipher_92 rfl zi_1 (by decide) rfl ?_
          refine z_goto (pc := 95) (tgt := 45) dM_encipher_95 rfl ?_
          refine z_ls (L' := [(2, _), (1, _), (0, _)]) [0, 2, 3] rfl ?_
          exact z_wd (by rw [show 4 * (c + 1) = 4 * c + 4 by omega]) rfl kc
    · rintro L A1 B1 ⟨rfl, rfl, hA, hW, hs⟩
      refine z_iload_n (pc := 37) dM_encipher_37 rfl rfl ?_
      refine z_bipush (pc := 38) dM_encipher_38 zb_10 ?_
      refine z_icmp_gt (pc := 40) (by omega) (by omega) (tgt := 170) dM_encipher_40 rfl (fun h => ?_) (fun h => by exfalso; omega)
      refine z_iconst (pc := 170) dM_encipher_170 zi_0 ?_
      refine z_istore_n (L' := [(1, _), (0, _)]) (pc := 171) dM_encipher_171 rfl (by decide) rfl ?_
      refine z_wd (z_map_0 A1 48 (A1 44)).symm rfl ?_
      refine z_for 16 (fun i => [(1, .int (nI i)), (0, .ref (ad 39))]) (fun i => z_map A1 48 i (A1 44)) (fun i => B) (fun i hi ki => ?_) ?_
      · refine z_iload_n (pc := 172) dM_encipher_172 rfl rfl ?_
        refine z_bipush (pc := 173) dM_encipher_173 zb_16 ?_
        refine z_icmp_ge (pc := 175) (by omega) (by omega) (tgt := 196) dM_encipher_175 rfl (fun h => by exfalso; omega) (fun h => ?_)
        refine z_aload_n (pc := 178) dM_encipher_178 rfl rfl ?_
        refine z_getR (pc := 179) zo_39 rfl zf_M_34_6 dM_encipher_179 ?_
        refine z_iload_n (pc := 182) dM_encipher_182 rfl rfl ?_
        refine z_aload_n (pc := 183) dM_encipher_183 rfl rfl ?_
        refine z_getR (pc := 184) zo_39 rfl zf_M_22_6 dM_encipher_184 ?_
        refine z_iload_n (pc := 187) dM_encipher_187 rfl rfl ?_
        refine z_iaload (pc := 188) za_44 (by omega) dM_encipher_188 ?_
        refine z_iastore (pc := 189) za_48 (by omega) dM_encipher_189 ?_
        refine z_iinc (L' := [(1, _), (0, _)]) (pc := 190) dM_encipher_190 rfl zi_1 (by decide) rfl ?_
        refine z_goto (pc := 193) (tgt := 172) dM_encipher_193 rfl ?_
        refine z_wd (z_map_set ?_) rfl ki
        rw [z_map_ne (by decide)]
      · refine z_iload_n (pc := 172) dM_encipher_172 rfl rfl ?_
        refine z_bipush (pc := 173) dM_encipher_173 zb_16 ?_
        refine z_icmp_ge (pc := 175) (by omega) (by omega) (tgt := 196) dM_encipher_175 rfl (fun h => ?_) (fun h => by exfalso; omega)
        exact z_ret0 (pc := 196) dM_encipher_196 (hEx _ _ _ (⟨rfl, rfl, fun k h43 h44 h45 h48 => by rw [z_map_ne h48, hA k h43 h44 h45], fun j hj => by rw [z_map_lt hj, hs j hj]; rfl⟩))
    · intro k h43 h44 h45
      rw [z_map_ne h44, z_map_ne h44, hA0 k h43]
    · intro j hj
      rw [z_map_ne (by decide), z_map_ne (by decide)]
      exact hW0 j hj
    · intro j hj
      rw [z_map_lt hj, z_map_lt hj, z_map_ne (i := 43) (by decide), hW0 _ (by omega), hA0 48 (by decide)]
      rfl
end
end
section
/-- a row of bits is a number's -/
def zbr (a : Nat → Nat) (n X : Nat) : Prop := ∀ i, i < n → a i = (X.testBit i).toNat
def zmw (w : Nat) : Nat := if w = 0 then 7 else 0
def zvw (w : Nat) : Nat := if w = 0 then zovO else zovI
def zow (w : Nat) : Nat := if w = 0 then 1 else 0
theorem zmw_ok (w : Nat) : zmr (zmw w) := by
  unfold zmw zmr
  split
  · exact Or.inl rfl
  · exact Or.inr rfl
theorem zvw_lt (w : Nat) : zvw w < 2 ^ 128 := by
  unfold zvw
  split
  · exact zovO_lt
  · exact zovI_lt
theorem z_x7 : ∀ k, k < 8 → k ^^^ 7 = 7 - k := by decide +kernel
theorem z_bt1 (b : Bool) : b.toNat = 1 ↔ b = true := by cases b <;> simp
theorem z_tx (a b : Bool) : a.toNat ^^^ b.toNat = (a ^^ b).toNat := by cases a <;> cases b <;> rfl
theorem z_dec {x : Nat} (h : 1 ≤ x) : nI (x + 4294967295) = nI (x - 1) := by
  rw [z_nmod, z_nmod (x - 1)]
  congr 1
  omega
theorem z_map_seg (A : z_A) (k n : Nat) (f : Nat → Nat) : z_map A k n f = z_seg A k 0 n f := by
  unfold z_map z_seg
  congr 1
  funext j
  by_cases h : j < n
  · rw [if_pos h, if_pos ⟨Nat.zero_le _, by omega⟩]
  · rw [if_neg h, if_neg (by omega)]
theorem z_flip (W : z_A) (k a j : Nat) : z_set W k a (W k a ^^^ 1) k j = W k j ^^^ (if j = a then 1 else 0) := by
  by_cases h : j = a
  · subst h; rw [z_set_at, if_pos rfl]
  · rw [z_set_nj h, if_neg h, Nat.xor_zero]
theorem zbO : ∀ t, t < 256 → (2 ^ 128 + zovO).testBit t = decide (t = 0 ∨ t = 1 ∨ t = 2 ∨ t = 7 ∨ t = 128) := by decide +kernel
theorem zbI : ∀ t, t < 256 → (2 ^ 128 + zovI).testBit t = decide (t = 0 ∨ t = 121 ∨ t = 126 ∨ t = 127 ∨ t = 128) := by decide +kernel
/-- the reduction from the top -/
def zrs (ov P : Nat) : Nat → Nat
  | 0 => P
  | m + 1 => zst ov (255 - m) (zrs ov P m)
theorem zrs_red (ov P : Nat) : ∀ m, m ≤ 128 → zred ov 128 P = zred ov (128 - m) (zrs ov P m)
  | 0, _ => rfl
  | m + 1, h => by
    rw [zrs_red ov P m (by omega), show 128 - m = (128 - (m + 1)) + 1 by omega, zred, zrs, show 128 + (128 - (m + 1)) = 255 - m by omega]
theorem zrs_128 (ov P : Nat) : zred ov 128 P = zrs ov P 128 := zrs_red ov P 128 (Nat.le_refl _)
/-- a step of the reduction, bit by bit: five places flip -/
theorem zst_five {ov P i a b c : Nat} (hi : i < 256) (h128 : 128 ≤ i) (hq : ∀ t, t < 256 → (2 ^ 128 + ov).testBit t = decide (t = 0 ∨ t = a ∨ t = b ∨ t = c ∨ t = 128)) (hP : P.testBit i = true)
    (ha : 0 < a) (hab : a < b) (hbc : b < c) (hc : c < 128) (W : Nat → Nat) (hW : zbr W 256 P) (f : Nat → Nat)
    (hf : ∀ j, f j = ((((if j = i then 0 else W j) ^^^ (if j = i - 128 then 1 else 0)) ^^^ (if j = i - 128 + c then 1 else 0)) ^^^ (if j = i - 128 + b then 1 else 0)) ^^^ (if j = i - 128 + a then 1 else 0)) : zbr f 256 (zst ov i P) := by
  intro j hj
  rw [hf j, zst, hP, Bool.toNat_true, Nat.one_mul, Nat.testBit_xor, Nat.testBit_mul_two_pow]
  by_cases hl : i - 128 ≤ j
  · rw [hq (j - (i - 128)) (by omega), decide_eq_true hl, Bool.true_and]
    by_cases e0 : j = i
    · rw [if_pos e0, if_neg (by omega), if_neg (by omega), if_neg (by omega), if_neg (by omega), decide_eq_true (by omega), e0, hP]
      rfl
    · rw [if_neg e0, hW j hj]
      by_cases e1 : j = i - 128
      · rw [if_pos e1, if_neg (by omega), if_neg (by omega), if_neg (by omega), decide_eq_true (by omega)]
        cases P.testBit j <;> rfl
      · rw [if_neg e1]
        by_cases e2 : j = i - 128 + a
        · rw [if_pos e2, if_neg (by omega), if_neg (by omega), decide_eq_true (by omega)]
          cases P.testBit j <;> rfl
        · rw [if_neg e2]
          by_cases e3 : j = i - 128 + b
          · rw [if_pos e3, if_neg (by omega), decide_eq_true (by omega)]
            cases P.testBit j <;> rfl
          · rw [if_neg e3]
            by_cases e4 : j = i - 128 + c
            · rw [if_pos e4, decide_eq_true (by omega)]
              cases P.testBit j <;> rfl
            · rw [if_neg e4, decide_eq_false (by omega), Bool.xor_false]
              simp
  · rw [if_neg (by omega), if_neg (by omega), if_neg (by omega), if_neg (by omega), if_neg (by omega), decide_eq_false hl, Bool.false_and, Bool.xor_false, hW j hj]
    simp
section
variable {l : Launch} {g : z_G} {ad : Nat → Nat} {A B : z_A}
theorem m_bit {w b k : Nat} (hw : w = 0 ∨ w = 1) (hb : b < 256) (hk : k < 8) : z_Met l g ad mM_bit (z_rm 0) [.int (nI w), .int (nI b), .int (nI k)] A B (z_eq (some (.int (nI ((b.testBit (k ^^^ zmw w)).toNat)))) A B) := by
  refine z_Met.of (L := [(0, _), (1, _), (2, _)]) (by decide) (Nat.le_of_ble_eq_true rfl) (z_fit_eq (Or.inl rfl)) rfl ?_
  intro Ex hEx
  refine z_iload_n (pc := 0) dM_bit_0 rfl rfl ?_
  refine z_if_ne (pc := 1) (by omega) (tgt := 15) dM_bit_1 rfl (fun h1 => ?_) (fun h1 => ?_)
  · refine z_iload_n (pc := 15) dM_bit_15 rfl rfl ?_
    refine z_iload_n (pc := 16) dM_bit_16 rfl rfl ?_
    refine z_ishr (pc := 17) dM_bit_17 (by omega) (by omega) ?_
    refine z_iconst (pc := 18) dM_bit_18 zi_1 ?_
    refine z_iand (pc := 19) dM_bit_19 ?_
    exact z_reti (pc := 20) dM_bit_20 (hEx _ _ _ (⟨by first | rw [zmw, if_neg h1, Nat.xor_zero, z_tb1] | rw [zmw, if_pos h1, z_x7 _ hk, z_tb1], rfl, rfl⟩))
  · refine z_iload_n (pc := 4) dM_bit_4 rfl rfl ?_
    refine z_bipush (pc := 5) dM_bit_5 zb_7 ?_
    refine z_iload_n (pc := 7) dM_bit_7 rfl rfl ?_
    refine z_isub (pc := 8) dM_bit_8 (by omega) ?_
    refine z_ishr (pc := 9) dM_bit_9 (by omega) (by omega) ?_
    refine z_iconst (pc := 10) dM_bit_10 zi_1 ?_
    refine z_iand (pc := 11) dM_bit_11 ?_
    refine z_goto (pc := 12) (tgt := 20) dM_bit_12 rfl ?_
    exact z_reti (pc := 20) dM_bit_20 (hEx _ _ _ (⟨by first | rw [zmw, if_neg h1, Nat.xor_zero, z_tb1] | rw [zmw, if_pos h1, z_x7 _ hk, z_tb1], rfl, rfl⟩))
theorem m_clearProduct   : z_Met l g ad mM_clearProduct (z_rm 0) [.ref (ad 39)] A B (z_eq none (z_map A 51 256 (fun _ => 0)) B) := by
  refine z_Met.of (L := [(0, _)]) (by decide) (Nat.le_of_ble_eq_true rfl) (z_fit_eq rfl) rfl ?_
  intro Ex hEx
  refine z_iconst (pc := 0) dM_clearProduct_0 zi_0 ?_
  refine z_istore_n (L' := [(1, _), (0, _)]) (pc := 1) dM_clearProduct_1 rfl (by decide) rfl ?_
  refine z_wd (z_map_0 A 51 (fun _ => 0)).symm rfl ?_
  refine z_for 256 (fun i => [(1, .int (nI i)), (0, .ref (ad 39))]) (fun i => z_map A 51 i (fun _ => 0)) (fun i => B) (fun i hi ki => ?_) ?_
  · refine z_iload_n (pc := 2) dM_clearProduct_2 rfl rfl ?_
    refine z_sipush (pc := 3) dM_clearProduct_3 zs_256 ?_
    refine z_icmp_ge (pc := 6) (by omega) (by omega) (tgt := 22) dM_clearProduct_6 rfl (fun h => by exfalso; omega) (fun h => ?_)
    refine z_aload_n (pc := 9) dM_clearProduct_9 rfl rfl ?_
    refine z_getR (pc := 10) zo_39 rfl zf_M_43_6 dM_clearProduct_10 ?_
    refine z_iload_n (pc := 13) dM_clearProduct_13 rfl rfl ?_
    refine z_iconst (pc := 14) dM_clearProduct_14 zi_0 ?_
    refine z_iastore (pc := 15) za_51 (by omega) dM_clearProduct_15 ?_
    refine z_iinc (L' := [(1, _), (0, _)]) (pc := 16) dM_clearProduct_16 rfl zi_1 (by decide) rfl ?_
    refine z_goto (pc := 19) (tgt := 2) dM_clearProduct_19 rfl ?_
    exact z_wd (z_map_set rfl) rfl ki
  · refine z_iload_n (pc := 2) dM_clearProduct_2 rfl rfl ?_
    refine z_sipush (pc := 3) dM_clearProduct_3 zs_256 ?_
    refine z_icmp_ge (pc := 6) (by omega) (by omega) (tgt := 22) dM_clearProduct_6 rfl (fun h => ?_) (fun h => by exfalso; omega)
    exact z_ret0 (pc := 22) dM_clearProduct_22 (hEx _ _ _ (⟨rfl, rfl, rfl⟩))
theorem z_addsh {A : z_A} {b P H : Nat} (hb : b < 128) (hP : zbr (A 51) 256 P) (hH : zbr (A 50) 128 H ∧ H < 2 ^ 128) : zbr (z_seg A 51 b 128 (fun q => A 51 q ^^^ A 50 (q - b)) 51) 256 (P ^^^ H * 2 ^ b) := by
  intro j hj
  rw [Nat.testBit_xor, Nat.testBit_mul_two_pow]
  by_cases h : b ≤ j ∧ j < b + 128
  · rw [z_seg_in h.1 h.2, hP j hj, hH.1 _ (by omega), z_tx, decide_eq_true h.1, Bool.true_and]
  · rw [z_seg_out (by omega), hP j hj]
    by_cases h2 : b ≤ j
    · rw [z_tb_lt hH.2 (by omega), Bool.and_false, Bool.xor_false]
    · rw [decide_eq_false h2, Bool.false_and, Bool.xor_false]
theorem m_addShifted {b P H : Nat} (hb : b < 128) (hP : zbr (A 51) 256 P) (hH : zbr (A 50) 128 H ∧ H < 2 ^ 128) : z_Met l g ad mM_addShifted (z_rm 0) [.ref (ad 39), .int (nI b)] A B (z_vd (fun A' B' => B = B' ∧ (∀ k, k ≠ 51 → A' k = A k) ∧ zbr (A' 51) 256 (P ^^^ H * 2 ^ b))) := by
  refine z_Met.of (L := [(0, _), (1, _)]) (by decide) (Nat.le_of_ble_eq_true rfl) z_fit_vd rfl ?_
  intro Ex hEx
  refine z_iconst (pc := 0) dM_addShifted_0 zi_0 ?_
  refine z_istore_n (L' := [(2, _), (0, _), (1, _)]) (pc := 1) dM_addShifted_1 rfl (by decide) rfl ?_
  refine z_wd (z_seg_0 A 51 b (fun q => A 51 q ^^^ A 50 (q - b))).symm rfl ?_
  refine z_for 128 (fun j => [(2, .int (nI j)), (0, .ref (ad 39)), (1, .int (nI b))]) (fun j => z_seg A 51 b j (fun q => A 51 q ^^^ A 50 (q - b))) (fun j => B) (fun j hj kj => ?_) ?_
  · refine z_iload_n (pc := 2) dM_addShifted_2 rfl rfl ?_
    refine z_sipush (pc := 3) dM_addShifted_3 zs_128 ?_
    refine z_icmp_ge (pc := 6) (by omega) (by omega) (tgt := 38) dM_addShifted_6 rfl (fun h => by exfalso; omega) (fun h => ?_)
    refine z_aload_n (pc := 9) dM_addShifted_9 rfl rfl ?_
    refine z_getR (pc := 10) zo_39 rfl zf_M_43_6 dM_addShifted_10 ?_
    refine z_iload_n (pc := 13) dM_addShifted_13 rfl rfl ?_
    refine z_iload_n (pc := 14) dM_addShifted_14 rfl rfl ?_
    refine z_iadd (pc := 15) dM_addShifted_15 ?_
    refine z_aload_n (pc := 16) dM_addShifted_16 rfl rfl ?_
    refine z_getR (pc := 17) zo_39 rfl zf_M_43_6 dM_addShifted_17 ?_
    refine z_iload_n (pc := 20) dM_addShifted_20 rfl rfl ?_
    refine z_iload_n (pc := 21) dM_addShifted_21 rfl rfl ?_
    refine z_iadd (pc := 22) dM_addShifted_22 ?_
    refine z_iaload (pc := 23) za_51 (by omega) dM_addShifted_23 ?_
    refine z_aload_n (pc := 24) dM_addShifted_24 rfl rfl ?_
    refine z_getR (pc := 25) zo_39 rfl zf_M_40_6 dM_addShifted_25 ?_
    refine z_iload_n (pc := 28) dM_addShifted_28 rfl rfl ?_
    refine z_iaload (pc := 29) za_50 (by omega) dM_addShifted_29 ?_
    refine z_ixor (pc := 30) dM_addShifted_30 ?_
    refine z_iastore (pc := 31) za_51 (by omega) dM_addShifted_31 ?_
    refine z_iinc (L' := [(2, _), (0, _), (1, _)]) (pc := 32) dM_addShifted_32 rfl zi_1 (by decide) rfl ?_
    refine z_goto (pc := 35) (tgt := 2) dM_addShifted_35 rfl ?_
    refine z_wd (A' := z_seg A 51 b (j + 1) (fun q => A 51 q ^^^ A 50 (q - b))) ?_ rfl kj
    rw [Nat.add_comm j b]
    refine z_seg_set ?_
    rw [z_seg_out (Or.inr (Nat.le_refl _)), z_seg_ne (by decide), Nat.add_sub_cancel_left]
  · refine z_iload_n (pc := 2) dM_addShifted_2 rfl rfl ?_
    refine z_sipush (pc := 3) dM_addShifted_3 zs_128 ?_
    refine z_icmp_ge (pc := 6) (by omega) (by omega) (tgt := 38) dM_addShifted_6 rfl (fun h => ?_) (fun h => by exfalso; omega)
    exact z_ret0 (pc := 38) dM_addShifted_38 (hEx _ _ _ (⟨rfl, rfl, fun k hk => z_seg_ne hk, z_addsh hb hP hH⟩))
theorem m_reduce {w P : Nat} (hw : w = 0 ∨ w = 1) (hP : zbr (A 51) 256 P) : z_Met l g ad mM_reduce (z_rm 0) [.ref (ad 39), .int (nI w)] A B (z_vd (fun A' B' => B = B' ∧ (∀ k, k ≠ 51 → A' k = A k) ∧ zbr (A' 51) 256 (zred (zvw w) 128 P))) := by
  refine z_Met.of (L := [(0, _), (1, _)]) (by decide) (Nat.le_of_ble_eq_true rfl) z_fit_vd rfl ?_
  intro Ex hEx
  refine z_sipush (pc := 0) dM_reduce_0 zs_255 ?_
  refine z_istore_n (L' := [(2, _), (0, _), (1, _)]) (pc := 3) dM_reduce_3 rfl (by decide) rfl ?_
  refine z_loop 128 (fun m L A' B' => L = [(2, .int (nI (255 - m))), (0, .ref (ad 39)), (1, .int (nI w))] ∧ B = B' ∧ (∀ k, k ≠ 51 → A' k = A k) ∧ zbr (A' 51) 256 (zrs (zvw w) P m)) ?_ ?_ _ _ _ ⟨rfl, rfl, fun _ _ => rfl, hP⟩
  · rintro m L A' B' hm ⟨rfl, rfl, hA, hb⟩ km
    refine z_iload_n (pc := 4) dM_reduce_4 rfl rfl ?_
    refine z_sipush (pc := 5) dM_reduce_5 zs_128 ?_
    refine z_icmp_lt (pc := 8) (by omega) (by omega) (tgt := 177) dM_reduce_8 rfl (fun h => by exfalso; omega) (fun h => ?_)
    refine z_aload_n (pc := 11) dM_reduce_11 rfl rfl ?_
    refine z_getR (pc := 12) zo_39 rfl zf_M_43_6 dM_reduce_12 ?_
    refine z_iload_n (pc := 15) dM_reduce_15 rfl rfl ?_
    refine z_iaload (pc := 16) za_51 (by omega) dM_reduce_16 ?_
    refine z_iconst (pc := 17) dM_reduce_17 zi_1 ?_
    refine z_icmp_ne (pc := 18) (by rw [hb _ (by omega)]; have := Bool.toNat_lt ((zrs (zvw w) P m).testBit (255 - m)); omega) (by omega) (tgt := 171) dM_reduce_18 rfl (fun h1 => ?_) (fun h1 => ?_)
    · have hbt : (zrs (zvw w) P m).testBit (255 - m) = false := by
        rw [hb _ (by omega), z_bt1] at h1
        exact Bool.eq_false_iff.mpr h1
      refine z_iinc (L' := [(2, _), (0, _), (1, _)]) (pc := 171) dM_reduce_171 rfl zi_m1 (by decide) rfl ?_
      refine z_goto (pc := 174) (tgt := 4) dM_reduce_174 rfl ?_
      rw [z_dec (by omega), show 255 - m - 1 = 255 - (m + 1) by omega]
      exact km _ _ _ ⟨rfl, rfl, hA, by rw [zrs, zst_skip hbt]; exact hb⟩
    · have hbt : (zrs (zvw w) P m).testBit (255 - m) = true := by
        rw [hb _ (by omega), z_bt1] at h1
        exact h1
      refine z_iload_n (pc := 21) dM_reduce_21 rfl rfl ?_
      refine z_sipush (pc := 22) dM_reduce_22 zs_128 ?_
      refine z_isub (pc := 25) dM_reduce_25 (by omega) ?_
      refine z_istore_n (L' := [(3, _), (2, _), (0, _), (1, _)]) (pc := 26) dM_reduce_26 rfl (by decide) rfl ?_
      refine z_aload_n (pc := 27) dM_reduce_27 rfl rfl ?_
      refine z_getR (pc := 28) zo_39 rfl zf_M_43_6 dM_reduce_28 ?_
      refine z_iload_n (pc := 31) dM_reduce_31 rfl rfl ?_
      refine z_iconst (pc := 32) dM_reduce_32 zi_0 ?_
      refine z_iastore (pc := 33) za_51 (by omega) dM_reduce_33 ?_
      refine z_aload_n (pc := 34) dM_reduce_34 rfl rfl ?_
      refine z_getR (pc := 35) zo_39 rfl zf_M_43_6 dM_reduce_35 ?_
      refine z_iload_n (pc := 38) dM_reduce_38 rfl rfl ?_
      refine z_aload_n (pc := 39) dM_reduce_39 rfl rfl ?_
      refine z_getR (pc := 40) zo_39 rfl zf_M_43_6 dM_reduce_40 ?_
      refine z_iload_n (pc := 43) dM_reduce_43 rfl rfl ?_
      refine z_iaload (pc := 44) za_51 (by omega) dM_reduce_44 ?_
      refine z_iconst (pc := 45) dM_reduce_45 zi_1 ?_
      refine z_ixor (pc := 46) dM_reduce_46 ?_
      refine z_iastore (pc := 47) za_51 (by omega) dM_reduce_47 ?_
      refine z_iload_n (pc := 48) dM_reduce_48 rfl rfl ?_
      refine z_if_ne (pc := 49) (by omega) (tgt := 111) dM_reduce_49 rfl (fun h2 => ?_) (fun h2 => ?_)
      · refine z_aload_n (pc := 111) dM_reduce_111 rfl rfl ?_
        refine z_getR (pc := 112) zo_39 rfl zf_M_43_6 dM_reduce_112 ?_
        refine z_iload_n (pc := 115) dM_reduce_115 rfl rfl ?_
        refine z_bipush (pc := 116) dM_reduce_116 zb_127 ?_
        refine z_iadd (pc := 118) dM_reduce_118 ?_
        refine z_aload_n (pc := 119) dM_reduce_119 rfl rfl ?_
        refine z_getR (pc := 120) zo_39 rfl zf_M_43_6 dM_reduce_120 ?_
        refine z_iload_n (pc := 123) dM_reduce_123 rfl rfl ?_
        refine z_bipush (pc := 124) dM_reduce_124 zb_127 ?_
        refine z_iadd (pc := 126) dM_reduce_126 ?_
        refine z_iaload (pc := 127) za_51 (by omega) dM_reduce_127 ?_
        refine z_iconst (pc := 128) dM_reduce_128 zi_1 ?_
        refine z_ixor (pc := 129) dM_reduce_129 ?_
        refine z_iastore (pc := 130) za_51 (by omega) dM_reduce_130 ?_
        refine z_aload_n (pc := 131) dM_reduce_131 rfl rfl ?_
        refine z_getR (pc := 132) zo_39 rfl zf_M_43_6 dM_reduce_132 ?_
        refine z_iload_n (pc := 135) dM_reduce_135 rfl rfl ?_
        refine z_bipush (pc := 136) dM_reduce_136 zb_126 ?_
        refine z_iadd (pc := 138) dM_reduce_138 ?_
        refine z_aload_n (pc := 139) dM_reduce_139 rfl rfl ?_
        refine z_getR (pc := 140) zo_39 rfl zf_M_43_6 dM_reduce_140 ?_
        refine z_iload_n (pc := 143) dM_reduce_143 rfl rfl ?_
        refine z_bipush (pc := 144) dM_reduce_144 zb_126 ?_
        refine z_iadd (pc := 146) dM_reduce_146 ?_
        refine z_iaload (pc := 147) za_51 (by omega) dM_reduce_147 ?_
        refine z_iconst (pc := 148) dM_reduce_148 zi_1 ?_
        refine z_ixor (pc := 149) dM_reduce_149 ?_
        refine z_iastore (pc := 150) za_51 (by omega) dM_reduce_150 ?_
        refine z_aload_n (pc := 151) dM_reduce_151 rfl rfl ?_
        refine z_getR (pc := 152) zo_39 rfl zf_M_43_6 dM_reduce_152 ?_
        refine z_iload_n (pc := 155) dM_reduce_155 rfl rfl ?_
        refine z_bipush (pc := 156) dM_reduce_156 zb_121 ?_
        refine z_iadd (pc := 158) dM_reduce_158 ?_
        refine z_aload_n (pc := 159) dM_reduce_159 rfl rfl ?_
        refine z_getR (pc := 160) zo_39 rfl zf_M_43_6 dM_reduce_160 ?_
        refine z_iload_n (pc := 163) dM_reduce_163 rfl rfl ?_
        refine z_bipush (pc := 164) dM_reduce_164 zb_121 ?_
        refine z_iadd (pc := 166) dM_reduce_166 ?_
        refine z_iaload (pc := 167) za_51 (by omega) dM_reduce_167 ?_
        refine z_iconst (pc := 168) dM_reduce_168 zi_1 ?_
        refine z_ixor (pc := 169) dM_reduce_169 ?_
        refine z_iastore (pc := 170) za_51 (by omega) dM_reduce_170 ?_
        refine z_iinc (L' := [(2, _), (3, _), (0, _), (1, _)]) (pc := 171) dM_reduce_171 rfl zi_m1 (by decide) rfl ?_
        refine z_goto (pc := 174) (tgt := 4) dM_reduce_174 rfl ?_
        refine z_ls (L' := [(2, _), (0, _), (1, _)]) [0, 2, 3] rfl ?_
        rw [z_dec (by omega), show 255 - m - 1 = 255 - (m + 1) by omega]
        refine km _ _ _ ⟨rfl, rfl, fun k hk => by rw [z_set_ne hk, z_set_ne hk, z_set_ne hk, z_set_ne hk, z_set_ne hk, hA k hk], ?_⟩
        show zbr _ 256 (zst (zvw w) (255 - m) _)
        rw [show zvw w = zovI from if_neg h2]
        rw [show zvw w = zovI from if_neg h2] at hb hbt
        refine zst_five (a := 121) (b := 126) (c := 127) (by omega) (by omega) zbI hbt (by decide) (by decide) (by decide) (by decide) (A' 51) hb _ (fun j => ?_)
        rw [z_flip, z_flip, z_flip, z_flip]
        congr 4
        by_cases e : j = 255 - m
        · rw [e, z_set_at, if_pos rfl]
        · rw [z_set_nj e, if_neg e]
      · refine z_aload_n (pc := 52) dM_reduce_52 rfl rfl ?_
        refine z_getR (pc := 53) zo_39 rfl zf_M_43_6 dM_reduce_53 ?_
        refine z_iload_n (pc := 56) dM_reduce_56 rfl rfl ?_
        refine z_bipush (pc := 57) dM_reduce_57 zb_7 ?_
        refine z_iadd (pc := 59) dM_reduce_59 ?_
        refine z_aload_n (pc := 60) dM_reduce_60 rfl rfl ?_
        refine z_getR (pc := 61) zo_39 rfl zf_M_43_6 dM_reduce_61 ?_
        refine z_iload_n (pc := 64) dM_reduce_64 rfl rfl ?_
        refine z_bipush (pc := 65) dM_reduce_65 zb_7 ?_
        refine z_iadd (pc := 67) dM_reduce_67 ?_
        refine z_iaload (pc := 68) za_51 (by omega) dM_reduce_68 ?_
        refine z_iconst (pc := 69) dM_reduce_69 zi_1 ?_
        refine z_ixor (pc := 70) dM_reduce_70 ?_
        refine z_iastore (pc := 71) za_51 (by omega) dM_reduce_71 ?_
        refine z_aload_n (pc := 72) dM_reduce_72 rfl rfl ?_
        refine z_getR (pc := 73) zo_39 rfl zf_M_43_6 dM_reduce_73 ?_
        refine z_iload_n (pc := 76) dM_reduce_76 rfl rfl ?_
        refine z_iconst (pc := 77) dM_reduce_77 zi_2 ?_
        refine z_iadd (pc := 78) dM_reduce_78 ?_
        refine z_aload_n (pc := 79) dM_reduce_79 rfl rfl ?_
        refine z_getR (pc := 80) zo_39 rfl zf_M_43_6 dM_reduce_80 ?_
        refine z_iload_n (pc := 83) dM_reduce_83 rfl rfl ?_
        refine z_iconst (pc := 84) dM_reduce_84 zi_2 ?_
        refine z_iadd (pc := 85) dM_reduce_85 ?_
        refine z_iaload (pc := 86) za_51 (by omega) dM_reduce_86 ?_
        refine z_iconst (pc := 87) dM_reduce_87 zi_1 ?_
        refine z_ixor (pc := 88) dM_reduce_88 ?_
        refine z_iastore (pc := 89) za_51 (by omega) dM_reduce_89 ?_
        refine z_aload_n (pc := 90) dM_reduce_90 rfl rfl ?_
        refine z_getR (pc := 91) zo_39 rfl zf_M_43_6 dM_reduce_91 ?_
        refine z_iload_n (pc := 94) dM_reduce_94 rfl rfl ?_
        refine z_iconst (pc := 95) dM_reduce_95 zi_1 ?_
        refine z_iadd (pc := 96) dM_reduce_96 ?_
        refine z_aload_n (pc := 97) dM_reduce_97 rfl rfl ?_
        refine z_getR (pc := 98) zo_39 rfl zf_M_43_6 dM_reduce_98 ?_
        refine z_iload_n (pc := 101) dM_reduce_101 rfl rfl ?_
        refine z_iconst (pc := 102) dM_reduce_102 zi_1 ?_
        refine z_iadd (pc := 103) dM_reduce_103 ?_
        refine z_iaload (pc := 104) za_51 (by omega) dM_reduce_104 ?_
        refine z_iconst (pc := 105) dM_reduce_105 zi_1 ?_
        refine z_ixor (pc := 106) dM_reduce_106 ?_
        refine z_iastore (pc := 107) za_51 (by omega) dM_reduce_107 ?_
        refine z_goto (pc := 108) (tgt := 171) dM_reduce_108 rfl ?_
        refine z_iinc (L' := [(2, _), (3, _), (0, _), (1, _)]) (pc := 171) dM_reduce_171 rfl zi_m1 (by decide) rfl ?_
        refine z_goto (pc := 174) (tgt := 4) dM_reduce_174 rfl ?_
        refine z_ls (L' := [(2, _), (0, _), (1, _)]) [0, 2, 3] rfl ?_
        rw [z_dec (by omega), show 255 - m - 1 = 255 - (m + 1) by omega]
        refine km _ _ _ ⟨rfl, rfl, fun k hk => by rw [z_set_ne hk, z_set_ne hk, z_set_ne hk, z_set_ne hk, z_set_ne hk, hA k hk], ?_⟩
        show zbr _ 256 (zst (zvw w) (255 - m) _)
        rw [show zvw w = zovO from if_pos h2]
        rw [show zvw w = zovO from if_pos h2] at hb hbt
        refine zst_five (a := 1) (b := 2) (c := 7) (by omega) (by omega) zbO hbt (by decide) (by decide) (by decide) (by decide) (A' 51) hb _ (fun j => ?_)
        rw [z_flip, z_flip, z_flip, z_flip]
        congr 4
        by_cases e : j = 255 - m
        · rw [e, z_set_at, if_pos rfl]
        · rw [z_set_nj e, if_neg e]
  · rintro L A' B' ⟨rfl, rfl, hA, hb⟩
    refine z_iload_n (pc := 4) dM_reduce_4 rfl rfl ?_
    refine z_sipush (pc := 5) dM_reduce_5 zs_128 ?_
    refine z_icmp_lt (pc := 8) (by omega) (by omega) (tgt := 177) dM_reduce_8 rfl (fun h => ?_) (fun h => by exfalso; omega)
    exact z_ret0 (pc := 177) dM_reduce_177 (hEx _ _ _ (⟨rfl, rfl, hA, by rw [zrs_128]; exact hb⟩))
theorem m_multiply {w S H : Nat} (hw : w = 0 ∨ w = 1) (hS : zbr (A 49) 128 S) (hH : zbr (A 50) 128 H ∧ H < 2 ^ 128) : z_Met l g ad mM_multiply (z_rm 1) [.ref (ad 39), .int (nI w)] A B (z_vd (fun A' B' => B = B' ∧ (∀ k, k ≠ 49 → k ≠ 51 → A' k = A k) ∧ zbr (A' 49) 128 (zmul (zvw w) S H))) := by
  refine z_Met.of (L := [(0, _), (1, _)]) (by decide) (Nat.le_of_ble_eq_true rfl) z_fit_vd rfl ?_
  intro Ex hEx
  refine z_aload_n (pc := 0) dM_multiply_0 rfl rfl ?_
  refine z_callV (pc := 1) (m_clearProduct) (by decide) zo_39 rfl zc_M_77 rfl rfl (Nat.le_of_ble_eq_true rfl) z_cn0 dM_multiply_1 (fun r A' B' hE => ?_)
  obtain ⟨rfl, rfl, rfl⟩ := hE
  refine z_r0 ?_
  refine z_iconst (pc := 4) dM_multiply_4 zi_0 ?_
  refine z_istore_n (L' := [(2, _), (0, _), (1, _)]) (pc := 5) dM_multiply_5 rfl (by decide) rfl ?_
  refine z_loop 128 (fun i L A' B' => L = [(2, .int (nI i)), (0, .ref (ad 39)), (1, .int (nI w))] ∧ B = B' ∧ (∀ k, k ≠ 51 → A' k = A k) ∧ zbr (A' 51) 256 (zmP S H i)) ?_ ?_ _ _ _ ⟨rfl, rfl, fun k hk => z_map_ne hk, fun i hi => by rw [z_map_lt hi, zmP, Nat.zero_testBit]; rfl⟩
  · rintro i L A1 B1 hi ⟨rfl, rfl, hA, hb⟩ ki
    refine z_iload_n (pc := 6) dM_multiply_6 rfl rfl ?_
    refine z_sipush (pc := 7) dM_multiply_7 zs_128 ?_
    refine z_icmp_ge (pc := 10) (by omega) (by omega) (tgt := 67) dM_multiply_10 rfl (fun h => by exfalso; omega) (fun h => ?_)
    refine z_iconst (pc := 13) dM_multiply_13 zi_0 ?_
    refine z_istore_n (L' := [(3, _), (2, _), (0, _), (1, _)]) (pc := 14) dM_multiply_14 rfl (by decide) rfl ?_
    cases hsi : S.testBit i with
    | true =>
      have hs1 : A1 49 i = 1 := by rw [hA 49 (by decide), hS i hi, hsi]; rfl
      refine z_wd (z_seg_0 A1 51 i (fun q => A1 51 q ^^^ A1 50 (q - i))).symm rfl ?_
      refine z_for 128 (fun j => [(3, .int (nI j)), (2, .int (nI i)), (0, .ref (ad 39)), (1, .int (nI w))]) (fun j => z_seg A1 51 i j (fun q => A1 51 q ^^^ A1 50 (q - i))) (fun j => B) (fun j hj kj => ?_) ?_
      · refine z_iload_n (pc := 15) dM_multiply_15 rfl rfl ?_
        refine z_sipush (pc := 16) dM_multiply_16 zs_128 ?_
        refine z_icmp_ge (pc := 19) (by omega) (by omega) (tgt := 61) dM_multiply_19 rfl (fun h => by exfalso; omega) (fun h => ?_)
        refine z_aload_n (pc := 22) dM_multiply_22 rfl rfl ?_
        refine z_getR (pc := 23) zo_39 rfl zf_M_37_6 dM_multiply_23 ?_
        refine z_iload_n (pc := 26) dM_multiply_26 rfl rfl ?_
        refine z_iaload (pc := 27) za_49 (by omega) dM_multiply_27 ?_
        refine z_iconst (pc := 28) dM_multiply_28 zi_1 ?_
        refine z_icmp_ne (pc := 29) (by rw [z_seg_ne (by decide), hs1]; decide) (by omega) (tgt := 61) dM_multiply_29 rfl (fun h => by rw [z_seg_ne (by decide), hs1] at h; exact absurd rfl h) (fun h => ?_)
        refine z_aload_n (pc := 32) dM_multiply_32 rfl rfl ?_
        refine z_getR (pc := 33) zo_39 rfl zf_M_43_6 dM_multiply_33 ?_
        refine z_iload_n (pc := 36) dM_multiply_36 rfl rfl ?_
        refine z_iload_n (pc := 37) dM_multiply_37 rfl rfl ?_
        refine z_iadd (pc := 38) dM_multiply_38 ?_
        refine z_aload_n (pc := 39) dM_multiply_39 rfl rfl ?_
        refine z_getR (pc := 40) zo_39 rfl zf_M_43_6 dM_multiply_40 ?_
        refine z_iload_n (pc := 43) dM_multiply_43 rfl rfl ?_
        refine z_iload_n (pc := 44) dM_multiply_44 rfl rfl ?_
        refine z_iadd (pc := 45) dM_multiply_45 ?_
        refine z_iaload (pc := 46) za_51 (by omega) dM_multiply_46 ?_
        refine z_aload_n (pc := 47) dM_multiply_47 rfl rfl ?_
        refine z_getR (pc := 48) zo_39 rfl zf_M_40_6 dM_multiply_48 ?_
        refine z_iload_n (pc := 51) dM_multiply_51 rfl rfl ?_
        refine z_iaload (pc := 52) za_50 (by omega) dM_multiply_52 ?_
        refine z_ixor (pc := 53) dM_multiply_53 ?_
        refine z_iastore (pc := 54) za_51 (by omega) dM_multiply_54 ?_
        refine z_iinc (L' := [(3, _), (2, _), (0, _), (1, _)]) (pc := 55) dM_multiply_55 rfl zi_1 (by decide) rfl ?_
        refine z_goto (pc := 58) (tgt := 15) dM_multiply_58 rfl ?_
        refine z_wd (z_seg_set ?_) rfl kj
        rw [z_seg_out (Or.inr (Nat.le_refl _)), z_seg_ne (by decide), Nat.add_sub_cancel_left]
      · refine z_iload_n (pc := 15) dM_multiply_15 rfl rfl ?_
        refine z_sipush (pc := 16) dM_multiply_16 zs_128 ?_
        refine z_icmp_ge (pc := 19) (by omega) (by omega) (tgt := 61) dM_multiply_19 rfl (fun h => ?_) (fun h => by exfalso; omega)
        refine z_iinc (L' := [(2, _), (3, _), (0, _), (1, _)]) (pc := 61) dM_multiply_61 rfl zi_1 (by decide) rfl ?_
        refine z_goto (pc := 64) (tgt := 6) dM_multiply_64 rfl ?_
        refine z_ls (L' := [(2, _), (0, _), (1, _)]) [0, 2, 3] rfl ?_
        exact ki _ _ _ ⟨rfl, rfl, fun k hk => by rw [z_seg_ne hk, hA k hk], by rw [zmP, hsi, Bool.toNat_true, Nat.one_mul]; exact z_addsh hi hb ⟨fun q hq => by rw [hA 50 (by decide)]; exact hH.1 q hq, hH.2⟩⟩
    | false =>
      have hs1 : A1 49 i = 0 := by rw [hA 49 (by decide), hS i hi, hsi]; rfl
      refine z_iload_n (pc := 15) dM_multiply_15 rfl rfl ?_
      refine z_sipush (pc := 16) dM_multiply_16 zs_128 ?_
      refine z_icmp_ge (pc := 19) (by omega) (by omega) (tgt := 61) dM_multiply_19 rfl (fun h => by exfalso; omega) (fun h => ?_)
      refine z_aload_n (pc := 22) dM_multiply_22 rfl rfl ?_
      refine z_getR (pc := 23) zo_39 rfl zf_M_37_6 dM_multiply_23 ?_
      refine z_iload_n (pc := 26) dM_multiply_26 rfl rfl ?_
      refine z_iaload (pc := 27) za_49 (by omega) dM_multiply_27 ?_
      refine z_iconst (pc := 28) dM_multiply_28 zi_1 ?_
      refine z_icmp_ne (pc := 29) (by rw [hs1]; decide) (by omega) (tgt := 61) dM_multiply_29 rfl (fun h => ?_) (fun h => by rw [hs1] at h; exact absurd h (by decide))
      refine z_iinc (L' := [(2, _), (3, _), (0, _), (1, _)]) (pc := 61) dM_multiply_61 rfl zi_1 (by decide) rfl ?_
      refine z_goto (pc := 64) (tgt := 6) dM_multiply_64 rfl ?_
      refine z_ls (L' := [(2, _), (0, _), (1, _)]) [0, 2, 3] rfl ?_
      exact ki _ _ _ ⟨rfl, rfl, hA, by rw [zmP, hsi, Bool.toNat_false, Nat.zero_mul, Nat.xor_zero]; exact hb⟩
  · rintro L A1 B1 ⟨rfl, rfl, hA, hb⟩
    refine z_iload_n (pc := 6) dM_multiply_6 rfl rfl ?_
    refine z_sipush (pc := 7) dM_multiply_7 zs_128 ?_
    refine z_icmp_ge (pc := 10) (by omega) (by omega) (tgt := 67) dM_multiply_10 rfl (fun h => ?_) (fun h => by exfalso; omega)
    refine z_aload_n (pc := 67) dM_multiply_67 rfl rfl ?_
    refine z_iload_n (pc := 68) dM_multiply_68 rfl rfl ?_
    refine z_callV (pc := 69) (m_reduce hw hb) (by decide) zo_39 rfl zc_M_80 rfl rfl (Nat.le_of_ble_eq_true rfl) z_cn0 dM_multiply_69 (fun r A' B' hE => ?_)
    obtain ⟨rfl, rfl, hA2, hb2⟩ := hE
    refine z_r0 ?_
    refine z_iconst (pc := 72) dM_multiply_72 zi_0 ?_
    refine z_istore_n (L' := [(2, _), (0, _), (1, _)]) (pc := 73) dM_multiply_73 rfl (by decide) rfl ?_
    refine z_wd (z_map_0 A' 49 (A' 51)).symm rfl ?_
    refine z_for 128 (fun i => [(2, .int (nI i)), (0, .ref (ad 39)), (1, .int (nI w))]) (fun i => z_map A' 49 i (A' 51)) (fun i => B) (fun i hi ki => ?_) ?_
    · refine z_iload_n (pc := 74) dM_multiply_74 rfl rfl ?_
      refine z_sipush (pc := 75) dM_multiply_75 zs_128 ?_
      refine z_icmp_ge (pc := 78) (by omega) (by omega) (tgt := 99) dM_multiply_78 rfl (fun h => by exfalso; omega) (fun h => ?_)
      refine z_aload_n (pc := 81) dM_multiply_81 rfl rfl ?_
      refine z_getR (pc := 82) zo_39 rfl zf_M_37_6 dM_multiply_82 ?_
      refine z_iload_n (pc := 85) dM_multiply_85 rfl rfl ?_
      refine z_aload_n (pc := 86) dM_multiply_86 rfl rfl ?_
      refine z_getR (pc := 87) zo_39 rfl zf_M_43_6 dM_multiply_87 ?_
      refine z_iload_n (pc := 90) dM_multiply_90 rfl rfl ?_
      refine z_iaload (pc := 91) za_51 (by omega) dM_multiply_91 ?_
      refine z_iastore (pc := 92) za_49 (by omega) dM_multiply_92 ?_
      refine z_iinc (L' := [(2, _), (0, _), (1, _)]) (pc := 93) dM_multiply_93 rfl zi_1 (by decide) rfl ?_
      refine z_goto (pc := 96) (tgt := 74) dM_multiply_96 rfl ?_
      refine z_wd (z_map_set ?_) rfl ki
      rw [z_map_ne (by decide)]
    · refine z_iload_n (pc := 74) dM_multiply_74 rfl rfl ?_
      refine z_sipush (pc := 75) dM_multiply_75 zs_128 ?_
      refine z_icmp_ge (pc := 78) (by omega) (by omega) (tgt := 99) dM_multiply_78 rfl (fun h => ?_) (fun h => by exfalso; omega)
      exact z_ret0 (pc := 99) dM_multiply_99 (hEx _ _ _ (⟨rfl, rfl, fun k h49 h51 => by rw [z_map_ne h49, hA2 k h51, hA k h51], fun j hj => by rw [z_map_lt hj, hb2 j (by omega), zred_mP S (zvw_lt w) hH.2 128 (Nat.le_refl _)]; rfl⟩))
theorem m_feed {w S H : Nat} (hw : w = 0 ∨ w = 1) (hS : zbr (A 49) 128 S) (hH : zbr (A 50) 128 H ∧ H < 2 ^ 128) (hX : ∀ j, j < 16 → A 48 j < 256) : z_Met l g ad mM_feed (z_rm 2) [.ref (ad 39), .int (nI w)] A B (z_vd (fun A' B' => B = B' ∧ (∀ k, k ≠ 49 → k ≠ 51 → A' k = A k) ∧ zbr (A' 49) 128 (zmul (zvw w) (S ^^^ zblk (zmw w) (A 48) 0 16) H))) := by
  refine z_Met.of (L := [(0, _), (1, _)]) (by decide) (Nat.le_of_ble_eq_true rfl) z_fit_vd rfl ?_
  intro Ex hEx
  refine z_iconst (pc := 0) dM_feed_0 zi_0 ?_
  refine z_istore_n (L' := [(2, _), (0, _), (1, _)]) (pc := 1) dM_feed_1 rfl (by decide) rfl ?_
  refine z_wd (z_map_0 A 49 (fun i => A 49 i ^^^ ((A 48 (i / 8)).testBit (i % 8 ^^^ zmw w)).toNat)).symm rfl ?_
  refine z_for 128 (fun i => [(2, .int (nI i)), (0, .ref (ad 39)), (1, .int (nI w))]) (fun i => z_map A 49 i (fun i => A 49 i ^^^ ((A 48 (i / 8)).testBit (i % 8 ^^^ zmw w)).toNat)) (fun i => B) (fun i hi ki => ?_) ?_
  · refine z_iload_n (pc := 2) dM_feed_2 rfl rfl ?_
    refine z_sipush (pc := 3) dM_feed_3 zs_128 ?_
    refine z_icmp_ge (pc := 6) (by omega) (by omega) (tgt := 45) dM_feed_6 rfl (fun h => by exfalso; omega) (fun h => ?_)
    refine z_aload_n (pc := 9) dM_feed_9 rfl rfl ?_
    refine z_getR (pc := 10) zo_39 rfl zf_M_37_6 dM_feed_10 ?_
    refine z_iload_n (pc := 13) dM_feed_13 rfl rfl ?_
    refine z_aload_n (pc := 14) dM_feed_14 rfl rfl ?_
    refine z_getR (pc := 15) zo_39 rfl zf_M_37_6 dM_feed_15 ?_
    refine z_iload_n (pc := 18) dM_feed_18 rfl rfl ?_
    refine z_iaload (pc := 19) za_49 (by omega) dM_feed_19 ?_
    refine z_iload_n (pc := 20) dM_feed_20 rfl rfl ?_
    refine z_aload_n (pc := 21) dM_feed_21 rfl rfl ?_
    refine z_getR (pc := 22) zo_39 rfl zf_M_34_6 dM_feed_22 ?_
    refine z_iload_n (pc := 25) dM_feed_25 rfl rfl ?_
    refine z_bipush (pc := 26) dM_feed_26 zb_8 ?_
    refine z_idiv (pc := 28) dM_feed_28 (by omega) (by omega) (by omega) ?_
    refine z_iaload (pc := 29) za_48 (by omega) dM_feed_29 ?_
    refine z_iload_n (pc := 30) dM_feed_30 rfl rfl ?_
    refine z_bipush (pc := 31) dM_feed_31 zb_8 ?_
    refine z_irem (pc := 33) dM_feed_33 (by omega) (by omega) (by omega) ?_
    refine z_callS (pc := 34) (m_bit hw (by rw [z_map_ne (by decide)]; exact hX _ (by omega)) (Nat.mod_lt _ (by decide))) (by decide) zc_M_83 rfl rfl (Nat.le_of_ble_eq_true rfl) z_cn0 dM_feed_34 (fun r A' B' hE => ?_)
    obtain ⟨rfl, rfl, rfl⟩ := hE
    refine z_r1 ?_
    refine z_ixor (pc := 37) dM_feed_37 ?_
    refine z_iastore (pc := 38) za_49 (by omega) dM_feed_38 ?_
    refine z_iinc (L' := [(2, _), (0, _), (1, _)]) (pc := 39) dM_feed_39 rfl zi_1 (by decide) rfl ?_
    refine z_goto (pc := 42) (tgt := 2) dM_feed_42 rfl ?_
    refine z_wd (z_map_set ?_) rfl ki
    rw [z_map_ge (Nat.le_refl _), z_map_ne (by decide)]
  · refine z_iload_n (pc := 2) dM_feed_2 rfl rfl ?_
    refine z_sipush (pc := 3) dM_feed_3 zs_128 ?_
    refine z_icmp_ge (pc := 6) (by omega) (by omega) (tgt := 45) dM_feed_6 rfl (fun h => ?_) (fun h => by exfalso; omega)
    refine z_aload_n (pc := 45) dM_feed_45 rfl rfl ?_
    refine z_iload_n (pc := 46) dM_feed_46 rfl rfl ?_
    have hS2 : zbr (z_map A 49 128 (fun i => A 49 i ^^^ ((A 48 (i / 8)).testBit (i % 8 ^^^ zmw w)).toNat) 49) 128 (S ^^^ zblk (zmw w) (A 48) 0 16) := by
      intro i hi
      rw [z_map_lt hi, hS i hi, z_tx, Nat.testBit_xor, zblk, zbits_tb, zp, Nat.zero_add, decide_eq_true hi, decide_eq_true (show i / 8 < 16 by omega), Bool.true_and, Bool.true_and]
    refine z_callV (pc := 47) (m_multiply hw hS2 ⟨fun q hq => by rw [z_map_ne (by decide)]; exact hH.1 q hq, hH.2⟩) (by decide) zo_39 rfl zc_M_90 rfl rfl (Nat.le_of_ble_eq_true rfl) z_cn0 dM_feed_47 (fun r A' B' hE => ?_)
    obtain ⟨rfl, rfl, hA, hb⟩ := hE
    refine z_r0 ?_
    exact z_ret0 (pc := 50) dM_feed_50 (hEx _ _ _ (⟨rfl, rfl, fun k h49 h51 => by rw [hA k h49 h51, z_map_ne h49], hb⟩))
theorem m_feedRow {w S H fr n : Nat} (hw : w = 0 ∨ w = 1) (hS : zbr (A 49) 128 S) (hH : zbr (A 50) 128 H ∧ H < 2 ^ 128) (hn : fr + n ≤ 320) (hby : ∀ j, j < n → A 40 (fr + j) < 256) : z_Met l g ad mM_feedRow (z_rm 3) [.ref (ad 39), .int (nI w), .int (nI fr), .int (nI n)] A B (z_vd (fun A' B' => B = B' ∧ (∀ k, k ≠ 48 → k ≠ 49 → k ≠ 51 → A' k = A k) ∧ zbr (A' 49) 128 (zfr (zmw w) (zvw w) H (fun j => A 40 (fr + j)) n S ((n + 15) / 16)))) := by
  refine z_Met.of (L := [(0, _), (1, _), (2, _), (3, _)]) (by decide) (Nat.le_of_ble_eq_true rfl) z_fit_vd rfl ?_
  intro Ex hEx
  refine z_iconst (pc := 0) dM_feedRow_0 zi_0 ?_
  refine z_istore (L' := [(4, _), (0, _), (1, _), (2, _), (3, _)]) (pc := 1) dM_feedRow_1 (by decide) rfl ?_
  refine z_loop ((n + 15) / 16) (fun q L A' B' => L = [(4, .int (nI (16 * q))), (0, .ref (ad 39)), (1, .int (nI w)), (2, .int (nI fr)), (3, .int (nI n))] ∧ B = B' ∧ (∀ k, k ≠ 48 → k ≠ 49 → k ≠ 51 → A' k = A k) ∧ zbr (A' 49) 128 (zfr (zmw w) (zvw w) H (fun j => A 40 (fr + j)) n S q)) ?_ ?_ _ _ _ ⟨rfl, rfl, fun _ _ _ _ => rfl, hS⟩
  · rintro q L A1 B1 hq ⟨rfl, rfl, hA, hb⟩ kq
    refine z_iload (pc := 3) dM_feedRow_3 rfl ?_
    refine z_iload_n (pc := 5) dM_feedRow_5 rfl rfl ?_
    refine z_icmp_ge (pc := 6) (by omega) (by omega) (tgt := 68) dM_feedRow_6 rfl (fun h => by exfalso; omega) (fun h => ?_)
    refine z_iconst (pc := 9) dM_feedRow_9 zi_0 ?_
    refine z_istore (L' := [(5, _), (4, _), (0, _), (1, _), (2, _), (3, _)]) (pc := 10) dM_feedRow_10 (by decide) rfl ?_
    refine z_wd (z_map_0 A1 48 (fun k => if 16 * q + k < n then A 40 (fr + 16 * q + k) else 0)).symm rfl ?_
    refine z_for 16 (fun k => [(5, .int (nI k)), (4, .int (nI (16 * q))), (0, .ref (ad 39)), (1, .int (nI w)), (2, .int (nI fr)), (3, .int (nI n))]) (fun k => z_map A1 48 k (fun k => if 16 * q + k < n then A 40 (fr + 16 * q + k) else 0)) (fun k => B) (fun k hk kk => ?_) ?_
    · refine z_iload (pc := 12) dM_feedRow_12 rfl ?_
      refine z_bipush (pc := 14) dM_feedRow_14 zb_16 ?_
      refine z_icmp_ge (pc := 16) (by omega) (by omega) (tgt := 57) dM_feedRow_16 rfl (fun h => by exfalso; omega) (fun h => ?_)
      refine z_aload_n (pc := 19) dM_feedRow_19 rfl rfl ?_
      refine z_getR (pc := 20) zo_39 rfl zf_M_34_6 dM_feedRow_20 ?_
      refine z_iload (pc := 23) dM_feedRow_23 rfl ?_
      refine z_iload (pc := 25) dM_feedRow_25 rfl ?_
      refine z_iload (pc := 27) dM_feedRow_27 rfl ?_
      refine z_iadd (pc := 29) dM_feedRow_29 ?_
      refine z_iload_n (pc := 30) dM_feedRow_30 rfl rfl ?_
      refine z_icmp_ge (pc := 31) (by omega) (by omega) (tgt := 49) dM_feedRow_31 rfl (fun h1 => ?_) (fun h1 => ?_)
      · refine z_iconst (pc := 49) dM_feedRow_49 zi_0 ?_
        refine z_iastore (pc := 50) za_48 (by omega) dM_feedRow_50 ?_
        refine z_iinc (L' := [(5, _), (4, _), (0, _), (1, _), (2, _), (3, _)]) (pc := 51) dM_feedRow_51 rfl zi_1 (by decide) rfl ?_
        refine z_goto (pc := 54) (tgt := 12) dM_feedRow_54 rfl ?_
        refine z_wd (z_map_set ?_) rfl kk
        first | rw [if_pos (by omega), z_map_ne (by decide), hA 40 (by decide) (by decide) (by decide)] | rw [if_neg (by omega)]
      · refine z_aload_n (pc := 34) dM_feedRow_34 rfl rfl ?_
        refine z_getR (pc := 35) zo_39 rfl zf_M_7_6 dM_feedRow_35 ?_
        refine z_iload_n (pc := 38) dM_feedRow_38 rfl rfl ?_
        refine z_iload (pc := 39) dM_feedRow_39 rfl ?_
        refine z_iadd (pc := 41) dM_feedRow_41 ?_
        refine z_iload (pc := 42) dM_feedRow_42 rfl ?_
        refine z_iadd (pc := 44) dM_feedRow_44 ?_
        refine z_iaload (pc := 45) za_40 (by omega) dM_feedRow_45 ?_
        refine z_goto (pc := 46) (tgt := 50) dM_feedRow_46 rfl ?_
        refine z_iastore (pc := 50) za_48 (by omega) dM_feedRow_50 ?_
        refine z_iinc (L' := [(5, _), (4, _), (0, _), (1, _), (2, _), (3, _)]) (pc := 51) dM_feedRow_51 rfl zi_1 (by decide) rfl ?_
        refine z_goto (pc := 54) (tgt := 12) dM_feedRow_54 rfl ?_
        refine z_wd (z_map_set ?_) rfl kk
        first | rw [if_pos (by omega), z_map_ne (by decide), hA 40 (by decide) (by decide) (by decide)] | rw [if_neg (by omega)]
    · refine z_iload (pc := 12) dM_feedRow_12 rfl ?_
      refine z_bipush (pc := 14) dM_feedRow_14 zb_16 ?_
      refine z_icmp_ge (pc := 16) (by omega) (by omega) (tgt := 57) dM_feedRow_16 rfl (fun h => ?_) (fun h => by exfalso; omega)
      refine z_aload_n (pc := 57) dM_feedRow_57 rfl rfl ?_
      refine z_iload_n (pc := 58) dM_feedRow_58 rfl rfl ?_
      have hX : ∀ j, j < 16 → z_map A1 48 16 (fun k => if 16 * q + k < n then A 40 (fr + 16 * q + k) else 0) 48 j < 256 := by
        intro j hj
        rw [z_map_lt hj]
        by_cases h : 16 * q + j < n
        · rw [if_pos h, show fr + 16 * q + j = fr + (16 * q + j) by omega]; exact hby _ h
        · rw [if_neg h]; decide
      have eX : zblk (zmw w) (z_map A1 48 16 (fun k => if 16 * q + k < n then A 40 (fr + 16 * q + k) else 0) 48) 0 16 = zblk (zmw w) (fun j => A 40 (fr + j)) (16 * q) n := by
        apply zbits_cg
        intro i hi
        unfold zp
        rw [Nat.zero_add, z_map_lt (show i / 8 < 16 by omega), decide_eq_true (show i / 8 < 16 by omega), Bool.true_and]
        by_cases h : 16 * q + i / 8 < n
        · rw [if_pos h, decide_eq_true h, Bool.true_and, show fr + 16 * q + i / 8 = fr + (16 * q + i / 8) by omega]
        · rw [if_neg h, decide_eq_false h, Bool.false_and, Nat.zero_testBit]
      refine z_callV (pc := 59) (m_feed hw (fun i hi => by rw [z_map_ne (by decide)]; exact hb i hi) ⟨fun i hi => by rw [z_map_ne (by decide), hA 50 (by decide) (by decide) (by decide)]; exact hH.1 i hi, hH.2⟩ hX) (by decide) zo_39 rfl zc_M_93 rfl rfl (Nat.le_of_ble_eq_true rfl) z_cn0 dM_feedRow_59 (fun r A' B' hE => ?_)
      obtain ⟨rfl, rfl, hA2, hb2⟩ := hE
      refine z_r0 ?_
      refine z_iinc (L' := [(4, _), (5, _), (0, _), (1, _), (2, _), (3, _)]) (pc := 62) dM_feedRow_62 rfl zi_16 (by decide) rfl ?_
      refine z_goto (pc := 65) (tgt := 3) dM_feedRow_65 rfl ?_
      refine z_ls (L' := [(4, _), (0, _), (1, _), (2, _), (3, _)]) [0, 2, 3, 4, 5] rfl ?_
      refine kq _ _ _ ⟨rfl, rfl, fun k h48 h49 h51 => by rw [hA2 k h49 h51, z_map_ne h48, hA k h48 h49 h51], ?_⟩
      rw [zfr, ← eX]
      exact hb2
  · rintro L A1 B1 ⟨rfl, rfl, hA, hb⟩
    refine z_iload (pc := 3) dM_feedRow_3 rfl ?_
    refine z_iload_n (pc := 5) dM_feedRow_5 rfl rfl ?_
    refine z_icmp_ge (pc := 6) (by omega) (by omega) (tgt := 68) dM_feedRow_6 rfl (fun h => ?_) (fun h => by exfalso; omega)
    exact z_ret0 (pc := 68) dM_feedRow_68 (hEx _ _ _ (⟨rfl, rfl, hA, hb⟩))
theorem m_endHash {w S : Nat} (hw : w = 0 ∨ w = 1) (hS : zbr (A 49) 128 S) : z_Met l g ad mM_endHash (z_rm 0) [.ref (ad 39), .int (nI w)] A B (z_vd (fun A' B' => B = B' ∧ (∀ k, k ≠ 48 → A' k = A k) ∧ ∀ j, j < 16 → A' 48 j = zby (zmw w) S j)) := by
  refine z_Met.of (L := [(0, _), (1, _)]) (by decide) (Nat.le_of_ble_eq_true rfl) z_fit_vd rfl ?_
  intro Ex hEx
  refine z_iconst (pc := 0) dM_endHash_0 zi_0 ?_
  refine z_istore_n (L' := [(2, _), (0, _), (1, _)]) (pc := 1) dM_endHash_1 rfl (by decide) rfl ?_
  refine z_wd (z_map_0 A 48 (fun _ => 0)).symm rfl ?_
  refine z_for 16 (fun i => [(2, .int (nI i)), (0, .ref (ad 39)), (1, .int (nI w))]) (fun i => z_map A 48 i (fun _ => 0)) (fun i => B) (fun i hi ki => ?_) ?_
  · refine z_iload_n (pc := 2) dM_endHash_2 rfl rfl ?_
    refine z_bipush (pc := 3) dM_endHash_3 zb_16 ?_
    refine z_icmp_ge (pc := 5) (by omega) (by omega) (tgt := 21) dM_endHash_5 rfl (fun h => by exfalso; omega) (fun h => ?_)
    refine z_aload_n (pc := 8) dM_endHash_8 rfl rfl ?_
    refine z_getR (pc := 9) zo_39 rfl zf_M_34_6 dM_endHash_9 ?_
    refine z_iload_n (pc := 12) dM_endHash_12 rfl rfl ?_
    refine z_iconst (pc := 13) dM_endHash_13 zi_0 ?_
    refine z_iastore (pc := 14) za_48 (by omega) dM_endHash_14 ?_
    refine z_iinc (L' := [(2, _), (0, _), (1, _)]) (pc := 15) dM_endHash_15 rfl zi_1 (by decide) rfl ?_
    refine z_goto (pc := 18) (tgt := 2) dM_endHash_18 rfl ?_
    exact z_wd (z_map_set rfl) rfl ki
  · refine z_iload_n (pc := 2) dM_endHash_2 rfl rfl ?_
    refine z_bipush (pc := 3) dM_endHash_3 zb_16 ?_
    refine z_icmp_ge (pc := 5) (by omega) (by omega) (tgt := 21) dM_endHash_5 rfl (fun h => ?_) (fun h => by exfalso; omega)
    refine z_iconst (pc := 21) dM_endHash_21 zi_0 ?_
    refine z_istore_n (L' := [(2, _), (0, _), (1, _)]) (pc := 22) dM_endHash_22 rfl (by decide) rfl ?_
    refine z_wd (A' := z_seg A 48 0 16 (fun m => zbyk (zmw w) S m 0)) ((z_map_seg A 48 16 (fun _ => 0)).trans (z_seg_cg (fun j _ _ => (zbyk_0 _ _ _).symm))) rfl ?_
    refine z_for 128 (fun i => [(2, .int (nI i)), (0, .ref (ad 39)), (1, .int (nI w))]) (fun i => z_seg A 48 0 16 (fun m => zbyk (zmw w) S m i)) (fun i => B) (fun i hi ki => ?_) ?_
    · refine z_iload_n (pc := 23) dM_endHash_23 rfl rfl ?_
      refine z_sipush (pc := 24) dM_endHash_24 zs_128 ?_
      refine z_icmp_ge (pc := 27) (by omega) (by omega) (tgt := 80) dM_endHash_27 rfl (fun h => by exfalso; omega) (fun h => ?_)
      refine z_aload_n (pc := 30) dM_endHash_30 rfl rfl ?_
      refine z_getR (pc := 31) zo_39 rfl zf_M_34_6 dM_endHash_31 ?_
      refine z_iload_n (pc := 34) dM_endHash_34 rfl rfl ?_
      refine z_bipush (pc := 35) dM_endHash_35 zb_8 ?_
      refine z_idiv (pc := 37) dM_endHash_37 (by omega) (by omega) (by omega) ?_
      refine z_aload_n (pc := 38) dM_endHash_38 rfl rfl ?_
      refine z_getR (pc := 39) zo_39 rfl zf_M_34_6 dM_endHash_39 ?_
      refine z_iload_n (pc := 42) dM_endHash_42 rfl rfl ?_
      refine z_bipush (pc := 43) dM_endHash_43 zb_8 ?_
      refine z_idiv (pc := 45) dM_endHash_45 (by omega) (by omega) (by omega) ?_
      refine z_iaload (pc := 46) za_48 (by omega) dM_endHash_46 ?_
      refine z_aload_n (pc := 47) dM_endHash_47 rfl rfl ?_
      refine z_getR (pc := 48) zo_39 rfl zf_M_37_6 dM_endHash_48 ?_
      refine z_iload_n (pc := 51) dM_endHash_51 rfl rfl ?_
      refine z_iaload (pc := 52) za_49 (by omega) dM_endHash_52 ?_
      refine z_iload_n (pc := 53) dM_endHash_53 rfl rfl ?_
      refine z_if_ne (pc := 54) (by omega) (tgt := 67) dM_endHash_54 rfl (fun h1 => ?_) (fun h1 => ?_)
      · refine z_iload_n (pc := 67) dM_endHash_67 rfl rfl ?_
        refine z_bipush (pc := 68) dM_endHash_68 zb_8 ?_
        refine z_irem (pc := 70) dM_endHash_70 (by omega) (by omega) (by omega) ?_
        refine z_ishl (pc := 71) dM_endHash_71 (by omega) ?_
        refine z_ior (pc := 72) dM_endHash_72 ?_
        refine z_iastore (pc := 73) za_48 (by omega) dM_endHash_73 ?_
        refine z_iinc (L' := [(2, _), (0, _), (1, _)]) (pc := 74) dM_endHash_74 rfl zi_1 (by decide) rfl ?_
        refine z_goto (pc := 77) (tgt := 23) dM_endHash_77 rfl ?_
        refine z_wd (z_seg_upd (Nat.zero_le _) (by omega) ?_ (fun j h2 h3 h4 => (zbyk_ne (zmw_ok w) h4).symm)) rfl ki
        rw [z_seg_in (Nat.zero_le _) (by omega), z_seg_ne (by decide), hS i hi]
        first
          | rw [show i % 8 = i % 8 ^^^ zmw w by rw [zmw, if_neg h1, Nat.xor_zero]]
            exact zbyk_at (zmw_ok w)
          | rw [show 7 - i % 8 = i % 8 ^^^ zmw w by rw [zmw, if_pos h1, z_x7 _ (by omega)]]
            exact zbyk_at (zmw_ok w)
      · refine z_bipush (pc := 57) dM_endHash_57 zb_7 ?_
        refine z_iload_n (pc := 59) dM_endHash_59 rfl rfl ?_
        refine z_bipush (pc := 60) dM_endHash_60 zb_8 ?_
        refine z_irem (pc := 62) dM_endHash_62 (by omega) (by omega) (by omega) ?_
        refine z_isub (pc := 63) dM_endHash_63 (by omega) ?_
        refine z_goto (pc := 64) (tgt := 71) dM_endHash_64 rfl ?_
        refine z_ishl (pc := 71) dM_endHash_71 (by omega) ?_
        refine z_ior (pc := 72) dM_endHash_72 ?_
        refine z_iastore (pc := 73) za_48 (by omega) dM_endHash_73 ?_
        refine z_iinc (L' := [(2, _), (0, _), (1, _)]) (pc := 74) dM_endHash_74 rfl zi_1 (by decide) rfl ?_
        refine z_goto (pc := 77) (tgt := 23) dM_endHash_77 rfl ?_
        refine z_wd (z_seg_upd (Nat.zero_le _) (by omega) ?_ (fun j h2 h3 h4 => (zbyk_ne (zmw_ok w) h4).symm)) rfl ki
        rw [z_seg_in (Nat.zero_le _) (by omega), z_seg_ne (by decide), hS i hi]
        first
          | rw [show i % 8 = i % 8 ^^^ zmw w by rw [zmw, if_neg h1, Nat.xor_zero]]
            exact zbyk_at (zmw_ok w)
          | rw [show 7 - i % 8 = i % 8 ^^^ zmw w by rw [zmw, if_pos h1, z_x7 _ (by omega)]]
            exact zbyk_at (zmw_ok w)
    · refine z_iload_n (pc := 23) dM_endHash_23 rfl rfl ?_
      refine z_sipush (pc := 24) dM_endHash_24 zs_128 ?_
      refine z_icmp_ge (pc := 27) (by omega) (by omega) (tgt := 80) dM_endHash_27 rfl (fun h => ?_) (fun h => by exfalso; omega)
      exact z_ret0 (pc := 80) dM_endHash_80 (hEx _ _ _ (⟨rfl, rfl, fun k hk => z_seg_ne hk, fun j hj => by rw [z_seg_in (Nat.zero_le _) (by omega)]; exact zbyk_end (zmw_ok w) (by omega)⟩))
theorem m_beginHash {w : Nat} (hw : w = 0 ∨ w = 1) (hX : ∀ j, j < 16 → A 48 j < 256) : z_Met l g ad mM_beginHash (z_rm 1) [.ref (ad 39), .int (nI w)] A B (z_vd (fun A' B' => B = B' ∧ (∀ k, k ≠ 49 → k ≠ 50 → k ≠ 51 → A' k = A k) ∧ zbr (A' 49) 128 0 ∧ zbr (A' 50) 128 (zHk (zow w) (zvw w) (zblk (zmw w) (A 48) 0 16)))) := by
  refine z_Met.of (L := [(0, _), (1, _)]) (by decide) (Nat.le_of_ble_eq_true rfl) z_fit_vd rfl ?_
  intro Ex hEx
  refine z_iconst (pc := 0) dM_beginHash_0 zi_0 ?_
  refine z_istore_n (L' := [(2, _), (0, _), (1, _)]) (pc := 1) dM_beginHash_1 rfl (by decide) rfl ?_
  refine z_loop 128 (fun i L A' B' => L = [(2, .int (nI i)), (0, .ref (ad 39)), (1, .int (nI w))] ∧ B = B' ∧ (∀ k, k ≠ 49 → k ≠ 50 → A' k = A k) ∧ (∀ j, j < i → A' 49 j = 0) ∧ ∀ j, j < i → A' 50 j = ((A 48 (j / 8)).testBit (j % 8 ^^^ zmw w)).toNat) ?_ ?_ _ _ _ ⟨rfl, rfl, fun _ _ _ => rfl, fun j hj => absurd hj (Nat.not_lt_zero _), fun j hj => absurd hj (Nat.not_lt_zero _)⟩
  · rintro i L A1 B1 hi ⟨rfl, rfl, hA, h0, h1⟩ ki
    refine z_iload_n (pc := 2) dM_beginHash_2 rfl rfl ?_
    refine z_sipush (pc := 3) dM_beginHash_3 zs_128 ?_
    refine z_icmp_ge (pc := 6) (by omega) (by omega) (tgt := 45) dM_beginHash_6 rfl (fun h => by exfalso; omega) (fun h => ?_)
    refine z_aload_n (pc := 9) dM_beginHash_9 rfl rfl ?_
    refine z_getR (pc := 10) zo_39 rfl zf_M_37_6 dM_beginHash_10 ?_
    refine z_iload_n (pc := 13) dM_beginHash_13 rfl rfl ?_
    refine z_iconst (pc := 14) dM_beginHash_14 zi_0 ?_
    refine z_iastore (pc := 15) za_49 (by omega) dM_beginHash_15 ?_
    refine z_aload_n (pc := 16) dM_beginHash_16 rfl rfl ?_
    refine z_getR (pc := 17) zo_39 rfl zf_M_40_6 dM_beginHash_17 ?_
    refine z_iload_n (pc := 20) dM_beginHash_20 rfl rfl ?_
    refine z_iload_n (pc := 21) dM_beginHash_21 rfl rfl ?_
    refine z_aload_n (pc := 22) dM_beginHash_22 rfl rfl ?_
    refine z_getR (pc := 23) zo_39 rfl zf_M_34_6 dM_beginHash_23 ?_
    refine z_iload_n (pc := 26) dM_beginHash_26 rfl rfl ?_
    refine z_bipush (pc := 27) dM_beginHash_27 zb_8 ?_
    refine z_idiv (pc := 29) dM_beginHash_29 (by omega) (by omega) (by omega) ?_
    refine z_iaload (pc := 30) za_48 (by omega) dM_beginHash_30 ?_
    refine z_iload_n (pc := 31) dM_beginHash_31 rfl rfl ?_
    refine z_bipush (pc := 32) dM_beginHash_32 zb_8 ?_
    refine z_irem (pc := 34) dM_beginHash_34 (by omega) (by omega) (by omega) ?_
    refine z_callS (pc := 35) (m_bit hw (by rw [z_set_ne (by decide), hA 48 (by decide) (by decide)]; exact hX _ (by omega)) (Nat.mod_lt _ (by decide))) (by decide) zc_M_83 rfl rfl (Nat.le_of_ble_eq_true rfl) z_cn0 dM_beginHash_35 (fun r A' B' hE => ?_)
    obtain ⟨rfl, rfl, rfl⟩ := hE
    refine z_r1 ?_
    refine z_iastore (pc := 38) za_50 (by omega) dM_beginHash_38 ?_
    refine z_iinc (L' := [(2, _), (0, _), (1, _)]) (pc := 39) dM_beginHash_39 rfl zi_1 (by decide) rfl ?_
    refine z_goto (pc := 42) (tgt := 2) dM_beginHash_42 rfl ?_
    refine ki _ _ _ ⟨rfl, rfl, fun k h49 h50 => by rw [z_set_ne h50, z_set_ne h49, hA k h49 h50], fun j hj => ?_, fun j hj => ?_⟩
    · rw [z_set_ne (by decide)]
      by_cases e : j = i
      · rw [e, z_set_at]
      · rw [z_set_nj e]; exact h0 j (by omega)
    · by_cases e : j = i
      · rw [e, z_set_at, z_set_ne (by decide), hA 48 (by decide) (by decide)]
      · rw [z_set_nj e, z_set_ne (by decide)]; exact h1 j (by omega)
  · rintro L A1 B1 ⟨rfl, rfl, hA, h0, h1⟩
    have hs0 : zbr (A1 49) 128 0 := fun j hj => by rw [h0 j hj, Nat.zero_testBit]; rfl
    have hh0 : zbr (A1 50) 128 (zblk (zmw w) (A 48) 0 16) := by
      intro i hi
      rw [h1 i hi, zblk, zbits_tb, zp, Nat.zero_add, decide_eq_true hi, decide_eq_true (show i / 8 < 16 by omega), Bool.true_and, Bool.true_and]
    refine z_iload_n (pc := 2) dM_beginHash_2 rfl rfl ?_
    refine z_sipush (pc := 3) dM_beginHash_3 zs_128 ?_
    refine z_icmp_ge (pc := 6) (by omega) (by omega) (tgt := 45) dM_beginHash_6 rfl (fun h => ?_) (fun h => by exfalso; omega)
    refine z_iload_n (pc := 45) dM_beginHash_45 rfl rfl ?_
    refine z_if_ne (pc := 46) (by omega) (tgt := 50) dM_beginHash_46 rfl (fun hw0 => ?_) (fun hw0 => ?_)
    · refine z_aload_n (pc := 50) dM_beginHash_50 rfl rfl ?_
      refine z_callV (pc := 51) (m_clearProduct) (by decide) zo_39 rfl zc_M_77 rfl rfl (Nat.le_of_ble_eq_true rfl) z_cn0 dM_beginHash_51 (fun r A' B' hE => ?_)
      obtain ⟨rfl, rfl, rfl⟩ := hE
      refine z_r0 ?_
      refine z_aload_n (pc := 54) dM_beginHash_54 rfl rfl ?_
      refine z_bipush (pc := 55) dM_beginHash_55 zb_127 ?_
      refine z_callV (pc := 57) (m_addShifted (b := 127) (by omega) (fun i hi => by rw [z_map_lt hi, Nat.zero_testBit]; rfl) ⟨fun i hi => by rw [z_map_ne (by decide)]; exact hh0 i hi, zblk_lt _ _ _ _⟩) (by decide) zo_39 rfl zc_M_87 rfl rfl (Nat.le_of_ble_eq_true rfl) z_cn0 dM_beginHash_57 (fun r A' B' hE => ?_)
      obtain ⟨rfl, rfl, hA2, hP2⟩ := hE
      have hh1 : zbr (A' 50) 128 (zblk (zmw w) (A 48) 0 16) := fun i hi => by rw [hA2 50 (by decide)]; rw [z_map_ne (by decide)]; exact hh0 i hi
      refine z_r0 ?_
      refine z_aload_n (pc := 60) dM_beginHash_60 rfl rfl ?_
      refine z_bipush (pc := 61) dM_beginHash_61 zb_124 ?_
      refine z_callV (pc := 63) (m_addShifted (b := 124) (by omega) hP2 ⟨hh1, zblk_lt _ _ _ _⟩) (by decide) zo_39 rfl zc_M_87 rfl rfl (Nat.le_of_ble_eq_true rfl) z_cn0 dM_beginHash_63 (fun r A' B' hE => ?_)
      obtain ⟨rfl, rfl, hA3, hP3⟩ := hE
      have hh2 : zbr (A' 50) 128 (zblk (zmw w) (A 48) 0 16) := fun i hi => by rw [hA3 50 (by decide)]; exact hh1 i hi
      refine z_r0 ?_
      refine z_aload_n (pc := 66) dM_beginHash_66 rfl rfl ?_
      refine z_bipush (pc := 67) dM_beginHash_67 zb_121 ?_
      refine z_callV (pc := 69) (m_addShifted (b := 121) (by omega) hP3 ⟨hh2, zblk_lt _ _ _ _⟩) (by decide) zo_39 rfl zc_M_87 rfl rfl (Nat.le_of_ble_eq_true rfl) z_cn0 dM_beginHash_69 (fun r A' B' hE => ?_)
      obtain ⟨rfl, rfl, hA4, hP4⟩ := hE
      have hh3 : zbr (A' 50) 128 (zblk (zmw w) (A 48) 0 16) := fun i hi => by rw [hA4 50 (by decide)]; exact hh2 i hi
      refine z_r0 ?_
      refine z_aload_n (pc := 72) dM_beginHash_72 rfl rfl ?_
      refine z_bipush (pc := 73) dM_beginHash_73 zb_114 ?_
      refine z_callV (pc := 75) (m_addShifted (b := 114) (by omega) hP4 ⟨hh3, zblk_lt _ _ _ _⟩) (by decide) zo_39 rfl zc_M_87 rfl rfl (Nat.le_of_ble_eq_true rfl) z_cn0 dM_beginHash_75 (fun r A' B' hE => ?_)
      obtain ⟨rfl, rfl, hA5, hP5⟩ := hE
      have hh4 : zbr (A' 50) 128 (zblk (zmw w) (A 48) 0 16) := fun i hi => by rw [hA5 50 (by decide)]; exact hh3 i hi
      refine z_r0 ?_
      refine z_aload_n (pc := 78) dM_beginHash_78 rfl rfl ?_
      refine z_iconst (pc := 79) dM_beginHash_79 zi_0 ?_
      refine z_callV (pc := 80) (m_addShifted (b := 0) (by omega) hP5 ⟨hh4, zblk_lt _ _ _ _⟩) (by decide) zo_39 rfl zc_M_87 rfl rfl (Nat.le_of_ble_eq_true rfl) z_cn0 dM_beginHash_80 (fun r A' B' hE => ?_)
      obtain ⟨rfl, rfl, hA6, hP6⟩ := hE
      have hh5 : zbr (A' 50) 128 (zblk (zmw w) (A 48) 0 16) := fun i hi => by rw [hA6 50 (by decide)]; exact hh4 i hi
      refine z_r0 ?_
      refine z_aload_n (pc := 83) dM_beginHash_83 rfl rfl ?_
      refine z_iconst (pc := 84) dM_beginHash_84 zi_1 ?_
      refine z_callV (pc := 85) (m_reduce (w := 1) (Or.inr rfl) hP6) (by decide) zo_39 rfl zc_M_80 rfl rfl (Nat.le_of_ble_eq_true rfl) z_cn0 dM_beginHash_85 (fun r A' B' hE => ?_)
      obtain ⟨rfl, rfl, hA7, hP7⟩ := hE
      refine z_r0 ?_
      refine z_iconst (pc := 88) dM_beginHash_88 zi_0 ?_
      refine z_istore_n (L' := [(2, _), (0, _), (1, _)]) (pc := 89) dM_beginHash_89 rfl (by decide) rfl ?_
      refine z_wd (z_map_0 A' 50 (A' 51)).symm rfl ?_
      refine z_for 128 (fun i => [(2, .int (nI i)), (0, .ref (ad 39)), (1, .int (nI w))]) (fun i => z_map A' 50 i (A' 51)) (fun i => B) (fun i hi ki => ?_) ?_
      · refine z_iload_n (pc := 90) dM_beginHash_90 rfl rfl ?_
        refine z_sipush (pc := 91) dM_beginHash_91 zs_128 ?_
        refine z_icmp_ge (pc := 94) (by omega) (by omega) (tgt := 115) dM_beginHash_94 rfl (fun h => by exfalso; omega) (fun h => ?_)
        refine z_aload_n (pc := 97) dM_beginHash_97 rfl rfl ?_
        refine z_getR (pc := 98) zo_39 rfl zf_M_40_6 dM_beginHash_98 ?_
        refine z_iload_n (pc := 101) dM_beginHash_101 rfl rfl ?_
        refine z_aload_n (pc := 102) dM_beginHash_102 rfl rfl ?_
        refine z_getR (pc := 103) zo_39 rfl zf_M_43_6 dM_beginHash_103 ?_
        refine z_iload_n (pc := 106) dM_beginHash_106 rfl rfl ?_
        refine z_iaload (pc := 107) za_51 (by omega) dM_beginHash_107 ?_
        refine z_iastore (pc := 108) za_50 (by omega) dM_beginHash_108 ?_
        refine z_iinc (L' := [(2, _), (0, _), (1, _)]) (pc := 109) dM_beginHash_109 rfl zi_1 (by decide) rfl ?_
        refine z_goto (pc := 112) (tgt := 90) dM_beginHash_112 rfl ?_
        refine z_wd (z_map_set ?_) rfl ki
        rw [z_map_ne (by decide)]
      · refine z_iload_n (pc := 90) dM_beginHash_90 rfl rfl ?_
        refine z_sipush (pc := 91) dM_beginHash_91 zs_128 ?_
        refine z_icmp_ge (pc := 94) (by omega) (by omega) (tgt := 115) dM_beginHash_94 rfl (fun h => ?_) (fun h => by exfalso; omega)
        exact z_ret0 (pc := 115) dM_beginHash_115 (hEx _ _ _ (⟨rfl, rfl, fun k h49 h50 h51 => by rw [z_map_ne h50, hA7 k h51, hA6 k h51, hA5 k h51, hA4 k h51, hA3 k h51, hA2 k h51, z_map_ne h51, hA k h49 h50], fun j hj => by rw [z_map_ne (by decide), hA7 49 (by decide), hA6 49 (by decide), hA5 49 (by decide), hA4 49 (by decide), hA3 49 (by decide), hA2 49 (by decide), z_map_ne (by decide)]; exact hs0 j hj, fun j hj => by rw [z_map_lt hj, hP7 j (by omega), zHk, zow, if_neg hw0, if_neg (by decide), z_besides (zvw_lt w) (zblk_lt _ _ _ _), show zvw 1 = zvw w by rw [zvw, zvw, if_neg (by decide), if_neg hw0]]⟩))
    · exact z_ret0 (pc := 49) dM_beginHash_49 (hEx _ _ _ (⟨rfl, rfl, fun k h49 h50 _ => hA k h49 h50, hs0, by rw [zHk, zow, if_pos hw0, if_pos rfl]; exact hh0⟩))
end
end
