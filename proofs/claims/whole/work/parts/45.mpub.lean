/-! what is answered, as functions of the rows -/
def zmost (r : Nat) : Nat := if r = 0 then 16 else if r = 1 then 24 else if r = 2 then 32 else 64
def zty (v k t : Nat) : Nat := v / 2 ^ (8 * (k - 1 - t)) % 256
def zC0 (K J T : Nat → Nat) (j : Nat) : Nat := T j ^^^ zE K (zcnt 0 J (j / 16 + 1)) (j % 16)
def zD0 (K J Y : Nat → Nat) (al : Nat) (X : Nat → Nat) (n j : Nat) : Nat := zby (zmw 0) (zhsh 0 (zHw 0 (zHkey K)) Y al X n) j ^^^ zE K J j
def zC1 (K2 s T : Nat → Nat) (j : Nat) : Nat := T j ^^^ zE K2 (zcnt 1 (z128 s) (j / 16)) (j % 16)
def zD1 (K2 HK N Y : Nat → Nat) (al : Nat) (X : Nat → Nat) (n j : Nat) : Nat := zE K2 (zdu (zhsh 1 (zHw 1 HK) Y al X n) N) j
/-- the sealed text -/
def zseal (w : Nat) (K N : Nat → Nat) (nl : Nat) (Y : Nat → Nat) (al : Nat) (T : Nat → Nat) (n j : Nat) : Nat :=
  if w = 0 then (if j < n then zC0 K (zJ K N nl) T j else zD0 K (zJ K N nl) Y al (zC0 K (zJ K N nl) T) n (j - n))
  else (if j < n then zC1 (zdk K N 2) (zD1 (zdk K N 2) (zdk K N 0) N Y al T n) T j else zD1 (zdk K N 2) (zdk K N 0) N Y al T n (j - n))
/-- the opened text of a sealed one of n + 16 bytes, and the seal that is due -/
def zopen (w : Nat) (K N : Nat → Nat) (nl : Nat) (T : Nat → Nat) (n j : Nat) : Nat := if w = 0 then zC0 K (zJ K N nl) T j else zC1 (zdk K N 2) (fun j => T (n + j)) T j
def zdue (w : Nat) (K N : Nat → Nat) (nl : Nat) (Y : Nat → Nat) (al : Nat) (T : Nat → Nat) (n j : Nat) : Nat :=
  if w = 0 then zD0 K (zJ K N nl) Y al T n j else zD1 (zdk K N 2) (zdk K N 0) N Y al (zC1 (zdk K N 2) (fun j => T (n + j)) T) n j
theorem zHkey_cg {K K' : Nat → Nat} (hK : ∀ j, j < 16 → K j = K' j) (j : Nat) (hj : j < 16) : zHkey K j = zHkey K' j := zE_cg hK (fun _ _ => rfl) j hj
theorem zJ_cg {K K' N N' : Nat → Nat} {nl : Nat} (hK : ∀ j, j < 16 → K j = K' j) (hN : ∀ j, j < nl → N j = N' j) (j : Nat) : zJ K N nl j = zJ K' N' nl j := by
  unfold zJ
  by_cases h : nl = 12
  · rw [if_pos h, if_pos h]
    by_cases h2 : j < 12
    · rw [if_pos h2, if_pos h2, hN j (by omega)]
    · rw [if_neg h2, if_neg h2]
  · rw [if_neg h, if_neg h, zHw_cg (zHkey_cg hK), zrow_cg hN]
theorem zdv_cg {i : Nat} {N N' : Nat → Nat} (hN : ∀ j, j < 12 → N j = N' j) (j : Nat) (hj : j < 16) : zdv i N j = zdv i N' j := by
  unfold zdv
  split
  · rfl
  · split
    · rfl
    · exact hN _ (by omega)
theorem zdk_cg {i : Nat} {K K' N N' : Nat → Nat} (hK : ∀ j, j < 16 → K j = K' j) (hN : ∀ j, j < 12 → N j = N' j) (j : Nat) (hj : j < 16) : zdk K N i j = zdk K' N' i j := by
  unfold zdk
  split
  · exact zE_cg hK (zdv_cg hN) j hj
  · exact zE_cg hK (zdv_cg hN) _ (by omega)
theorem zC0_cg {K K' J J' T T' : Nat → Nat} {n : Nat} (hK : ∀ j, j < 16 → K j = K' j) (hJ : ∀ j, j < 16 → J j = J' j) (hT : ∀ j, j < n → T j = T' j) (j : Nat) (hj : j < n) : zC0 K J T j = zC0 K' J' T' j := by
  unfold zC0
  rw [hT j hj, zE_cg hK (zcnt_cg hJ) (j % 16) (Nat.mod_lt _ (by decide))]
theorem zD0_cg {K K' J J' Y Y' X X' : Nat → Nat} {al n : Nat} (hK : ∀ j, j < 16 → K j = K' j) (hJ : ∀ j, j < 16 → J j = J' j) (hY : ∀ j, j < al → Y j = Y' j) (hX : ∀ j, j < n → X j = X' j) (j : Nat) (hj : j < 16) : zD0 K J Y al X n j = zD0 K' J' Y' al X' n j := by
  unfold zD0
  rw [zHw_cg (zHkey_cg hK), zhsh_cg hY hX, zE_cg hK hJ j hj]
theorem z128_cg {s s' : Nat → Nat} (h : ∀ j, j < 16 → s j = s' j) (j : Nat) (hj : j < 16) : z128 s j = z128 s' j := by unfold z128; rw [h j hj]
theorem zC1_cg {K K' s s' T T' : Nat → Nat} {n : Nat} (hK : ∀ j, j < 16 → K j = K' j) (hs : ∀ j, j < 16 → s j = s' j) (hT : ∀ j, j < n → T j = T' j) (j : Nat) (hj : j < n) : zC1 K s T j = zC1 K' s' T' j := by
  unfold zC1
  rw [hT j hj, zE_cg hK (zcnt_cg (z128_cg hs)) (j % 16) (Nat.mod_lt _ (by decide))]
theorem zdu_cg {S : Nat} {N N' : Nat → Nat} (hN : ∀ j, j < 12 → N j = N' j) (j : Nat) : zdu S N j = zdu S N' j := by
  unfold zdu
  by_cases h : j < 12
  · rw [if_pos h, if_pos h, hN j h]
  · rw [if_neg h, if_neg h]
theorem zD1_cg {K K' HK HK' N N' Y Y' X X' : Nat → Nat} {al n : Nat} (hK : ∀ j, j < 16 → K j = K' j) (hH : ∀ j, j < 16 → HK j = HK' j) (hN : ∀ j, j < 12 → N j = N' j) (hY : ∀ j, j < al → Y j = Y' j) (hX : ∀ j, j < n → X j = X' j) (j : Nat) (hj : j < 16) : zD1 K HK N Y al X n j = zD1 K' HK' N' Y' al X' n j := by
  unfold zD1
  rw [zHw_cg hH, zhsh_cg hY hX]
  exact zE_cg hK (fun j' _ => zdu_cg hN j') j hj
theorem zC0_lt {K J T : Nat → Nat} {n : Nat} (hK : ∀ j, j < 16 → K j < 256) (hJ : ∀ j, j < 16 → J j < 256) (hT : ∀ j, j < n → T j < 256) (j : Nat) (hj : j < n) : zC0 K J T j < 256 := z_xor8 (hT j hj) (zE_by hK (zcnt_lt hJ) _ (Nat.mod_lt _ (by decide)))
theorem z128_lt' {s : Nat → Nat} (h : ∀ j, j < 16 → s j < 256) (j : Nat) (hj : j < 16) : z128 s j < 256 := by
  unfold z128
  split
  · exact z_or8 (h j hj) (by decide)
  · exact h j hj
theorem zC1_lt {K s T : Nat → Nat} {n : Nat} (hK : ∀ j, j < 16 → K j < 256) (hs : ∀ j, j < 16 → s j < 256) (hT : ∀ j, j < n → T j < 256) (j : Nat) (hj : j < n) : zC1 K s T j < 256 := z_xor8 (hT j hj) (zE_by hK (zcnt_lt (z128_lt' hs)) _ (Nat.mod_lt _ (by decide)))
/-! the reference's state -/
def zMR (A : z_A) (n : Nat → Nat) (R : Nat → Nat → Nat) (m : Nat) (X : Nat → Nat) : Prop := (∀ r, r < 4 → A 41 r = n r ∧ ∀ j, j < n r → A 40 (64 * r + j) = R r j) ∧ A 39 3 = m ∧ ∀ j, j < m → A 42 j = X j
def zVS (n : Nat → Nat) (R : Nat → Nat → Nat) (m : Nat) (X : Nat → Nat) : Prop := (∀ r, r < 4 → n r ≤ zmost r ∧ ∀ j, j < n r → R r j < 256) ∧ m ≤ 64 ∧ ∀ j, j < m → X j < 256
/-- what a call of the reference leaves: thrown is t; no cell of the class has changed -/
def zMP (A B : z_A) (t : Nat) (n : Nat → Nat) (R : Nat → Nat → Nat) (m : Nat) (X : Nat → Nat) : z_A → z_A → Prop := fun A' B' => B = B' ∧ (∀ q, q < 39 ∨ 53 < q → A' q = A q) ∧ A' 39 0 = t ∧ z_box A' 46 ∧ zMR A' n R m X
def z_an (x : Nat) (P : z_A → z_A → Prop) : Option Value → z_A → z_A → Prop := fun r A B => some (.int (nI x)) = r ∧ P A B
theorem z_fit_an {x : Nat} {P : z_A → z_A → Prop} : ∀ r A' B', z_an x P r A' B' → z_fit (some .int) r := by
  rintro r A' B' ⟨rfl, _⟩
  exact Or.inl rfl
theorem z_fit_anb {p : Prop} {dp : Decidable p} {P : z_A → z_A → Prop} : ∀ r A' B', z_an (@ite Nat p dp 1 0) P r A' B' → z_fit (some .boolean) r := by
  rintro r A' B' ⟨rfl, _⟩
  exact z_fitb
theorem zMR.mv {A A' : z_A} {n : Nat → Nat} {R : Nat → Nat → Nat} {m : Nat} {X : Nat → Nat} (h : zMR A n R m X) (h40 : ∀ i, i < 256 → A' 40 i = A 40 i) (h41 : A' 41 = A 41) (h3 : A' 39 3 = A 39 3) (h42 : A' 42 = A 42) (hv : zVS n R m X) : zMR A' n R m X := by
  refine ⟨fun r hr => ⟨by rw [h41]; exact (h.1 r hr).1, fun j hj => ?_⟩, by rw [h3]; exact h.2.1, fun j hj => by rw [h42]; exact h.2.2 j hj⟩
  have hm := (hv.1 r hr).1
  have h64 : zmost r ≤ 64 := by unfold zmost; split; decide; split; decide; split <;> decide
  rw [h40 _ (by omega)]
  exact (h.1 r hr).2 j hj
theorem z_way {x : Int32} (h : ¬ x < 0) (h2 : ¬ nI 2 ≤ x) : x = nI 0 ∨ x = nI 1 := by
  rcases pk_ix x (n := 2) (by decide) with q | q | ⟨j, hj, rfl⟩
  · exact absurd q h
  · exact absurd q h2
  · have : j = 0 ∨ j = 1 := by omega
    rcases this with rfl | rfl
    · exact Or.inl rfl
    · exact Or.inr rfl
section
variable {l : Launch} {g : z_G} {ad : Nat → Nat} {A B : z_A} {n : Nat → Nat} {R : Nat → Nat → Nat} {m : Nat} {X : Nat → Nat}
theorem m_isRow1 {r : Nat} (hr : r < 4) : z_Met l g ad mM_isRow (z_rm 0) [.int (nI r)] A B (z_eq (some (.int (nI 1))) A B) := by
  refine z_Met.of (L := [(0, _)]) (by decide) (Nat.le_of_ble_eq_true rfl) (z_fit_eq (Or.inr ⟨rfl, rfl⟩)) rfl ?_
  intro Ex hEx
  refine z_iload_n (pc := 0) dM_isRow_0 rfl rfl ?_
  refine z_if_lt (pc := 1) (by omega) (tgt := 13) dM_isRow_1 rfl (fun h => by exfalso; omega) (fun h => ?_)
  refine z_iload_n (pc := 4) dM_isRow_4 rfl rfl ?_
  refine z_iconst (pc := 5) dM_isRow_5 zi_4 ?_
  refine z_icmp_ge (pc := 6) (by omega) (by omega) (tgt := 13) dM_isRow_6 rfl (fun h => by exfalso; omega) (fun h => ?_)
  refine z_iconst (pc := 9) dM_isRow_9 zi_1 ?_
  refine z_goto (pc := 10) (tgt := 14) dM_isRow_10 rfl ?_
  exact z_reti (pc := 14) dM_isRow_14 (hEx _ _ _ (⟨rfl, rfl, rfl⟩))
theorem m_isRow0 {x : Int32} (hx : x < 0 ∨ nI 4 ≤ x) : z_Met l g ad mM_isRow (z_rm 0) [.int x] A B (z_eq (some (.int (nI 0))) A B) := by
  refine z_Met.of (L := [(0, _)]) (by decide) (Nat.le_of_ble_eq_true rfl) (z_fit_eq (Or.inr ⟨rfl, rfl⟩)) rfl ?_
  intro Ex hEx
  refine z_iload_n (pc := 0) dM_isRow_0 rfl rfl ?_
  refine z_ifX_lt (pc := 1) (tgt := 13) dM_isRow_1 rfl (fun h1 => ?_) (fun h1 => ?_)
  · refine z_iconst (pc := 13) dM_isRow_13 zi_0 ?_
    exact z_reti (pc := 14) dM_isRow_14 (hEx _ _ _ (⟨rfl, rfl, rfl⟩))
  · refine z_iload_n (pc := 4) dM_isRow_4 rfl rfl ?_
    refine z_iconst (pc := 5) dM_isRow_5 zi_4 ?_
    refine z_icmpX_ge (pc := 6) (tgt := 13) dM_isRow_6 rfl (fun h => ?_) (fun h => absurd (hx.resolve_left h1) h)
    refine z_iconst (pc := 13) dM_isRow_13 zi_0 ?_
    exact z_reti (pc := 14) dM_isRow_14 (hEx _ _ _ (⟨rfl, rfl, rfl⟩))
theorem m_most {r : Nat} (hr : r < 4) : z_Met l g ad mM_most (z_rm 0) [.int (nI r)] A B (z_eq (some (.int (nI (zmost r)))) A B) := by
  refine z_Met.of (L := [(0, _)]) (by decide) (Nat.le_of_ble_eq_true rfl) (z_fit_eq (Or.inl rfl)) rfl ?_
  intro Ex hEx
  refine z_iload_n (pc := 0) dM_most_0 rfl rfl ?_
  refine z_if_ne (pc := 1) (by omega) (tgt := 9) dM_most_1 rfl (fun h1 => ?_) (fun h1 => ?_)
  · refine z_iload_n (pc := 9) dM_most_9 rfl rfl ?_
    refine z_iconst (pc := 10) dM_most_10 zi_1 ?_
    refine z_icmp_ne (pc := 11) (by omega) (by omega) (tgt := 19) dM_most_11 rfl (fun h2 => ?_) (fun h2 => ?_)
    · refine z_iload_n (pc := 19) dM_most_19 rfl rfl ?_
      refine z_iconst (pc := 20) dM_most_20 zi_2 ?_
      refine z_icmp_ne (pc := 21) (by omega) (by omega) (tgt := 29) dM_most_21 rfl (fun h3 => ?_) (fun h3 => ?_)
      · refine z_bipush (pc := 29) dM_most_29 zb_64 ?_
        exact z_reti (pc := 31) dM_most_31 (hEx _ _ _ (⟨by first | rw [zmost, if_pos h1] | rw [zmost, if_neg h1, if_pos h2] | rw [zmost, if_neg h1, if_neg h2, if_pos h3] | rw [zmost, if_neg h1, if_neg h2, if_neg h3], rfl, rfl⟩))
      · refine z_bipush (pc := 24) dM_most_24 zb_32 ?_
        refine z_goto (pc := 26) (tgt := 31) dM_most_26 rfl ?_
        exact z_reti (pc := 31) dM_most_31 (hEx _ _ _ (⟨by first | rw [zmost, if_pos h1] | rw [zmost, if_neg h1, if_pos h2] | rw [zmost, if_neg h1, if_neg h2, if_pos h3] | rw [zmost, if_neg h1, if_neg h2, if_neg h3], rfl, rfl⟩))
    · refine z_bipush (pc := 14) dM_most_14 zb_24 ?_
      refine z_goto (pc := 16) (tgt := 31) dM_most_16 rfl ?_
      exact z_reti (pc := 31) dM_most_31 (hEx _ _ _ (⟨by first | rw [zmost, if_pos h1] | rw [zmost, if_neg h1, if_pos h2] | rw [zmost, if_neg h1, if_neg h2, if_pos h3] | rw [zmost, if_neg h1, if_neg h2, if_neg h3], rfl, rfl⟩))
  · refine z_bipush (pc := 4) dM_most_4 zb_16 ?_
    refine z_goto (pc := 6) (tgt := 31) dM_most_6 rfl ?_
    exact z_reti (pc := 31) dM_most_31 (hEx _ _ _ (⟨by first | rw [zmost, if_pos h1] | rw [zmost, if_neg h1, if_pos h2] | rw [zmost, if_neg h1, if_neg h2, if_pos h3] | rw [zmost, if_neg h1, if_neg h2, if_neg h3], rfl, rfl⟩))
theorem m_isReady {w : Nat} (hw : w = 0 ∨ w = 1) (h0 : A 41 0 < 100) (h1 : A 41 1 < 100) : z_Met l g ad mM_isReady (z_rm 0) [.ref (ad 39), .int (nI w)] A B (z_eq (some (.int (nI (if A 41 0 = 16 ∧ (if w = 0 then 1 ≤ A 41 1 else A 41 1 = 12) then 1 else 0)))) A B) := by
  refine z_Met.of (L := [(0, _), (1, _)]) (by decide) (Nat.le_of_ble_eq_true rfl) (z_fit_eq z_fitb) rfl ?_
  intro Ex hEx
  refine z_aload_n (pc := 0) dM_isReady_0 rfl rfl ?_
  refine z_getR (pc := 1) zo_39 rfl zf_M_13_6 dM_isReady_1 ?_
  refine z_iconst (pc := 4) dM_isReady_4 zi_0 ?_
  refine z_iaload (pc := 5) za_41 (by omega) dM_isReady_5 ?_
  refine z_bipush (pc := 6) dM_isReady_6 zb_16 ?_
  refine z_icmp_ne (pc := 8) (by omega) (by omega) (tgt := 42) dM_isReady_8 rfl (fun k1 => ?_) (fun k1 => ?_)
  · refine z_iconst (pc := 42) dM_isReady_42 zi_0 ?_
    exact z_reti (pc := 43) dM_isReady_43 (hEx _ _ _ (⟨by first | rw [if_neg (fun q => k1 q.1)] | rw [if_pos ⟨k1, by rw [if_pos k2]; omega⟩] | rw [if_neg (fun q => by rw [if_pos k2] at q; omega)] | rw [if_pos ⟨k1, by rw [if_neg k2]; exact k4⟩] | rw [if_neg (fun q => by rw [if_neg k2] at q; exact k4 q.2)], rfl, rfl⟩))
  · refine z_iload_n (pc := 11) dM_isReady_11 rfl rfl ?_
    refine z_if_ne (pc := 12) (by omega) (tgt := 27) dM_isReady_12 rfl (fun k2 => ?_) (fun k2 => ?_)
    · refine z_aload_n (pc := 27) dM_isReady_27 rfl rfl ?_
      refine z_getR (pc := 28) zo_39 rfl zf_M_13_6 dM_isReady_28 ?_
      refine z_iconst (pc := 31) dM_isReady_31 zi_1 ?_
      refine z_iaload (pc := 32) za_41 (by omega) dM_isReady_32 ?_
      refine z_bipush (pc := 33) dM_isReady_33 zb_12 ?_
      refine z_icmp_ne (pc := 35) (by omega) (by omega) (tgt := 42) dM_isReady_35 rfl (fun k4 => ?_) (fun k4 => ?_)
      · refine z_iconst (pc := 42) dM_isReady_42 zi_0 ?_
        exact z_reti (pc := 43) dM_isReady_43 (hEx _ _ _ (⟨by first | rw [if_neg (fun q => k1 q.1)] | rw [if_pos ⟨k1, by rw [if_pos k2]; omega⟩] | rw [if_neg (fun q => by rw [if_pos k2] at q; omega)] | rw [if_pos ⟨k1, by rw [if_neg k2]; exact k4⟩] | rw [if_neg (fun q => by rw [if_neg k2] at q; exact k4 q.2)], rfl, rfl⟩))
      · refine z_iconst (pc := 38) dM_isReady_38 zi_1 ?_
        refine z_goto (pc := 39) (tgt := 43) dM_isReady_39 rfl ?_
        exact z_reti (pc := 43) dM_isReady_43 (hEx _ _ _ (⟨by first | rw [if_neg (fun q => k1 q.1)] | rw [if_pos ⟨k1, by rw [if_pos k2]; omega⟩] | rw [if_neg (fun q => by rw [if_pos k2] at q; omega)] | rw [if_pos ⟨k1, by rw [if_neg k2]; exact k4⟩] | rw [if_neg (fun q => by rw [if_neg k2] at q; exact k4 q.2)], rfl, rfl⟩))
    · refine z_aload_n (pc := 15) dM_isReady_15 rfl rfl ?_
      refine z_getR (pc := 16) zo_39 rfl zf_M_13_6 dM_isReady_16 ?_
      refine z_iconst (pc := 19) dM_isReady_19 zi_1 ?_
      refine z_iaload (pc := 20) za_41 (by omega) dM_isReady_20 ?_
      refine z_if_le (pc := 21) (by omega) (tgt := 42) dM_isReady_21 rfl (fun k3 => ?_) (fun k3 => ?_)
      · refine z_iconst (pc := 42) dM_isReady_42 zi_0 ?_
        exact z_reti (pc := 43) dM_isReady_43 (hEx _ _ _ (⟨by first | rw [if_neg (fun q => k1 q.1)] | rw [if_pos ⟨k1, by rw [if_pos k2]; omega⟩] | rw [if_neg (fun q => by rw [if_pos k2] at q; omega)] | rw [if_pos ⟨k1, by rw [if_neg k2]; exact k4⟩] | rw [if_neg (fun q => by rw [if_neg k2] at q; exact k4 q.2)], rfl, rfl⟩))
      · refine z_goto (pc := 24) (tgt := 38) dM_isReady_24 rfl ?_
        refine z_iconst (pc := 38) dM_isReady_38 zi_1 ?_
        refine z_goto (pc := 39) (tgt := 43) dM_isReady_39 rfl ?_
        exact z_reti (pc := 43) dM_isReady_43 (hEx _ _ _ (⟨by first | rw [if_neg (fun q => k1 q.1)] | rw [if_pos ⟨k1, by rw [if_pos k2]; omega⟩] | rw [if_neg (fun q => by rw [if_pos k2] at q; omega)] | rw [if_pos ⟨k1, by rw [if_neg k2]; exact k4⟩] | rw [if_neg (fun q => by rw [if_neg k2] at q; exact k4 q.2)], rfl, rfl⟩))
theorem m_thrown   : z_Met l g ad mM_thrown (z_rm 0) [.ref (ad 39)] A B (z_eq (some (.int (nI (A 39 0)))) A B) := by
  refine z_Met.of (L := [(0, _)]) (by decide) (Nat.le_of_ble_eq_true rfl) (z_fit_eq (Or.inl rfl)) rfl ?_
  intro Ex hEx
  refine z_aload_n (pc := 0) dM_thrown_0 rfl rfl ?_
  refine z_getI (pc := 1) zo_39 rfl zf_M_59_6 dM_thrown_1 ?_
  exact z_reti (pc := 4) dM_thrown_4 (hEx _ _ _ (⟨rfl, rfl, rfl⟩))
theorem m_size  (hb : z_box A 46) (hs : zMR A n R m X) (hv : zVS n R m X) : z_Met l g ad mM_size (z_rm 0) [.ref (ad 39)] A B (z_an m (zMP A B 0 n R m X)) := by
  refine z_Met.of (L := [(0, _)]) (by decide) (Nat.le_of_ble_eq_true rfl) z_fit_an rfl ?_
  intro Ex hEx
  refine z_aload_n (pc := 0) dM_size_0 rfl rfl ?_
  refine z_iconst (pc := 1) dM_size_1 zi_0 ?_
  refine z_putI (pc := 2) zo_39 rfl zp_M_59_6 dM_size_2 ?_
  refine z_aload_n (pc := 5) dM_size_5 rfl rfl ?_
  refine z_getI (pc := 6) zo_39 rfl zf_M_105_6 dM_size_6 ?_
  refine z_top (congrArg (fun x => Value.int (nI x)) (show _ = m by rw [z_set_nj (by decide)]; exact hs.2.1)) ?_
  exact z_reti (pc := 9) dM_size_9 (hEx _ _ _ (⟨rfl, rfl, fun q hq => z_set_ne (by omega), z_set_at, fun j hj => by rw [z_set_ne (by decide)]; exact hb j hj, hs.mv (fun i _ => by rw [z_set_ne (by decide)]) (z_set_ne (by decide)) (z_set_nj (by decide)) (z_set_ne (by decide)) hv⟩))
theorem m_at0 {x : Int32} (hx : x < 0 ∨ nI m ≤ x) (hb : z_box A 46) (hs : zMR A n R m X) (hv : zVS n R m X) : z_Met l g ad mM_at (z_rm 0) [.ref (ad 39), .int x] A B (z_an 0 (zMP A B 1 n R m X)) := by
  refine z_Met.of (L := [(0, _), (1, _)]) (by decide) (Nat.le_of_ble_eq_true rfl) z_fit_an rfl ?_
  intro Ex hEx
  refine z_aload_n (pc := 0) dM_at_0 rfl rfl ?_
  refine z_iload_n (pc := 1) dM_at_1 rfl rfl ?_
  refine z_ifX_lt (pc := 2) (tgt := 17) dM_at_2 rfl (fun h1 => ?_) (fun h1 => ?_)
  · refine z_iconst (pc := 17) dM_at_17 zi_1 ?_
    refine z_putI (pc := 18) zo_39 rfl zp_M_59_6 dM_at_18 ?_
    refine z_aload_n (pc := 21) dM_at_21 rfl rfl ?_
    refine z_getI (pc := 22) zo_39 rfl zf_M_59_6 dM_at_22 ?_
    refine z_top (congrArg (fun x => Value.int (nI x)) z_set_at) ?_
    refine z_if_le (pc := 25) (by omega) (tgt := 32) dM_at_25 rfl (fun h => by exfalso; omega) (fun h => ?_)
    refine z_iconst (pc := 28) dM_at_28 zi_0 ?_
    refine z_goto (pc := 29) (tgt := 38) dM_at_29 rfl ?_
    exact z_reti (pc := 38) dM_at_38 (hEx _ _ _ (⟨rfl, rfl, fun q hq => z_set_ne (by omega), z_set_at, fun j hj => by rw [z_set_ne (by decide)]; exact hb j hj, hs.mv (fun i _ => by rw [z_set_ne (by decide)]) (z_set_ne (by decide)) (z_set_nj (by decide)) (z_set_ne (by decide)) hv⟩))
  · refine z_iload_n (pc := 5) dM_at_5 rfl rfl ?_
    refine z_aload_n (pc := 6) dM_at_6 rfl rfl ?_
    refine z_getI (pc := 7) zo_39 rfl zf_M_105_6 dM_at_7 ?_
    refine z_icmpX_ge (pc := 10) (tgt := 17) dM_at_10 rfl (fun h => ?_) (fun h => absurd (hx.resolve_left h1) (by rw [← hs.2.1]; exact h))
    refine z_iconst (pc := 17) dM_at_17 zi_1 ?_
    refine z_putI (pc := 18) zo_39 rfl zp_M_59_6 dM_at_18 ?_
    refine z_aload_n (pc := 21) dM_at_21 rfl rfl ?_
    refine z_getI (pc := 22) zo_39 rfl zf_M_59_6 dM_at_22 ?_
    refine z_top (congrArg (fun x => Value.int (nI x)) z_set_at) ?_
    refine z_if_le (pc := 25) (by omega) (tgt := 32) dM_at_25 rfl (fun h => by exfalso; omega) (fun h => ?_)
    refine z_iconst (pc := 28) dM_at_28 zi_0 ?_
    refine z_goto (pc := 29) (tgt := 38) dM_at_29 rfl ?_
    exact z_reti (pc := 38) dM_at_38 (hEx _ _ _ (⟨rfl, rfl, fun q hq => z_set_ne (by omega), z_set_at, fun j hj => by rw [z_set_ne (by decide)]; exact hb j hj, hs.mv (fun i _ => by rw [z_set_ne (by decide)]) (z_set_ne (by decide)) (z_set_nj (by decide)) (z_set_ne (by decide)) hv⟩))
theorem m_at1 {i : Nat} (hi : i < m) (hb : z_box A 46) (hs : zMR A n R m X) (hv : zVS n R m X) : z_Met l g ad mM_at (z_rm 0) [.ref (ad 39), .int (nI i)] A B (z_an (X i) (zMP A B 0 n R m X)) := by
  refine z_Met.of (L := [(0, _), (1, _)]) (by decide) (Nat.le_of_ble_eq_true rfl) z_fit_an rfl ?_
  intro Ex hEx
  have hm := hv.2.1
  have e3 := hs.2.1
  refine z_aload_n (pc := 0) dM_at_0 rfl rfl ?_
  refine z_iload_n (pc := 1) dM_at_1 rfl rfl ?_
  refine z_if_lt (pc := 2) (by omega) (tgt := 17) dM_at_2 rfl (fun h => by exfalso; omega) (fun h => ?_)
  refine z_iload_n (pc := 5) dM_at_5 rfl rfl ?_
  refine z_aload_n (pc := 6) dM_at_6 rfl rfl ?_
  refine z_getI (pc := 7) zo_39 rfl zf_M_105_6 dM_at_7 ?_
  refine z_icmp_ge (pc := 10) (by omega) (by omega) (tgt := 17) dM_at_10 rfl (fun h => by exfalso; omega) (fun h => ?_)
  refine z_iconst (pc := 13) dM_at_13 zi_0 ?_
  refine z_goto (pc := 14) (tgt := 18) dM_at_14 rfl ?_
  refine z_putI (pc := 18) zo_39 rfl zp_M_59_6 dM_at_18 ?_
  refine z_aload_n (pc := 21) dM_at_21 rfl rfl ?_
  refine z_getI (pc := 22) zo_39 rfl zf_M_59_6 dM_at_22 ?_
  refine z_top (congrArg (fun x => Value.int (nI x)) z_set_at) ?_
  refine z_if_le (pc := 25) (by omega) (tgt := 32) dM_at_25 rfl (fun h => ?_) (fun h => by exfalso; omega)
  refine z_aload_n (pc := 32) dM_at_32 rfl rfl ?_
  refine z_getR (pc := 33) zo_39 rfl zf_M_16_6 dM_at_33 ?_
  refine z_iload_n (pc := 36) dM_at_36 rfl rfl ?_
  refine z_iaload (pc := 37) za_42 (by omega) dM_at_37 ?_
  refine z_top (congrArg (fun x => Value.int (nI x)) (show _ = X i by rw [z_set_ne (by decide)]; exact hs.2.2 i hi)) ?_
  exact z_reti (pc := 38) dM_at_38 (hEx _ _ _ (⟨rfl, rfl, fun q hq => z_set_ne (by omega), z_set_at, fun j hj => by rw [z_set_ne (by decide)]; exact hb j hj, hs.mv (fun i _ => by rw [z_set_ne (by decide)]) (z_set_ne (by decide)) (z_set_nj (by decide)) (z_set_ne (by decide)) hv⟩))
theorem m_clear0 {x : Int32} (hx : x < 0 ∨ nI 4 ≤ x) (hb : z_box A 46) (hs : zMR A n R m X) (hv : zVS n R m X) : z_Met l g ad mM_clear (z_rm 1) [.ref (ad 39), .int x] A B (z_an 0 (zMP A B 1 n R m X)) := by
  refine z_Met.of (L := [(0, _), (1, _)]) (by decide) (Nat.le_of_ble_eq_true rfl) z_fit_an rfl ?_
  intro Ex hEx
  refine z_aload_n (pc := 0) dM_clear_0 rfl rfl ?_
  refine z_iload_n (pc := 1) dM_clear_1 rfl rfl ?_
  refine z_callS (pc := 2) (m_isRow0 hx) (by decide) zc_M_96 rfl rfl (Nat.le_of_ble_eq_true rfl) dM_clear_2 (fun r A' B' hE => ?_)
  obtain ⟨rfl, rfl, rfl⟩ := hE
  refine z_r1 ?_
  refine z_if_eq (pc := 5) (by omega) (tgt := 12) dM_clear_5 rfl (fun h => ?_) (fun h => by exfalso; omega)
  refine z_iconst (pc := 12) dM_clear_12 zi_1 ?_
  refine z_putI (pc := 13) zo_39 rfl zp_M_59_6 dM_clear_13 ?_
  refine z_aload_n (pc := 16) dM_clear_16 rfl rfl ?_
  refine z_getI (pc := 17) zo_39 rfl zf_M_59_6 dM_clear_17 ?_
  refine z_top (congrArg (fun x => Value.int (nI x)) z_set_at) ?_
  refine z_if_le (pc := 20) (by omega) (tgt := 25) dM_clear_20 rfl (fun h => by exfalso; omega) (fun h => ?_)
  refine z_iconst (pc := 23) dM_clear_23 zi_0 ?_
  exact z_reti (pc := 24) dM_clear_24 (hEx _ _ _ (⟨rfl, rfl, fun q hq => z_set_ne (by omega), z_set_at, fun j hj => by rw [z_set_ne (by decide)]; exact hb j hj, hs.mv (fun i _ => by rw [z_set_ne (by decide)]) (z_set_ne (by decide)) (z_set_nj (by decide)) (z_set_ne (by decide)) hv⟩))
theorem m_clear1 {r : Nat} (hr : r < 4) (hb : z_box A 46) (hs : zMR A n R m X) (hv : zVS n R m X) : z_Met l g ad mM_clear (z_rm 1) [.ref (ad 39), .int (nI r)] A B (z_an (n r) (zMP A B 0 (va_up n r 0) R m X)) := by
  refine z_Met.of (L := [(0, _), (1, _)]) (by decide) (Nat.le_of_ble_eq_true rfl) z_fit_an rfl ?_
  intro Ex hEx
  refine z_aload_n (pc := 0) dM_clear_0 rfl rfl ?_
  refine z_iload_n (pc := 1) dM_clear_1 rfl rfl ?_
  refine z_callS (pc := 2) (m_isRow1 hr) (by decide) zc_M_96 rfl rfl (Nat.le_of_ble_eq_true rfl) dM_clear_2 (fun r A' B' hE => ?_)
  obtain ⟨rfl, rfl, rfl⟩ := hE
  refine z_r1 ?_
  refine z_if_eq (pc := 5) (by omega) (tgt := 12) dM_clear_5 rfl (fun h => by exfalso; omega) (fun h => ?_)
  refine z_iconst (pc := 8) dM_clear_8 zi_0 ?_
  refine z_goto (pc := 9) (tgt := 13) dM_clear_9 rfl ?_
  refine z_putI (pc := 13) zo_39 rfl zp_M_59_6 dM_clear_13 ?_
  refine z_aload_n (pc := 16) dM_clear_16 rfl rfl ?_
  refine z_getI (pc := 17) zo_39 rfl zf_M_59_6 dM_clear_17 ?_
  refine z_top (congrArg (fun x => Value.int (nI x)) z_set_at) ?_
  refine z_if_le (pc := 20) (by omega) (tgt := 25) dM_clear_20 rfl (fun h => ?_) (fun h => by exfalso; omega)
  refine z_aload_n (pc := 25) dM_clear_25 rfl rfl ?_
  refine z_getR (pc := 26) zo_39 rfl zf_M_13_6 dM_clear_26 ?_
  refine z_iload_n (pc := 29) dM_clear_29 rfl rfl ?_
  refine z_iaload (pc := 30) za_41 (by omega) dM_clear_30 ?_
  refine z_top (congrArg (fun x => Value.int (nI x)) (show _ = n r by rw [z_set_ne (by decide)]; exact (hs.1 r hr).1)) ?_
  refine z_istore_n (L' := [(2, _), (0, _), (1, _)]) (pc := 31) dM_clear_31 rfl (by decide) rfl ?_
  refine z_aload_n (pc := 32) dM_clear_32 rfl rfl ?_
  refine z_getR (pc := 33) zo_39 rfl zf_M_13_6 dM_clear_33 ?_
  refine z_iload_n (pc := 36) dM_clear_36 rfl rfl ?_
  refine z_iconst (pc := 37) dM_clear_37 zi_0 ?_
  refine z_iastore (pc := 38) za_41 (by omega) dM_clear_38 ?_
  refine z_iload_n (pc := 39) dM_clear_39 rfl rfl ?_
  refine z_reti (pc := 40) dM_clear_40 (hEx _ _ _ (⟨rfl, rfl, fun q hq => by rw [z_set_ne (by omega), z_set_ne (by omega)], by rw [z_set_ne (by decide), z_set_at], fun j hj => by rw [z_set_ne (by decide), z_set_ne (by decide)]; exact hb j hj, fun q hq => ?_, by rw [z_set_ne (by decide), z_set_nj (by decide)]; exact hs.2.1, fun j hj => by rw [z_set_ne (by decide), z_set_ne (by decide)]; exact hs.2.2 j hj⟩))
  by_cases e : q = r
  · subst e
    exact ⟨by rw [z_set_at, va_up_self], fun j hj => by rw [va_up_self] at hj; omega⟩
  · exact ⟨by rw [z_set_nj e, z_set_ne (by decide), va_up_ne _ _ e]; exact (hs.1 q hq).1, fun j hj => by rw [va_up_ne _ _ e] at hj; rw [z_set_ne (by decide), z_set_ne (by decide)]; exact (hs.1 q hq).2 j hj⟩
theorem m_poke1a {x y v : Int32} (hx : x < 0 ∨ nI 4 ≤ x) (hb : z_box A 46) (hs : zMR A n R m X) (hv : zVS n R m X) : z_Met l g ad mM_poke (z_rm 1) [.ref (ad 39), .int x, .int y, .int v] A B (z_vd (zMP A B 1 n R m X)) := by
  refine z_Met.of (L := [(0, _), (1, _), (2, _), (3, _)]) (by decide) (Nat.le_of_ble_eq_true rfl) z_fit_vd rfl ?_
  intro Ex hEx
  refine z_aload_n (pc := 0) dM_poke_0 rfl rfl ?_
  refine z_iload_n (pc := 1) dM_poke_1 rfl rfl ?_
  refine z_callS (pc := 2) (m_isRow0 hx) (by decide) zc_M_96 rfl rfl (Nat.le_of_ble_eq_true rfl) dM_poke_2 (fun r A' B' hE => ?_)
  obtain ⟨rfl, rfl, rfl⟩ := hE
  refine z_r1 ?_
  refine z_if_eq (pc := 5) (by omega) (tgt := 19) dM_poke_5 rfl (fun h => ?_) (fun h => by exfalso; omega)
  refine z_iconst (pc := 19) dM_poke_19 zi_1 ?_
  refine z_goto (pc := 20) (tgt := 42) dM_poke_20 rfl ?_
  refine z_putI (pc := 42) zo_39 rfl zp_M_59_6 dM_poke_42 ?_
  refine z_aload_n (pc := 45) dM_poke_45 rfl rfl ?_
  refine z_getI (pc := 46) zo_39 rfl zf_M_59_6 dM_poke_46 ?_
  refine z_top (congrArg (fun x => Value.int (nI x)) z_set_at) ?_
  refine z_if_ne (pc := 49) (by omega) (tgt := 64) dM_poke_49 rfl (fun h => ?_) (fun h => by exfalso; omega)
  exact z_ret0 (pc := 64) dM_poke_64 (hEx _ _ _ (⟨rfl, rfl, fun q hq => z_set_ne (by omega), z_set_at, fun j hj => by rw [z_set_ne (by decide)]; exact hb j hj, hs.mv (fun i _ => by rw [z_set_ne (by decide)]) (z_set_ne (by decide)) (z_set_nj (by decide)) (z_set_ne (by decide)) hv⟩))
theorem m_poke1b {r : Nat} {y v : Int32} (hr : r < 4) (hx : v < 0 ∨ nI 255 < v) (hb : z_box A 46) (hs : zMR A n R m X) (hv : zVS n R m X) : z_Met l g ad mM_poke (z_rm 1) [.ref (ad 39), .int (nI r), .int y, .int v] A B (z_vd (zMP A B 1 n R m X)) := by
  refine z_Met.of (L := [(0, _), (1, _), (2, _), (3, _)]) (by decide) (Nat.le_of_ble_eq_true rfl) z_fit_vd rfl ?_
  intro Ex hEx
  refine z_aload_n (pc := 0) dM_poke_0 rfl rfl ?_
  refine z_iload_n (pc := 1) dM_poke_1 rfl rfl ?_
  refine z_callS (pc := 2) (m_isRow1 hr) (by decide) zc_M_96 rfl rfl (Nat.le_of_ble_eq_true rfl) dM_poke_2 (fun r A' B' hE => ?_)
  obtain ⟨rfl, rfl, rfl⟩ := hE
  refine z_r1 ?_
  refine z_if_eq (pc := 5) (by omega) (tgt := 19) dM_poke_5 rfl (fun h => by exfalso; omega) (fun h => ?_)
  refine z_iload_n (pc := 8) dM_poke_8 rfl rfl ?_
  refine z_ifX_lt (pc := 9) (tgt := 19) dM_poke_9 rfl (fun h1 => ?_) (fun h1 => ?_)
  · refine z_iconst (pc := 19) dM_poke_19 zi_1 ?_
    refine z_goto (pc := 20) (tgt := 42) dM_poke_20 rfl ?_
    refine z_putI (pc := 42) zo_39 rfl zp_M_59_6 dM_poke_42 ?_
    refine z_aload_n (pc := 45) dM_poke_45 rfl rfl ?_
    refine z_getI (pc := 46) zo_39 rfl zf_M_59_6 dM_poke_46 ?_
    refine z_top (congrArg (fun x => Value.int (nI x)) z_set_at) ?_
    refine z_if_ne (pc := 49) (by omega) (tgt := 64) dM_poke_49 rfl (fun h => ?_) (fun h => by exfalso; omega)
    exact z_ret0 (pc := 64) dM_poke_64 (hEx _ _ _ (⟨rfl, rfl, fun q hq => z_set_ne (by omega), z_set_at, fun j hj => by rw [z_set_ne (by decide)]; exact hb j hj, hs.mv (fun i _ => by rw [z_set_ne (by decide)]) (z_set_ne (by decide)) (z_set_nj (by decide)) (z_set_ne (by decide)) hv⟩))
  · refine z_iload_n (pc := 12) dM_poke_12 rfl rfl ?_
    refine z_sipush (pc := 13) dM_poke_13 zs_255 ?_
    refine z_icmpX_le (pc := 16) (tgt := 23) dM_poke_16 rfl (fun h => absurd h (Int32.not_le.mpr (hx.resolve_left h1))) (fun h => ?_)
    refine z_iconst (pc := 19) dM_poke_19 zi_1 ?_
    refine z_goto (pc := 20) (tgt := 42) dM_poke_20 rfl ?_
    refine z_putI (pc := 42) zo_39 rfl zp_M_59_6 dM_poke_42 ?_
    refine z_aload_n (pc := 45) dM_poke_45 rfl rfl ?_
    refine z_getI (pc := 46) zo_39 rfl zf_M_59_6 dM_poke_46 ?_
    refine z_top (congrArg (fun x => Value.int (nI x)) z_set_at) ?_
    refine z_if_ne (pc := 49) (by omega) (tgt := 64) dM_poke_49 rfl (fun h => ?_) (fun h => by exfalso; omega)
    exact z_ret0 (pc := 64) dM_poke_64 (hEx _ _ _ (⟨rfl, rfl, fun q hq => z_set_ne (by omega), z_set_at, fun j hj => by rw [z_set_ne (by decide)]; exact hb j hj, hs.mv (fun i _ => by rw [z_set_ne (by decide)]) (z_set_ne (by decide)) (z_set_nj (by decide)) (z_set_ne (by decide)) hv⟩))
theorem m_poke2 {r v : Nat} {y : Int32} (hr : r < 4) (hv2 : v ≤ 255) (hy : y < 0 ∨ nI (n r) ≤ y) (hb : z_box A 46) (hs : zMR A n R m X) (hv : zVS n R m X) : z_Met l g ad mM_poke (z_rm 1) [.ref (ad 39), .int (nI r), .int y, .int (nI v)] A B (z_vd (zMP A B 2 n R m X)) := by
  refine z_Met.of (L := [(0, _), (1, _), (2, _), (3, _)]) (by decide) (Nat.le_of_ble_eq_true rfl) z_fit_vd rfl ?_
  intro Ex hEx
  refine z_aload_n (pc := 0) dM_poke_0 rfl rfl ?_
  refine z_iload_n (pc := 1) dM_poke_1 rfl rfl ?_
  refine z_callS (pc := 2) (m_isRow1 hr) (by decide) zc_M_96 rfl rfl (Nat.le_of_ble_eq_true rfl) dM_poke_2 (fun r A' B' hE => ?_)
  obtain ⟨rfl, rfl, rfl⟩ := hE
  refine z_r1 ?_
  refine z_if_eq (pc := 5) (by omega) (tgt := 19) dM_poke_5 rfl (fun h => by exfalso; omega) (fun h => ?_)
  refine z_iload_n (pc := 8) dM_poke_8 rfl rfl ?_
  refine z_if_lt (pc := 9) (by omega) (tgt := 19) dM_poke_9 rfl (fun h => by exfalso; omega) (fun h => ?_)
  refine z_iload_n (pc := 12) dM_poke_12 rfl rfl ?_
  refine z_sipush (pc := 13) dM_poke_13 zs_255 ?_
  refine z_icmp_le (pc := 16) (by omega) (by omega) (tgt := 23) dM_poke_16 rfl (fun h => ?_) (fun h => by exfalso; omega)
  refine z_iload_n (pc := 23) dM_poke_23 rfl rfl ?_
  refine z_ifX_lt (pc := 24) (tgt := 37) dM_poke_24 rfl (fun h1 => ?_) (fun h1 => ?_)
  · refine z_iconst (pc := 37) dM_poke_37 zi_2 ?_
    refine z_goto (pc := 38) (tgt := 42) dM_poke_38 rfl ?_
    refine z_putI (pc := 42) zo_39 rfl zp_M_59_6 dM_poke_42 ?_
    refine z_aload_n (pc := 45) dM_poke_45 rfl rfl ?_
    refine z_getI (pc := 46) zo_39 rfl zf_M_59_6 dM_poke_46 ?_
    refine z_top (congrArg (fun x => Value.int (nI x)) z_set_at) ?_
    refine z_if_ne (pc := 49) (by omega) (tgt := 64) dM_poke_49 rfl (fun h => ?_) (fun h => by exfalso; omega)
    exact z_ret0 (pc := 64) dM_poke_64 (hEx _ _ _ (⟨rfl, rfl, fun q hq => z_set_ne (by omega), z_set_at, fun j hj => by rw [z_set_ne (by decide)]; exact hb j hj, hs.mv (fun i _ => by rw [z_set_ne (by decide)]) (z_set_ne (by decide)) (z_set_nj (by decide)) (z_set_ne (by decide)) hv⟩))
  · refine z_iload_n (pc := 27) dM_poke_27 rfl rfl ?_
    refine z_aload_n (pc := 28) dM_poke_28 rfl rfl ?_
    refine z_getR (pc := 29) zo_39 rfl zf_M_13_6 dM_poke_29 ?_
    refine z_iload_n (pc := 32) dM_poke_32 rfl rfl ?_
    refine z_iaload (pc := 33) za_41 (by omega) dM_poke_33 ?_
    refine z_icmpX_lt (pc := 34) (tgt := 41) dM_poke_34 rfl (fun h => absurd h (Int32.not_lt.mpr (by rw [(hs.1 r hr).1]; exact hy.resolve_left h1))) (fun h => ?_)
    refine z_iconst (pc := 37) dM_poke_37 zi_2 ?_
    refine z_goto (pc := 38) (tgt := 42) dM_poke_38 rfl ?_
    refine z_putI (pc := 42) zo_39 rfl zp_M_59_6 dM_poke_42 ?_
    refine z_aload_n (pc := 45) dM_poke_45 rfl rfl ?_
    refine z_getI (pc := 46) zo_39 rfl zf_M_59_6 dM_poke_46 ?_
    refine z_top (congrArg (fun x => Value.int (nI x)) z_set_at) ?_
    refine z_if_ne (pc := 49) (by omega) (tgt := 64) dM_poke_49 rfl (fun h => ?_) (fun h => by exfalso; omega)
    exact z_ret0 (pc := 64) dM_poke_64 (hEx _ _ _ (⟨rfl, rfl, fun q hq => z_set_ne (by omega), z_set_at, fun j hj => by rw [z_set_ne (by decide)]; exact hb j hj, hs.mv (fun i _ => by rw [z_set_ne (by decide)]) (z_set_ne (by decide)) (z_set_nj (by decide)) (z_set_ne (by decide)) hv⟩))
theorem m_poke0 {r i v : Nat} (hr : r < 4) (hv2 : v ≤ 255) (hi : i < n r) (hb : z_box A 46) (hs : zMR A n R m X) (hv : zVS n R m X) : z_Met l g ad mM_poke (z_rm 1) [.ref (ad 39), .int (nI r), .int (nI i), .int (nI v)] A B (z_vd (zMP A B 0 n (va_up R r (va_up (R r) i v)) m X)) := by
  refine z_Met.of (L := [(0, _), (1, _), (2, _), (3, _)]) (by decide) (Nat.le_of_ble_eq_true rfl) z_fit_vd rfl ?_
  intro Ex hEx
  have hm := (hv.1 r hr).1
  have h64 : zmost r ≤ 64 := by unfold zmost; split; decide; split; decide; split <;> decide
  have e41 := (hs.1 r hr).1
  refine z_aload_n (pc := 0) dM_poke_0 rfl rfl ?_
  refine z_iload_n (pc := 1) dM_poke_1 rfl rfl ?_
  refine z_callS (pc := 2) (m_isRow1 hr) (by decide) zc_M_96 rfl rfl (Nat.le_of_ble_eq_true rfl) dM_poke_2 (fun r A' B' hE => ?_)
  obtain ⟨rfl, rfl, rfl⟩ := hE
  refine z_r1 ?_
  refine z_if_eq (pc := 5) (by omega) (tgt := 19) dM_poke_5 rfl (fun h => by exfalso; omega) (fun h => ?_)
  refine z_iload_n (pc := 8) dM_poke_8 rfl rfl ?_
  refine z_if_lt (pc := 9) (by omega) (tgt := 19) dM_poke_9 rfl (fun h => by exfalso; omega) (fun h => ?_)
  refine z_iload_n (pc := 12) dM_poke_12 rfl rfl ?_
  refine z_sipush (pc := 13) dM_poke_13 zs_255 ?_
  refine z_icmp_le (pc := 16) (by omega) (by omega) (tgt := 23) dM_poke_16 rfl (fun h => ?_) (fun h => by exfalso; omega)
  refine z_iload_n (pc := 23) dM_poke_23 rfl rfl ?_
  refine z_if_lt (pc := 24) (by omega) (tgt := 37) dM_poke_24 rfl (fun h => by exfalso; omega) (fun h => ?_)
  refine z_iload_n (pc := 27) dM_poke_27 rfl rfl ?_
  refine z_aload_n (pc := 28) dM_poke_28 rfl rfl ?_
  refine z_getR (pc := 29) zo_39 rfl zf_M_13_6 dM_poke_29 ?_
  refine z_iload_n (pc := 32) dM_poke_32 rfl rfl ?_
  refine z_iaload (pc := 33) za_41 (by omega) dM_poke_33 ?_
  refine z_icmp_lt (pc := 34) (by omega) (by omega) (tgt := 41) dM_poke_34 rfl (fun h => ?_) (fun h => by exfalso; omega)
  refine z_iconst (pc := 41) dM_poke_41 zi_0 ?_
  refine z_putI (pc := 42) zo_39 rfl zp_M_59_6 dM_poke_42 ?_
  refine z_aload_n (pc := 45) dM_poke_45 rfl rfl ?_
  refine z_getI (pc := 46) zo_39 rfl zf_M_59_6 dM_poke_46 ?_
  refine z_top (congrArg (fun x => Value.int (nI x)) z_set_at) ?_
  refine z_if_ne (pc := 49) (by omega) (tgt := 64) dM_poke_49 rfl (fun h => by exfalso; omega) (fun h => ?_)
  refine z_aload_n (pc := 52) dM_poke_52 rfl rfl ?_
  refine z_getR (pc := 53) zo_39 rfl zf_M_7_6 dM_poke_53 ?_
  refine z_bipush (pc := 56) dM_poke_56 zb_64 ?_
  refine z_iload_n (pc := 58) dM_poke_58 rfl rfl ?_
  refine z_imul (pc := 59) dM_poke_59 ?_
  refine z_iload_n (pc := 60) dM_poke_60 rfl rfl ?_
  refine z_iadd (pc := 61) dM_poke_61 ?_
  refine z_iload_n (pc := 62) dM_poke_62 rfl rfl ?_
  refine z_iastore (pc := 63) za_40 (by omega) dM_poke_63 ?_
  refine z_ret0 (pc := 64) dM_poke_64 (hEx _ _ _ (⟨rfl, rfl, fun q hq => by rw [z_set_ne (by omega), z_set_ne (by omega)], by rw [z_set_ne (by decide), z_set_at], fun j hj => by rw [z_set_ne (by decide), z_set_ne (by decide)]; exact hb j hj, fun q hq => ?_, by rw [z_set_ne (by decide), z_set_nj (by decide)]; exact hs.2.1, fun j hj => by rw [z_set_ne (by decide), z_set_ne (by decide)]; exact hs.2.2 j hj⟩))
  have hmq := (hv.1 q hq).1
  have h64q : zmost q ≤ 64 := by unfold zmost; split; decide; split; decide; split <;> decide
  refine ⟨by rw [z_set_ne (by decide), z_set_ne (by decide)]; exact (hs.1 q hq).1, fun j hj => ?_⟩
  by_cases e : q = r
  · subst e
    rw [va_up_self]
    by_cases e2 : j = i
    · subst e2; rw [z_set_at, va_up_self]
    · rw [z_set_nj (by omega), z_set_ne (by decide), va_up_ne _ _ e2]; exact (hs.1 q hq).2 j hj
  · rw [va_up_ne _ _ e, z_set_nj (by omega), z_set_ne (by decide)]; exact (hs.1 q hq).2 j hj
theorem m_take1 {x : Int32} (hx : x < 0 ∨ nI 4 ≤ x) (hb : z_box A 46) (hs : zMR A n R m X) (hv : zVS n R m X) : z_Met l g ad mM_take (z_rm 1) [.ref (ad 39), .int x] A B (z_an 0 (zMP A B 1 n R m X)) := by
  refine z_Met.of (L := [(0, _), (1, _)]) (by decide) (Nat.le_of_ble_eq_true rfl) z_fit_an rfl ?_
  intro Ex hEx
  refine z_aload_n (pc := 0) dM_take_0 rfl rfl ?_
  refine z_iload_n (pc := 1) dM_take_1 rfl rfl ?_
  refine z_callS (pc := 2) (m_isRow0 hx) (by decide) zc_M_96 rfl rfl (Nat.le_of_ble_eq_true rfl) dM_take_2 (fun r A' B' hE => ?_)
  obtain ⟨rfl, rfl, rfl⟩ := hE
  refine z_r1 ?_
  refine z_if_ne (pc := 5) (by omega) (tgt := 12) dM_take_5 rfl (fun h => by exfalso; omega) (fun h => ?_)
  refine z_iconst (pc := 8) dM_take_8 zi_1 ?_
  refine z_goto (pc := 9) (tgt := 28) dM_take_9 rfl ?_
  refine z_putI (pc := 28) zo_39 rfl zp_M_59_6 dM_take_28 ?_
  refine z_aload_n (pc := 31) dM_take_31 rfl rfl ?_
  refine z_getI (pc := 32) zo_39 rfl zf_M_59_6 dM_take_32 ?_
  refine z_top (congrArg (fun x => Value.int (nI x)) z_set_at) ?_
  refine z_if_le (pc := 35) (by omega) (tgt := 40) dM_take_35 rfl (fun h => by exfalso; omega) (fun h => ?_)
  refine z_iconst (pc := 38) dM_take_38 zi_0 ?_
  exact z_reti (pc := 39) dM_take_39 (hEx _ _ _ (⟨rfl, rfl, fun q hq => z_set_ne (by omega), z_set_at, fun j hj => by rw [z_set_ne (by decide)]; exact hb j hj, hs.mv (fun i _ => by rw [z_set_ne (by decide)]) (z_set_ne (by decide)) (z_set_nj (by decide)) (z_set_ne (by decide)) hv⟩))
theorem m_take2 {r : Nat} (hr : r < 4) (hm : zmost r < m) (hb : z_box A 46) (hs : zMR A n R m X) (hv : zVS n R m X) : z_Met l g ad mM_take (z_rm 1) [.ref (ad 39), .int (nI r)] A B (z_an 0 (zMP A B 2 n R m X)) := by
  refine z_Met.of (L := [(0, _), (1, _)]) (by decide) (Nat.le_of_ble_eq_true rfl) z_fit_an rfl ?_
  intro Ex hEx
  have hm2 := hv.2.1
  have e3 := hs.2.1
  refine z_aload_n (pc := 0) dM_take_0 rfl rfl ?_
  refine z_iload_n (pc := 1) dM_take_1 rfl rfl ?_
  refine z_callS (pc := 2) (m_isRow1 hr) (by decide) zc_M_96 rfl rfl (Nat.le_of_ble_eq_true rfl) dM_take_2 (fun r A' B' hE => ?_)
  obtain ⟨rfl, rfl, rfl⟩ := hE
  refine z_r1 ?_
  refine z_if_ne (pc := 5) (by omega) (tgt := 12) dM_take_5 rfl (fun h => ?_) (fun h => by exfalso; omega)
  refine z_aload_n (pc := 12) dM_take_12 rfl rfl ?_
  refine z_getI (pc := 13) zo_39 rfl zf_M_105_6 dM_take_13 ?_
  refine z_iload_n (pc := 16) dM_take_16 rfl rfl ?_
  refine z_callS (pc := 17) (m_most hr) (by decide) zc_M_100 rfl rfl (Nat.le_of_ble_eq_true rfl) dM_take_17 (fun r A' B' hE => ?_)
  obtain ⟨rfl, rfl, rfl⟩ := hE
  refine z_r1 ?_
  refine z_icmp_le (pc := 20) (by omega) (by omega) (tgt := 27) dM_take_20 rfl (fun h => by exfalso; omega) (fun h => ?_)
  refine z_iconst (pc := 23) dM_take_23 zi_2 ?_
  refine z_goto (pc := 24) (tgt := 28) dM_take_24 rfl ?_
  refine z_putI (pc := 28) zo_39 rfl zp_M_59_6 dM_take_28 ?_
  refine z_aload_n (pc := 31) dM_take_31 rfl rfl ?_
  refine z_getI (pc := 32) zo_39 rfl zf_M_59_6 dM_take_32 ?_
  refine z_top (congrArg (fun x => Value.int (nI x)) z_set_at) ?_
  refine z_if_le (pc := 35) (by omega) (tgt := 40) dM_take_35 rfl (fun h => by exfalso; omega) (fun h => ?_)
  refine z_iconst (pc := 38) dM_take_38 zi_0 ?_
  exact z_reti (pc := 39) dM_take_39 (hEx _ _ _ (⟨rfl, rfl, fun q hq => z_set_ne (by omega), z_set_at, fun j hj => by rw [z_set_ne (by decide)]; exact hb j hj, hs.mv (fun i _ => by rw [z_set_ne (by decide)]) (z_set_ne (by decide)) (z_set_nj (by decide)) (z_set_ne (by decide)) hv⟩))
theorem m_take0 {r : Nat} (hr : r < 4) (hm : m ≤ zmost r) (hb : z_box A 46) (hs : zMR A n R m X) (hv : zVS n R m X) : z_Met l g ad mM_take (z_rm 1) [.ref (ad 39), .int (nI r)] A B (z_an m (zMP A B 0 (va_up n r m) (va_up R r X) m X)) := by
  refine z_Met.of (L := [(0, _), (1, _)]) (by decide) (Nat.le_of_ble_eq_true rfl) z_fit_an rfl ?_
  intro Ex hEx
  have hm2 := hv.2.1
  have e3 := hs.2.1
  have h64 : zmost r ≤ 64 := by unfold zmost; split; decide; split; decide; split <;> decide
  refine z_aload_n (pc := 0) dM_take_0 rfl rfl ?_
  refine z_iload_n (pc := 1) dM_take_1 rfl rfl ?_
  refine z_callS (pc := 2) (m_isRow1 hr) (by decide) zc_M_96 rfl rfl (Nat.le_of_ble_eq_true rfl) dM_take_2 (fun r A' B' hE => ?_)
  obtain ⟨rfl, rfl, rfl⟩ := hE
  refine z_r1 ?_
  refine z_if_ne (pc := 5) (by omega) (tgt := 12) dM_take_5 rfl (fun h => ?_) (fun h => by exfalso; omega)
  refine z_aload_n (pc := 12) dM_take_12 rfl rfl ?_
  refine z_getI (pc := 13) zo_39 rfl zf_M_105_6 dM_take_13 ?_
  refine z_iload_n (pc := 16) dM_take_16 rfl rfl ?_
  refine z_callS (pc := 17) (m_most hr) (by decide) zc_M_100 rfl rfl (Nat.le_of_ble_eq_true rfl) dM_take_17 (fun r A' B' hE => ?_)
  obtain ⟨rfl, rfl, rfl⟩ := hE
  refine z_r1 ?_
  refine z_icmp_le (pc := 20) (by omega) (by omega) (tgt := 27) dM_take_20 rfl (fun h => ?_) (fun h => by exfalso; omega)
  refine z_iconst (pc := 27) dM_take_27 zi_0 ?_
  refine z_putI (pc := 28) zo_39 rfl zp_M_59_6 dM_take_28 ?_
  refine z_aload_n (pc := 31) dM_take_31 rfl rfl ?_
  refine z_getI (pc := 32) zo_39 rfl zf_M_59_6 dM_take_32 ?_
  refine z_top (congrArg (fun x => Value.int (nI x)) z_set_at) ?_
  refine z_if_le (pc := 35) (by omega) (tgt := 40) dM_take_35 rfl (fun h => ?_) (fun h => by exfalso; omega)
  refine z_iconst (pc := 40) dM_take_40 zi_0 ?_
  refine z_istore_n (L' := [(2, _), (0, _), (1, _)]) (pc := 41) dM_take_41 rfl (by decide) rfl ?_
  refine z_wd (z_seg_0 (z_set A 39 0 0) 40 (64 * r) (fun x => (z_set A 39 0 0) 42 (x - 64 * r))).symm rfl ?_
  refine z_for m (fun k => [(2, .int (nI k)), (0, .ref (ad 39)), (1, .int (nI r))]) (fun k => z_seg (z_set A 39 0 0) 40 (64 * r) k (fun x => (z_set A 39 0 0) 42 (x - 64 * r))) (fun k => B) (fun k hk kk => ?_) ?_
  · refine z_iload_n (pc := 42) dM_take_42 rfl rfl ?_
    refine z_aload_n (pc := 43) dM_take_43 rfl rfl ?_
    refine z_getI (pc := 44) zo_39 rfl zf_M_105_6 dM_take_44 ?_
    refine z_icmp_ge (pc := 47) (by omega) (by rw [z_seg_ne (by decide), z_set_nj (by decide), e3]; omega) (tgt := 73) dM_take_47 rfl (fun h => by rw [z_seg_ne (by decide), z_set_nj (by decide), e3] at h; exfalso; omega) (fun h => ?_)
    refine z_aload_n (pc := 50) dM_take_50 rfl rfl ?_
    refine z_getR (pc := 51) zo_39 rfl zf_M_7_6 dM_take_51 ?_
    refine z_bipush (pc := 54) dM_take_54 zb_64 ?_
    refine z_iload_n (pc := 56) dM_take_56 rfl rfl ?_
    refine z_imul (pc := 57) dM_take_57 ?_
    refine z_iload_n (pc := 58) dM_take_58 rfl rfl ?_
    refine z_iadd (pc := 59) dM_take_59 ?_
    refine z_aload_n (pc := 60) dM_take_60 rfl rfl ?_
    refine z_getR (pc := 61) zo_39 rfl zf_M_16_6 dM_take_61 ?_
    refine z_iload_n (pc := 64) dM_take_64 rfl rfl ?_
    refine z_iaload (pc := 65) za_42 (by omega) dM_take_65 ?_
    refine z_iastore (pc := 66) za_40 (by omega) dM_take_66 ?_
    refine z_iinc (L' := [(2, _), (0, _), (1, _)]) (pc := 67) dM_take_67 rfl zi_1 (by decide) rfl ?_
    refine z_goto (pc := 70) (tgt := 42) dM_take_70 rfl ?_
    refine z_wd (z_seg_set ?_) rfl kk
    rw [z_seg_ne (by decide), Nat.add_sub_cancel_left]
  · refine z_iload_n (pc := 42) dM_take_42 rfl rfl ?_
    refine z_aload_n (pc := 43) dM_take_43 rfl rfl ?_
    refine z_getI (pc := 44) zo_39 rfl zf_M_105_6 dM_take_44 ?_
    refine z_icmp_ge (pc := 47) (by omega) (by rw [z_seg_ne (by decide), z_set_nj (by decide), e3]; omega) (tgt := 73) dM_take_47 rfl (fun h => ?_) (fun h => by rw [z_seg_ne (by decide), z_set_nj (by decide), e3] at h; exfalso; omega)
    refine z_aload_n (pc := 73) dM_take_73 rfl rfl ?_
    refine z_getR (pc := 74) zo_39 rfl zf_M_13_6 dM_take_74 ?_
    refine z_iload_n (pc := 77) dM_take_77 rfl rfl ?_
    refine z_aload_n (pc := 78) dM_take_78 rfl rfl ?_
    refine z_getI (pc := 79) zo_39 rfl zf_M_105_6 dM_take_79 ?_
    refine z_top (congrArg (fun x => Value.int (nI x)) (show _ = m by rw [z_seg_ne (by decide), z_set_nj (by decide)]; exact e3)) ?_
    refine z_iastore (pc := 82) za_41 (by omega) dM_take_82 ?_
    refine z_aload_n (pc := 83) dM_take_83 rfl rfl ?_
    refine z_getI (pc := 84) zo_39 rfl zf_M_105_6 dM_take_84 ?_
    refine z_top (congrArg (fun x => Value.int (nI x)) (show _ = m by rw [z_set_ne (by decide), z_seg_ne (by decide), z_set_nj (by decide)]; exact e3)) ?_
    refine z_reti (pc := 87) dM_take_87 (hEx _ _ _ (⟨rfl, rfl, fun q hq => by rw [z_set_ne (by omega), z_seg_ne (by omega), z_set_ne (by omega)], by rw [z_set_ne (by decide), z_seg_ne (by decide), z_set_at], fun j hj => by rw [z_set_ne (by decide), z_seg_ne (by decide), z_set_ne (by decide)]; exact hb j hj, fun q hq => ?_, by rw [z_set_ne (by decide), z_seg_ne (by decide), z_set_nj (by decide)]; exact hs.2.1, fun j hj => by rw [z_set_ne (by decide), z_seg_ne (by decide), z_set_ne (by decide)]; exact hs.2.2 j hj⟩))
    have hmq := (hv.1 q hq).1
    have h64q : zmost q ≤ 64 := by unfold zmost; split; decide; split; decide; split <;> decide
    by_cases e : q = r
    · subst e
      rw [va_up_self, va_up_self]
      refine ⟨z_set_at, fun j hj => ?_⟩
      rw [z_set_ne (by decide), z_seg_in (by omega) (by omega), z_set_ne (by decide), Nat.add_sub_cancel_left]
      exact hs.2.2 j hj
    · rw [va_up_ne _ _ e, va_up_ne _ _ e]
      refine ⟨by rw [z_set_nj e, z_seg_ne (by decide), z_set_ne (by decide)]; exact (hs.1 q hq).1, fun j hj => ?_⟩
      rw [z_set_ne (by decide), z_seg_out (by omega), z_set_ne (by decide)]
      exact (hs.1 q hq).2 j hj
end
