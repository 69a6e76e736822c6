/-! what a call does, to the class and to the reference, over any world with the state n R m X -/
theorem zC0_by {K J T : Nat → Nat} {j : Nat} (hK : ∀ j, j < 16 → K j < 256) (hJ : ∀ j, j < 16 → J j < 256) (hT : T j < 256) : zC0 K J T j < 256 :=
  Nat.xor_lt_two_pow (n := 8) hT (zE_by hK (fun i hi => zcnt_lt hJ i hi) _ (Nat.mod_lt _ (by decide)))
theorem zD0_by {K J Y : Nat → Nat} {al : Nat} {X : Nat → Nat} {n j : Nat} (hK : ∀ j, j < 16 → K j < 256) (hJ : ∀ j, j < 16 → J j < 256) (hj : j < 16) : zD0 K J Y al X n j < 256 :=
  Nat.xor_lt_two_pow (n := 8) (zby_lt _ _ _) (zE_by hK hJ _ hj)
theorem zdu_by {S : Nat} {N : Nat → Nat} (hN : ∀ j, j < 12 → N j < 256) (j : Nat) : zdu S N j < 256 := by
  unfold zdu
  split
  · exact Nat.xor_lt_two_pow (n := 8) (zby_lt _ _ _) (hN j (by assumption))
  · split
    · exact Nat.lt_of_le_of_lt Nat.and_le_right (by decide)
    · exact zby_lt _ _ _
theorem zD1_by {K2 HK N Y : Nat → Nat} {al : Nat} {X : Nat → Nat} {n j : Nat} (hK : ∀ j, j < 16 → K2 j < 256) (hN : ∀ j, j < 12 → N j < 256) (hj : j < 16) : zD1 K2 HK N Y al X n j < 256 := zE_by hK (fun i _ => zdu_by hN i) _ hj
theorem zC1_by {K2 s T : Nat → Nat} {j : Nat} (hK : ∀ j, j < 16 → K2 j < 256) (hs : ∀ j, j < 16 → s j < 256) (hT : T j < 256) : zC1 K2 s T j < 256 :=
  Nat.xor_lt_two_pow (n := 8) hT (zE_by hK (fun i hi => zcnt_lt (z128_lt hs) i hi) _ (Nat.mod_lt _ (by decide)))
theorem zseal_by {w : Nat} {n : Nat → Nat} {R : Nat → Nat → Nat} {m : Nat} {X : Nat → Nat} (hv : zVS n R m X) (hrd : zrdy w n) (hw : w = 0 ∨ w = 1) (j : Nat) (hj : j < n 3 + 16) : zseal w (R 0) (R 1) (n 1) (R 2) (n 2) (R 3) (n 3) j < 256 := by
  have hK : ∀ j, j < 16 → R 0 j < 256 := fun j h => (hv.1 0 (by decide)).2 j (by rw [hrd.1]; exact h)
  have hT : ∀ j, j < n 3 → R 3 j < 256 := (hv.1 3 (by decide)).2
  have hN : ∀ j, j < n 1 → R 1 j < 256 := (hv.1 1 (by decide)).2
  unfold zseal
  rcases hw with rfl | rfl
  · rw [if_pos rfl]
    split
    · exact zC0_by hK (fun j _ => zJ_lt hN j) (hT j (by assumption))
    · exact zD0_by hK (fun j _ => zJ_lt hN j) (by omega)
  · have h12 : n 1 = 12 := hrd.2
    have hN' : ∀ j, j < 12 → R 1 j < 256 := fun j h => hN j (by omega)
    have hk2 := zdk_lt (i := 2) hK hN' (by decide)
    rw [if_neg (by decide)]
    split
    · exact zC1_by hk2 (fun j h => zD1_by hk2 hN' h) (hT j (by assumption))
    · exact zD1_by hk2 hN' (by omega)
theorem zopen_by {w : Nat} {n : Nat → Nat} {R : Nat → Nat → Nat} {m : Nat} {X : Nat → Nat} (hv : zVS n R m X) (hrd : zrdy w n) (hw : w = 0 ∨ w = 1) (h16 : 16 ≤ n 3) (j : Nat) (hj : j < n 3 - 16) : zopen w (R 0) (R 1) (n 1) (R 3) (n 3 - 16) j < 256 := by
  have hK : ∀ j, j < 16 → R 0 j < 256 := fun j h => (hv.1 0 (by decide)).2 j (by rw [hrd.1]; exact h)
  have hT : ∀ j, j < n 3 → R 3 j < 256 := (hv.1 3 (by decide)).2
  have hN : ∀ j, j < n 1 → R 1 j < 256 := (hv.1 1 (by decide)).2
  unfold zopen
  rcases hw with rfl | rfl
  · rw [if_pos rfl]
    exact zC0_by hK (fun j _ => zJ_lt hN j) (hT j (by omega))
  · have h12 : n 1 = 12 := hrd.2
    have hN' : ∀ j, j < 12 → R 1 j < 256 := fun j h => hN j (by omega)
    rw [if_neg (by decide)]
    exact zC1_by (zdk_lt (i := 2) hK hN' (by decide)) (fun j h => hT _ (by omega)) (hT j (by omega))
theorem zVS_res {n : Nat → Nat} {R : Nat → Nat → Nat} {m m' : Nat} {X X' : Nat → Nat} (hv : zVS n R m X) (hm : m' ≤ 64) (hX : ∀ j, j < m' → X' j < 256) : zVS n R m' X' := ⟨hv.1, hm, hX⟩
theorem zVS_row {n : Nat → Nat} {R : Nat → Nat → Nat} {m : Nat} {X : Nat → Nat} {r k : Nat} {f : Nat → Nat} (hv : zVS n R m X) (hk : k ≤ zmost r) (hf : ∀ j, j < k → f j < 256) : zVS (va_up n r k) (va_up R r f) m X := by
  refine ⟨fun q hq => ?_, hv.2⟩
  by_cases h : q = r
  · subst h
    simp only [va_up, if_true]
    exact ⟨hk, hf⟩
  · simp only [va_up, if_neg h]
    exact hv.1 q hq
theorem zVS_len {n : Nat → Nat} {R : Nat → Nat → Nat} {m : Nat} {X : Nat → Nat} {r : Nat} (hv : zVS n R m X) : zVS (va_up n r 0) R m X := by
  refine ⟨fun q hq => ?_, hv.2⟩
  by_cases h : q = r
  · subst h
    simp only [va_up, if_true]
    exact ⟨Nat.zero_le _, fun j hj => absurd hj (Nat.not_lt_zero _)⟩
  · simp only [va_up, if_neg h]
    exact hv.1 q hq
theorem zVS_poke {n : Nat → Nat} {R : Nat → Nat → Nat} {m : Nat} {X : Nat → Nat} {r i v : Nat} (hv : zVS n R m X) (hb : v ≤ 255) : zVS n (va_up R r (va_up (R r) i v)) m X := by
  refine ⟨fun q hq => ⟨(hv.1 q hq).1, fun j hj => ?_⟩, hv.2⟩
  by_cases h : q = r
  · subst h
    simp only [va_up, if_true]
    by_cases h2 : j = i
    · simp only [h2, if_true]
      omega
    · simp only [if_neg h2]
      exact (hv.1 q hq).2 j hj
  · simp only [va_up, if_neg h]
    exact (hv.1 q hq).2 j hj
theorem zCS_mv {A A' B : z_A} (h : ∀ q, q < 39 → A' q = A q) (hc : zCS A B) : zCS A' B := by
  unfold zCS z_box z_hw at hc ⊢
  rw [h 15 (by decide), h 31 (by decide), h 20 (by decide), h 22 (by decide)]
  exact hc
theorem zCR_mv {A A' : z_A} {n : Nat → Nat} {R : Nat → Nat → Nat} {m : Nat} {X : Nat → Nat} (h : ∀ q, q < 39 → A' q = A q) (hc : zCR A n R m X) : zCR A' n R m X := by
  unfold zCR at hc ⊢
  rw [h 10 (by decide), h 11 (by decide)]
  refine ⟨fun r hr => ?_, hc.2⟩
  rw [h (2 + 2 * r) (by omega), h (3 + 2 * r) (by omega)]
  exact hc.1 r hr
theorem zMR_mv {A A' : z_A} {n : Nat → Nat} {R : Nat → Nat → Nat} {m : Nat} {X : Nat → Nat} (h : ∀ q, 39 ≤ q → A' q = A q) (hc : zMR A n R m X) : zMR A' n R m X := by
  unfold zMR at hc ⊢
  rw [h 39 (by decide), h 40 (by decide), h 41 (by decide), h 42 (by decide)]
  exact hc
theorem z_box_mv {A A' : z_A} (h : ∀ q, 39 ≤ q → A' q = A q) (hc : z_box A 46) : z_box A' 46 := by
  unfold z_box at hc ⊢
  rw [h 46 (by decide)]
  exact hc
section LO
variable {l : Launch} {g : z_G} {ad : Nat → Nat} {n : Nat → Nat} {R : Nat → Nat → Nat} {m : Nat} {X : Nat → Nat}
def l_W (l : Launch) (g : z_G) (ad : Nat → Nat) (μ : z_M) (hh : List (Nat × Nat × Nat × Nat)) (av : List Value) (n : Nat → Nat) (R : Nat → Nat → Nat) (m : Nat) (X : Nat → Nat) (k : Nat) (b : Option Nat) (n' : Nat → Nat) (R' : Nat → Nat → Nat) (m' : Nat) (X' : Nat → Nat) : Prop :=
  ∀ A B, zCS A B → zCR A n R m X → ∃ E, z_WMet l g ad μ hh z_rw av A B E ∧ ∀ r A' B', E r A' B' → some (.int (nI k)) = r ∧ zWP A B n' R' m' X' A' B' ∧ ∀ x, b = some x → k = 0 → B' 54 0 = x
def l_M (l : Launch) (g : z_G) (ad : Nat → Nat) (μ : z_M) (h : Nat) (av : List Value) (n : Nat → Nat) (R : Nat → Nat → Nat) (m : Nat) (X : Nat → Nat) (k : Nat) (b : Option Nat) (n' : Nat → Nat) (R' : Nat → Nat → Nat) (m' : Nat) (X' : Nat → Nat) : Prop :=
  ∀ A B, z_box A 46 → zMR A n R m X → ∃ E, z_Met l g ad μ (z_rm h) av A B E ∧ ∀ r A' B', E r A' B' → b.map (fun x => .int (nI x)) = r ∧ zMP A B k n' R' m' X' A' B'
/-- both answer alike: k says what is thrown, b what is returned, and the new state -/
def l_2 (l : Launch) (g : z_G) (ad : Nat → Nat) (μ : z_M) (hh : List (Nat × Nat × Nat × Nat)) (av : List Value) (μ' : z_M) (h : Nat) (av' : List Value) (q : Bool) (n : Nat → Nat) (R : Nat → Nat → Nat) (m : Nat) (X : Nat → Nat) : Prop :=
  ∃ (k b : Nat) (n' : Nat → Nat) (R' : Nat → Nat → Nat) (m' : Nat) (X' : Nat → Nat), k < 4 ∧ b < 2 ^ 31 ∧ zVS n' R' m' X' ∧ l_W l g ad μ hh av n R m X k (if q then some b else none) n' R' m' X' ∧ l_M l g ad μ' h av' n R m X k (if q then some b else none) n' R' m' X'
theorem l_thr {μ μ' : z_M} {hh : List (Nat × Nat × Nat × Nat)} {av av' : List Value} {h : Nat} {q : Bool} (hv : zVS n R m X) (k : Nat) (hk : k < 4) (hk0 : 0 < k) (hw : ∀ A B, zCS A B → zCR A n R m X → z_WMet l g ad μ hh z_rw av A B (z_an k (zWP A B n R m X)))
    (hm : ∀ A B, z_box A 46 → zMR A n R m X → z_Met l g ad μ' (z_rm h) av' A B (if q then z_an 0 (zMP A B k n R m X) else z_vd (zMP A B k n R m X))) : l_2 l g ad μ hh av μ' h av' q n R m X := by
  refine ⟨k, 0, n, R, m, X, hk, by decide, hv, fun A B h1 h2 => ⟨_, hw A B h1 h2, fun r A' B' hE => ⟨hE.1, hE.2, fun _ _ h => absurd h (by omega)⟩⟩, fun A B h1 h2 => ⟨_, hm A B h1 h2, fun r A' B' hE => ?_⟩⟩
  cases q
  · exact ⟨hE.1.symm, hE.2⟩
  · exact ⟨hE.1, hE.2⟩
theorem l_ok {μ μ' : z_M} {hh : List (Nat × Nat × Nat × Nat)} {av av' : List Value} {h : Nat} {n' : Nat → Nat} {R' : Nat → Nat → Nat} {m' : Nat} {X' : Nat → Nat} (b : Nat) (hb : b < 2 ^ 31) (hv : zVS n' R' m' X') (hw : ∀ A B, zCS A B → zCR A n R m X → z_WMet l g ad μ hh z_rw av A B (z_an 0 (fun A' B' => zWP A B n' R' m' X' A' B' ∧ B' 54 0 = b)))
    (hm : ∀ A B, z_box A 46 → zMR A n R m X → z_Met l g ad μ' (z_rm h) av' A B (z_an b (zMP A B 0 n' R' m' X'))) : l_2 l g ad μ hh av μ' h av' true n R m X :=
  ⟨0, b, n', R', m', X', by decide, hb, hv, fun A B h1 h2 => ⟨_, hw A B h1 h2, fun r A' B' hE => ⟨hE.1, hE.2.1, fun x hx _ => by cases hx; exact hE.2.2⟩⟩, fun A B h1 h2 => ⟨_, hm A B h1 h2, fun r A' B' hE => ⟨hE.1, hE.2⟩⟩⟩
theorem l_okv {μ μ' : z_M} {hh : List (Nat × Nat × Nat × Nat)} {av av' : List Value} {h : Nat} {n' : Nat → Nat} {R' : Nat → Nat → Nat} {m' : Nat} {X' : Nat → Nat} (hv : zVS n' R' m' X') (hw : ∀ A B, zCS A B → zCR A n R m X → z_WMet l g ad μ hh z_rw av A B (z_an 0 (zWP A B n' R' m' X')))
    (hm : ∀ A B, z_box A 46 → zMR A n R m X → z_Met l g ad μ' (z_rm h) av' A B (z_vd (zMP A B 0 n' R' m' X'))) : l_2 l g ad μ hh av μ' h av' false n R m X :=
  ⟨0, 0, n', R', m', X', by decide, by decide, hv, fun A B h1 h2 => ⟨_, hw A B h1 h2, fun r A' B' hE => ⟨hE.1, hE.2, fun x hx _ => by cases hx⟩⟩, fun A B h1 h2 => ⟨_, hm A B h1 h2, fun r A' B' hE => ⟨hE.1.symm, hE.2⟩⟩⟩
theorem z_ix (x : Int32) {n : Nat} (hn : n < 2 ^ 31) : (x < 0 ∨ nI n ≤ x) ∨ ∃ j, j < n ∧ x = nI j := by
  rcases pk_ix x hn with q | q | ⟨j, hj, rfl⟩
  · exact Or.inl (Or.inl q)
  · exact Or.inl (Or.inr q)
  · exact Or.inr ⟨j, hj, rfl⟩
theorem lo_type (hst : l.stackTraces = false) (hv : zVS n R m X) (x y : Int32) (v : Int64) : l_2 l g ad mL_type hhL_type [.ref (ad 0), .int x, .long v, .int y, .ref (ad 54)] mM_type 1 [.ref (ad 39), .int x, .long v, .int y] true n R m X := by
  obtain ⟨v, hvl, rfl⟩ := wb_of v
  rcases z_ix x (n := 4) (by decide) with hx | ⟨r, hr, rfl⟩
  · exact l_thr hv 1 (by decide) (by decide) (fun A B h1 h2 => w_type1a hst hx h1 h2 hv) (fun A B h1 h2 => m_type1a hx h1 h2 hv)
  have hy : (y < nI 1 ∨ nI 8 < y) ∨ ∃ k, 1 ≤ k ∧ k ≤ 8 ∧ y = nI k := by
    rcases z_ix y (n := 9) (by decide) with (h | h) | ⟨k, hk, rfl⟩
    · exact Or.inl (Or.inl (Int32.lt_trans h (by decide)))
    · exact Or.inl (Or.inr (Int32.lt_of_lt_of_le (by decide) h))
    · by_cases h0 : k = 0
      · subst h0
        exact Or.inl (Or.inl (by decide))
      · exact Or.inr ⟨k, by omega, by omega, rfl⟩
  rcases hy with hy | ⟨k, hk1, hk8, rfl⟩
  · exact l_thr hv 1 (by decide) (by decide) (fun A B h1 h2 => w_type1b hst hr hy h1 h2 hv) (fun A B h1 h2 => m_type1b hr hy h1 h2 hv)
  by_cases hn : n r + k ≤ zmost r
  · refine l_ok (n r + k) (by have := zmost_le r; omega) (zVS_row hv hn (fun j hj => ?_)) (fun A B h1 h2 => w_type0 hst hr hk1 hk8 hn hvl h1 h2 hv) (fun A B h1 h2 => m_type0 hr hk1 hk8 hn h1 h2 hv)
    by_cases h : j < n r
    · rw [if_pos h]
      exact (hv.1 r hr).2 j h
    · rw [if_neg h]
      exact Nat.mod_lt _ (by decide)
  · exact l_thr hv 2 (by decide) (by decide) (fun A B h1 h2 => w_type2 hst hr hk1 hk8 (by omega) h1 h2 hv) (fun A B h1 h2 => m_type2 hr hk1 hk8 (by omega) h1 h2 hv)
theorem lo_clear (hst : l.stackTraces = false) (hv : zVS n R m X) (x : Int32) : l_2 l g ad mL_clear hhL_clear [.ref (ad 0), .int x, .ref (ad 54)] mM_clear 1 [.ref (ad 39), .int x] true n R m X := by
  rcases z_ix x (n := 4) (by decide) with hx | ⟨r, hr, rfl⟩
  · exact l_thr hv 1 (by decide) (by decide) (fun A B h1 h2 => w_clear0 hst hx h1 h2 hv) (fun A B h1 h2 => m_clear0 hx h1 h2 hv)
  · exact l_ok (n r) (by have := zmost_le r; have := (hv.1 r hr).1; omega) (zVS_len hv) (fun A B h1 h2 => w_clear1 hst hr h1 h2 hv) (fun A B h1 h2 => m_clear1 hr h1 h2 hv)
theorem lo_poke (hst : l.stackTraces = false) (hv : zVS n R m X) (x y v : Int32) : l_2 l g ad mL_poke hhL_poke [.ref (ad 0), .int x, .int y, .int v] mM_poke 1 [.ref (ad 39), .int x, .int y, .int v] false n R m X := by
  rcases z_ix x (n := 4) (by decide) with hx | ⟨r, hr, rfl⟩
  · exact l_thr hv 1 (by decide) (by decide) (fun A B h1 h2 => w_poke1a hst hx h1 h2 hv) (fun A B h1 h2 => m_poke1a hx h1 h2 hv)
  rcases z_ix v (n := 256) (by decide) with hx | ⟨b, hb, rfl⟩
  · have hx : v < 0 ∨ nI 255 < v := by
      rcases hx with h | h
      · exact Or.inl h
      · exact Or.inr (Int32.lt_of_lt_of_le (by decide) h)
    exact l_thr hv 1 (by decide) (by decide) (fun A B h1 h2 => w_poke1b hst hr hx h1 h2 hv) (fun A B h1 h2 => m_poke1b hr hx h1 h2 hv)
  have hnr : n r < 2 ^ 31 := by have := zmost_le r; have := (hv.1 r hr).1; omega
  rcases z_ix y hnr with hy | ⟨i, hi, rfl⟩
  · exact l_thr hv 2 (by decide) (by decide) (fun A B h1 h2 => w_poke2 hst hr (by omega) hy h1 h2 hv) (fun A B h1 h2 => m_poke2 hr (by omega) hy h1 h2 hv)
  · exact l_okv (zVS_poke hv (by omega)) (fun A B h1 h2 => w_poke0 hst hr (by omega) hi h1 h2 hv) (fun A B h1 h2 => m_poke0 hr (by omega) hi h1 h2 hv)
theorem lo_take (hst : l.stackTraces = false) (hv : zVS n R m X) (x : Int32) : l_2 l g ad mL_take hhL_take [.ref (ad 0), .int x, .ref (ad 54)] mM_take 1 [.ref (ad 39), .int x] true n R m X := by
  rcases z_ix x (n := 4) (by decide) with hx | ⟨r, hr, rfl⟩
  · exact l_thr hv 1 (by decide) (by decide) (fun A B h1 h2 => w_take1 hst hx h1 h2 hv) (fun A B h1 h2 => m_take1 hx h1 h2 hv)
  by_cases hm : m ≤ zmost r
  · exact l_ok m (by have := hv.2.1; omega) (zVS_row hv hm hv.2.2) (fun A B h1 h2 => w_take0 hst hr hm h1 h2 hv) (fun A B h1 h2 => m_take0 hr hm h1 h2 hv)
  · exact l_thr hv 2 (by decide) (by decide) (fun A B h1 h2 => w_take2 hst hr (by omega) h1 h2 hv) (fun A B h1 h2 => m_take2 hr (by omega) h1 h2 hv)
theorem lo_block (hst : l.stackTraces = false) (hv : zVS n R m X) : l_2 l g ad mL_block hhL_block [.ref (ad 0)] mM_block 5 [.ref (ad 39)] false n R m X := by
  by_cases h : n 0 = 16 ∧ n 3 = 16
  · exact l_okv (zVS_res hv (by decide) (zE_by (fun j hj => (hv.1 0 (by decide)).2 j (by omega)) (fun j hj => (hv.1 3 (by decide)).2 j (by omega)))) (fun A B h1 h2 => w_block0 hst h.1 h.2 h1 h2 hv) (fun A B h1 h2 => m_block0 h.1 h.2 h1 h2 hv)
  · exact l_thr hv 1 (by decide) (by decide) (fun A B h1 h2 => w_block1 hst (by omega) h1 h2 hv) (fun A B h1 h2 => m_block1 (by omega) h1 h2 hv)
theorem z_way2 (x : Int32) : ((x < 0 ∨ nI 2 ≤ x) ∧ ¬ x = nI 0 ∧ ¬ x = nI 1) ∨ x = nI 0 ∨ x = nI 1 := by
  by_cases h0 : x = nI 0
  · exact Or.inr (Or.inl h0)
  by_cases h1 : x = nI 1
  · exact Or.inr (Or.inr h1)
  refine Or.inl ⟨?_, h0, h1⟩
  rcases z_ix x (n := 2) (by decide) with hx | ⟨r, hr, rfl⟩
  · exact hx
  · exfalso
    rcases (show r = 0 ∨ r = 1 by omega) with rfl | rfl
    · exact h0 rfl
    · exact h1 rfl
theorem lo_hash (hst : l.stackTraces = false) (hv : zVS n R m X) (x : Int32) : l_2 l g ad mL_hash hhL_hash [.ref (ad 0), .int x] mM_hash 5 [.ref (ad 39), .int x] false n R m X := by
  rcases z_way2 x with ⟨hx, h0, h1⟩ | rfl | rfl
  · exact l_thr hv 1 (by decide) (by decide) (fun A B h1 h2 => w_hash1 hst hx h1 h2 hv) (fun A B h3 h2 => m_hash1 h0 h1 h3 h2 hv)
  · by_cases h : n 0 = 16
    · exact l_okv (zVS_res hv (by decide) (fun j _ => zby_lt _ _ _)) (fun A B h1 h2 => w_hash0_0 hst h h1 h2 hv) (fun A B h1 h2 => m_hash0 (w := 0) (Or.inl rfl) h h1 h2 hv)
    · exact l_thr hv 2 (by decide) (by decide) (fun A B h1 h2 => w_hash2 hst (w := 0) (by decide) h h1 h2 hv) (fun A B h1 h2 => m_hash2 (w := 0) (Or.inl rfl) h h1 h2 hv)
  · by_cases h : n 0 = 16
    · exact l_okv (zVS_res hv (by decide) (fun j _ => zby_lt _ _ _)) (fun A B h1 h2 => w_hash0_1 hst h h1 h2 hv) (fun A B h1 h2 => m_hash0 (w := 1) (Or.inr rfl) h h1 h2 hv)
    · exact l_thr hv 2 (by decide) (by decide) (fun A B h1 h2 => w_hash2 hst (w := 1) (by decide) h h1 h2 hv) (fun A B h1 h2 => m_hash2 (w := 1) (Or.inr rfl) h h1 h2 hv)
theorem lo_seal (hst : l.stackTraces = false) (hv : zVS n R m X) (x : Int32) : l_2 l g ad mL_seal hhL_seal [.ref (ad 0), .int x, .ref (ad 54)] mM_seal 7 [.ref (ad 39), .int x] true n R m X := by
  rcases z_way2 x with ⟨hx, h0, h1⟩ | rfl | rfl
  · exact l_thr hv 1 (by decide) (by decide) (fun A B h1 h2 => w_seal1 hst hx h1 h2 hv) (fun A B h3 h2 => m_seal1 h0 h1 h3 h2 hv)
  · by_cases h : zrdy 0 n ∧ n 3 ≤ 48
    · exact l_ok (n 3 + 16) (by omega) (zVS_res hv (by omega) (zseal_by hv h.1 (Or.inl rfl))) (fun A B h1 h2 => w_seal0_0 hst h.1 h.2 h1 h2 hv) (fun A B h1 h2 => m_seal0_0 h.1 h.2 h1 h2 hv)
    · have h' : ¬ zrdy 0 n ∨ 48 < n 3 := by
        by_cases h3 : zrdy 0 n
        · exact Or.inr (Nat.lt_of_not_le fun h4 => h ⟨h3, h4⟩)
        · exact Or.inl h3
      exact l_thr hv 2 (by decide) (by decide) (fun A B h1 h2 => w_seal2_0 hst h' h1 h2 hv) (fun A B h1 h2 => m_seal2 (w := 0) (Or.inl rfl) h' h1 h2 hv)
  · by_cases h : zrdy 1 n ∧ n 3 ≤ 48
    · exact l_ok (n 3 + 16) (by omega) (zVS_res hv (by omega) (zseal_by hv h.1 (Or.inr rfl))) (fun A B h1 h2 => w_seal0_1 hst h.1 h.2 h1 h2 hv) (fun A B h1 h2 => m_seal0_1 h.1 h.2 h1 h2 hv)
    · have h' : ¬ zrdy 1 n ∨ 48 < n 3 := by
        by_cases h3 : zrdy 1 n
        · exact Or.inr (Nat.lt_of_not_le fun h4 => h ⟨h3, h4⟩)
        · exact Or.inl h3
      exact l_thr hv 2 (by decide) (by decide) (fun A B h1 h2 => w_seal2_1 hst h' h1 h2 hv) (fun A B h1 h2 => m_seal2 (w := 1) (Or.inr rfl) h' h1 h2 hv)
theorem lo_open (hst : l.stackTraces = false) (hv : zVS n R m X) (x : Int32) : l_2 l g ad mL_open hhL_open [.ref (ad 0), .int x, .ref (ad 54)] mM_open 7 [.ref (ad 39), .int x] true n R m X := by
  have hn3 : n 3 ≤ 64 := (hv.1 3 (by decide)).1
  rcases z_way2 x with ⟨hx, h0, h1⟩ | rfl | rfl
  · exact l_thr hv 1 (by decide) (by decide) (fun A B h1 h2 => w_open1 hst hx h1 h2 hv) (fun A B h3 h2 => m_open1 h0 h1 h3 h2 hv)
  · by_cases h : zrdy 0 n ∧ 16 ≤ n 3
    · by_cases hok : ∀ j, j < 16 → R 3 (n 3 - 16 + j) = zdue 0 (R 0) (R 1) (n 1) (R 2) (n 2) (R 3) (n 3 - 16) j
      · exact l_ok (n 3 - 16) (by omega) (zVS_res hv (by omega) (zopen_by hv h.1 (Or.inl rfl) h.2)) (fun A B h1 h2 => w_open0_0 hst h.1 h.2 hok h1 h2 hv) (fun A B h1 h2 => m_open0_0 h.1 h.2 hok h1 h2 hv)
      · exact l_thr hv 3 (by decide) (by decide) (fun A B h1 h2 => w_open3_0 hst h.1 h.2 hok h1 h2 hv) (fun A B h1 h2 => m_open3_0 h.1 h.2 hok h1 h2 hv)
    · have h' : ¬ zrdy 0 n ∨ n 3 < 16 := by
        by_cases h3 : zrdy 0 n
        · exact Or.inr (Nat.lt_of_not_le fun h4 => h ⟨h3, h4⟩)
        · exact Or.inl h3
      exact l_thr hv 2 (by decide) (by decide) (fun A B h1 h2 => w_open2_0 hst h' h1 h2 hv) (fun A B h1 h2 => m_open2 (w := 0) (Or.inl rfl) h' h1 h2 hv)
  · by_cases h : zrdy 1 n ∧ 16 ≤ n 3
    · by_cases hok : ∀ j, j < 16 → R 3 (n 3 - 16 + j) = zdue 1 (R 0) (R 1) (n 1) (R 2) (n 2) (R 3) (n 3 - 16) j
      · exact l_ok (n 3 - 16) (by omega) (zVS_res hv (by omega) (zopen_by hv h.1 (Or.inr rfl) h.2)) (fun A B h1 h2 => w_open0_1 hst h.1 h.2 hok h1 h2 hv) (fun A B h1 h2 => m_open0_1 h.1 h.2 hok h1 h2 hv)
      · exact l_thr hv 3 (by decide) (by decide) (fun A B h1 h2 => w_open3_1 hst h.1 h.2 hok h1 h2 hv) (fun A B h1 h2 => m_open3_1 h.1 h.2 hok h1 h2 hv)
    · have h' : ¬ zrdy 1 n ∨ n 3 < 16 := by
        by_cases h3 : zrdy 1 n
        · exact Or.inr (Nat.lt_of_not_le fun h4 => h ⟨h3, h4⟩)
        · exact Or.inl h3
      exact l_thr hv 2 (by decide) (by decide) (fun A B h1 h2 => w_open2_1 hst h' h1 h2 hv) (fun A B h1 h2 => m_open2 (w := 1) (Or.inr rfl) h' h1 h2 hv)
theorem lo_at (hst : l.stackTraces = false) (hv : zVS n R m X) (x : Int32) : l_2 l g ad mL_at hhL_at [.ref (ad 0), .int x, .ref (ad 54)] mM_at 0 [.ref (ad 39), .int x] true n R m X := by
  rcases z_ix x (n := m) (by have := hv.2.1; omega) with hx | ⟨i, hi, rfl⟩
  · exact l_thr hv 1 (by decide) (by decide) (fun A B h1 h2 => w_at0 hst hx h1 h2 hv) (fun A B h1 h2 => m_at0 hx h1 h2 hv)
  · exact l_ok (X i) (by have := hv.2.2 i hi; omega) hv (fun A B h1 h2 => w_at1 hst hi h1 h2 hv) (fun A B h1 h2 => m_at1 hi h1 h2 hv)
end LO
