/-! numbers from bits -/
def zbits (p : Nat → Bool) : Nat → Nat
  | 0 => 0
  | n + 1 => zbits p n ||| (p n).toNat * 2 ^ n
theorem z_tbm (b : Bool) (n i : Nat) : (b.toNat * 2 ^ n).testBit i = (b && decide (i = n)) := by
  cases b
  · simp
  · rw [Bool.toNat_true, Nat.one_mul, Nat.testBit_two_pow]
    by_cases h : n = i
    · subst h; simp
    · have h' : ¬ i = n := fun q => h q.symm
      simp [h, h']
theorem zbits_tb (p : Nat → Bool) : ∀ n i, (zbits p n).testBit i = (decide (i < n) && p i)
  | 0, i => by simp [zbits]
  | n + 1, i => by
    rw [zbits, Nat.testBit_or, zbits_tb p n i, z_tbm]
    by_cases h1 : i = n
    · subst h1; simp
    · by_cases h2 : i < n
      · have : i < n + 1 := by omega
        simp [h1, h2, this]
      · have : ¬ i < n + 1 := by omega
        simp [h1, h2, this]
theorem z_lt_tb {x n : Nat} (h : ∀ i, n ≤ i → x.testBit i = false) : x < 2 ^ n := Nat.lt_pow_two_of_testBit x h
theorem zbits_lt (p : Nat → Bool) (n : Nat) : zbits p n < 2 ^ n := z_lt_tb (fun i h => by rw [zbits_tb]; simp [Nat.not_lt.mpr h])
theorem zbits_cg {p q : Nat → Bool} {n : Nat} (h : ∀ i, i < n → p i = q i) : zbits p n = zbits q n := by
  apply Nat.eq_of_testBit_eq
  intro i
  rw [zbits_tb, zbits_tb]
  by_cases hi : i < n
  · rw [h i hi]
  · simp [hi]
/-- bits from n on are off: the longer number is the same -/
theorem zbits_ext {p : Nat → Bool} {n m : Nat} (hnm : n ≤ m) (h : ∀ i, n ≤ i → i < m → p i = false) : zbits p m = zbits p n := by
  apply Nat.eq_of_testBit_eq
  intro i
  rw [zbits_tb, zbits_tb]
  by_cases h1 : i < n
  · have : i < m := by omega
    simp [h1, this]
  · by_cases h2 : i < m
    · simp [h1, h2, h i (by omega) h2]
    · simp [h1, h2]
theorem z_tb1 (x b : Nat) : x / 2 ^ b &&& 1 = (x.testBit b).toNat := by rw [z_and1, Nat.toNat_testBit]
theorem z_tb_lt {x n i : Nat} (h : x < 2 ^ n) (hi : n ≤ i) : x.testBit i = false := Nat.testBit_lt_two_pow (Nat.lt_of_lt_of_le h (Nat.pow_le_pow_right (by decide) hi))
/-! the field: one step of the reduction, all of it, the product -/
def zst (ov i P : Nat) : Nat := P ^^^ ((P.testBit i).toNat * ((2 ^ 128 + ov) * 2 ^ (i - 128)))
def zred (ov : Nat) : Nat → Nat → Nat
  | 0, P => P
  | n + 1, P => zred ov n (zst ov (128 + n) P)
def zxt (ov T : Nat) : Nat := zred ov 1 (2 * T)
def zx (ov H : Nat) : Nat → Nat
  | 0 => H
  | k + 1 => zxt ov (zx ov H k)
def zml (ov S H : Nat) : Nat → Nat
  | 0 => 0
  | k + 1 => zml ov S H k ^^^ (S.testBit k).toNat * zx ov H k
def zmP (S H : Nat) : Nat → Nat
  | 0 => 0
  | k + 1 => zmP S H k ^^^ (S.testBit k).toNat * (H * 2 ^ k)
theorem z_bxor (a b : Bool) (c : Nat) : (a ^^ b).toNat * c = a.toNat * c ^^^ b.toNat * c := by
  cases a <;> cases b <;> simp
theorem zst_xor (ov i a b : Nat) : zst ov i (a ^^^ b) = zst ov i a ^^^ zst ov i b := by
  unfold zst
  rw [Nat.testBit_xor, z_bxor]
  generalize (a.testBit i).toNat * ((2 ^ 128 + ov) * 2 ^ (i - 128)) = x
  generalize (b.testBit i).toNat * ((2 ^ 128 + ov) * 2 ^ (i - 128)) = y
  rw [Nat.xor_assoc, Nat.xor_assoc]
  congr 1
  rw [← Nat.xor_assoc, ← Nat.xor_assoc, Nat.xor_comm b x]
theorem zst_0 (ov i : Nat) : zst ov i 0 = 0 := by simp [zst]
theorem zred_xor (ov : Nat) : ∀ n a b, zred ov n (a ^^^ b) = zred ov n a ^^^ zred ov n b
  | 0, a, b => rfl
  | n + 1, a, b => by rw [zred, zst_xor, zred_xor ov n]; rfl
theorem zred_0 (ov : Nat) : ∀ n, zred ov n 0 = 0
  | 0 => rfl
  | n + 1 => by rw [zred, zst_0, zred_0 ov n]
theorem zst_skip {ov i P : Nat} (h : P.testBit i = false) : zst ov i P = P := by simp [zst, h]
theorem zst_lt {ov n P : Nat} (hov : ov < 2 ^ 128) (h : P < 2 ^ (128 + (n + 1))) : zst ov (128 + n) P < 2 ^ (128 + n) := by
  have hq : (2 ^ 128 + ov) * 2 ^ n < 2 ^ (128 + (n + 1)) := by
    have : 2 ^ (128 + (n + 1)) = 2 ^ 129 * 2 ^ n := by rw [← Nat.pow_add]; congr 1; omega
    rw [this]
    exact Nat.mul_lt_mul_of_pos_right (by omega) (Nat.two_pow_pos n)
  have hb : ((2 ^ 128 + ov) * 2 ^ n).testBit (128 + n) = true := by
    rw [Nat.testBit_mul_two_pow]
    have : 128 + n - n = 128 := by omega
    rw [this, Nat.testBit_two_pow_add_eq, z_tb_lt hov (Nat.le_refl _)]
    simp
  apply z_lt_tb
  intro i hi
  unfold zst
  rw [show 128 + n - 128 = n by omega, Nat.testBit_xor]
  cases hP : P.testBit (128 + n) with
  | false =>
    rw [Bool.toNat_false, Nat.zero_mul, Nat.zero_testBit, Bool.xor_false]
    by_cases h2 : i = 128 + n
    · rw [h2]; exact hP
    · exact z_tb_lt h (by omega)
  | true =>
    rw [Bool.toNat_true, Nat.one_mul]
    by_cases h2 : i = 128 + n
    · rw [h2, hP, hb]; rfl
    · rw [z_tb_lt h (by omega), z_tb_lt hq (by omega)]; rfl
theorem z_tb2 (v k : Nat) : (2 * v).testBit (k + 1) = v.testBit k := by rw [Nat.testBit_succ, Nat.mul_div_cancel_left _ (by decide : 0 < 2)]
theorem zst_two (ov n v : Nat) : zst ov (128 + (n + 1)) (2 * v) = 2 * zst ov (128 + n) v := by
  unfold zst
  have e : (2 * v).testBit (128 + (n + 1)) = v.testBit (128 + n) := by
    exact z_tb2 v (128 + n)
  rw [e, show 128 + (n + 1) - 128 = n + 1 by omega, show 128 + n - 128 = n by omega]
  cases v.testBit (128 + n) with
  | false => simp
  | true =>
    have e2 : ∀ q : Nat, q * 2 ^ (n + 1) = 2 * (q * 2 ^ n) := fun q => by rw [Nat.pow_succ, ← Nat.mul_assoc, Nat.mul_comm]
    rw [Bool.toNat_true, Nat.one_mul, Nat.one_mul, e2]
    apply Nat.eq_of_testBit_eq
    intro i
    rw [Nat.testBit_xor]
    cases i with
    | zero => simp
    | succ i => rw [z_tb2, z_tb2, z_tb2, Nat.testBit_xor]
theorem zred_two {ov : Nat} (hov : ov < 2 ^ 128) : ∀ n v, v < 2 ^ (128 + n) → zred ov (n + 1) (2 * v) = zred ov 1 (2 * zred ov n v)
  | 0, v, _ => rfl
  | n + 1, v, h => by
    have h1 : zst ov (128 + n) v < 2 ^ (128 + n) := zst_lt hov h
    show zred ov (n + 1) (zst ov (128 + (n + 1)) (2 * v)) = zred ov 1 (2 * zred ov n (zst ov (128 + n) v))
    rw [zst_two, zred_two hov n _ h1]
theorem zred_lt {ov : Nat} (hov : ov < 2 ^ 128) : ∀ n v, v < 2 ^ (128 + n) → zred ov n v < 2 ^ 128
  | 0, v, h => h
  | n + 1, v, h => zred_lt hov n _ (zst_lt hov h)
/-- steps above the number do nothing -/
theorem zred_up {ov : Nat} : ∀ n m v, v < 2 ^ (128 + n) → n ≤ m → zred ov m v = zred ov n v := by
  intro n m
  induction m with
  | zero => intro v _ h; have : n = 0 := by omega
            subst this; rfl
  | succ m ih =>
    intro v hv h
    by_cases e : n = m + 1
    · rw [e]
    · rw [zred, zst_skip (z_tb_lt hv (by omega))]
      exact ih v hv (by omega)
theorem zx_lt {ov H : Nat} (hov : ov < 2 ^ 128) (hH : H < 2 ^ 128) : ∀ k, zx ov H k < 2 ^ 128
  | 0 => hH
  | k + 1 => by
    have := zx_lt hov hH k
    exact zred_lt hov 1 _ (by rw [show 128 + 1 = 129 from rfl]; omega)
theorem zred_shift {ov H : Nat} (hov : ov < 2 ^ 128) (hH : H < 2 ^ 128) : ∀ k, zred ov k (H * 2 ^ k) = zx ov H k
  | 0 => by rw [Nat.pow_zero, Nat.mul_one]; rfl
  | k + 1 => by
    have hb : H * 2 ^ k < 2 ^ (128 + k) := by rw [Nat.pow_add]; exact Nat.mul_lt_mul_of_pos_right hH (Nat.two_pow_pos k)
    rw [show H * 2 ^ (k + 1) = 2 * (H * 2 ^ k) by rw [Nat.pow_succ, ← Nat.mul_assoc, Nat.mul_comm], zred_two hov k _ hb, zred_shift hov hH k]
    rfl
theorem zred_sh128 {ov H : Nat} (hov : ov < 2 ^ 128) (hH : H < 2 ^ 128) {k : Nat} (hk : k ≤ 128) : zred ov 128 (H * 2 ^ k) = zx ov H k := by
  have hb : H * 2 ^ k < 2 ^ (128 + k) := by rw [Nat.pow_add]; exact Nat.mul_lt_mul_of_pos_right hH (Nat.two_pow_pos k)
  rw [zred_up k 128 _ hb hk, zred_shift hov hH]
theorem zred_mP {ov H : Nat} (S : Nat) (hov : ov < 2 ^ 128) (hH : H < 2 ^ 128) : ∀ k, k ≤ 128 → zred ov 128 (zmP S H k) = zml ov S H k
  | 0, _ => zred_0 ov 128
  | k + 1, h => by
    rw [zmP, zred_xor, zred_mP S hov hH k (by omega), zml]
    congr 1
    cases S.testBit k with
    | false => rw [Bool.toNat_false, Nat.zero_mul, Nat.zero_mul, zred_0]
    | true => rw [Bool.toNat_true, Nat.one_mul, Nat.one_mul, zred_sh128 hov hH (by omega)]
theorem zml_lt {ov S H : Nat} (hov : ov < 2 ^ 128) (hH : H < 2 ^ 128) : ∀ k, zml ov S H k < 2 ^ 128
  | 0 => Nat.two_pow_pos 128
  | k + 1 => by
    rw [zml]
    apply Nat.xor_lt_two_pow (zml_lt hov hH k)
    cases S.testBit k with
    | false => rw [Bool.toNat_false, Nat.zero_mul]; decide
    | true => rw [Bool.toNat_true, Nat.one_mul]; exact zx_lt hov hH k
theorem zmP_skip {S H a : Nat} : ∀ b, a ≤ b → (∀ i, a ≤ i → i < b → S.testBit i = false) → zmP S H b = zmP S H a := by
  intro b
  induction b with
  | zero => intro h _; have : a = 0 := by omega
            subst this; rfl
  | succ b ih =>
    intro h hs
    by_cases e : a = b + 1
    · rw [e]
    · rw [zmP, hs b (by omega) (by omega), Bool.toNat_false, Nat.zero_mul, Nat.xor_zero]
      exact ih (by omega) (fun i h1 h2 => hs i h1 (by omega))
theorem zmP_on {S H k : Nat} (h : S.testBit k = true) : zmP S H (k + 1) = zmP S H k ^^^ H * 2 ^ k := by rw [zmP, h, Bool.toNat_true, Nat.one_mul]
def zmul (ov S H : Nat) : Nat := zml ov S H 128
/-- the two polynomials -/
def zovO : Nat := 135
def zovI : Nat := 2 ^ 64 * 13979173243358019584 + 1
def zbes : Nat := 2 ^ 64 * 10521534629444321280 + 1
theorem zovO_lt : zovO < 2 ^ 128 := by decide
theorem zovI_lt : zovI < 2 ^ 128 := by decide
/-- the inward key -/
theorem z_besides {ov H : Nat} (hov : ov < 2 ^ 128) (hH : H < 2 ^ 128) : zmul ov zbes H = zred ov 128 (((((0 ^^^ H * 2 ^ 127) ^^^ H * 2 ^ 124) ^^^ H * 2 ^ 121) ^^^ H * 2 ^ 114) ^^^ H * 2 ^ 0) := by
  have key : ∀ a b c d e : Nat, ((((0 ^^^ e) ^^^ d) ^^^ c) ^^^ b) ^^^ a = ((((0 ^^^ a) ^^^ b) ^^^ c) ^^^ d) ^^^ e := by
    intro a b c d e
    apply Nat.eq_of_testBit_eq
    intro i
    simp only [Nat.testBit_xor, Nat.zero_testBit]
    cases a.testBit i <;> cases b.testBit i <;> cases c.testBit i <;> cases d.testBit i <;> cases e.testBit i <;> rfl
  rw [zmul, ← zred_mP zbes hov hH 128 (Nat.le_refl _)]
  congr 1
  have off : ∀ i, i < 128 → (zbes.testBit i = false ∨ i = 0 ∨ i = 114 ∨ i = 121 ∨ i = 124 ∨ i = 127) := by decide +kernel
  rw [zmP_on (k := 127) (by decide +kernel), zmP_skip (a := 125) 127 (by omega) (fun i h1 h2 => (off i (by omega)).resolve_right (by omega)),
    zmP_on (k := 124) (by decide +kernel), zmP_skip (a := 122) 124 (by omega) (fun i h1 h2 => (off i (by omega)).resolve_right (by omega)),
    zmP_on (k := 121) (by decide +kernel), zmP_skip (a := 115) 121 (by omega) (fun i h1 h2 => (off i (by omega)).resolve_right (by omega)),
    zmP_on (k := 114) (by decide +kernel), zmP_skip (a := 1) 114 (by omega) (fun i h1 h2 => (off i (by omega)).resolve_right (by omega)),
    zmP_on (k := 0) (by decide +kernel), zmP]
  exact key (H * 2 ^ 127) (H * 2 ^ 124) (H * 2 ^ 121) (H * 2 ^ 114) (H * 2 ^ 0)
/-! a number in two longs -/
theorem z_jn_tb {h l : Nat} (hl : l < 2 ^ 64) (i : Nat) : (2 ^ 64 * h + l).testBit i = if i < 64 then l.testBit i else h.testBit (i - 64) := Nat.testBit_two_pow_mul_add h hl i
theorem z_jn_xor {a b c d : Nat} (hb : b < 2 ^ 64) (hd : d < 2 ^ 64) : (2 ^ 64 * a + b) ^^^ (2 ^ 64 * c + d) = 2 ^ 64 * (a ^^^ c) + (b ^^^ d) := by
  apply Nat.eq_of_testBit_eq
  intro i
  rw [Nat.testBit_xor, z_jn_tb hb, z_jn_tb hd, z_jn_tb (Nat.xor_lt_two_pow hb hd), Nat.testBit_xor, Nat.testBit_xor]
  split <;> rfl
/-- doubling: the high and the low half -/
def zth (th tl : Nat) : Nat := (2 * th + tl / 2 ^ 63) % 2 ^ 64
def ztl (tl : Nat) : Nat := 2 * tl % 2 ^ 64
theorem zxt_jn {oh ol th tl : Nat} (hoh : oh < 2 ^ 64) (hol : ol < 2 ^ 64) (h1 : th < 2 ^ 64) (h2 : tl < 2 ^ 64) :
    zxt (2 ^ 64 * oh + ol) (2 ^ 64 * th + tl) = if th < 2 ^ 63 then 2 ^ 64 * zth th tl + ztl tl else 2 ^ 64 * (zth th tl ^^^ oh) + (ztl tl ^^^ ol) := by
  have hz : ztl tl < 2 ^ 64 := Nat.mod_lt _ (by decide)
  show zst _ 128 (2 * (2 ^ 64 * th + tl)) = _
  unfold zst
  rw [show 128 - 128 = 0 from rfl, Nat.pow_zero, Nat.mul_one]
  by_cases h : th < 2 ^ 63
  · rw [if_pos h, z_tb_lt (n := 128) (by omega) (Nat.le_refl _), Bool.toNat_false, Nat.zero_mul, Nat.xor_zero]
    unfold zth ztl
    omega
  · rw [if_neg h]
    have e : 2 * (2 ^ 64 * th + tl) = 2 ^ 128 + (2 ^ 64 * zth th tl + ztl tl) := by unfold zth ztl; omega
    have hlt : 2 ^ 64 * zth th tl + ztl tl < 2 ^ 128 := by
      have : zth th tl < 2 ^ 64 := Nat.mod_lt _ (by decide)
      omega
    have hb : (2 * (2 ^ 64 * th + tl)).testBit 128 = true := by
      rw [e, Nat.testBit_two_pow_add_eq, z_tb_lt hlt (Nat.le_refl _)]; rfl
    rw [hb, Bool.toNat_true, Nat.one_mul, e, ← z_jn_xor hz hol]
    have h128 : ∀ x y : Nat, x < 2 ^ 128 → y < 2 ^ 128 → (2 ^ 128 + x) ^^^ (2 ^ 128 + y) = x ^^^ y := by
      intro x y hx hy
      apply Nat.eq_of_testBit_eq
      intro i
      have k1 := Nat.testBit_two_pow_mul_add 1 hx i
      have k2 := Nat.testBit_two_pow_mul_add 1 hy i
      rw [Nat.mul_one] at k1 k2
      rw [Nat.testBit_xor, Nat.testBit_xor, k1, k2]
      by_cases hi : i < 128
      · simp [hi]
      · rw [if_neg hi, if_neg hi, z_tb_lt hx (by omega), z_tb_lt hy (by omega), Bool.xor_self]; rfl
    exact h128 _ _ hlt (by omega)
/-! blocks as numbers, numbers as blocks -/
def zp (mr : Nat) (b : Nat → Nat) (fr len k : Nat) : Bool := decide (fr + k / 8 < len) && (b (fr + k / 8)).testBit (k % 8 ^^^ mr)
def zblk (mr : Nat) (b : Nat → Nat) (fr len : Nat) : Nat := zbits (zp mr b fr len) 128
theorem zblk_jn (mr : Nat) (b : Nat → Nat) (fr len : Nat) : 2 ^ 64 * zbits (zp mr b (fr + 8) len) 64 + zbits (zp mr b fr len) 64 = zblk mr b fr len := by
  apply Nat.eq_of_testBit_eq
  intro i
  rw [z_jn_tb (zbits_lt _ _), zblk, zbits_tb, zbits_tb, zbits_tb]
  by_cases h : i < 64
  · have h2 : i < 128 := by omega
    simp [h, h2]
  · rw [if_neg h]
    by_cases h2 : i < 128
    · have h3 : i - 64 < 64 := by omega
      have e1 : fr + 8 + (i - 64) / 8 = fr + i / 8 := by omega
      have e2 : (i - 64) % 8 = i % 8 := by omega
      simp [h2, h3, zp, e1, e2]
    · have h3 : ¬ i - 64 < 64 := by omega
      simp [h2, h3]
theorem zblk_lt (mr : Nat) (b : Nat → Nat) (fr len : Nat) : zblk mr b fr len < 2 ^ 128 := zbits_lt _ _
theorem zblk_cg {mr : Nat} {b b' : Nat → Nat} {fr len : Nat} (h : ∀ j, j < 16 → fr + j < len → b (fr + j) = b' (fr + j)) : zblk mr b fr len = zblk mr b' fr len := by
  apply zbits_cg
  intro i hi
  unfold zp
  by_cases h2 : fr + i / 8 < len
  · rw [h (i / 8) (by omega) h2]
  · simp [h2]
/-- the sum behind q blocks of a row -/
def zfr (mr ov H : Nat) (b : Nat → Nat) (len S : Nat) : Nat → Nat
  | 0 => S
  | q + 1 => zmul ov (zfr mr ov H b len S q ^^^ zblk mr b (16 * q) len) H
theorem zfr_lt {mr ov H : Nat} {b : Nat → Nat} {len S : Nat} (hov : ov < 2 ^ 128) (hH : H < 2 ^ 128) (hS : S < 2 ^ 128) : ∀ q, zfr mr ov H b len S q < 2 ^ 128
  | 0 => hS
  | q + 1 => zml_lt hov hH 128
theorem zfr_cg {mr ov H : Nat} {b b' : Nat → Nat} {len S : Nat} (h : ∀ j, j < len → b j = b' j) : ∀ q, zfr mr ov H b len S q = zfr mr ov H b' len S q
  | 0 => rfl
  | q + 1 => by rw [zfr, zfr, zfr_cg h q, zblk_cg (fun j _ hj => h _ hj)]
/-- byte m of a number -/
def zbyk (mr X m k : Nat) : Nat := zbits (fun t => decide (8 * m + (t ^^^ mr) < k) && X.testBit (8 * m + (t ^^^ mr))) 8
def zby (mr X m : Nat) : Nat := zbits (fun t => X.testBit (8 * m + (t ^^^ mr))) 8
def zmr (mr : Nat) : Prop := mr = 7 ∨ mr = 0
theorem zmr_lt {mr t : Nat} (h : zmr mr) (ht : t < 8) : t ^^^ mr < 8 := by
  rcases h with rfl | rfl
  · exact Nat.xor_lt_two_pow (n := 3) ht (by decide)
  · rw [Nat.xor_zero]; exact ht
theorem zmr_inv {mr : Nat} (t : Nat) : (t ^^^ mr) ^^^ mr = t := by rw [Nat.xor_assoc, Nat.xor_self, Nat.xor_zero]
theorem zbyk_0 (mr X m : Nat) : zbyk mr X m 0 = 0 := by
  apply Nat.eq_of_testBit_eq
  intro i
  rw [zbyk, zbits_tb]
  simp
theorem zbyk_end {mr X m k : Nat} (hm : zmr mr) (h : 8 * m + 8 ≤ k) : zbyk mr X m k = zby mr X m := by
  apply zbits_cg
  intro t ht
  have := zmr_lt hm ht
  have h2 : 8 * m + (t ^^^ mr) < k := by omega
  simp [h2]
theorem zbyk_at {mr X k : Nat} (hm : zmr mr) : zbyk mr X (k / 8) k ||| (X.testBit k).toNat * 2 ^ (k % 8 ^^^ mr) = zbyk mr X (k / 8) (k + 1) := by
  apply Nat.eq_of_testBit_eq
  intro t
  rw [Nat.testBit_or, z_tbm, zbyk, zbyk, zbits_tb, zbits_tb]
  have hk8 := zmr_lt hm (Nat.mod_lt k (by decide : 0 < 8))
  by_cases ht : t < 8
  · by_cases e : t = k % 8 ^^^ mr
    · subst e
      have e2 : 8 * (k / 8) + k % 8 = k := by omega
      simp [hk8, zmr_inv, e2]
    · have h1 := zmr_lt hm ht
      have h2 : t ^^^ mr ≠ k % 8 := fun q => e (by rw [← q, zmr_inv])
      have h3 : (8 * (k / 8) + (t ^^^ mr) < k) ↔ (8 * (k / 8) + (t ^^^ mr) < k + 1) := by omega
      simp [ht, e, h3]
  · have e : ¬ t = k % 8 ^^^ mr := by omega
    simp [ht, e]
theorem zbyk_ne {mr X k m : Nat} (hm : zmr mr) (h : m ≠ k / 8) : zbyk mr X m (k + 1) = zbyk mr X m k := by
  apply zbits_cg
  intro t ht
  have h1 := zmr_lt hm ht
  have h3 : (8 * m + (t ^^^ mr) < k + 1) ↔ (8 * m + (t ^^^ mr) < k) := by omega
  simp [h3]
theorem zbyk_lt (mr X m k : Nat) : zbyk mr X m k < 256 := zbits_lt _ 8
theorem zby_lt (mr X m : Nat) : zby mr X m < 256 := zbits_lt _ 8
theorem zby_jn {mr h l m : Nat} (hm : zmr mr) (hl : l < 2 ^ 64) : zby mr (2 ^ 64 * h + l) m = if m < 8 then zby mr l m else zby mr h (m - 8) := by
  have key : ∀ t, t < 8 → (2 ^ 64 * h + l).testBit (8 * m + (t ^^^ mr)) = if m < 8 then l.testBit (8 * m + (t ^^^ mr)) else h.testBit (8 * (m - 8) + (t ^^^ mr)) := by
    intro t ht
    have := zmr_lt hm ht
    rw [z_jn_tb hl]
    by_cases h8 : m < 8
    · rw [if_pos h8, if_pos (by omega)]
    · rw [if_neg h8, if_neg (by omega), show 8 * m + (t ^^^ mr) - 64 = 8 * (m - 8) + (t ^^^ mr) by omega]
  by_cases h8 : m < 8
  · rw [if_pos h8]
    exact zbits_cg (fun t ht => by rw [key t ht, if_pos h8])
  · rw [if_neg h8]
    exact zbits_cg (fun t ht => by rw [key t ht, if_neg h8])
