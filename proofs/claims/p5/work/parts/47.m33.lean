/-! ===== lN n to 2^64: shifts, and, or, masks, one bit ===== -/
theorem wb_tb (n : Nat) : (lN n).toBitVec = BitVec.ofNat 64 n := rfl
theorem wb_inj {a b : Int64} (h : a.toBitVec = b.toBitVec) : a = b := Int64.toBitVec_inj.mp h
theorem wb_tn {n : Nat} (h : n < 2 ^ 64) : (lN n).toBitVec.toNat = n := by rw [wb_tb, BitVec.toNat_ofNat, Nat.mod_eq_of_lt h]
theorem wb_of (x : Int64) : ∃ n, n < 2 ^ 64 ∧ x = lN n := ⟨x.toBitVec.toNat, x.toBitVec.isLt, wb_inj (by rw [wb_tb]; simp)⟩
theorem wb_of32 (x : Int32) : ∃ n, n < 2 ^ 32 ∧ x = nI n := ⟨x.toBitVec.toNat, x.toBitVec.isLt, Int32.toBitVec_inj.mp (by show _ = BitVec.ofNat 32 _; simp)⟩
theorem wb_c : ∀ k, k < 64 → ((nI k).toInt64 &&& 63) = lN k := by decide +kernel
theorem wb_cu : ∀ k, k < 64 → ((nI k).toInt64.toUInt64 &&& Int64.toUInt64 63) = UInt64.ofNat k := by decide +kernel
theorem wb_sm : ∀ k, k < 64 → (BitVec.ofNat 64 k).smod 64 = BitVec.ofNat 64 k := by decide +kernel
theorem wb_pw {a b : Nat} (h : a ≤ b) : 2 ^ b = 2 ^ a * 2 ^ (b - a) := by rw [← Nat.pow_add]; congr 1; omega
theorem wb_lt2 {a b : Nat} (h : a < b) : 2 ^ a < 2 ^ b := Nat.pow_lt_pow_right (by decide) h
theorem wb_mod (n : Nat) : lN n = lN (n % 2 ^ 64) := wb_inj (by rw [wb_tb, wb_tb]; apply BitVec.eq_of_toNat_eq; rw [BitVec.toNat_ofNat, BitVec.toNat_ofNat, Nat.mod_mod])
theorem wb_shr {n k : Nat} (hn : n < 2 ^ 64) (hk : k < 64) : ((lN n).toUInt64 >>> ((nI k).toInt64.toUInt64 &&& Int64.toUInt64 63)).toInt64 = lN (n / 2 ^ k) := by
  rw [wb_cu k hk]
  apply wb_inj
  apply BitVec.eq_of_toNat_eq
  show ((lN n).toUInt64 >>> UInt64.ofNat k).toNat = (BitVec.ofNat 64 _).toNat
  have h1 : (UInt64.ofNat k).toNat = k := by
    show (BitVec.ofNat 64 k).toNat = k
    rw [BitVec.toNat_ofNat, Nat.mod_eq_of_lt (by omega)]
  have h2 : (lN n).toUInt64.toNat = n := wb_tn hn
  rw [UInt64.toNat_shiftRight, h1, h2, Nat.mod_eq_of_lt hk, Nat.shiftRight_eq_div_pow, BitVec.toNat_ofNat, Nat.mod_eq_of_lt (Nat.lt_of_le_of_lt (Nat.div_le_self _ _) hn)]
theorem wb_shl (n : Nat) {k : Nat} (hk : k < 64) : lN n <<< ((nI k).toInt64 &&& 63) = lN (n * 2 ^ k) := by
  rw [wb_c k hk]
  apply wb_inj
  rw [Int64.toBitVec_shiftLeft, wb_tb, wb_tb, wb_tb, wb_sm k hk]
  apply BitVec.eq_of_toNat_eq
  rw [BitVec.shiftLeft_eq', BitVec.toNat_shiftLeft, BitVec.toNat_ofNat, BitVec.toNat_ofNat, BitVec.toNat_ofNat, Nat.mod_eq_of_lt (show k < 2 ^ 64 by omega), Nat.shiftLeft_eq, Nat.mul_mod, Nat.mod_mod, ← Nat.mul_mod]
theorem wb_and {a b : Nat} (ha : a < 2 ^ 64) (hb : b < 2 ^ 64) : lN a &&& lN b = lN (a &&& b) := by
  apply wb_inj
  rw [Int64.toBitVec_and, wb_tb, wb_tb, wb_tb]
  apply BitVec.eq_of_toNat_eq
  rw [BitVec.toNat_and, BitVec.toNat_ofNat, BitVec.toNat_ofNat, BitVec.toNat_ofNat, Nat.mod_eq_of_lt ha, Nat.mod_eq_of_lt hb, Nat.mod_eq_of_lt (Nat.and_lt_two_pow _ hb)]
theorem wb_or {a b : Nat} (ha : a < 2 ^ 64) (hb : b < 2 ^ 64) : lN a ||| lN b = lN (a ||| b) := by
  apply wb_inj
  rw [Int64.toBitVec_or, wb_tb, wb_tb, wb_tb]
  apply BitVec.eq_of_toNat_eq
  rw [BitVec.toNat_or, BitVec.toNat_ofNat, BitVec.toNat_ofNat, BitVec.toNat_ofNat, Nat.mod_eq_of_lt ha, Nat.mod_eq_of_lt hb, Nat.mod_eq_of_lt (Nat.or_lt_two_pow ha hb)]
theorem wb_mask {n k : Nat} (hn : n < 2 ^ 64) (hk : k < 64) : lN n &&& lN (2 ^ k - 1) = lN (n % 2 ^ k) := by
  rw [wb_and hn (by have := wb_lt2 hk; omega), Nat.and_two_pow_sub_one_eq_mod]
theorem wb_a1 {n : Nat} (hn : n < 2 ^ 64) : lN n &&& 1 = lN (n % 2) := wb_mask (k := 1) hn (by decide)
theorem wb_bit {n k : Nat} (hn : n < 2 ^ 64) (hk : k < 64) : ((lN n).toUInt64 >>> ((nI k).toInt64.toUInt64 &&& Int64.toUInt64 63)).toInt64 &&& 1 = lN (n / 2 ^ k % 2) := by
  rw [wb_shr hn hk, wb_a1 (Nat.lt_of_le_of_lt (Nat.div_le_self _ _) hn)]
theorem wb_xor {q k : Nat} (hk : k < 63) (h : 2 ^ k ≤ q) (h2 : q < 2 ^ (k + 1)) : lN q ^^^ lN (2 ^ k) = lN (q - 2 ^ k) := by
  obtain ⟨r, rfl⟩ : ∃ r, q = 2 ^ k + r := ⟨q - 2 ^ k, by omega⟩
  have hr : r < 2 ^ k := by rw [Nat.pow_succ] at h2; omega
  have hx : (2 ^ k + r) ^^^ 2 ^ k = r := by
    apply Nat.eq_of_testBit_eq
    intro i
    rw [Nat.testBit_xor, Nat.testBit_two_pow]
    rcases Nat.lt_trichotomy i k with h | h | h
    · rw [Nat.testBit_two_pow_add_gt h]
      simp [show ¬ k = i by omega]
    · subst h
      rw [Nat.testBit_two_pow_add_eq]
      simp
    · have a1 : 2 ^ (k + 1) ≤ 2 ^ i := Nat.pow_le_pow_right (by decide) h
      rw [Nat.testBit_lt_two_pow (show 2 ^ k + r < 2 ^ i by omega), Nat.testBit_lt_two_pow (show r < 2 ^ i by omega)]
      simp [show ¬ k = i by omega]
  have b1 := wb_lt2 (show k + 1 < 64 by omega)
  have b2 := wb_lt2 (show k < 64 by omega)
  apply wb_inj
  rw [Int64.toBitVec_xor, wb_tb, wb_tb, wb_tb]
  apply BitVec.eq_of_toNat_eq
  rw [BitVec.toNat_xor, BitVec.toNat_ofNat, BitVec.toNat_ofNat, BitVec.toNat_ofNat, Nat.mod_eq_of_lt (by omega : 2 ^ k + r < 2 ^ 64), Nat.mod_eq_of_lt b2, hx, Nat.add_sub_cancel_left, Nat.mod_eq_of_lt (by omega)]
/-! ===== lN: masks, 'or' of parts that don't overlap is a sum ===== -/
theorem u_tn {n : Nat} (h : n < 2 ^ 64) : (UInt64.ofNat n).toNat = n := Nat.mod_eq_of_lt h
theorem g_and {a b c : Nat} (ha : a < 2 ^ 64) (hb : b < 2 ^ 64) (hc : a &&& b = c) : lN a &&& lN b = lN c := by
  subst hc
  have h : UInt64.ofNat a &&& UInt64.ofNat b = UInt64.ofNat (a &&& b) := UInt64.toNat_inj.mp (by rw [UInt64.toNat_and, u_tn ha, u_tn hb, u_tn (Nat.and_lt_two_pow a hb)])
  have h2 := congrArg UInt64.toInt64 h
  exact h2
theorem g_and1 {a : Nat} (ha : a < 2 ^ 64) : lN a &&& 1 = lN (a % 2) := g_and (b := 1) ha (by decide) (Nat.and_two_pow_sub_one_eq_mod a 1)
theorem g_mask {a s p : Nat} (hp : 2 ^ s = p) (hs : s < 64) (ha : a < 2 ^ 64) : lN a &&& lN (p - 1) = lN (a % p) := by
  subst hp
  have := Nat.pow_lt_pow_right (show 1 < 2 by decide) hs
  exact g_and ha (by omega) (Nat.and_two_pow_sub_one_eq_mod a s)
theorem g_or {k p a b : Nat} (hp : 2 ^ k = p) (ha : a < p) (h : b * p + a < 2 ^ 64) : lN (b * p) ||| lN a = lN (b * p + a) := by
  subst hp
  have h1 : b * 2 ^ k ||| a = b * 2 ^ k + a := by rw [← Nat.shiftLeft_eq, Nat.shiftLeft_add_eq_or_of_lt ha]
  have h3 : UInt64.ofNat (b * 2 ^ k) ||| UInt64.ofNat a = UInt64.ofNat (b * 2 ^ k + a) := UInt64.toNat_inj.mp (by rw [UInt64.toNat_or, u_tn (by omega), u_tn (by omega), u_tn h, h1])
  have h2 := congrArg UInt64.toInt64 h3
  exact h2
theorem g_or' {k p a b : Nat} (hp : 2 ^ k = p) (ha : a < p) (h : a + b * p < 2 ^ 64) : lN a ||| lN (b * p) = lN (a + b * p) := by
  rw [Int64.or_comm, g_or hp ha (by omega), Nat.add_comm]
theorem g_ushr {a k p : Nat} {y : UInt64} (hy : y = UInt64.ofNat k) (hk : k < 64) (hp : 2 ^ k = p) (ha : a < 2 ^ 64) : ((lN a).toUInt64 >>> y).toInt64 = lN (a / p) := by
  subst hy hp
  have h : UInt64.ofNat a >>> UInt64.ofNat k = UInt64.ofNat (a / 2 ^ k) := UInt64.toNat_inj.mp (by rw [UInt64.toNat_shiftRight, u_tn ha, u_tn (by omega), u_tn (Nat.lt_of_le_of_lt (Nat.div_le_self _ _) ha), Nat.mod_eq_of_lt hk, Nat.shiftRight_eq_div_pow])
  have h2 := congrArg UInt64.toInt64 h
  exact h2
theorem g_shl {a k p : Nat} {y : Int64} (hy : y.toBitVec.smod 64 = BitVec.ofNat 64 k) (hk : k < 64) (hp : 2 ^ k = p) (ha : a < 2 ^ 64) : lN a <<< y = lN (a * p) := by
  subst hp
  apply Int64.toBitVec_inj.mp
  rw [Int64.toBitVec_shiftLeft, hy]
  apply BitVec.eq_of_toNat_eq
  have hb : (lN a).toBitVec.toNat = a := Nat.mod_eq_of_lt ha
  have hk' : (BitVec.ofNat 64 k).toNat = k := Nat.mod_eq_of_lt (by omega)
  have h : ((lN a).toBitVec <<< BitVec.ofNat 64 k).toNat = (a * 2 ^ k) % 2 ^ 64 := by simp only [BitVec.shiftLeft_eq', BitVec.toNat_shiftLeft, hb, hk', Nat.shiftLeft_eq]
  exact h
/-! the class's tokens, by the spec -/
def sgb (c : Nat) : Int32 := (nI c).toInt8.toInt32
theorem sg_a : ∀ c, c < 256 → ((sgb c < 97 ↔ (c < 97 ∨ 128 ≤ c)) ∧ (122 < sgb c ↔ (122 < c ∧ c < 128)) ∧ (sgb c ≤ 122 ↔ ¬ (122 < c ∧ c < 128))) := by decide +kernel
theorem sg_d : ∀ c, c < 256 → ((sgb c < 48 ↔ (c < 48 ∨ 128 ≤ c)) ∧ (57 < sgb c ↔ (57 < c ∧ c < 128))) := by decide +kernel
theorem sg_e : ∀ c, c < 256 → ((sgb c = 32 ↔ c = 32) ∧ (sgb c = 10 ↔ c = 10) ∧ (sgb c = 59 ↔ c = 59) ∧ (sgb c = 60 ↔ c = 60) ∧ (sgb c = 61 ↔ c = 61) ∧ (sgb c = 62 ↔ c = 62) ∧ (sgb c = 40 ↔ c = 40) ∧ (sgb c = 41 ↔ c = 41)) := by decide +kernel
theorem sg_s : ∀ c, c < 128 → sgb c = nI c := by decide +kernel
/-- the class's text -/
def CX (o : OS) (T : Nat → Nat) (n lim : Nat) : Prop := n ≤ 940 ∧ lim ≤ 940 ∧ o.1 2 = nI n ∧ o.1 3 = nI (tStop n lim) ∧ o.1 4 = (if lim < n then 1 else 0) ∧ (∀ k, k < n → o.2.2.1 0 k = sgb (T k)) ∧ (∀ k, T k < 256) ∧ ∀ k, k < 28 → o.2.2.2 1 k = lN (KW.getD k 0)
theorem CX.sI {o : OS} {T : Nat → Nat} {n lim k : Nat} {v : Int32} (h : CX o T n lim) (h2 : k ≠ 2) (h3 : k ≠ 3) (h4 : k ≠ 4) : CX (sI o k v) T n lim :=
  ⟨h.1, h.2.1, by rw [sI_ne h2.symm]; exact h.2.2.1, by rw [sI_ne h3.symm]; exact h.2.2.2.1, by rw [sI_ne h4.symm]; exact h.2.2.2.2.1, h.2.2.2.2.2.1, h.2.2.2.2.2.2.1, h.2.2.2.2.2.2.2⟩
theorem CX.sL {o : OS} {T : Nat → Nat} {n lim k : Nat} {v : Int64} (h : CX o T n lim) : CX (sL o k v) T n lim := h
theorem tStop_le {n lim : Nat} : tStop n lim ≤ n ∧ tStop n lim ≤ lim := by
  unfold tStop
  by_cases e : lim < n
  · rw [if_pos e]; exact ⟨by omega, Nat.le_refl _⟩
  · rw [if_neg e]; exact ⟨Nat.le_refl _, by omega⟩
/-- what the reading of a token leaves as it was -/
def CS (o o' : OS) : Prop := (∀ k, k ≠ 5 → k ≠ 6 → k ≠ 7 → k ≠ 9 → o'.1 k = o.1 k) ∧ o'.2.2 = o.2.2
theorem CS.rf {o : OS} : CS o o := ⟨fun _ _ _ _ _ => rfl, rfl⟩
theorem CS.tr {o o1 o2 : OS} (h : CS o o1) (h2 : CS o1 o2) : CS o o2 := ⟨fun k a b c d => (h2.1 k a b c d).trans (h.1 k a b c d), h2.2.trans h.2⟩
theorem CS.i {o o1 : OS} {k : Nat} {v : Int32} (h : CS o o1) (hk : k = 5 ∨ k = 6 ∨ k = 7 ∨ k = 9) : CS o (sI o1 k v) := ⟨fun j a b c d => by rw [sI_ne (by omega)]; exact h.1 j a b c d, h.2⟩
theorem CS.l {o o1 : OS} {k : Nat} {v : Int64} (h : CS o o1) : CS o (sL o1 k v) := ⟨h.1, h.2⟩
/-- the class's token at p, no fault yet; kind 0 also where the text is too long -/
def kc (T : Nat → Nat) (n lim p : Nat) : Nat := if tStop n lim ≤ tB0 T (tStop n lim) p then 0 else tK T n lim p
def CT (o : OS) (T : Nat → Nat) (n lim p : Nat) : Prop := CX o T n lim ∧ o.1 5 = nI (tB T n lim p) ∧ o.1 7 = nI (kc T n lim p) ∧ (tB T n lim p < tStop n lim → o.1 6 = nI (tA T n lim p)) ∧ ((tK T n lim p = 2 ∨ 128 ≤ tK T n lim p) → o.2.1 8 = lN (tW T n lim p)) ∧ (tK T n lim p = 3 → o.1 9 = nI (tNu T n lim p))
theorem isB_ {c : Nat} (hc : c < 256) : f_X7_isBlank__1 (sgb c) = if tBl c then 1 else 0 := by
  obtain ⟨e1, e2, -⟩ := sg_e c hc
  unfold f_X7_isBlank__1
  by_cases h1 : c = 32
  · rw [if_pos (e1.mpr h1), if_pos (Or.inl h1)]
  · rw [if_neg (fun q => h1 (e1.mp q))]
    by_cases h2 : c = 10
    · rw [if_pos (e2.mpr h2), if_pos (Or.inr h2)]
    · rw [if_neg (fun q => h2 (e2.mp q)), if_neg (fun q => q.elim h1 h2)]
theorem isS_ {c : Nat} (hc : c < 256) : f_X7_isSign__1 (sgb c) = if tSg c then 1 else 0 := by
  obtain ⟨-, -, e1, e2, e3, e4, e5, e6⟩ := sg_e c hc
  unfold f_X7_isSign__1
  by_cases h1 : c = 59
  · rw [if_pos (e1.mpr h1), if_pos (Or.inl h1)]
  rw [if_neg (fun q => h1 (e1.mp q))]
  by_cases h2 : c = 60
  · rw [if_pos (e2.mpr h2), if_pos (Or.inr (Or.inl h2))]
  rw [if_neg (fun q => h2 (e2.mp q))]
  by_cases h3 : c = 61
  · rw [if_pos (e3.mpr h3), if_pos (Or.inr (Or.inr (Or.inl h3)))]
  rw [if_neg (fun q => h3 (e3.mp q))]
  by_cases h4 : c = 62
  · rw [if_pos (e4.mpr h4), if_pos (Or.inr (Or.inr (Or.inr (Or.inl h4))))]
  rw [if_neg (fun q => h4 (e4.mp q))]
  by_cases h5 : c = 40
  · rw [if_pos (e5.mpr h5), if_pos (Or.inr (Or.inr (Or.inr (Or.inr (Or.inl h5)))))]
  rw [if_neg (fun q => h5 (e5.mp q))]
  by_cases h6 : c = 41
  · rw [if_pos (e6.mpr h6), if_pos (Or.inr (Or.inr (Or.inr (Or.inr (Or.inr h6)))))]
  rw [if_neg (fun q => h6 (e6.mp q)), if_neg (by omega)]
theorem ps_blank {T : Nat → Nat} {n lim : Nat} : ∀ (f : Nat) (o : OS) (p : Nat), CX o T n lim → o.1 5 = nI p → p ≤ 940 → tStop n lim - p < f → f_X7_pass__5_16 f o = f_X7_pass__5_55 (sI o 5 (nI (tB0 T (tStop n lim) p))) := by
  intro f
  induction f with
  | zero => intro o p _ _ _ h; omega
  | succ f ih =>
    intro o p hX hp hn hf
    have h3 := hX.2.2.2.1
    have hb := hX.2.2.2.2.2.2.1 p
    have hn9 := hX.1
    have hs := tStop_le (n := n) (lim := lim)
    rw [f_X7_pass__5_16, h3, hp, nI_clamp (by omega)]
    by_cases e : tStop n lim ≤ p
    · rw [if_pos (nI_le e (by omega)), tB0_ge e, sI_self hp]
    · rw [if_neg (nI_ge (by omega) (by omega)), hX.2.2.2.2.2.1 p (by omega), isB_ hb]
      by_cases e1 : tBl (T p)
      · rw [if_pos e1, if_neg one0, nI_1, ih _ (p + 1) (hX.sI (by decide) (by decide) (by decide)) sI_get (by omega) (by omega), sI_sI, ← tB0_bl (by omega) e1]
      · rw [if_neg e1, if_pos rfl, tB0_no (by omega) e1, sI_self hp]
/-- the class within a run that begins at b, k of it read -/
def CL (o : OS) (T : Nat → Nat) (n lim b k : Nat) (x1 x2 : Int32) (x3 : Int64) (x5 : Int32) : Prop := CX o T n lim ∧ o.1 5 = nI b ∧ o.1 6 = nI (b + k) ∧ b + k ≤ n ∧ tE T n (b + k) = tE T n b ∧ x1 = nI (nLt T b k) ∧ x2 = nI (nDg T b k) ∧ nLt T b k + nDg T b k = k ∧ (nDg T b k = 0 → k ≤ 7 → x3 = lN (tF 256 0 T b k)) ∧ (nLt T b k = 0 → k ≤ 3 → x5 = nI (tF 10 48 T b k))
theorem tF256 {T : Nat → Nat} {b : Nat} (hT : ∀ k, T k < 256) : ∀ k, tF 256 0 T b k < 256 ^ k := by
  intro k
  induction k with
  | zero => show (0 : Nat) < 1; decide
  | succ k ih =>
    show 256 * tF 256 0 T b k + (T (b + k) - 0) < 256 ^ (k + 1)
    have q := hT (b + k)
    rw [Nat.pow_succ]
    omega
theorem wd_step {w c : Nat} (hw : w < 256 ^ 6) (hc : c < 128) : (lN w <<< (Int32.toInt64 (8 : Int32) &&& 63)) ||| (Int32.toInt64 (nI c)) = lN (256 * w + c) := by
  have e1 : lN w <<< (Int32.toInt64 (8 : Int32) &&& 63) = lN (w * 2 ^ 8) := wb_shl w (k := 8) (by decide)
  have s : (256 : Nat) ^ 6 = 281474976710656 := by decide
  have s2 : (2 : Nat) ^ 64 = 18446744073709551616 := by decide
  rw [e1, nI_l (by omega)]
  have q := g_or (k := 8) (p := 2 ^ 8) (a := c) (b := w) rfl (by omega) (by omega)
  rw [q, show w * 2 ^ 8 + c = 256 * w + c by omega]
theorem nLt_s {T : Nat → Nat} {b k : Nat} (h : tLt (T (b + k))) : nLt T b (k + 1) = nLt T b k + 1 ∧ nDg T b (k + 1) = nDg T b k := by
  refine ⟨?_, ?_⟩
  · show nLt T b k + (if tLt (T (b + k)) then 1 else 0) = _
    rw [if_pos h]
  · show nDg T b k + (if tDg (T (b + k)) then 1 else 0) = _
    rw [if_neg (ltdg h)]
    rfl
theorem nDg_s {T : Nat → Nat} {b k : Nat} (h : tDg (T (b + k))) : nDg T b (k + 1) = nDg T b k + 1 ∧ nLt T b (k + 1) = nLt T b k := by
  refine ⟨?_, ?_⟩
  · show nDg T b k + (if tDg (T (b + k)) then 1 else 0) = _
    rw [if_pos h]
  · show nLt T b k + (if tLt (T (b + k)) then 1 else 0) = _
    rw [if_neg (fun q => ltdg q h)]
    rfl
theorem cr_ {T : Nat → Nat} {n lim b : Nat} : ∀ (f : Nat) (o : OS) (k : Nat) (x1 x2 : Int32) (x3 : Int64) (x5 : Int32), CL o T n lim b k x1 x2 x3 x5 → n - (b + k) + 1 < f → ∃ (o' : OS) (y1 y2 : Int32) (y3 : Int64) (y5 y6 : Int32), f_X7_readRun__1_12 f x1 x2 x3 x5 1 o = f_X7_readRun__1_127 y1 y2 y3 y5 y6 o' ∧ CL o' T n lim b (tE T n b - b) y1 y2 y3 y5 ∧ CS o o' := by
  intro f
  induction f with
  | zero => intro o k x1 x2 x3 x5 _ h; omega
  | succ f ih =>
    intro o k x1 x2 x3 x5 h hf
    have h9 := h
    obtain ⟨hX, h5, h6, hn, hE, e1, e2, es, ew, ev⟩ := h
    have hn9 := hX.1
    have hcb := hX.2.2.2.2.2.2.1 (b + k)
    rw [f_X7_readRun__1_12, if_neg (show ¬ ((1 : Int32) = 0) by decide), hX.2.2.1, h6]
    by_cases hk : b + k < n
    · rw [if_neg (nI_ge hk (by omega)), nI_clamp (by omega), hX.2.2.2.2.2.1 (b + k) hk]
      obtain ⟨a1, a2, -⟩ := sg_a (T (b + k)) hcb
      obtain ⟨d1, d2⟩ := sg_d (T (b + k)) hcb
      by_cases hl : tLt (T (b + k))
      · rw [if_neg (fun q => by have := a1.mp q; omega), if_neg (fun q => by have := a2.mp q; omega), nI_1]
        obtain ⟨s1, s2⟩ := nLt_s hl
        have cl : CL (sI o 6 (nI (b + k + 1))) T n lim b (k + 1) (x1 + 1) x2 ((x3 <<< (Int32.toInt64 (8 : Int32) &&& 63)) ||| (Int32.toInt64 (sgb (T (b + k))))) x5 := by
          refine ⟨hX.sI (by decide) (by decide) (by decide), by rw [sI_ne (by decide)]; exact h5, sI_get, by omega, by rw [← hE, tE_in hk (Or.inl hl)]; rfl, by rw [s1, e1, nI_1], by rw [s2]; exact e2, by omega, fun z z7 => ?_, fun z _ => ?_⟩
          · rw [s2] at z
            have b6 : tF 256 0 T b k < 256 ^ 6 := Nat.lt_of_lt_of_le (tF256 hX.2.2.2.2.2.2.1 k) (Nat.pow_le_pow_right (by decide) (by omega))
            rw [ew z (by omega), sg_s _ (by omega), wd_step b6 (by omega)]
            rfl
          · rw [s1] at z; omega
        obtain ⟨o', y1, y2, y3, y5, y6, q1, q2, q3⟩ := ih _ (k + 1) _ _ _ _ cl (by omega)
        exact ⟨o', y1, y2, y3, y5, y6, q1, q2, (CS.i CS.rf (by omega)).tr q3⟩
      · have to78 : (if sgb (T (b + k)) < (97 : Int32) then f_X7_readRun__1_78 (f_X7_readRun__1_12 f) x1 x2 x3 x5 1 (sgb (T (b + k))) o else if (122 : Int32) < sgb (T (b + k)) then f_X7_readRun__1_78 (f_X7_readRun__1_12 f) x1 x2 x3 x5 1 (sgb (T (b + k))) o else f_X7_readRun__1_12 f (x1 + 1) x2 ((x3 <<< (Int32.toInt64 (8 : Int32) &&& 63)) ||| (Int32.toInt64 (sgb (T (b + k))))) x5 1 (sI o 6 (nI (b + k) + 1))) = f_X7_readRun__1_78 (f_X7_readRun__1_12 f) x1 x2 x3 x5 1 (sgb (T (b + k))) o := by
          by_cases z1 : sgb (T (b + k)) < (97 : Int32)
          · rw [if_pos z1]
          · rw [if_neg z1]
            have z2 : (122 : Int32) < sgb (T (b + k)) := a2.mpr (by
              have z3 : ¬ (T (b + k) < 97 ∨ 128 ≤ T (b + k)) := fun q => z1 (a1.mpr q)
              omega)
            rw [if_pos z2]
        rw [to78]
        unfold f_X7_readRun__1_78 f_X7_readRun__1_121
        by_cases hd : tDg (T (b + k))
        · rw [if_neg (fun q => by have := d1.mp q; omega), if_neg (fun q => by have := d2.mp q; omega), h6, nI_1]
          obtain ⟨s1, s2⟩ := nDg_s hd
          have cl : CL (sI o 6 (nI (b + k + 1))) T n lim b (k + 1) x1 (x2 + 1) x3 (x5 * (10 : Int32) + (sgb (T (b + k)) - (48 : Int32))) := by
            refine ⟨hX.sI (by decide) (by decide) (by decide), by rw [sI_ne (by decide)]; exact h5, sI_get, by omega, by rw [← hE, tE_in hk (Or.inr hd)]; rfl, by rw [s2]; exact e1, by rw [s1, e2, nI_1], by omega, fun z _ => ?_, fun z z3 => ?_⟩
            · rw [s1] at z; omega
            · rw [s2] at z
              rw [ev z (by omega), sg_s _ (by omega)]
              show nI _ * nI 10 + (nI _ - nI 48) = nI (10 * tF 10 48 T b k + (T (b + k) - 48))
              rw [pk_mul, pk_sub (by omega), nI_add, Nat.mul_comm]
          obtain ⟨o', y1, y2, y3, y5, y6, q1, q2, q3⟩ := ih _ (k + 1) _ _ _ _ cl (by omega)
          exact ⟨o', y1, y2, y3, y5, y6, q1, q2, (CS.i CS.rf (by omega)).tr q3⟩
        · have ex : (if sgb (T (b + k)) < (48 : Int32) then f_X7_readRun__1_12 f x1 x2 x3 x5 0 o else if (57 : Int32) < sgb (T (b + k)) then f_X7_readRun__1_12 f x1 x2 x3 x5 0 o else f_X7_readRun__1_12 f x1 (x2 + 1) x3 (x5 * (10 : Int32) + (sgb (T (b + k)) - (48 : Int32))) 1 (sI o 6 (o.1 6 + 1))) = f_X7_readRun__1_12 f x1 x2 x3 x5 0 o := by
            by_cases z1 : sgb (T (b + k)) < (48 : Int32)
            · rw [if_pos z1]
            · rw [if_neg z1]
              have z2 : (57 : Int32) < sgb (T (b + k)) := d2.mpr (by
                have z3 : ¬ (T (b + k) < 48 ∨ 128 ≤ T (b + k)) := fun q => z1 (d1.mpr q)
                omega)
              rw [if_pos z2]
          rw [ex]
          obtain ⟨g, rfl⟩ : ∃ g, f = g + 1 := ⟨f - 1, by omega⟩
          rw [f_X7_readRun__1_12, if_pos rfl]
          have hL : tE T n b - b = k := by
            rw [← hE, tE_no hk (fun q => q.elim hl hd)]
            omega
          exact ⟨o, x1, x2, x3, x5, 0, rfl, by rw [hL]; exact h9, CS.rf⟩
    · rw [if_pos (nI_le (by omega) (by omega))]
      have hL : tE T n b - b = k := by
        rw [← hE, tE_ge (by omega)]
        omega
      exact ⟨o, x1, x2, x3, x5, 1, rfl, by rw [hL]; exact h9, CS.rf⟩
theorem kw_no {x1 x2 x5 x6 : Int32} {W : Nat} (hW : W < 2 ^ 63) : ∀ (f k : Nat) (o : OS), k ≤ 28 → 28 - k < f → (∀ j, j < 28 → o.2.2.2 1 j = lN (KW.getD j 0)) → (∀ j, k ≤ j → j < 28 → KW.getD j 0 ≠ W) → f_X7_readRun__1_178 f x1 x2 (lN W) x5 x6 (nI k) o = o := by
  intro f
  induction f with
  | zero => intro k o _ h; omega
  | succ f ih =>
    intro k o hk hf hw hn
    rw [f_X7_readRun__1_178]
    by_cases e : 28 ≤ k
    · rw [if_pos (show (28 : Int32) ≤ nI k from nI_le (a := 28) e (by omega))]
    · rw [if_neg (show ¬ (28 : Int32) ≤ nI k from nI_ge (b := 28) (by omega) (by decide)), nI_clamp (by omega), hw k (by omega)]
      obtain ⟨q1, q2⟩ := kwLC k (by omega)
      rw [if_neg (fun q => hn k (Nat.le_refl _) (by omega) ((pk_lEQ (LC.w63 q1 q2) hW).mp (lc0.mp q))), nI_1]
      exact ih (k + 1) o (by omega) (by omega) hw (fun j h1 h2 => hn j (by omega) h2)
theorem kw_at {x1 x2 x5 x6 : Int32} {W j : Nat} (hW : W < 2 ^ 63) (hj : j < 28) (ej : KW.getD j 0 = W) : ∀ (f k : Nat) (o : OS), k ≤ j → 28 - k < f → (∀ j, j < 28 → o.2.2.2 1 j = lN (KW.getD j 0)) → f_X7_readRun__1_178 f x1 x2 (lN W) x5 x6 (nI k) o = sI o 7 (nI (128 + j)) := by
  intro f
  induction f with
  | zero => intro k o _ h; omega
  | succ f ih =>
    intro k o hk hf hw
    obtain ⟨q1, q2⟩ := kwLC k (by omega)
    have c : lg_cmp (lN (KW.getD k 0)) (lN W) = 0 ↔ KW.getD k 0 = W := by rw [lc0, pk_lEQ (LC.w63 q1 q2) hW]
    rw [f_X7_readRun__1_178, if_neg (show ¬ (28 : Int32) ≤ nI k from nI_ge (b := 28) (by omega) (by decide)), nI_clamp (by omega), hw k (by omega)]
    by_cases e : k = j
    · subst e
      rw [if_pos (c.mpr ej), nI_1]
      have ea : (128 : Int32) + nI k = nI (128 + k) := nI_add 128 k
      rw [ea]
      exact kw_no hW f (k + 1) _ (by omega) (by omega) hw (fun i h1 h2 h3 => by
        have := kw_nodup i h2 k hj (h3.trans ej.symm)
        omega)
    · rw [if_neg (fun q => e (kw_nodup k (by omega) j hj ((c.mp q).trans ej.symm))), nI_1]
      exact ih (k + 1) o (by omega) (by omega) hw
/-- the kind that a word gets -/
theorem kw_ {x1 x2 x5 x6 : Int32} {W : Nat} {o : OS} (hW : W < 2 ^ 63) (hw : ∀ j, j < 28 → o.2.2.2 1 j = lN (KW.getD j 0)) (h7 : o.1 7 = 2) : f_X7_readRun__1_178 4294967298 x1 x2 (lN W) x5 x6 (0 : Int32) o = sI o 7 (nI (tKw W)) := by
  by_cases e : ∃ j, j < 28 ∧ KW.getD j 0 = W
  · obtain ⟨j, hj, ej⟩ := e
    have q := kw_at (x1 := x1) (x2 := x2) (x5 := x5) (x6 := x6) hW hj ej 4294967298 0 o (Nat.zero_le _) (by decide) hw
    rw [(tKw_at hj).mpr ej]
    exact q
  · have q := kw_no (x1 := x1) (x2 := x2) (x5 := x5) (x6 := x6) hW 4294967298 0 o (by decide) (by decide) hw (fun j _ h2 h3 => e ⟨j, h2, h3⟩)
    rw [tKw_name.mpr (fun j hj z => e ⟨j, hj, z⟩)]
    have s : sI o 7 (nI 2) = o := sI_self h7
    rw [s]
    exact q
theorem ps_run {o : OS} {T : Nat → Nat} {n lim p b : Nat} (hX : CX o T n lim) (h5 : o.1 5 = nI b) (h6 : o.1 6 = nI b) (h0 : tB0 T (tStop n lim) p = b) (h1 : b < tStop n lim) (hc : tLt (T b) ∨ tDg (T b)) : CT (f_X7_readRun__1 o) T n lim p ∧ CS o (f_X7_readRun__1 o) := by
  obtain ⟨tb, tk, ta, tl⟩ := tok_in h0 h1
  have hn9 := hX.1
  have hs := tStop_le (n := n) (lim := lim)
  have hn : b < n := by omega
  have ek : kc T n lim p = tK T n lim p := if_neg (by omega)
  unfold f_X7_readRun__1
  have cl : CL o T n lim b 0 0 0 0 0 := ⟨hX, h5, h6, by omega, rfl, rfl, rfl, rfl, fun _ _ => rfl, fun _ _ => rfl⟩
  obtain ⟨o1, y1, y2, y3, y5, y6, q1, q2, q3⟩ := cr_ 4294967298 o 0 0 0 0 0 cl (by omega)
  rw [q1]
  have hE1 : b + 1 ≤ tE T n b := by
    rw [tE_in hn hc]
    exact (tE_le (T := T) (n := n) (n - (b + 1)) (b + 1) rfl).1
  obtain ⟨L, hLe⟩ : ∃ L, tE T n b - b = L + 1 := ⟨tE T n b - b - 1, by omega⟩
  rw [hLe] at q2 tk tl
  obtain ⟨lX, l5, l6, ln, -, e1, e2, es, ew, ev⟩ := q2
  have hA : tA T n lim p = b + (L + 1) := by rw [ta, if_pos hc]; omega
  rw [if_pos hc] at tk
  have z1 := nI_eq (a := nLt T b (L + 1)) (b := 0) (by omega) (by decide)
  have z2 := nI_eq (a := nDg T b (L + 1)) (b := 0) (by omega) (by decide)
  unfold f_X7_readRun__1_127 f_X7_readRun__1_155
  rw [e1, e2]
  have fin : ∀ (o2 : OS), CX o2 T n lim → o2.1 5 = nI b → o2.1 6 = nI (b + (L + 1)) → o2.1 7 = nI (tK T n lim p) → ((tK T n lim p = 2 ∨ 128 ≤ tK T n lim p) → o2.2.1 8 = lN (tW T n lim p)) → (tK T n lim p = 3 → o2.1 9 = nI (tNu T n lim p)) → CS o1 o2 → CT o2 T n lim p ∧ CS o o2 := fun o2 a b c d e f g => ⟨⟨a, by rw [tb]; exact b, by rw [ek]; exact d, fun _ => by rw [hA]; exact c, e, f⟩, q3.tr g⟩
  have eW : tW T n lim p = tF 256 0 T b (L + 1) := by
    unfold tW
    rw [tb, tl]
  have eN : tNu T n lim p = tF 10 48 T b (L + 1) := by
    unfold tNu
    rw [tb, tl]
  by_cases c1 : nLt T b (L + 1) = 0
  · rw [if_pos (show nI _ = (0 : Int32) from z1.mpr c1)]
    have c2 : nDg T b (L + 1) = L + 1 := by omega
    by_cases c3 : L + 1 ≤ 3
    · rw [if_pos ⟨c1, c3⟩] at tk
      rw [if_neg (show ¬ (3 : Int32) < nI _ from nI_nlt (a := 3) (by omega) (by decide))]
      refine fin _ (((lX.sI (by decide) (by decide) (by decide)).sI (by decide) (by decide) (by decide)).sI (by decide) (by decide) (by decide)) (by rw [sI_ne (by decide), sI_ne (by decide), sI_ne (by decide)]; exact l5) (by rw [sI_ne (by decide), sI_ne (by decide), sI_ne (by decide)]; exact l6) (by rw [sI_ne (by decide), sI_get, tk]; rfl) (fun q => by omega) (fun _ => by rw [sI_get, eN]; exact ev c1 c3) (CS.i (CS.i (CS.i CS.rf (by omega)) (by omega)) (by omega))
    · rw [if_neg (fun q => c3 q.2), if_neg (by omega)] at tk
      rw [if_pos (show (3 : Int32) < nI _ from nI_lt (a := 3) (by omega) (by omega)), if_neg (fun q : nI _ = (0 : Int32) => by have := z2.mp q; omega)]
      exact fin _ (lX.sI (by decide) (by decide) (by decide)) (by rw [sI_ne (by decide)]; exact l5) (by rw [sI_ne (by decide)]; exact l6) (by rw [sI_get, tk]; rfl) (fun q => by omega) (fun q => by omega) (CS.i CS.rf (by omega))
  · rw [if_neg (fun q : nI _ = (0 : Int32) => c1 (z1.mp q))]
    rw [if_neg (fun q => c1 q.1)] at tk
    by_cases c2 : nDg T b (L + 1) = 0
    · rw [if_pos (show nI _ = (0 : Int32) from z2.mpr c2)]
      by_cases c3 : L + 1 ≤ 7
      · rw [if_pos ⟨c2, c3⟩] at tk
        rw [if_neg (show ¬ (7 : Int32) < nI _ from nI_nlt (a := 7) (by omega) (by decide))]
        have hW : tF 256 0 T b (L + 1) < 2 ^ 63 := Nat.lt_of_lt_of_le (tF256 lX.2.2.2.2.2.2.1 (L + 1)) (Nat.le_trans (Nat.pow_le_pow_right (by decide) c3) (by decide))
        rw [ew c2 c3, kw_ (o := sL (sI (sI o1 7 1) 7 2) 8 (lN (tF 256 0 T b (L + 1)))) hW lX.2.2.2.2.2.2.2 (by show (sI (sI o1 7 1) 7 2).1 7 = 2; rw [sI_get])]
        exact fin _ ((((lX.sI (by decide) (by decide) (by decide)).sI (by decide) (by decide) (by decide)).sL).sI (by decide) (by decide) (by decide)) (by rw [sI_ne (by decide)]; show (sI (sI o1 7 1) 7 2).1 5 = _; rw [sI_ne (by decide), sI_ne (by decide)]; exact l5) (by rw [sI_ne (by decide)]; show (sI (sI o1 7 1) 7 2).1 6 = _; rw [sI_ne (by decide), sI_ne (by decide)]; exact l6) (by rw [sI_get, tk]) (fun _ => by rw [eW]; exact sL_get) (fun q => by have := tKw_2 (tF 256 0 T b (L + 1)); omega) (CS.i (CS.l (CS.i (CS.i CS.rf (by omega)) (by omega))) (by omega))
      · rw [if_neg (fun q => c3 q.2)] at tk
        rw [if_pos (show (7 : Int32) < nI _ from nI_lt (a := 7) (by omega) (by omega))]
        exact fin _ (lX.sI (by decide) (by decide) (by decide)) (by rw [sI_ne (by decide)]; exact l5) (by rw [sI_ne (by decide)]; exact l6) (by rw [sI_get, tk]; rfl) (fun q => by omega) (fun q => by omega) (CS.i CS.rf (by omega))
    · rw [if_neg (fun q => c2 q.1)] at tk
      rw [if_neg (fun q : nI _ = (0 : Int32) => c2 (z2.mp q))]
      exact fin _ (lX.sI (by decide) (by decide) (by decide)) (by rw [sI_ne (by decide)]; exact l5) (by rw [sI_ne (by decide)]; exact l6) (by rw [sI_get, tk]; rfl) (fun q => by omega) (fun q => by omega) (CS.i CS.rf (by omega))
theorem ps_55 {o : OS} {T : Nat → Nat} {n lim p b : Nat} (hX : CX o T n lim) (h5 : o.1 5 = nI b) (hb : b ≤ 940) (h0 : tB0 T (tStop n lim) p = b) : CT (f_X7_pass__5_55 o) T n lim p ∧ CS o (f_X7_pass__5_55 o) := by
  have hn9 := hX.1
  have hs := tStop_le (n := n) (lim := lim)
  unfold f_X7_pass__5_55
  rw [h5, hX.2.2.2.1]
  by_cases e : b < tStop n lim
  · have hc := hX.2.2.2.2.2.2.1 b
    have hX6 : CX (sI o 6 (nI b)) T n lim := hX.sI (by decide) (by decide) (by decide)
    have g5 : (sI o 6 (nI b)).1 5 = nI b := by rw [sI_ne (by decide)]; exact h5
    have cs6 : CS o (sI o 6 (nI b)) := CS.i CS.rf (by omega)
    rw [if_pos (nI_lt e (by omega)), nI_clamp (by omega), hX.2.2.2.2.2.1 b (by omega)]
    obtain ⟨a1, a2, a3⟩ := sg_a (T b) hc
    obtain ⟨d1, d2⟩ := sg_d (T b) hc
    unfold f_X7_pass__5_110 f_X7_pass__5_122 f_X7_pass__5_129 f_X7_pass__5_142
    by_cases hl : tLt (T b)
    · rw [if_neg (fun q => by have := a1.mp q; omega), if_pos (a3.mpr (by omega))]
      have q := ps_run hX6 g5 sI_get h0 e (Or.inl hl)
      exact ⟨q.1, cs6.tr q.2⟩
    · by_cases hd : tDg (T b)
      · have q := ps_run hX6 g5 sI_get h0 e (Or.inr hd)
        rw [if_pos (a1.mpr (by omega)), if_neg (fun z => by have := d1.mp z; omega), if_neg (fun z => by have := d2.mp z; omega)]
        exact ⟨q.1, cs6.tr q.2⟩
      · obtain ⟨tb, tk, ta, tl⟩ := tok_in h0 e
        have hcd : ¬ (tLt (T b) ∨ tDg (T b)) := fun q => q.elim hl hd
        rw [if_neg hcd] at tk ta
        have ek : kc T n lim p = tK T n lim p := if_neg (by omega)
        have fin : ∀ y : Int32, y = nI (tK T n lim p) → CT (sI (sI (sI o 6 (nI b)) 7 y) 6 (nI b + 1)) T n lim p ∧ CS o (sI (sI (sI o 6 (nI b)) 7 y) 6 (nI b + 1)) := fun y hy => by
          have k2 : ¬ (tK T n lim p = 2 ∨ 128 ≤ tK T n lim p) ∧ tK T n lim p ≠ 3 := by
            rw [tk]
            by_cases z : tSg (T b)
            · rw [if_pos z]; omega
            · rw [if_neg z]; omega
          refine ⟨⟨(hX6.sI (by decide) (by decide) (by decide)).sI (by decide) (by decide) (by decide), ?_, ?_, fun _ => ?_, fun q => absurd q k2.1, fun q => absurd q k2.2⟩, CS.i (CS.i cs6 (by omega)) (by omega)⟩
          · rw [sI_ne (by decide), sI_ne (by decide), tb]; exact g5
          · rw [sI_ne (by decide), sI_get, ek, hy]
          · rw [sI_get, nI_1, ta]
        have to129 : ∀ (A B : OS), (if sgb (T b) < (97 : Int32) then (if sgb (T b) < (48 : Int32) then A else if (57 : Int32) < sgb (T b) then A else B) else if sgb (T b) ≤ (122 : Int32) then B else (if sgb (T b) < (48 : Int32) then A else if (57 : Int32) < sgb (T b) then A else B)) = A := by
          intro A B
          have in48 : (if sgb (T b) < (48 : Int32) then A else if (57 : Int32) < sgb (T b) then A else B) = A := by
            by_cases z1 : sgb (T b) < (48 : Int32)
            · rw [if_pos z1]
            · rw [if_neg z1, if_pos (d2.mpr (by
                have z3 : ¬ (T b < 48 ∨ 128 ≤ T b) := fun q => z1 (d1.mpr q)
                omega))]
          rw [in48]
          by_cases z1 : sgb (T b) < (97 : Int32)
          · rw [if_pos z1]
          · have z3 : ¬ (T b < 97 ∨ 128 ≤ T b) := fun q => z1 (a1.mpr q)
            rw [if_neg z1, if_neg (fun q => (a3.mp q) (by omega))]
        rw [to129, isS_ hc, show (sI o 6 (nI b)).1 6 = nI b from sI_get]
        by_cases z : tSg (T b)
        · rw [if_pos z] at tk
          rw [if_pos z, if_neg one0]
          exact fin _ (by rw [tk]; exact sg_s _ (by omega))
        · rw [if_neg z] at tk
          rw [if_neg z, if_pos rfl]
          exact fin _ (by rw [tk]; rfl)
  · rw [if_neg (nI_nlt (by omega) (by omega))]
    have tb : tB T n lim p = tStop n lim := by
      unfold tB
      rw [h0, if_pos (by omega)]
    have ek : kc T n lim p = 0 := by
      unfold kc
      rw [h0, if_pos (by omega)]
    have k2 : tK T n lim p = 0 ∨ tK T n lim p = 1 := by
      unfold tK
      rw [h0, if_pos (by omega)]
      by_cases z : lim < n
      · rw [if_pos z]; exact Or.inr rfl
      · rw [if_neg z]; exact Or.inl rfl
    refine ⟨⟨(hX.sI (by decide) (by decide) (by decide)).sI (by decide) (by decide) (by decide), ?_, ?_, fun q => by omega, fun q => by omega, fun q => by omega⟩, CS.i (CS.i CS.rf (by omega)) (by omega)⟩
    · rw [sI_ne (by decide), sI_get, tb]
    · rw [sI_get, ek]; rfl
/-- the class's pass, no fault yet: the token behind p -/
theorem pass_ {o : OS} {T : Nat → Nat} {n lim p : Nat} (hX : CX o T n lim) (h6 : o.1 6 = nI p) (hp : p ≤ 940) : CT (f_X7_pass__5 o) T n lim p ∧ CS o (f_X7_pass__5 o) := by
  have hn9 := hX.1
  have hs := tStop_le (n := n) (lim := lim)
  unfold f_X7_pass__5
  rw [h6]
  have hX1 : CX (sI o 5 (nI p)) T n lim := hX.sI (by decide) (by decide) (by decide)
  rw [ps_blank 4294967298 _ p hX1 sI_get hp (by omega), sI_sI]
  have hb := tB0_le T (tStop n lim) (tStop n lim - p) p rfl
  have q := ps_55 (o := sI o 5 (nI (tB0 T (tStop n lim) p))) (p := p) (hX.sI (by decide) (by decide) (by decide)) sI_get (by
    by_cases z : p ≤ tStop n lim
    · have := hb.2 z; omega
    · rw [tB0_ge (by omega)]; exact hp) rfl
  exact ⟨q.1, (CS.i CS.rf (by omega)).tr q.2⟩
theorem p6_16 : ∀ (f : Nat) (o : OS), f_X7_pass__6_16 f o = f_X7_pass__5_16 f o := by
  intro f
  induction f with
  | zero => intro o; rfl
  | succ f ih =>
    intro o
    rw [f_X7_pass__6_16, f_X7_pass__5_16, ih]
    rfl
/-- .. where it looks whether there is a fault -/
theorem pass6_ok {o : OS} (h : o.1 10 = 0) : f_X7_pass__6 o = f_X7_pass__5 o := by
  unfold f_X7_pass__6 f_X7_pass__5
  rw [if_pos h, p6_16]
theorem pass6_bad {o : OS} (h : o.1 10 ≠ 0) : f_X7_pass__6 o = o := by
  unfold f_X7_pass__6
  rw [if_neg h]
