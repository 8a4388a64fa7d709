/-! numbers in ranges -/
def RI (x : Int32) (lo hi : Int) : Prop := lo ≤ x.toInt ∧ x.toInt ≤ hi
def RJ (x : Int64) (lo hi : Int) : Prop := lo ≤ x.toInt ∧ x.toInt ≤ hi
theorem ri_any (x : Int32) : RI x (-2147483648) 2147483647 := by
  have h1 := Int32.le_toInt x
  have h2 := Int32.toInt_lt x
  exact ⟨by omega, by omega⟩
theorem rj_any (x : Int64) : RJ x (-9223372036854775808) 9223372036854775807 := by
  have h1 := Int64.le_toInt x
  have h2 := Int64.toInt_lt x
  exact ⟨by omega, by omega⟩
theorem RI.to {x : Int32} {a b c d : Int} (h : RI x a b) (e : c ≤ a ∧ b ≤ d) : RI x c d := ⟨by have := h.1; omega, by have := h.2; omega⟩
theorem RJ.to {x : Int64} {a b c d : Int} (h : RJ x a b) (e : c ≤ a ∧ b ≤ d) : RJ x c d := ⟨by have := h.1; omega, by have := h.2; omega⟩
theorem RI.no {x : Int32} {a b : Int} (h : RI x a b) (e : b < a) : False := by
  have := h.1
  have := h.2
  omega
theorem RJ.no {x : Int64} {a b : Int} (h : RJ x a b) (e : b < a) : False := by
  have := h.1
  have := h.2
  omega
theorem RI.eq {x : Int32} {a : Int} (h : RI x a a) : x.toInt = a := by
  have := h.1
  have := h.2
  omega
theorem RI.inn {x : Int32} {a b : Int} {n : Nat} (h : RI x a b) (e : 0 ≤ a ∧ b < n) : vp_in x n := vp_in_iff.mpr ⟨by have := h.1; omega, by have := h.2; omega⟩
theorem RI.cl {x : Int32} {a b : Int} (h : RI x a b) (e : 0 ≤ a) : (x.toNatClampNeg : Int) = x.toInt := by
  have := h.1
  show ((x.toInt.toNat : Nat) : Int) = x.toInt
  omega
theorem bm32 {n : Int} (h1 : -2147483648 ≤ n) (h2 : n ≤ 2147483647) : n.bmod (2 ^ 32) = n := by
  rw [Int.bmod_def]
  split <;> omega
theorem bm64 {n : Int} (h1 : -9223372036854775808 ≤ n) (h2 : n ≤ 9223372036854775807) : n.bmod (2 ^ 64) = n := by
  rw [Int.bmod_def]
  split <;> omega
theorem ri_add {x y : Int32} {a b c d : Int} (hx : RI x a b) (hy : RI y c d) (h : -2147483648 ≤ a + c ∧ b + d ≤ 2147483647) : (x + y).toInt = x.toInt + y.toInt := by
  obtain ⟨h1, h2⟩ := hx
  obtain ⟨h3, h4⟩ := hy
  rw [Int32.toInt_add]
  exact bm32 (by omega) (by omega)
theorem ri_sub {x y : Int32} {a b c d : Int} (hx : RI x a b) (hy : RI y c d) (h : -2147483648 ≤ a - d ∧ b - c ≤ 2147483647) : (x - y).toInt = x.toInt - y.toInt := by
  obtain ⟨h1, h2⟩ := hx
  obtain ⟨h3, h4⟩ := hy
  rw [Int32.toInt_sub]
  exact bm32 (by omega) (by omega)
theorem mul_rng {x y a b c d lo hi : Int} (h1 : a ≤ x) (h2 : x ≤ b) (h3 : c ≤ y) (h4 : y ≤ d) (h : (lo ≤ a * c ∧ lo ≤ a * d ∧ lo ≤ b * c ∧ lo ≤ b * d) ∧ (a * c ≤ hi ∧ a * d ≤ hi ∧ b * c ≤ hi ∧ b * d ≤ hi)) : lo ≤ x * y ∧ x * y ≤ hi := by
  obtain ⟨⟨l1, l2, l3, l4⟩, u1, u2, u3, u4⟩ := h
  have ea : ∀ t : Int, c ≤ t → t ≤ d → lo ≤ a * t ∧ a * t ≤ hi := by
    intro t ht1 ht2
    rcases Int.le_total 0 a with q | q
    · have := Int.mul_le_mul_of_nonneg_left ht1 q
      have := Int.mul_le_mul_of_nonneg_left ht2 q
      omega
    · have := Int.mul_le_mul_of_nonpos_left q ht1
      have := Int.mul_le_mul_of_nonpos_left q ht2
      omega
  have eb : ∀ t : Int, c ≤ t → t ≤ d → lo ≤ b * t ∧ b * t ≤ hi := by
    intro t ht1 ht2
    rcases Int.le_total 0 b with q | q
    · have := Int.mul_le_mul_of_nonneg_left ht1 q
      have := Int.mul_le_mul_of_nonneg_left ht2 q
      omega
    · have := Int.mul_le_mul_of_nonpos_left q ht1
      have := Int.mul_le_mul_of_nonpos_left q ht2
      omega
  have e1 := ea y h3 h4
  have e2 := eb y h3 h4
  rcases Int.le_total 0 y with q | q
  · have := Int.mul_le_mul_of_nonneg_right h1 q
    have := Int.mul_le_mul_of_nonneg_right h2 q
    omega
  · have := Int.mul_le_mul_of_nonpos_right h1 q
    have := Int.mul_le_mul_of_nonpos_right h2 q
    omega
theorem ri_mul {x y : Int32} {a b c d lo hi : Int} (hx : RI x a b) (hy : RI y c d) (h : ((lo ≤ a * c ∧ lo ≤ a * d ∧ lo ≤ b * c ∧ lo ≤ b * d) ∧ (a * c ≤ hi ∧ a * d ≤ hi ∧ b * c ≤ hi ∧ b * d ≤ hi)) ∧ -2147483648 ≤ lo ∧ hi ≤ 2147483647) : (x * y).toInt = x.toInt * y.toInt ∧ RI (x * y) lo hi := by
  obtain ⟨h1, h2⟩ := hx
  obtain ⟨h3, h4⟩ := hy
  obtain ⟨h5, h6, h7⟩ := h
  have q := mul_rng h1 h2 h3 h4 h5
  have e : (x * y).toInt = x.toInt * y.toInt := by
    rw [Int32.toInt_mul]
    exact bm32 (by omega) (by omega)
  exact ⟨e, by unfold RI; rw [e]; exact q⟩
theorem ri_nat {x : Int32} {b : Int} (h : RI x 0 b) : ∃ j : Nat, (j : Int) ≤ b ∧ j < 2 ^ 31 ∧ x = nI j := by
  have h1 := h.1
  have h2 := h.2
  have h3 := Int32.toInt_lt x
  refine ⟨x.toInt.toNat, by omega, by omega, Int32.toInt_inj.mp ?_⟩
  rw [nI_toInt (by omega)]
  omega
theorem ri_nI {j : Nat} {a b : Int} (h : j < 2 ^ 31) (e : a ≤ (j : Int) ∧ (j : Int) ≤ b) : RI (nI j) a b := by
  unfold RI
  rw [nI_toInt h]
  exact e
theorem ri_bv {x : Int32} {n : Nat} (h : x.toBitVec.toNat ≤ n) (hn : n < 2 ^ 31) : RI x 0 n := by
  have e : x.toInt = (x.toBitVec.toNat : Int) := by
    show x.toBitVec.toInt = _
    exact BitVec.toInt_eq_toNat_of_lt (by omega)
  unfold RI
  rw [e]
  omega
theorem ri_toNat {x : Int32} {b : Int} (h : RI x 0 b) : (x.toBitVec.toNat : Int) = x.toInt := by
  obtain ⟨j, -, hj, rfl⟩ := ri_nat h
  rw [nI_toInt hj]
  show ((Int32.ofNat j).toBitVec.toNat : Int) = _
  rw [Int32.toBitVec_ofNat', BitVec.toNat_ofNat]
  omega
theorem ri_and {x y : Int32} {d : Nat} (hy : RI y 0 d) (hd : d < 2 ^ 31) : RI (x &&& y) 0 d := by
  refine ri_bv ?_ hd
  rw [Int32.toBitVec_and, BitVec.toNat_and]
  have h1 : x.toBitVec.toNat &&& y.toBitVec.toNat ≤ y.toBitVec.toNat := Nat.and_le_right
  have h2 := ri_toNat hy
  have h3 := hy.2
  omega
theorem ri_andL {x y : Int32} {d : Nat} (hx : RI x 0 d) (hd : d < 2 ^ 31) : RI (x &&& y) 0 d := by
  refine ri_bv ?_ hd
  rw [Int32.toBitVec_and, BitVec.toNat_and]
  have h1 : x.toBitVec.toNat &&& y.toBitVec.toNat ≤ x.toBitVec.toNat := Nat.and_le_left
  have h2 := ri_toNat hx
  have h3 := hx.2
  omega
theorem ri_ne0 {y : Int32} {c d : Int} (h : RI y c d) (e : 1 ≤ c) : ¬ y = 0 := by
  intro q
  have := h.1
  rw [q, Int32.toInt_zero] at this
  omega
theorem ri_rem {x y : Int32} {b c d : Int} (hx : RI x 0 b) (hy : RI y c d) (hc : 1 ≤ c) : RI (x - x / y * y) 0 (d - 1) := by
  obtain ⟨i, h1, h2, rfl⟩ := ri_nat hx
  obtain ⟨j, h3, h4, rfl⟩ := ri_nat (hy.to (c := 0) ⟨by omega, Int.le_refl _⟩)
  have h5 : 0 < j := by
    have := hy.1
    rw [nI_toInt h4] at this
    omega
  rw [pk_rem h2 h5 h4]
  have h6 := Nat.mod_lt i h5
  exact ri_nI (by omega) (by omega)
theorem ri_ushr8 (x : Int32) : RI ((x.toUInt32 >>> ((8 : Int32).toUInt32 &&& Int32.toUInt32 31)).toInt32) 0 16777215 := by
  have h := pk_ushr x 8 8 (by decide)
  have h2 := x.toBitVec.isLt
  exact ri_bv (n := 16777215) (by rw [h]; exact Nat.le_of_lt_succ (Nat.div_lt_of_lt_mul (by omega))) (by decide)
theorem ri_shl1 {y : Int32} {b : Int} (hy : RI y 0 b) (hb : b ≤ 8) : RI ((1 : Int32) <<< (y &&& 31)) 1 256 := by
  obtain ⟨j, h1, -, rfl⟩ := ri_nat hy
  have h : ∀ j : Nat, j < 9 → (1 ≤ ((1 : Int32) <<< (nI j &&& 31)).toInt ∧ ((1 : Int32) <<< (nI j &&& 31)).toInt ≤ 256) := by decide +kernel
  exact h j (by omega)
theorem ri_i2b (x : Int32) : RI x.toInt8.toInt32 (-128) 127 := by
  unfold RI
  rw [Int8.toInt_toInt32]
  have h1 := Int8.le_toInt x.toInt8
  have h2 := Int8.toInt_lt x.toInt8
  exact ⟨by omega, by omega⟩
theorem ri_min {x y : Int32} {a b c d lo hi : Int} (hx : RI x a b) (hy : RI y c d) (h : (lo ≤ a ∧ lo ≤ c) ∧ (b ≤ hi ∨ d ≤ hi)) : RI (if y < x then y else x) lo hi := by
  obtain ⟨h1, h2⟩ := hx
  obtain ⟨h3, h4⟩ := hy
  unfold RI
  split
  · have := Int32.lt_iff_toInt_lt.mp (by assumption)
    omega
  · have h9 : ¬ y.toInt < x.toInt := fun q => (by assumption : ¬ y < x) (Int32.lt_iff_toInt_lt.mpr q)
    omega
theorem ri_max {x y : Int32} {a b c d lo hi : Int} (hx : RI x a b) (hy : RI y c d) (h : (b ≤ hi ∧ d ≤ hi) ∧ (lo ≤ a ∨ lo ≤ c)) : RI (if x < y then y else x) lo hi := by
  obtain ⟨h1, h2⟩ := hx
  obtain ⟨h3, h4⟩ := hy
  unfold RI
  split
  · have := Int32.lt_iff_toInt_lt.mp (by assumption)
    omega
  · have h9 : ¬ x.toInt < y.toInt := fun q => (by assumption : ¬ x < y) (Int32.lt_iff_toInt_lt.mpr q)
    omega
/-! what a test tells -/
theorem ti_lt {x y : Int32} (h : x < y) : x.toInt < y.toInt := Int32.lt_iff_toInt_lt.mp h
theorem ti_le {x y : Int32} (h : x ≤ y) : x.toInt ≤ y.toInt := Int32.le_iff_toInt_le.mp h
theorem ti_nlt {x y : Int32} (h : ¬ x < y) : y.toInt ≤ x.toInt := by
  have : ¬ x.toInt < y.toInt := fun q => h (Int32.lt_iff_toInt_lt.mpr q)
  omega
theorem ti_nle {x y : Int32} (h : ¬ x ≤ y) : y.toInt < x.toInt := by
  have : ¬ x.toInt ≤ y.toInt := fun q => h (Int32.le_iff_toInt_le.mpr q)
  omega
theorem ti_eq {x y : Int32} (h : x = y) : x.toInt = y.toInt := by rw [h]
theorem ti_ne {x y : Int32} (h : ¬ x = y) : x.toInt ≠ y.toInt := fun q => h (Int32.toInt_inj.mp q)
theorem rc_lt1 {x y : Int32} {a b c d u : Int} (hx : RI x a b) (hy : RI y c d) (h : x.toInt < y.toInt) (e : d - 1 ≤ u) : RI x a u := ⟨hx.1, by have := hy.2; omega⟩
theorem rc_lt2 {x y : Int32} {a b c d u : Int} (hx : RI x a b) (hy : RI y c d) (h : x.toInt < y.toInt) (e : u ≤ a + 1) : RI y u d := ⟨by have := hx.1; omega, hy.2⟩
theorem rc_le1 {x y : Int32} {a b c d u : Int} (hx : RI x a b) (hy : RI y c d) (h : x.toInt ≤ y.toInt) (e : d ≤ u) : RI x a u := ⟨hx.1, by have := hy.2; omega⟩
theorem rc_le2 {x y : Int32} {a b c d u : Int} (hx : RI x a b) (hy : RI y c d) (h : x.toInt ≤ y.toInt) (e : u ≤ a) : RI y u d := ⟨by have := hx.1; omega, hy.2⟩
theorem rc_eq1 {x y : Int32} {a b c d u v : Int} (hx : RI x a b) (hy : RI y c d) (h : x.toInt = y.toInt) (e : (u ≤ a ∨ u ≤ c) ∧ (b ≤ v ∨ d ≤ v)) : RI x u v := by
  obtain ⟨h1, h2⟩ := hx
  obtain ⟨h3, h4⟩ := hy
  exact ⟨by omega, by omega⟩
theorem rc_eq2 {x y : Int32} {a b c d u v : Int} (hx : RI x a b) (hy : RI y c d) (h : x.toInt = y.toInt) (e : (u ≤ a ∨ u ≤ c) ∧ (b ≤ v ∨ d ≤ v)) : RI y u v := rc_eq1 hy hx h.symm ⟨e.1.symm, e.2.symm⟩
theorem rc_neL {x y : Int32} {a b c u : Int} (hx : RI x a b) (hy : RI y c c) (h : x.toInt ≠ y.toInt) (e : a = c ∧ u = a + 1) : RI x u b := by
  obtain ⟨h1, h2⟩ := hx
  obtain ⟨h3, h4⟩ := hy
  exact ⟨by omega, by omega⟩
theorem rc_neU {x y : Int32} {a b c u : Int} (hx : RI x a b) (hy : RI y c c) (h : x.toInt ≠ y.toInt) (e : b = c ∧ u = b - 1) : RI x a u := by
  obtain ⟨h1, h2⟩ := hx
  obtain ⟨h3, h4⟩ := hy
  exact ⟨by omega, by omega⟩
/-! a heap by types -/
abbrev VT : Type := (Int × Int) ⊕ (Int × Int) ⊕ Nat ⊕ Nat
abbrev vI (lo hi : Int) : VT := .inl (lo, hi)
abbrev vJ (lo hi : Int) : VT := .inr (.inl (lo, hi))
abbrev vR (t : Nat) : VT := .inr (.inr (.inl t))
abbrev vN (t : Nat) : VT := .inr (.inr (.inr t))
abbrev PSI : Type := List (Nat × Nat)
def vok (Ps : PSI) (t : VT) (v : Value) : Prop := match t with
  | .inl q => ∃ x : Int32, v = .int x ∧ RI x q.1 q.2
  | .inr (.inl q) => ∃ x : Int64, v = .long x ∧ RJ x q.1 q.2
  | .inr (.inr (.inl t)) => ∃ a : Nat, v = .ref a ∧ (a, t) ∈ Ps
  | .inr (.inr (.inr t)) => v = .null ∨ ∃ a : Nat, v = .ref a ∧ (a, t) ∈ Ps
abbrev CTy : Type := (Nat × List VT) ⊕ (Nat × Nat × (Nat → Int × Int) × ((Nat → Int32) → Prop)) ⊕ (Nat × Int × Int) ⊕ (Nat × Nat × (Nat → Nat))
def cok (cy : Nat → ClassId) (Ps : PSI) (t : CTy) (e : va_E) : Prop := match t with
  | .inl q => ∃ fs : List Value, e = .inr (q.1, fs) ∧ ∀ (k : Nat) (t : VT), q.2[k]? = some t → ∃ v, fs[k]? = some v ∧ vok Ps t v
  | .inr (.inl q) => ∃ f : Nat → Int32, e = .inl (cy q.1, q.2.1, .inl f) ∧ (∀ j, j < q.2.1 → RI (f j) (q.2.2.1 j).1 (q.2.2.1 j).2) ∧ q.2.2.2 f
  | .inr (.inr (.inl q)) => ∃ f : Nat → Int64, e = .inl (cy 2, q.1, .inr (.inl f)) ∧ ∀ j, j < q.1 → RJ (f j) q.2.1 q.2.2
  | .inr (.inr (.inr q)) => ∃ g : Nat → Option Nat, e = .inl (cy q.1, q.2.1, .inr (.inr (.inr (.inr g)))) ∧ ∀ j, j < q.2.1 → ∃ a : Nat, g j = some a ∧ (a, q.2.2 j) ∈ Ps
def HT (cy : Nat → ClassId) (G : Nat → Nat → CTy) (Ps : PSI) (ws : va_W) : Prop := Ps.length = ws.length ∧ ∀ (k a t : Nat), Ps[k]? = some (a, t) → ∃ e, ws[k]? = some (a, e) ∧ cok cy Ps (G a t) e
theorem HT.find {cy : Nat → ClassId} {G : Nat → Nat → CTy} {Ps : PSI} {ws : va_W} (h : HT cy G Ps ws) {a t : Nat} (ha : (a, t) ∈ Ps) : ∃ (k : Nat) (e : va_E), Ps[k]? = some (a, t) ∧ ws[k]? = some (a, e) ∧ cok cy Ps (G a t) e := by
  obtain ⟨k, hk⟩ := List.getElem?_of_mem ha
  obtain ⟨e, h1, h2⟩ := h.2 k a t hk
  exact ⟨k, e, hk, h1, h2⟩
theorem HT.set {cy : Nat → ClassId} {G : Nat → Nat → CTy} {Ps : PSI} {ws : va_W} (h : HT cy G Ps ws) {a t k : Nat} {e : va_E} (hk : Ps[k]? = some (a, t)) (he : cok cy Ps (G a t) e) : HT cy G Ps (ws.set k (a, e)) := by
  refine ⟨by rw [List.length_set]; exact h.1, fun j b u hj => ?_⟩
  by_cases q : k = j
  · subst q
    cases hk.symm.trans hj
    have hlt : k < ws.length := by rw [← h.1]; exact (List.getElem?_eq_some_iff.mp hk).1
    exact ⟨e, List.getElem?_set_self hlt, he⟩
  · rw [List.getElem?_set_ne q]
    exact h.2 j b u hj
/-- a field's value -/
def FLD (ws : va_W) (a ci k : Nat) (v : Value) : Prop := ∃ (q : Nat) (fs : List Value), ws[q]? = some (a, .inr (ci, fs)) ∧ fs[k]? = some v
/-- an element's value -/
def AEL (ws : va_W) (a : Nat) (i v : Int32) : Prop := ∃ (q : Nat) (cA : ClassId) (n : Nat) (f : Nat → Int32), ws[q]? = some (a, .inl (cA, n, .inl f)) ∧ f i.toNatClampNeg = v
/-- what a walk may have written -/
def FR (wr : List (Nat × Nat)) (wa : List Nat) (Ps : PSI) (ws ws' : va_W) : Prop := ws.length ≤ ws'.length ∧ ∀ (k a : Nat) (e : va_E), ws[k]? = some (a, e) → ∃ e', ws'[k]? = some (a, e') ∧
  (∀ ci fs, e = .inr (ci, fs) → ∃ fs', e' = .inr (ci, fs') ∧ ∀ j, (ci, j) ∉ wr → fs'[j]? = fs[j]?) ∧ (∀ x, e = .inl x → ∀ t, Ps[k]? = some (a, t) → t ∉ wa → e' = e)
theorem FR.rf {wr : List (Nat × Nat)} {wa : List Nat} {Ps : PSI} {ws : va_W} : FR wr wa Ps ws ws := ⟨Nat.le_refl _, fun k a e h => ⟨e, h, fun ci fs q => ⟨fs, q, fun _ _ => rfl⟩, fun _ _ _ _ _ => rfl⟩⟩
theorem FR.tr {wr : List (Nat × Nat)} {wa : List Nat} {wr2 : List (Nat × Nat)} {wa2 : List Nat} {Ps : PSI} {X : PSI} {w0 w1 w2 : va_W} (hl : Ps.length = w0.length) (h : FR wr wa Ps w0 w1) (h2 : FR wr2 wa2 (Ps ++ X) w1 w2) (hs : (∀ q ∈ wr2, q ∈ wr) ∧ ∀ q ∈ wa2, q ∈ wa) : FR wr wa Ps w0 w2 := by
  refine ⟨Nat.le_trans h.1 h2.1, fun k a e hk => ?_⟩
  obtain ⟨e1, g1, g2, g3⟩ := h.2 k a e hk
  obtain ⟨e2, f1, f2, f3⟩ := h2.2 k a e1 g1
  refine ⟨e2, f1, fun ci fs q => ?_, fun x q t ht hn => ?_⟩
  · obtain ⟨fs1, q1, q2⟩ := g2 ci fs q
    obtain ⟨fs2, q3, q4⟩ := f2 ci fs1 q1
    exact ⟨fs2, q3, fun j hj => (q4 j (fun m => hj (hs.1 _ m))).trans (q2 j hj)⟩
  · have e9 := g3 x q t ht hn
    have hk2 : (Ps ++ X)[k]? = some (a, t) := by
      have hlt : k < Ps.length := (List.getElem?_eq_some_iff.mp ht).1
      rw [List.getElem?_append_left hlt]
      exact ht
    rw [f3 x (e9.trans q) t hk2 (fun m => hn (hs.2 _ m)), e9]
theorem FR.tr0 {wr : List (Nat × Nat)} {wa : List Nat} {wr2 : List (Nat × Nat)} {wa2 : List Nat} {Ps Ps1 X : PSI} {w0 w1 w2 : va_W} (hl : Ps.length = w0.length) (e : Ps1 = Ps ++ X) (h : FR wr wa Ps w0 w1) (h2 : FR wr2 wa2 Ps1 w1 w2) (hs : (∀ q ∈ wr2, q ∈ wr) ∧ ∀ q ∈ wa2, q ∈ wa) : FR wr wa Ps w0 w2 := by
  subst e
  exact FR.tr hl h h2 hs
theorem FLD.over {wr : List (Nat × Nat)} {wa : List Nat} {Ps : PSI} {ws ws' : va_W} (h : FR wr wa Ps ws ws') {a ci k : Nat} {v : Value} (hf : FLD ws a ci k v) (hn : (ci, k) ∉ wr) : FLD ws' a ci k v := by
  obtain ⟨q, fs, h1, h2⟩ := hf
  obtain ⟨e', g1, g2, -⟩ := h.2 q a _ h1
  obtain ⟨fs', rfl, g3⟩ := g2 ci fs rfl
  exact ⟨q, fs', g1, by rw [g3 k hn]; exact h2⟩
theorem FLD.put {ws : va_W} {q a ci k : Nat} {fs : List Value} {v : Value} (h : ws[q]? = some (a, .inr (ci, fs))) (hk : k < fs.length) : FLD (ws.set q (a, .inr (ci, fs.set k v))) a ci k v :=
  ⟨q, fs.set k v, List.getElem?_set_self (List.getElem?_eq_some_iff.mp h).1, List.getElem?_set_self hk⟩
theorem FLD.kept {ws : va_W} {q a ci k : Nat} {fs : List Value} {v : Value} (h : ws[q]? = some (a, .inr (ci, fs))) {b cj j : Nat} {u : Value} (hne : ¬ (cj = ci ∧ j = k)) (hf : FLD ws b cj j u) : FLD (ws.set q (a, .inr (ci, fs.set k v))) b cj j u := by
  obtain ⟨r, gs, h1, h2⟩ := hf
  by_cases e : q = r
  · subst e
    cases h.symm.trans h1
    exact ⟨q, fs.set k v, List.getElem?_set_self (List.getElem?_eq_some_iff.mp h).1, by rw [List.getElem?_set_ne (fun e => hne ⟨rfl, e.symm⟩)]; exact h2⟩
  · exact ⟨r, gs, by rw [List.getElem?_set_ne e]; exact h1, h2⟩
theorem FLD.keptA {ws : va_W} {q a : Nat} {x y : ClassId × vp_A} (h : ws[q]? = some (a, .inl x)) {b cj j : Nat} {u : Value} (hf : FLD ws b cj j u) : FLD (ws.set q (a, .inl y)) b cj j u := by
  obtain ⟨r, gs, h1, h2⟩ := hf
  by_cases e : q = r
  · subst e
    cases h.symm.trans h1
  · exact ⟨r, gs, by rw [List.getElem?_set_ne e]; exact h1, h2⟩
theorem FR.put {wr : List (Nat × Nat)} {wa : List Nat} {Ps : PSI} {w0 ws : va_W} (h : FR wr wa Ps w0 ws) {q a ci k : Nat} {fs : List Value} {v : Value} (hq : ws[q]? = some (a, .inr (ci, fs))) (hm : (ci, k) ∈ wr) : FR wr wa Ps w0 (ws.set q (a, .inr (ci, fs.set k v))) := by
  refine ⟨by rw [List.length_set]; exact h.1, fun j b e hj => ?_⟩
  obtain ⟨e1, g1, g2, g3⟩ := h.2 j b e hj
  by_cases eq : q = j
  · subst eq
    cases hq.symm.trans g1
    refine ⟨_, List.getElem?_set_self (List.getElem?_eq_some_iff.mp hq).1, fun cj gs hc => ?_, fun x hx t ht hn => ?_⟩
    · obtain ⟨fs1, q1, q2⟩ := g2 cj gs hc
      cases q1
      exact ⟨_, rfl, fun i hi => by rw [List.getElem?_set_ne (fun e => hi (by rw [← e]; exact hm))]; exact q2 i hi⟩
    · have := g3 x hx t ht hn
      rw [hx] at this
      cases this
  · exact ⟨e1, by rw [List.getElem?_set_ne eq]; exact g1, g2, g3⟩
theorem FR.putA {wr : List (Nat × Nat)} {wa : List Nat} {Ps X : PSI} {w0 ws : va_W} (h : FR wr wa Ps w0 ws) {q a t : Nat} {x y : ClassId × vp_A} (hq : ws[q]? = some (a, .inl x)) (ht : (Ps ++ X)[q]? = some (a, t)) (hm : t ∈ wa) : FR wr wa Ps w0 (ws.set q (a, .inl y)) := by
  refine ⟨by rw [List.length_set]; exact h.1, fun j b e hj => ?_⟩
  obtain ⟨e1, g1, g2, g3⟩ := h.2 j b e hj
  by_cases eq : q = j
  · subst eq
    cases hq.symm.trans g1
    refine ⟨_, List.getElem?_set_self (List.getElem?_eq_some_iff.mp hq).1, fun cj gs hc => ?_, fun x hx u hu hn => ?_⟩
    · obtain ⟨fs1, q1, q2⟩ := g2 cj gs hc
      cases q1
    · have hlt : q < Ps.length := (List.getElem?_eq_some_iff.mp hu).1
      rw [List.getElem?_append_left hlt, hu] at ht
      cases ht
      exact absurd hm hn
  · exact ⟨e1, by rw [List.getElem?_set_ne eq]; exact g1, g2, g3⟩
/-- an array's contents -/
def ARR (Ps : PSI) (ws : va_W) (a t : Nat) (f : Nat → Int32) : Prop := ∃ (q : Nat) (cA : ClassId) (n : Nat), Ps[q]? = some (a, t) ∧ ws[q]? = some (a, .inl (cA, n, .inl f))
theorem ARR.over {wr : List (Nat × Nat)} {wa : List Nat} {Ps : PSI} {ws ws' : va_W} (h : FR wr wa Ps ws ws') {a t : Nat} {f : Nat → Int32} (hf : ARR Ps ws a t f) (hn : t ∉ wa) : ARR Ps ws' a t f := by
  obtain ⟨q, cA, n, h1, h2⟩ := hf
  obtain ⟨e', g1, -, g2⟩ := h.2 q a _ h2
  rw [g2 _ rfl t h1 hn] at g1
  exact ⟨q, cA, n, h1, g1⟩
theorem ARR.put {Ps : PSI} {ws : va_W} {A : Nat → Prop} (hD : va_D A ws) {q a t n : Nat} {cA : ClassId} {g h : Nat → Int32} (hq : ws[q]? = some (a, .inl (cA, n, .inl g))) {f : Nat → Int32} (hf : ARR Ps ws a t f) (e : f = g → ∀ j, h j = h j) : f = g ∧ ∃ u, ARR Ps (ws.set q (a, .inl (cA, n, .inl h))) a t u ∧ u = h := by
  obtain ⟨q', cB, n', h1, h2⟩ := hf
  have e1 := hD.1 q q' _ _ hq h2 rfl
  subst e1
  cases hq.symm.trans h2
  exact ⟨rfl, h, ⟨q, _, _, h1, List.getElem?_set_self (List.getElem?_eq_some_iff.mp hq).1⟩, rfl⟩
/-- the world of a walk: typed, its cells, and what was written since the start -/
def WD (D : va_G) (cy : Nat → ClassId) (G : Nat → Nat → CTy) (A : Nat → Prop) (s : State) (wr : List (Nat × Nat)) (wa : List Nat) (P0 : PSI) (w0 : va_W) (Ps : PSI) (ws : va_W) (H : Heap) (locs : List Loc) : Prop :=
  HT cy G Ps ws ∧ va_P D classes ws H ∧ va_D A ws ∧ va_S A s.heap H locs ∧ FR wr wa P0 w0 ws ∧ P0.length = w0.length ∧ ∃ X, Ps = P0 ++ X
section TYPED
variable {p : Program} {l : Launch} {e : Env} {R : Room} {s : State} {m : MethodId} {args : Array Value} {below : List Frame} {meth : Method} {c : Code} {H : Heap} {locs : List Loc} {cells slots : Nat} {Q : State → Prop}
variable {cc : ByteArray} {pc : Nat} {ls : Array Slot} {rest : List Value} {D : va_G} {cy : Nat → ClassId} {z : Nat → Nat} {A : Nat → Prop} {a : Nat} {ws w0 : va_W} {G : Nat → Nat → CTy} {Ps P0 : PSI} {wr : List (Nat × Nat)} {wa : List Nat}
theorem tg_get (hexec : p.tables.exec = Jvm.exec) (hb : c.code = cc) {own ref C : String} {T : u_T} {N ci index : Nat} (hts : ∀ w ∈ gT, w.before args s = true) (hin : ∀ w ∈ u_ws C T N, w ∈ gT) (hown : s.vm.findClass own = some m.cls) (hK : va_K D classes (TY cy) s) (hw : WD D cy G A s wr wa P0 w0 Ps ws H locs) {t : Nat} (ha : (a, t) ∈ Ps) {ts : List VT} (hG : G a t = .inl (ci, ts)) (hc : classes[ci]? = some (C, T, N)) (k : Nat) (hk : k < N) (hlink : (Cond.fieldLink own index ref (T k).2.1 (T k).2.2.1).before args s = true) (hsame : ∀ x, s.fieldFound? (T k).1 (T k).2.1 (T k).2.2.1 = some x → s.fieldFound? ref (T k).2.1 (T k).2.2.1 = some x) {ft : VT} (hft : ts[k]? = some ft) (hdg : decode cc pc = .ok (.getfield index, 3))
    (kk : ∀ v : Value, vok Ps ft v → FLD ws a ci k v → W p l e R s m args below meth c H locs cells slots Q (F0 m (pc + 3) ls (v :: rest))) : W p l e R s m args below meth c H locs cells slots Q (F0 m pc ls (.ref a :: rest)) := by
  obtain ⟨q, e1, -, h2, h3⟩ := hw.1.find ha
  rw [hG] at h3
  obtain ⟨fs, rfl, h4⟩ := h3
  obtain ⟨v, h5, h6⟩ := h4 k ft hft
  exact va_get hexec hb hts hin hown hK hw.2.1 q h2 hc k hk hlink hsame h5 hdg (kk v h6 ⟨q, fs, h2, h5⟩)
theorem tg_getN (hexec : p.tables.exec = Jvm.exec) (hb : c.code = cc) {own ref C host : String} {T : u_T} {N ci index : Nat} (hts : ∀ w ∈ gT, w.before args s = true) (hin : ∀ w ∈ u_ws C T N, w ∈ gT) (hown : s.vm.findClass own = some m.cls) (hK : va_K D classes (TY cy) s) (hw : WD D cy G A s wr wa P0 w0 Ps ws H locs) {t : Nat} (ha : (a, t) ∈ Ps) {ts : List VT} (hG : G a t = .inl (ci, ts)) (hc : classes[ci]? = some (C, T, N)) (k : Nat) (hk : k < N) (hlink : (Cond.fieldLinkNest own index ref (T k).2.1 (T k).2.2.1 host).before args s = true) (hsame : ∀ x, s.fieldFound? (T k).1 (T k).2.1 (T k).2.2.1 = some x → s.fieldFound? ref (T k).2.1 (T k).2.2.1 = some x) {ft : VT} (hft : ts[k]? = some ft) (hdg : decode cc pc = .ok (.getfield index, 3))
    (kk : ∀ v : Value, vok Ps ft v → FLD ws a ci k v → W p l e R s m args below meth c H locs cells slots Q (F0 m (pc + 3) ls (v :: rest))) : W p l e R s m args below meth c H locs cells slots Q (F0 m pc ls (.ref a :: rest)) := by
  obtain ⟨q, e1, -, h2, h3⟩ := hw.1.find ha
  rw [hG] at h3
  obtain ⟨fs, rfl, h4⟩ := h3
  obtain ⟨v, h5, h6⟩ := h4 k ft hft
  exact va_getN hexec hb hts hin hown hK hw.2.1 q h2 hc k hk hlink hsame h5 hdg (kk v h6 ⟨q, fs, h2, h5⟩)
theorem tg_mem (hexec : p.tables.exec = Jvm.exec) (hb : c.code = cc) {own ref C : String} {T : u_T} {N ci index : Nat} (hts : ∀ w ∈ gT, w.before args s = true) (hin : ∀ w ∈ u_ws C T N, w ∈ gT) (hown : s.vm.findClass own = some m.cls) (hK : va_K D classes (TY cy) s) (hw : WD D cy G A s wr wa P0 w0 Ps ws H locs) (k : Nat) {v : Value} (hf : FLD ws a ci k v) (hc : classes[ci]? = some (C, T, N)) (hk : k < N) (hlink : (Cond.fieldLink own index ref (T k).2.1 (T k).2.2.1).before args s = true) (hsame : ∀ x, s.fieldFound? (T k).1 (T k).2.1 (T k).2.2.1 = some x → s.fieldFound? ref (T k).2.1 (T k).2.2.1 = some x) (hdg : decode cc pc = .ok (.getfield index, 3))
    (kk : W p l e R s m args below meth c H locs cells slots Q (F0 m (pc + 3) ls (v :: rest))) : W p l e R s m args below meth c H locs cells slots Q (F0 m pc ls (.ref a :: rest)) := by
  obtain ⟨q, fs, h2, h5⟩ := hf
  exact va_get hexec hb hts hin hown hK hw.2.1 q h2 hc k hk hlink hsame h5 hdg kk
theorem tg_memN (hexec : p.tables.exec = Jvm.exec) (hb : c.code = cc) {own ref C host : String} {T : u_T} {N ci index : Nat} (hts : ∀ w ∈ gT, w.before args s = true) (hin : ∀ w ∈ u_ws C T N, w ∈ gT) (hown : s.vm.findClass own = some m.cls) (hK : va_K D classes (TY cy) s) (hw : WD D cy G A s wr wa P0 w0 Ps ws H locs) (k : Nat) {v : Value} (hf : FLD ws a ci k v) (hc : classes[ci]? = some (C, T, N)) (hk : k < N) (hlink : (Cond.fieldLinkNest own index ref (T k).2.1 (T k).2.2.1 host).before args s = true) (hsame : ∀ x, s.fieldFound? (T k).1 (T k).2.1 (T k).2.2.1 = some x → s.fieldFound? ref (T k).2.1 (T k).2.2.1 = some x) (hdg : decode cc pc = .ok (.getfield index, 3))
    (kk : W p l e R s m args below meth c H locs cells slots Q (F0 m (pc + 3) ls (v :: rest))) : W p l e R s m args below meth c H locs cells slots Q (F0 m pc ls (.ref a :: rest)) := by
  obtain ⟨q, fs, h2, h5⟩ := hf
  exact va_getN hexec hb hts hin hown hK hw.2.1 q h2 hc k hk hlink hsame h5 hdg kk
theorem tg_cokput {t ci k : Nat} {ts : List VT} {ft : VT} {v : Value} {fs : List Value} (hG : G a t = .inl (ci, ts)) (hft : ts[k]? = some ft) (hv : vok Ps ft v) (h4 : ∀ (k : Nat) (t : VT), ts[k]? = some t → ∃ v, fs[k]? = some v ∧ vok Ps t v) : cok cy Ps (G a t) (.inr (ci, fs.set k v)) := by
  rw [hG]
  refine ⟨fs.set k v, rfl, fun j u hj => ?_⟩
  by_cases e : k = j
  · subst e
    cases hft.symm.trans hj
    obtain ⟨v0, h5, -⟩ := h4 k ft hft
    exact ⟨v, List.getElem?_set_self (List.getElem?_eq_some_iff.mp h5).1, hv⟩
  · obtain ⟨v0, h5, h6⟩ := h4 j u hj
    exact ⟨v0, by rw [List.getElem?_set_ne e]; exact h5, h6⟩
theorem tg_put (hexec : p.tables.exec = Jvm.exec) (hb : c.code = cc) {own ref C : String} {T : u_T} {N ci index : Nat} (hts : ∀ w ∈ gT, w.before args s = true) (hin : ∀ w ∈ u_ws C T N, w ∈ gT) (ty0 : Nat → FieldType) (hty : ∀ k, k < N → parseFieldDescriptor (T k).2.2.1 = some (ty0 k)) (hnm : ∀ a, a < N → ∀ b, b < N → a ≠ b → (T a).2.1 ≠ (T b).2.1) (hown : s.vm.findClass own = some m.cls) (hK : va_K D classes (TY cy) s) (hw : WD D cy G A s wr wa P0 w0 Ps ws H locs) {t : Nat} (ha : (a, t) ∈ Ps) {ts : List VT} (hG : G a t = .inl (ci, ts)) (hc : classes[ci]? = some (C, T, N)) (k : Nat) (hk : k < N) (hlink : (Cond.fieldLink own index ref (T k).2.1 (T k).2.2.1).before args s = true) (hsame : ∀ x, s.fieldFound? (T k).1 (T k).2.1 (T k).2.2.1 = some x → s.fieldFound? ref (T k).2.1 (T k).2.2.1 = some x) (hfin : (T k).2.2.2 = false) {ty : FieldType} {v : Value} (hd : parseFieldDescriptor (T k).2.2.1 = some ty) (hn : narrow ty v = v) (hfit : fits ty v = true) {ft : VT} (hft : ts[k]? = some ft) (hv : vok Ps ft v) (hm : (ci, k) ∈ wr) (hdg : decode cc pc = .ok (.putfield index, 3))
    (kk : ∀ (ws1 : va_W) (H1 : Heap) (locs1 : List Loc), WD D cy G A s wr wa P0 w0 Ps ws1 H1 locs1 → FLD ws1 a ci k v → FR [(ci, k)] [] Ps ws ws1 → W p l e R s m args below meth c H1 locs1 cells slots Q (F0 m (pc + 3) ls rest)) : W p l e R s m args below meth c H locs cells slots Q (F0 m pc ls (v :: .ref a :: rest)) := by
  obtain ⟨q, e1, h1, h2, h3⟩ := hw.1.find ha
  have h9 := h3
  rw [hG] at h9
  obtain ⟨fs, rfl, h4⟩ := h9
  obtain ⟨v0, h5, -⟩ := h4 k ft hft
  have hl := (List.getElem?_eq_some_iff.mp h5).1
  obtain ⟨w1, w2, w3, w4, w5, w6, w7⟩ := hw
  exact va_put hexec hb hts hin ty0 hty hnm hown hK w2 w3 w4 q h2 hc k hk hlink hsame hfin hd hn hfit hl hdg (fun H1 locs1 a1 a2 a3 => kk _ H1 locs1 ⟨w1.set h1 (tg_cokput hG hft hv h4), a1, a2, a3, w5.put h2 hm, w6, w7⟩ (FLD.put h2 hl) (FR.rf.put h2 List.mem_cons_self))
theorem tg_putN (hexec : p.tables.exec = Jvm.exec) (hb : c.code = cc) {own ref C host : String} {T : u_T} {N ci index : Nat} (hts : ∀ w ∈ gT, w.before args s = true) (hin : ∀ w ∈ u_ws C T N, w ∈ gT) (ty0 : Nat → FieldType) (hty : ∀ k, k < N → parseFieldDescriptor (T k).2.2.1 = some (ty0 k)) (hnm : ∀ a, a < N → ∀ b, b < N → a ≠ b → (T a).2.1 ≠ (T b).2.1) (hown : s.vm.findClass own = some m.cls) (hK : va_K D classes (TY cy) s) (hw : WD D cy G A s wr wa P0 w0 Ps ws H locs) {t : Nat} (ha : (a, t) ∈ Ps) {ts : List VT} (hG : G a t = .inl (ci, ts)) (hc : classes[ci]? = some (C, T, N)) (k : Nat) (hk : k < N) (hlink : (Cond.fieldLinkNest own index ref (T k).2.1 (T k).2.2.1 host).before args s = true) (hsame : ∀ x, s.fieldFound? (T k).1 (T k).2.1 (T k).2.2.1 = some x → s.fieldFound? ref (T k).2.1 (T k).2.2.1 = some x) (hfin : (T k).2.2.2 = false) {ty : FieldType} {v : Value} (hd : parseFieldDescriptor (T k).2.2.1 = some ty) (hn : narrow ty v = v) (hfit : fits ty v = true) {ft : VT} (hft : ts[k]? = some ft) (hv : vok Ps ft v) (hm : (ci, k) ∈ wr) (hdg : decode cc pc = .ok (.putfield index, 3))
    (kk : ∀ (ws1 : va_W) (H1 : Heap) (locs1 : List Loc), WD D cy G A s wr wa P0 w0 Ps ws1 H1 locs1 → FLD ws1 a ci k v → FR [(ci, k)] [] Ps ws ws1 → W p l e R s m args below meth c H1 locs1 cells slots Q (F0 m (pc + 3) ls rest)) : W p l e R s m args below meth c H locs cells slots Q (F0 m pc ls (v :: .ref a :: rest)) := by
  obtain ⟨q, e1, h1, h2, h3⟩ := hw.1.find ha
  have h9 := h3
  rw [hG] at h9
  obtain ⟨fs, rfl, h4⟩ := h9
  obtain ⟨v0, h5, -⟩ := h4 k ft hft
  have hl := (List.getElem?_eq_some_iff.mp h5).1
  obtain ⟨w1, w2, w3, w4, w5, w6, w7⟩ := hw
  exact va_putN hexec hb hts hin ty0 hty hnm hown hK w2 w3 w4 q h2 hc k hk hlink hsame hfin hd hn hfit hl hdg (fun H1 locs1 a1 a2 a3 => kk _ H1 locs1 ⟨w1.set h1 (tg_cokput hG hft hv h4), a1, a2, a3, w5.put h2 hm, w6, w7⟩ (FLD.put h2 hl) (FR.rf.put h2 List.mem_cons_self))
theorem tg_idx {i : Int32} {x y : Int} {A B n : Nat} (hi : RI i x y) (hab : (A : Int) ≤ x ∧ y ≤ (B : Int) ∧ B < n) : vp_in i n ∧ A ≤ i.toNatClampNeg ∧ i.toNatClampNeg ≤ B := by
  have h1 := hi.1
  have h2 := hi.2
  refine ⟨hi.inn ⟨by omega, by omega⟩, ?_, ?_⟩
  · show A ≤ i.toInt.toNat
    omega
  · show i.toInt.toNat ≤ B
    omega
theorem tg_iald (hexec : p.tables.exec = Jvm.exec) (hb : c.code = cc) (hK : va_K D classes (TY cy) s) (hw : WD D cy G A s wr wa P0 w0 Ps ws H locs) {t n : Nat} {el : Nat → Int × Int} {Rl : (Nat → Int32) → Prop} (ha : (a, t) ∈ Ps) (hG : G a t = .inr (.inl (1, n, el, Rl))) {i : Int32} {x y lo hi : Int} (AA BB : Nat) (hi0 : RI i x y) (hab : (AA : Int) ≤ x ∧ y ≤ (BB : Int) ∧ BB < n) (hel : ∀ j, j < BB + 1 → AA ≤ j → lo ≤ (el j).1 ∧ (el j).2 ≤ hi) (hdg : decode cc pc = .ok (.iaload, 1))
    (kk : ∀ v : Int32, RI v lo hi → AEL ws a i v → RI v (el i.toNatClampNeg).1 (el i.toNatClampNeg).2 → W p l e R s m args below meth c H locs cells slots Q (F0 m (pc + 1) ls (.int v :: rest))) : W p l e R s m args below meth c H locs cells slots Q (F0 m pc ls (.int i :: .ref a :: rest)) := by
  obtain ⟨q, e1, -, h2, h3⟩ := hw.1.find ha
  rw [hG] at h3
  obtain ⟨f, rfl, h4, -⟩ := h3
  obtain ⟨g1, g2, g3⟩ := tg_idx hi0 hab
  exact va_iald hexec hb hK hw.2.1 q 1 h2 rfl g1 hdg (kk _ ((h4 _ (by show _ < n; omega)).to (hel _ (by omega) g2)) ⟨q, _, _, f, h2, rfl⟩ (h4 _ (by show _ < n; omega)))
theorem tg_imem (hexec : p.tables.exec = Jvm.exec) (hb : c.code = cc) (hK : va_K D classes (TY cy) s) (hw : WD D cy G A s wr wa P0 w0 Ps ws H locs) {t n : Nat} {el : Nat → Int × Int} {Rl : (Nat → Int32) → Prop} (ha : (a, t) ∈ Ps) (hG : G a t = .inr (.inl (1, n, el, Rl))) {i v : Int32} {x y : Int} (hi0 : RI i x y) (hab : 0 ≤ x ∧ y < (n : Int)) (hm : AEL ws a i v) (hdg : decode cc pc = .ok (.iaload, 1))
    (kk : W p l e R s m args below meth c H locs cells slots Q (F0 m (pc + 1) ls (.int v :: rest))) : W p l e R s m args below meth c H locs cells slots Q (F0 m pc ls (.int i :: .ref a :: rest)) := by
  obtain ⟨q, e1, -, h2, h3⟩ := hw.1.find ha
  rw [hG] at h3
  obtain ⟨f, rfl, h4, -⟩ := h3
  obtain ⟨q', cA, n', f', k1, k2⟩ := hm
  have e := hw.2.2.1.1 q q' _ _ h2 k1 rfl
  subst e
  cases h2.symm.trans k1
  subst k2
  exact va_iald hexec hb hK hw.2.1 q 1 h2 rfl (hi0.inn hab) hdg kk
theorem tg_bald (hexec : p.tables.exec = Jvm.exec) (hb : c.code = cc) (hK : va_K D classes (TY cy) s) (hw : WD D cy G A s wr wa P0 w0 Ps ws H locs) {t n : Nat} {el : Nat → Int × Int} {Rl : (Nat → Int32) → Prop} (ha : (a, t) ∈ Ps) (hG : G a t = .inr (.inl (0, n, el, Rl))) {i : Int32} {x y lo hi : Int} (AA BB : Nat) (hi0 : RI i x y) (hab : (AA : Int) ≤ x ∧ y ≤ (BB : Int) ∧ BB < n) (hel : ∀ j, j < BB + 1 → AA ≤ j → lo ≤ (el j).1 ∧ (el j).2 ≤ hi) (hdg : decode cc pc = .ok (.baload, 1))
    (kk : ∀ v : Int32, RI v lo hi → W p l e R s m args below meth c H locs cells slots Q (F0 m (pc + 1) ls (.int v :: rest))) : W p l e R s m args below meth c H locs cells slots Q (F0 m pc ls (.int i :: .ref a :: rest)) := by
  obtain ⟨q, e1, -, h2, h3⟩ := hw.1.find ha
  rw [hG] at h3
  obtain ⟨f, rfl, h4, -⟩ := h3
  obtain ⟨g1, g2, g3⟩ := tg_idx hi0 hab
  exact va_bald hexec hb hK hw.2.1 q 0 h2 rfl g1 hdg (kk _ ((h4 _ (by show _ < n; omega)).to (hel _ (by omega) g2)))
theorem tg_zald (hexec : p.tables.exec = Jvm.exec) (hb : c.code = cc) (hK : va_K D classes (TY cy) s) (hw : WD D cy G A s wr wa P0 w0 Ps ws H locs) {t n : Nat} {el : Nat → Int × Int} {Rl : (Nat → Int32) → Prop} (ha : (a, t) ∈ Ps) (hG : G a t = .inr (.inl (3, n, el, Rl))) {i : Int32} {x y lo hi : Int} (AA BB : Nat) (hi0 : RI i x y) (hab : (AA : Int) ≤ x ∧ y ≤ (BB : Int) ∧ BB < n) (hel : ∀ j, j < BB + 1 → AA ≤ j → lo ≤ (el j).1 ∧ (el j).2 ≤ hi) (hdg : decode cc pc = .ok (.baload, 1))
    (kk : ∀ v : Int32, RI v lo hi → W p l e R s m args below meth c H locs cells slots Q (F0 m (pc + 1) ls (.int v :: rest))) : W p l e R s m args below meth c H locs cells slots Q (F0 m pc ls (.int i :: .ref a :: rest)) := by
  obtain ⟨q, e1, -, h2, h3⟩ := hw.1.find ha
  rw [hG] at h3
  obtain ⟨f, rfl, h4, -⟩ := h3
  obtain ⟨g1, g2, g3⟩ := tg_idx hi0 hab
  exact va_zald hexec hb hK hw.2.1 q 3 h2 rfl g1 hdg (kk _ ((h4 _ (by show _ < n; omega)).to (hel _ (by omega) g2)))
theorem tg_lald (hexec : p.tables.exec = Jvm.exec) (hb : c.code = cc) (hK : va_K D classes (TY cy) s) (hw : WD D cy G A s wr wa P0 w0 Ps ws H locs) {t n : Nat} {lo hi : Int} (ha : (a, t) ∈ Ps) (hG : G a t = .inr (.inr (.inl (n, lo, hi)))) {i : Int32} {x y : Int} (hi0 : RI i x y) (hab : 0 ≤ x ∧ y < (n : Int)) (hdg : decode cc pc = .ok (.laload, 1))
    (kk : ∀ v : Int64, RJ v lo hi → W p l e R s m args below meth c H locs cells slots Q (F0 m (pc + 1) ls (.long v :: rest))) : W p l e R s m args below meth c H locs cells slots Q (F0 m pc ls (.int i :: .ref a :: rest)) := by
  obtain ⟨q, e1, -, h2, h3⟩ := hw.1.find ha
  rw [hG] at h3
  obtain ⟨f, rfl, h4⟩ := h3
  have g1 := hi0.inn hab
  have g2 : i.toNatClampNeg < n := Nat.not_le.mp fun q => g1 (Or.inr q)
  exact va_lald hexec hb hK hw.2.1 q 2 h2 rfl g1 hdg (kk _ (h4 _ g2))
theorem tg_aald (hexec : p.tables.exec = Jvm.exec) (hb : c.code = cc) (hK : va_K D classes (TY cy) s) (hw : WD D cy G A s wr wa P0 w0 Ps ws H locs) {t n t0 u : Nat} {C : String} {el : Nat → Nat} (ha : (a, t) ∈ Ps) (hG : G a t = .inr (.inr (.inr (t0, n, el)))) (ht0 : (TY cy)[t0]? = some (cy t0, .object C)) {i : Int32} {x y : Int} (AA BB : Nat) (hi0 : RI i x y) (hab : (AA : Int) ≤ x ∧ y ≤ (BB : Int) ∧ BB < n) (hel : ∀ j, j < BB + 1 → AA ≤ j → el j = u) (hdg : decode cc pc = .ok (.aaload, 1))
    (kk : ∀ b : Nat, (b, u) ∈ Ps → W p l e R s m args below meth c H locs cells slots Q (F0 m (pc + 1) ls (.ref b :: rest))) : W p l e R s m args below meth c H locs cells slots Q (F0 m pc ls (.int i :: .ref a :: rest)) := by
  obtain ⟨q, e1, -, h2, h3⟩ := hw.1.find ha
  rw [hG] at h3
  obtain ⟨g, rfl, h4⟩ := h3
  obtain ⟨g1, g2, g3⟩ := tg_idx hi0 hab
  obtain ⟨b, h5, h6⟩ := h4 i.toNatClampNeg (by show _ < n; omega)
  rw [show ((t0, n, el) : Nat × Nat × (Nat → Nat)).2.2 i.toNatClampNeg = u from hel _ (by omega) g2] at h6
  refine va_aldq hexec hb hK hw.2.1 q t0 h2 ht0 g1 hdg ?_
  rw [h5]
  exact kk b h6
theorem tg_upd {n : Nat} {el : Nat → Int × Int} {f : Nat → Int32} {x : Int32} {j : Nat} (h : ∀ j, j < n → RI (f j) (el j).1 (el j).2) (hx : RI x (el j).1 (el j).2) : ∀ i, i < n → RI (upd f j x i) (el i).1 (el i).2 := by
  intro i hi
  by_cases e : i = j
  · rw [e, pk_us]; exact hx
  · rw [pk_un e]; exact h i hi
theorem tg_iast (hexec : p.tables.exec = Jvm.exec) (hb : c.code = cc) (hK : va_K D classes (TY cy) s) (hw : WD D cy G A s wr wa P0 w0 Ps ws H locs) {t n : Nat} {el : Nat → Int × Int} {Rl : (Nat → Int32) → Prop} (ha : (a, t) ∈ Ps) (hG : G a t = .inr (.inl (1, n, el, Rl))) {i v : Int32} {x y lo hi : Int} (AA BB : Nat) (hi0 : RI i x y) (hab : (AA : Int) ≤ x ∧ y ≤ (BB : Int) ∧ BB < n) (hv : RI v lo hi) (hel : ∀ j, j < BB + 1 → AA ≤ j → (el j).1 ≤ lo ∧ hi ≤ (el j).2) (hR : ∀ (f : Nat → Int32) (j : Nat), AA ≤ j → j ≤ BB → Rl f → Rl (upd f j v)) (hm : t ∈ wa) (hdg : decode cc pc = .ok (.iastore, 1))
    (kk : ∀ (ws1 : va_W) (H1 : Heap) (locs1 : List Loc), WD D cy G A s wr wa P0 w0 Ps ws1 H1 locs1 → FR [] [t] Ps ws ws1 → (va_D A ws ∧ ∀ f, ARR Ps ws a t f → ARR Ps ws1 a t (upd f i.toNatClampNeg v)) → W p l e R s m args below meth c H1 locs1 cells slots Q (F0 m (pc + 1) ls rest)) : W p l e R s m args below meth c H locs cells slots Q (F0 m pc ls (.int v :: .int i :: .ref a :: rest)) := by
  obtain ⟨q, e1, h1, h2, h3⟩ := hw.1.find ha
  have h9 := h3
  rw [hG] at h9
  obtain ⟨f, rfl, h4, h5⟩ := h9
  obtain ⟨g1, g2, g3⟩ := tg_idx hi0 hab
  obtain ⟨w1, w2, w3, w4, w5, w6, X, w7⟩ := hw
  subst w7
  exact va_iast hexec hb hK w2 w3 w4 q 1 h2 rfl g1 hdg (fun H1 locs1 a1 a2 a3 => kk _ H1 locs1 ⟨w1.set h1 (by rw [hG]; exact ⟨_, rfl, tg_upd h4 (hv.to (hel _ (by omega) g2)), hR f _ g2 g3 h5⟩), a1, a2, a3, w5.putA h2 h1 hm, w6, X, rfl⟩ (FR.putA (X := []) FR.rf h2 (by rw [List.append_nil]; exact h1) List.mem_cons_self) ⟨w3, fun f' hf' => by
    obtain ⟨e1, u, e2, e3⟩ := ARR.put (h := upd f i.toNatClampNeg v) w3 h2 hf' (fun _ _ => rfl)
    subst e3; rw [e1]; exact e2⟩)
theorem tg_iasto (hexec : p.tables.exec = Jvm.exec) (hb : c.code = cc) (hK : va_K D classes (TY cy) s) (hw : WD D cy G A s wr wa P0 w0 Ps ws H locs) {t n : Nat} {el : Nat → Int × Int} {Rl : (Nat → Int32) → Prop} (ha : (a, t) ∈ Ps) (hG : G a t = .inr (.inl (1, n, el, Rl))) {i v : Int32} {x y : Int} (AA BB : Nat) (hi0 : RI i x y) (hab : (AA : Int) ≤ x ∧ y ≤ (BB : Int) ∧ BB < n) (hv : RI v (el i.toNatClampNeg).1 (el i.toNatClampNeg).2) (hR : ∀ (f : Nat → Int32) (j : Nat), AA ≤ j → j ≤ BB → Rl f → Rl (upd f j v)) (hm : t ∈ wa) (hdg : decode cc pc = .ok (.iastore, 1))
    (kk : ∀ (ws1 : va_W) (H1 : Heap) (locs1 : List Loc), WD D cy G A s wr wa P0 w0 Ps ws1 H1 locs1 → FR [] [t] Ps ws ws1 → (va_D A ws ∧ ∀ f, ARR Ps ws a t f → ARR Ps ws1 a t (upd f i.toNatClampNeg v)) → W p l e R s m args below meth c H1 locs1 cells slots Q (F0 m (pc + 1) ls rest)) : W p l e R s m args below meth c H locs cells slots Q (F0 m pc ls (.int v :: .int i :: .ref a :: rest)) := by
  obtain ⟨q, e1, h1, h2, h3⟩ := hw.1.find ha
  have h9 := h3
  rw [hG] at h9
  obtain ⟨f, rfl, h4, h5⟩ := h9
  obtain ⟨g1, g2, g3⟩ := tg_idx hi0 hab
  obtain ⟨w1, w2, w3, w4, w5, w6, X, w7⟩ := hw
  subst w7
  exact va_iast hexec hb hK w2 w3 w4 q 1 h2 rfl g1 hdg (fun H1 locs1 a1 a2 a3 => kk _ H1 locs1 ⟨w1.set h1 (by rw [hG]; exact ⟨_, rfl, tg_upd h4 hv, hR f _ g2 g3 h5⟩), a1, a2, a3, w5.putA h2 h1 hm, w6, X, rfl⟩ (FR.putA (X := []) FR.rf h2 (by rw [List.append_nil]; exact h1) List.mem_cons_self) ⟨w3, fun f' hf' => by
    obtain ⟨e1, u, e2, e3⟩ := ARR.put (h := upd f i.toNatClampNeg v) w3 h2 hf' (fun _ _ => rfl)
    subst e3; rw [e1]; exact e2⟩)
theorem tg_bast (hexec : p.tables.exec = Jvm.exec) (hb : c.code = cc) (hK : va_K D classes (TY cy) s) (hw : WD D cy G A s wr wa P0 w0 Ps ws H locs) {t n : Nat} (ha : (a, t) ∈ Ps) (hG : G a t = .inr (.inl (0, n, (fun _ => (-128, 127)), (fun _ => True)))) {i v : Int32} {x y : Int} (AA BB : Nat) (hi0 : RI i x y) (hab : (AA : Int) ≤ x ∧ y ≤ (BB : Int) ∧ BB < n) (hm : t ∈ wa) (hdg : decode cc pc = .ok (.bastore, 1))
    (kk : ∀ (ws1 : va_W) (H1 : Heap) (locs1 : List Loc), WD D cy G A s wr wa P0 w0 Ps ws1 H1 locs1 → FR [] [t] Ps ws ws1 → W p l e R s m args below meth c H1 locs1 cells slots Q (F0 m (pc + 1) ls rest)) : W p l e R s m args below meth c H locs cells slots Q (F0 m pc ls (.int v :: .int i :: .ref a :: rest)) := by
  obtain ⟨q, e1, h1, h2, h3⟩ := hw.1.find ha
  have h9 := h3
  rw [hG] at h9
  obtain ⟨f, rfl, h4, h5⟩ := h9
  obtain ⟨g1, g2, g3⟩ := tg_idx hi0 hab
  obtain ⟨w1, w2, w3, w4, w5, w6, X, w7⟩ := hw
  subst w7
  exact va_bast hexec hb hK w2 w3 w4 q 0 h2 rfl g1 hdg (fun H1 locs1 a1 a2 a3 => kk _ H1 locs1 ⟨w1.set h1 (by rw [hG]; exact ⟨_, rfl, tg_upd h4 (by rw [vp_nar_byte]; exact ri_i2b v), trivial⟩), a1, a2, a3, w5.putA h2 h1 hm, w6, X, rfl⟩ (FR.putA (X := []) FR.rf h2 (by rw [List.append_nil]; exact h1) List.mem_cons_self))
theorem tg_zast (hexec : p.tables.exec = Jvm.exec) (hb : c.code = cc) (hK : va_K D classes (TY cy) s) (hw : WD D cy G A s wr wa P0 w0 Ps ws H locs) {t n : Nat} (ha : (a, t) ∈ Ps) (hG : G a t = .inr (.inl (3, n, (fun _ => (-2147483648, 2147483647)), (fun _ => True)))) {i v : Int32} {x y : Int} (AA BB : Nat) (hi0 : RI i x y) (hab : (AA : Int) ≤ x ∧ y ≤ (BB : Int) ∧ BB < n) (hm : t ∈ wa) (hdg : decode cc pc = .ok (.bastore, 1))
    (kk : ∀ (ws1 : va_W) (H1 : Heap) (locs1 : List Loc), WD D cy G A s wr wa P0 w0 Ps ws1 H1 locs1 → FR [] [t] Ps ws ws1 → W p l e R s m args below meth c H1 locs1 cells slots Q (F0 m (pc + 1) ls rest)) : W p l e R s m args below meth c H locs cells slots Q (F0 m pc ls (.int v :: .int i :: .ref a :: rest)) := by
  obtain ⟨q, e1, h1, h2, h3⟩ := hw.1.find ha
  have h9 := h3
  rw [hG] at h9
  obtain ⟨f, rfl, h4, h5⟩ := h9
  obtain ⟨g1, g2, g3⟩ := tg_idx hi0 hab
  obtain ⟨w1, w2, w3, w4, w5, w6, X, w7⟩ := hw
  subst w7
  exact va_zast hexec hb hK w2 w3 w4 q 3 h2 rfl g1 hdg (fun H1 locs1 a1 a2 a3 => kk _ H1 locs1 ⟨w1.set h1 (by rw [hG]; exact ⟨_, rfl, tg_upd h4 (ri_any _), trivial⟩), a1, a2, a3, w5.putA h2 h1 hm, w6, X, rfl⟩ (FR.putA (X := []) FR.rf h2 (by rw [List.append_nil]; exact h1) List.mem_cons_self))
theorem tg_last (hexec : p.tables.exec = Jvm.exec) (hb : c.code = cc) (hK : va_K D classes (TY cy) s) (hw : WD D cy G A s wr wa P0 w0 Ps ws H locs) {t n : Nat} {lo hi : Int} (ha : (a, t) ∈ Ps) (hG : G a t = .inr (.inr (.inl (n, lo, hi)))) {i : Int32} {v : Int64} {x y a1 b1 : Int} (hi0 : RI i x y) (hab : 0 ≤ x ∧ y < (n : Int)) (hv : RJ v a1 b1) (hr : lo ≤ a1 ∧ b1 ≤ hi) (hm : t ∈ wa) (hdg : decode cc pc = .ok (.lastore, 1))
    (kk : ∀ (ws1 : va_W) (H1 : Heap) (locs1 : List Loc), WD D cy G A s wr wa P0 w0 Ps ws1 H1 locs1 → FR [] [t] Ps ws ws1 → W p l e R s m args below meth c H1 locs1 cells slots Q (F0 m (pc + 1) ls rest)) : W p l e R s m args below meth c H locs cells slots Q (F0 m pc ls (.long v :: .int i :: .ref a :: rest)) := by
  obtain ⟨q, e1, h1, h2, h3⟩ := hw.1.find ha
  have h9 := h3
  rw [hG] at h9
  obtain ⟨f, rfl, h4⟩ := h9
  have g1 := hi0.inn hab
  obtain ⟨w1, w2, w3, w4, w5, w6, X, w7⟩ := hw
  subst w7
  refine va_last hexec hb hK w2 w3 w4 q 2 h2 rfl g1 hdg (fun H1 locs1 a1 a2 a3 => kk _ H1 locs1 ⟨w1.set h1 (by
    rw [hG]
    refine ⟨_, rfl, fun j hj => ?_⟩
    show RJ (vp_updL f i.toNatClampNeg v j) lo hi
    unfold vp_updL
    split
    · exact hv.to hr
    · exact h4 j hj), a1, a2, a3, w5.putA h2 h1 hm, w6, X, rfl⟩ (FR.putA (X := []) FR.rf h2 (by rw [List.append_nil]; exact h1) List.mem_cons_self))
theorem tg_alenI (hexec : p.tables.exec = Jvm.exec) (hb : c.code = cc) (hK : va_K D classes (TY cy) s) (hw : WD D cy G A s wr wa P0 w0 Ps ws H locs) {t n t0 : Nat} {el : Nat → Int × Int} {Rl : (Nat → Int32) → Prop} (ha : (a, t) ∈ Ps) (hG : G a t = .inr (.inl (t0, n, el, Rl))) {ty : FieldType} (ht : (TY cy)[t0]? = some (cy t0, ty)) {v : Int32} (hv : Int32.ofNat n = v) (hdg : decode cc pc = .ok (.arraylength, 1))
    (kk : W p l e R s m args below meth c H locs cells slots Q (F0 m (pc + 1) ls (.int v :: rest))) : W p l e R s m args below meth c H locs cells slots Q (F0 m pc ls (.ref a :: rest)) := by
  obtain ⟨q, e1, -, h2, h3⟩ := hw.1.find ha
  rw [hG] at h3
  obtain ⟨f, rfl, -⟩ := h3
  exact va_alen hexec hb hK hw.2.1 q t0 h2 ht hv hdg kk
theorem tg_alenL (hexec : p.tables.exec = Jvm.exec) (hb : c.code = cc) (hK : va_K D classes (TY cy) s) (hw : WD D cy G A s wr wa P0 w0 Ps ws H locs) {t n : Nat} {lo hi : Int} (ha : (a, t) ∈ Ps) (hG : G a t = .inr (.inr (.inl (n, lo, hi)))) {v : Int32} (hv : Int32.ofNat n = v) (hdg : decode cc pc = .ok (.arraylength, 1))
    (kk : W p l e R s m args below meth c H locs cells slots Q (F0 m (pc + 1) ls (.int v :: rest))) : W p l e R s m args below meth c H locs cells slots Q (F0 m pc ls (.ref a :: rest)) := by
  obtain ⟨q, e1, -, h2, h3⟩ := hw.1.find ha
  rw [hG] at h3
  obtain ⟨f, rfl, -⟩ := h3
  exact va_alen hexec hb hK hw.2.1 q 2 h2 rfl hv hdg kk
theorem tg_alenQ (hexec : p.tables.exec = Jvm.exec) (hb : c.code = cc) (hK : va_K D classes (TY cy) s) (hw : WD D cy G A s wr wa P0 w0 Ps ws H locs) {t n t0 : Nat} {C : String} {el : Nat → Nat} (ha : (a, t) ∈ Ps) (hG : G a t = .inr (.inr (.inr (t0, n, el)))) (ht0 : (TY cy)[t0]? = some (cy t0, .object C)) {v : Int32} (hv : Int32.ofNat n = v) (hdg : decode cc pc = .ok (.arraylength, 1))
    (kk : W p l e R s m args below meth c H locs cells slots Q (F0 m (pc + 1) ls (.int v :: rest))) : W p l e R s m args below meth c H locs cells slots Q (F0 m pc ls (.ref a :: rest)) := by
  obtain ⟨q, e1, -, h2, h3⟩ := hw.1.find ha
  rw [hG] at h3
  obtain ⟨f, rfl, -⟩ := h3
  exact va_alen hexec hb hK hw.2.1 q t0 h2 ht0 hv hdg kk
/-! calls -/
theorem tg_free (hw : WD D cy G A s wr wa P0 w0 Ps ws H locs) (hA : ∀ q, s.heap.size ≤ q → A q) : ∀ q, va_A ws H.size q → A q := by
  intro q h
  obtain ⟨-, -, w3, w4, -⟩ := hw
  rcases h with ⟨k, e, h⟩ | h
  · exact w3.2 k _ h
  · exact hA q (Nat.le_trans w4.1 h)
theorem tg_preS (hw : WD D cy G A s wr wa P0 w0 Ps ws H locs) (hK : va_K D classes (TY cy) s) (hSD : SD z A s) (hA : ∀ q, s.heap.size ≤ q → A q) {As : List Value} : PreS s H (va_Pc As (PRE D cy z ws H.size)) As :=
  ⟨PRE.blind, fun U hU hW => ⟨rfl, by rw [hU], by rw [hU]; exact hw.2.1, va_K.moved hW.alike hK, hw.2.2.1.weaken (fun _ _ _ _ => trivial), hSD.pass (fun a h1 h2 => by rw [hU]; exact hw.2.2.2.1.2.1 a h1 h2) hW (tg_free hw hA)⟩⟩
theorem tg_preV (hw : WD D cy G A s wr wa P0 w0 Ps ws H locs) (hK : va_K D classes (TY cy) s) (hSD : SD z A s) (hA : ∀ q, s.heap.size ≤ q → A q) {As : List Value} {b t ci : Nat} {ts : List VT} {q : vw_C} (hc : classes[ci]? = some q) (ha : (b, t) ∈ Ps) (hG : G b t = .inl (ci, ts)) : PreV s H q.1 b (va_Pc (.ref b :: As) (PRE D cy z ws H.size)) As := by
  obtain ⟨q0, e1, -, h2, h3⟩ := hw.1.find ha
  rw [hG] at h3
  obtain ⟨fs, rfl, -⟩ := h3
  exact ⟨PRE.blind, va_recv hK hw.2.1 hc h2, (tg_preS (As := .ref b :: As) hw hK hSD hA).2⟩
theorem tg_next (hw : WD D cy G A s wr wa P0 w0 Ps ws H locs) (hA : ∀ q, s.heap.size ≤ q → A q) {u : va_W} {H1 : Heap} {locs1 : List Loc} {wr2 : List (Nat × Nat)} {wa2 : List Nat} (hT : HT cy G Ps u) (hF : FR wr2 wa2 Ps ws u) (hs : (∀ q ∈ wr2, q ∈ wr) ∧ ∀ q ∈ wa2, q ∈ wa) (hP : va_P D classes u H1) (hD : va_D (va_A ws H.size) u) (hS : va_S A s.heap H1 locs1) : WD D cy G A s wr wa P0 w0 Ps u H1 locs1 := by
  have hf := tg_free hw hA
  obtain ⟨w1, w2, w3, w4, w5, w6, X, w7⟩ := hw
  exact ⟨hT, hP, hD.weaken (fun k q hk h => hf q.1 h), hS, FR.tr0 w6 w7 w5 hF hs, w6, X, w7⟩
theorem tk_i {post : Int32 → va_W → Prop} {wr2 : List (Nat × Nat)} {wa2 : List Nat} {pc : Nat} {st0 : List Value} {ar : Array Value} (hr : va_Run p l e R s m args below meth c H locs cells slots 0 0 (F0 m pc ls st0) rest (va_Qi (fun r u => post r u ∧ HT cy G Ps u ∧ FR wr2 wa2 Ps ws u) (BB D cy (va_A ws H.size) (fun u => u)) (va_A ws H.size) ar) (va_A ws H.size)) (hw : WD D cy G A s wr wa P0 w0 Ps ws H locs) (hA : ∀ q, s.heap.size ≤ q → A q) (hs : (∀ q ∈ wr2, q ∈ wr) ∧ ∀ q ∈ wa2, q ∈ wa)
    (kk : ∀ (r : Int32) (ws1 : va_W) (H1 : Heap) (locs1 : List Loc), post r ws1 → WD D cy G A s wr wa P0 w0 Ps ws1 H1 locs1 → FR wr2 wa2 Ps ws ws1 → W p l e R s m args below meth c H1 locs1 cells slots Q (F0 m (pc + 3) ls (.int r :: rest))) : W p l e R s m args below meth c H locs cells slots Q (F0 m pc ls st0) := by
  have hF := tg_free hw hA
  refine va_calli hr hw.2.2.2.1 (fun q _ h => hF q h) hF (fun r u t H1 locs1 ht hvm hp hB hz1 hk1 hS1 => ?_)
  obtain ⟨hP1, -, hD1⟩ := hB
  rw [ht] at hP1
  exact kk r u H1 locs1 hp.1 (tg_next hw hA hp.2.1 hp.2.2 hs hP1 hD1 hS1) hp.2.2
theorem tk_v {post : va_W → Prop} {wr2 : List (Nat × Nat)} {wa2 : List Nat} {pc : Nat} {st0 : List Value} {ar : Array Value} (hr : va_Run p l e R s m args below meth c H locs cells slots 0 0 (F0 m pc ls st0) rest (va_Qv (fun u => post u ∧ HT cy G Ps u ∧ FR wr2 wa2 Ps ws u) (BB D cy (va_A ws H.size) (fun u => u)) (va_A ws H.size) ar) (va_A ws H.size)) (hw : WD D cy G A s wr wa P0 w0 Ps ws H locs) (hA : ∀ q, s.heap.size ≤ q → A q) (hs : (∀ q ∈ wr2, q ∈ wr) ∧ ∀ q ∈ wa2, q ∈ wa)
    (kk : ∀ (ws1 : va_W) (H1 : Heap) (locs1 : List Loc), post ws1 → WD D cy G A s wr wa P0 w0 Ps ws1 H1 locs1 → FR wr2 wa2 Ps ws ws1 → W p l e R s m args below meth c H1 locs1 cells slots Q (F0 m (pc + 3) ls rest)) : W p l e R s m args below meth c H locs cells slots Q (F0 m pc ls st0) := by
  have hF := tg_free hw hA
  refine va_callv hr hw.2.2.2.1 (fun q _ h => hF q h) hF (fun u t H1 locs1 ht hvm hp hB hz1 hk1 hS1 => ?_)
  obtain ⟨hP1, -, hD1⟩ := hB
  rw [ht] at hP1
  exact kk u H1 locs1 hp.1 (tg_next hw hA hp.2.1 hp.2.2 hs hP1 hD1 hS1) hp.2.2
/-- a call that leaves the world as it is -/
theorem tk_ir {post : Int32 → Unit → Prop} {pc : Nat} {st0 : List Value} {ar : Array Value} (hr : va_Run p l e R s m args below meth c H locs cells slots 0 0 (F0 m pc ls st0) rest (va_Qi post (BB D cy (va_A ws H.size) (fun _ => ws)) (va_A ws H.size) ar) (va_A ws H.size)) (hw : WD D cy G A s wr wa P0 w0 Ps ws H locs) (hA : ∀ q, s.heap.size ≤ q → A q)
    (kk : ∀ (r : Int32) (H1 : Heap) (locs1 : List Loc), post r () → WD D cy G A s wr wa P0 w0 Ps ws H1 locs1 → W p l e R s m args below meth c H1 locs1 cells slots Q (F0 m (pc + 3) ls (.int r :: rest))) : W p l e R s m args below meth c H locs cells slots Q (F0 m pc ls st0) := by
  have hF := tg_free hw hA
  refine va_calli hr hw.2.2.2.1 (fun q _ h => hF q h) hF (fun r u t H1 locs1 ht hvm hp hB hz1 hk1 hS1 => ?_)
  obtain ⟨hP1, -, hD1⟩ := hB
  rw [ht] at hP1
  exact kk r H1 locs1 hp (tg_next (wr2 := []) (wa2 := []) hw hA hw.1 FR.rf ⟨fun q h => absurd h List.not_mem_nil, fun q h => absurd h List.not_mem_nil⟩ hP1 hD1 hS1)
theorem tk_lr {post : Int64 → Unit → Prop} {pc : Nat} {st0 : List Value} {ar : Array Value} (hr : va_Run p l e R s m args below meth c H locs cells slots 0 0 (F0 m pc ls st0) rest (va_Ql post (BB D cy (va_A ws H.size) (fun _ => ws)) (va_A ws H.size) ar) (va_A ws H.size)) (hw : WD D cy G A s wr wa P0 w0 Ps ws H locs) (hA : ∀ q, s.heap.size ≤ q → A q)
    (kk : ∀ (r : Int64) (H1 : Heap) (locs1 : List Loc), post r () → WD D cy G A s wr wa P0 w0 Ps ws H1 locs1 → W p l e R s m args below meth c H1 locs1 cells slots Q (F0 m (pc + 3) ls (.long r :: rest))) : W p l e R s m args below meth c H locs cells slots Q (F0 m pc ls st0) := by
  have hF := tg_free hw hA
  refine va_calll hr hw.2.2.2.1 (fun q _ h => hF q h) hF (fun r u t H1 locs1 ht hvm hp hB hz1 hk1 hS1 => ?_)
  obtain ⟨hP1, -, hD1⟩ := hB
  rw [ht] at hP1
  exact kk r H1 locs1 hp (tg_next (wr2 := []) (wa2 := []) hw hA hw.1 FR.rf ⟨fun q h => absurd h List.not_mem_nil, fun q h => absurd h List.not_mem_nil⟩ hP1 hD1 hS1)
theorem nameQ {g : JFrame} (k : ∀ Q' : State → Prop, Q' = Q → W p l e R s m args below meth c H locs cells slots Q' g) : W p l e R s m args below meth c H locs cells slots Q g := k Q rfl
end TYPED
