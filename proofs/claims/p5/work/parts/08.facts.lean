/-! facts of arrays, put together -/
theorem AX.imp {k t m : Nat} {F F2 : (Nat → Int32) → Prop} {Ps : PSI} {ws : va_W} (x : AX k t F Ps ws m) (h : ∀ f, F f → F2 f) : AX k t F2 Ps ws m := by
  obtain ⟨a, f, h1, h2, h3⟩ := x
  exact ⟨a, f, h1, h2, h f h3⟩
section FACTS
variable {p : Program} {l : Launch} {e : Env} {R : Room} {s : State} {m : MethodId} {args : Array Value} {below : List Frame} {meth : Method} {c : Code} {H : Heap} {locs : List Loc} {cells slots : Nat} {Q : State → Prop}
variable {cc : ByteArray} {pc : Nat} {ls : Array Slot} {rest : List Value} {D : va_G} {cy : Nat → ClassId} {z : Nat → Nat} {A : Nat → Prop} {a : Nat} {ws ws' w0 : va_W} {G : Nat → Nat → CTy} {Ps P0 : PSI} {wr wr2 : List (Nat × Nat)} {wa wa2 : List Nat}
theorem AX.and {k t mm : Nat} {F F2 : (Nat → Int32) → Prop} (hw : WD D cy G A s wr wa P0 w0 Ps ws H locs) (x : AX k t F Ps ws mm) (y : AX k t F2 Ps ws mm) : AX k t (fun f => F f ∧ F2 f) Ps ws mm := by
  obtain ⟨a1, f, h1, h2, h3⟩ := x
  obtain ⟨a2, g, g1, g2, g3⟩ := y
  have e := FLD.inj hw.2.2.1 h1 g1
  cases e
  have e2 := ARR.inj hw.2.2.1 h2 g2
  subst e2
  exact ⟨a1, f, h1, h2, h3, g3⟩
theorem AX.no {k t mm : Nat} {F F2 : (Nat → Int32) → Prop} (hw : WD D cy G A s wr wa P0 w0 Ps ws H locs) (x : AX k t F Ps ws mm) (y : AX k t F2 Ps ws mm) (h : ∀ f, F f → F2 f → False) : False := by
  obtain ⟨_, f, -, -, h3⟩ := AX.and hw x y
  exact h f h3.1 h3.2
theorem AEL.over {t : Nat} {i v : Int32} (hw : WD D cy G A s wr wa P0 w0 Ps ws H locs) (hF : FR wr2 wa2 Ps ws ws') (ha : (a, t) ∈ Ps) (h : AEL ws a i v) (hn : t ∉ wa2) : AEL ws' a i v := by
  obtain ⟨q, cA, n, f, h1, h2⟩ := h
  obtain ⟨q', e', g1, g2, -⟩ := hw.1.find ha
  have e := hw.2.2.1.1 q q' _ _ h1 g2 rfl
  subst e
  cases h1.symm.trans g2
  obtain ⟨e2, k1, -, k2⟩ := hF.2 q a _ h1
  rw [k2 _ rfl t g1 hn] at k1
  exact ⟨q, cA, n, f, k1, h2⟩
/-- an array of longs: its contents, an element -/
theorem LAR.x : True := trivial
end FACTS
def LAR (ws : va_W) (a : Nat) (f : Nat → Int64) : Prop := ∃ (q : Nat) (cA : ClassId) (n : Nat), ws[q]? = some (a, .inl (cA, n, .inr (.inl f)))
/-- the first so many of an array of longs from a place on are other ones; one of them is it -/
def NFD (ws : va_W) (a : Nat) (b k : Int32) (w : Int64) : Prop := ∃ f, LAR ws a f ∧ ∀ j : Nat, (j : Int) < k.toInt → f (b.toNatClampNeg + j) ≠ w
def FDD (ws : va_W) (a : Nat) (b k : Int32) (w : Int64) : Prop := ∃ f, LAR ws a f ∧ ∃ j : Nat, (j : Int) < k.toInt ∧ f (b.toNatClampNeg + j) = w
section FACTS2
variable {p : Program} {l : Launch} {e : Env} {R : Room} {s : State} {m : MethodId} {args : Array Value} {below : List Frame} {meth : Method} {c : Code} {H : Heap} {locs : List Loc} {cells slots : Nat} {Q : State → Prop}
variable {cc : ByteArray} {pc : Nat} {ls : Array Slot} {rest : List Value} {D : va_G} {cy : Nat → ClassId} {z : Nat → Nat} {A : Nat → Prop} {a : Nat} {ws ws' w0 : va_W} {G : Nat → Nat → CTy} {Ps P0 : PSI} {wr wr2 : List (Nat × Nat)} {wa wa2 : List Nat}
theorem LAR.inj {f g : Nat → Int64} (hD : va_D A ws) (h : LAR ws a f) (h2 : LAR ws a g) : f = g := by
  obtain ⟨q, cA, n, a2⟩ := h
  obtain ⟨q', cB, n', b2⟩ := h2
  have e := hD.1 q q' _ _ a2 b2 rfl
  subst e
  cases a2.symm.trans b2
  rfl
theorem LAR.over {t : Nat} {f : Nat → Int64} (hw : WD D cy G A s wr wa P0 w0 Ps ws H locs) (hF : FR wr2 wa2 Ps ws ws') (ha : (a, t) ∈ Ps) (h : LAR ws a f) (hn : t ∉ wa2) : LAR ws' a f := by
  obtain ⟨q, cA, n, h1⟩ := h
  obtain ⟨q', e', g1, g2, -⟩ := hw.1.find ha
  have e := hw.2.2.1.1 q q' _ _ h1 g2 rfl
  subst e
  cases h1.symm.trans g2
  obtain ⟨e2, k1, -, k2⟩ := hF.2 q a _ h1
  rw [k2 _ rfl t g1 hn] at k1
  exact ⟨q, cA, n, k1⟩
theorem NFD.over {t : Nat} {b k : Int32} {w : Int64} (hw : WD D cy G A s wr wa P0 w0 Ps ws H locs) (hF : FR wr2 wa2 Ps ws ws') (ha : (a, t) ∈ Ps) (h : NFD ws a b k w) (hn : t ∉ wa2) : NFD ws' a b k w := by
  obtain ⟨f, h1, h2⟩ := h
  exact ⟨f, LAR.over hw hF ha h1 hn, h2⟩
theorem FDD.over {t : Nat} {b k : Int32} {w : Int64} (hw : WD D cy G A s wr wa P0 w0 Ps ws H locs) (hF : FR wr2 wa2 Ps ws ws') (ha : (a, t) ∈ Ps) (h : FDD ws a b k w) (hn : t ∉ wa2) : FDD ws' a b k w := by
  obtain ⟨f, h1, h2⟩ := h
  exact ⟨f, LAR.over hw hF ha h1 hn, h2⟩
theorem FDD.no {b k : Int32} {w : Int64} (hw : WD D cy G A s wr wa P0 w0 Ps ws H locs) (h : FDD ws a b k w) (h2 : NFD ws a b k w) : False := by
  obtain ⟨f, h1, j, h3, h4⟩ := h
  obtain ⟨g, g1, g2⟩ := h2
  have e := LAR.inj hw.2.2.1 h1 g1
  subst e
  exact g2 j h3 h4
theorem NFD.zero {t n : Nat} {lo hi : Int} {b : Int32} {w : Int64} (hw : WD D cy G A s wr wa P0 w0 Ps ws H locs) (ha : (a, t) ∈ Ps) (hG : G a t = .inr (.inr (.inl (n, lo, hi)))) : NFD ws a b 0 w := by
  obtain ⟨q, e1, -, h2, h3⟩ := hw.1.find ha
  rw [hG] at h3
  obtain ⟨f, rfl, -⟩ := h3
  exact ⟨f, ⟨q, _, _, h2⟩, fun j hj => absurd hj (by rw [Int32.toInt_zero]; omega)⟩
theorem tg_laldE (hexec : p.tables.exec = Jvm.exec) (hb : c.code = cc) (hK : va_K D classes (TY cy) s) (hw : WD D cy G A s wr wa P0 w0 Ps ws H locs) {t n : Nat} {lo hi : Int} (ha : (a, t) ∈ Ps) (hG : G a t = .inr (.inr (.inl (n, lo, hi)))) {i : Int32} {x y : Int} (hi0 : RI i x y) (hab : 0 ≤ x ∧ y < (n : Int)) (hdg : decode cc pc = .ok (.laload, 1))
    (kk : ∀ v : Int64, RJ v lo hi → (∃ f, LAR ws a f ∧ f i.toNatClampNeg = v) → W p l e R s m args below meth c H locs cells slots Q (F0 m (pc + 1) ls (.long v :: rest))) : W p l e R s m args below meth c H locs cells slots Q (F0 m pc ls (.int i :: .ref a :: rest)) := by
  obtain ⟨q, e1, -, h2, h3⟩ := hw.1.find ha
  rw [hG] at h3
  obtain ⟨f, rfl, h4⟩ := h3
  have g1 := hi0.inn hab
  have g2 : i.toNatClampNeg < n := Nat.not_le.mp fun q => g1 (Or.inr q)
  exact va_lald hexec hb hK hw.2.1 q 2 h2 rfl g1 hdg (kk _ (h4 _ g2) ⟨f, ⟨q, _, _, h2⟩, rfl⟩)
theorem lcmp_eq {x y : Int64} {v : Int32} (e : v = lg_cmp x y) (h : v = 0) : x = y := by
  rw [e] at h
  exact (lg_cmp_eq x y).mp h
theorem lcmp_ne {x y : Int64} {v : Int32} (e : v = lg_cmp x y) (h : ¬ v = 0) : x ≠ y := fun q => h (by rw [e]; exact (lg_cmp_eq x y).mpr q)
theorem NFD.step {b k k2 i : Int32} {w v : Int64} (hw : WD D cy G A s wr wa P0 w0 Ps ws H locs) (h : NFD ws a b k w) (he : ∃ f, LAR ws a f ∧ f i.toNatClampNeg = v) (hi : i.toNatClampNeg = b.toNatClampNeg + k.toNatClampNeg) (hv : v ≠ w) (hk : k2.toInt = k.toInt + 1) (h0 : 0 ≤ k.toInt) : NFD ws a b k2 w := by
  obtain ⟨f, h1, h2⟩ := h
  obtain ⟨g, g1, g2⟩ := he
  have e := LAR.inj hw.2.2.1 h1 g1
  subst e
  refine ⟨f, h1, fun j hj => ?_⟩
  by_cases q : (j : Int) < k.toInt
  · exact h2 j q
  · have hk0 : k.toNatClampNeg = k.toInt.toNat := rfl
    have e : b.toNatClampNeg + j = i.toNatClampNeg := by omega
    rw [e, g2]
    exact hv
theorem FDD.mk {b k i many : Int32} {w v : Int64} (he : ∃ f, LAR ws a f ∧ f i.toNatClampNeg = v) (hi : i.toNatClampNeg = b.toNatClampNeg + k.toNatClampNeg) (hv : v = w) (hk : k.toInt < many.toInt) (h0 : 0 ≤ k.toInt) : FDD ws a b many w := by
  obtain ⟨f, h1, h2⟩ := he
  have hk0 : k.toNatClampNeg = k.toInt.toNat := rfl
  exact ⟨f, h1, k.toNatClampNeg, by omega, by rw [← hi, h2, hv]⟩
end FACTS2
/-! what a parcel is, in the reference -/
def NBp (f : Nat → Int32) (q : Int32) : Prop := ∀ j : Nat, j < 6 → (j : Int) < (f 0).toInt → (f (136 + 6 * q.toNatClampNeg + j)).toInt < (f (6 + j)).toInt
def WBp (f : Nat → Int32) (q r : Int32) : Prop := (0 ≤ r.toInt ∧ r.toInt < 6) ∧ r.toInt < (f 0).toInt ∧ (f (6 + r.toNatClampNeg)).toInt ≤ (f (136 + 6 * q.toNatClampNeg + r.toNatClampNeg)).toInt
def WIp (f : Nat → Int32) (q b i : Int32) : Prop := (b.toInt < 0 → ∀ j : Nat, j < 6 → i.toInt < j → (j : Int) < (f 0).toInt → (f (136 + 6 * q.toNatClampNeg + j)).toInt < (f (6 + j)).toInt) ∧ (0 ≤ b.toInt → WBp f q b) ∧ i.toInt < (f 0).toInt
def WJp (f : Nat → Int32) (q b i : Int32) : Prop := (b.toInt < 0 → ∀ j : Nat, j < 6 → i.toInt ≤ j → (j : Int) < (f 0).toInt → (f (136 + 6 * q.toNatClampNeg + j)).toInt < (f (6 + j)).toInt) ∧ (0 ≤ b.toInt → WBp f q b) ∧ i.toInt < (f 0).toInt
theorem NW_no {f : Nat → Int32} {q r : Int32} (h : NBp f q) (g : WBp f q r) : False := by
  have e : r.toNatClampNeg = r.toInt.toNat := rfl
  obtain ⟨⟨g1, g2⟩, g3, g4⟩ := g
  have := h r.toNatClampNeg (by omega) (by omega)
  omega
theorem WI_start {f : Nat → Int32} {q i v : Int32} (e : f 0 = v) (h : i.toInt = v.toInt - 1) : WIp f q (-1) i := by
  subst e
  exact ⟨fun _ j _ a b => absurd b (by omega), fun h => absurd h (by decide), by omega⟩
theorem WI_next {f : Nat → Int32} {q b i k : Int32} (h : WJp f q b i) (e : k.toInt = i.toInt + -1) : WIp f q b k :=
  ⟨fun a j b1 c1 d1 => h.1 a j b1 (by omega) d1, h.2.1, by have := h.2.2; omega⟩
theorem WJ_a {f : Nat → Int32} {q b i r v : Int32} (h : WIp f q b i) (hi : RI i 0 5) (e1 : f (136 + 6 * q.toNatClampNeg + i.toNatClampNeg) = r) (e2 : f (6 + i.toNatClampNeg) = v) (c : r < v) : WJp f q b i := by
  have c := ti_lt c
  have e : i.toNatClampNeg = i.toInt.toNat := rfl
  have h1 := hi.1
  refine ⟨fun a j b1 c1 d1 => ?_, h.2.1, h.2.2⟩
  by_cases k : i.toInt < j
  · exact h.1 a j b1 k d1
  · have e3 : j = i.toNatClampNeg := by omega
    rw [e3, e1, e2]
    exact c
theorem WJ_b {f : Nat → Int32} {q b i r v : Int32} (h : WIp f q b i) (hi : RI i 0 5) (e1 : f (136 + 6 * q.toNatClampNeg + i.toNatClampNeg) = r) (e2 : f (6 + i.toNatClampNeg) = v) (c : ¬ r < v) : WJp f q i i := by
  have c := ti_nlt c
  have h1 := hi.1
  have h2 := hi.2
  exact ⟨fun a => absurd a (by omega), fun _ => ⟨⟨h1, by omega⟩, h.2.2, by rw [e1, e2]; exact c⟩, h.2.2⟩
theorem WJ_c {f : Nat → Int32} {q b i : Int32} (h : WIp f q b i) (hb : RI b 0 5) : WJp f q b i :=
  ⟨fun a => absurd a (by have := hb.1; omega), h.2.1, h.2.2⟩
theorem WI_nb {f : Nat → Int32} {q b i : Int32} (h : WIp f q b i) (hb : RI b (-1) (-1)) (hi : RI i (-1) (-1)) : NBp f q := fun j b1 d1 => h.1 (by have := hb.2; omega) j b1 (by have := hi.2; omega) d1
/-! what a parcel is, in the class -/
def WX (F : (Nat → Int32) → (Nat → Int32) → (Nat → Int32) → Prop) (Ps : PSI) (ws : va_W) (w : Nat) : Prop := ∃ (p a1 a2 a3 : Nat) (f g h : Nat → Int32), FLD ws w 8 0 (.ref p) ∧ FLD ws w 8 2 (.ref a1) ∧ ARR Ps ws a1 8 f ∧ FLD ws p 3 1 (.ref a2) ∧ ARR Ps ws a2 4 g ∧ FLD ws p 3 2 (.ref a3) ∧ ARR Ps ws a3 5 h ∧ F f g h
theorem WX.over {wr : List (Nat × Nat)} {wa : List Nat} {Ps : PSI} {ws ws' : va_W} {w : Nat} {F : (Nat → Int32) → (Nat → Int32) → (Nat → Int32) → Prop} (h : FR wr wa Ps ws ws') (x : WX F Ps ws w) (hn : (8, 0) ∉ wr ∧ (8, 2) ∉ wr ∧ (3, 1) ∉ wr ∧ (3, 2) ∉ wr ∧ 8 ∉ wa ∧ 4 ∉ wa ∧ 5 ∉ wa) : WX F Ps ws' w := by
  obtain ⟨p, a1, a2, a3, f, g, h', x1, x2, x3, x4, x5, x6, x7, x8⟩ := x
  obtain ⟨n1, n2, n3, n4, n5, n6, n7⟩ := hn
  exact ⟨p, a1, a2, a3, f, g, h', FLD.over h x1 n1, FLD.over h x2 n2, ARR.over h x3 n5, FLD.over h x4 n3, ARR.over h x5 n6, FLD.over h x6 n4, ARR.over h x7 n7, x8⟩
theorem WX.imp {Ps : PSI} {ws : va_W} {w : Nat} {F F2 : (Nat → Int32) → (Nat → Int32) → (Nat → Int32) → Prop} (x : WX F Ps ws w) (h : ∀ f g h, F f g h → F2 f g h) : WX F2 Ps ws w := by
  obtain ⟨p, a1, a2, a3, f, g, h', x1, x2, x3, x4, x5, x6, x7, x8⟩ := x
  exact ⟨p, a1, a2, a3, f, g, h', x1, x2, x3, x4, x5, x6, x7, h _ _ _ x8⟩
def OKp (f h : Nat → Int32) (q : Int32) (j : Nat) : Prop := (h j).toInt ≤ min (f (6 * q.toNatClampNeg + j)).toInt 99 ∧ 0 < min (f (6 * q.toNatClampNeg + j)).toInt 99
def BIp (f g h : Nat → Int32) (q b mo i : Int32) : Prop := 0 ≤ i.toInt ∧ (b.toInt < 0 → mo.toInt = 0 ∧ ∀ j : Nat, j < 6 → (j : Int) < i.toInt → ¬ OKp f h q j) ∧ (0 ≤ b.toInt → ∃ j : Nat, j < 6 ∧ (j : Int) < (g 0).toInt ∧ OKp f h q j)
theorem BI_start {f g h : Nat → Int32} {q : Int32} : BIp f g h q (-1) 0 0 := ⟨by decide, fun _ => ⟨rfl, fun j _ a => absurd a (by rw [Int32.toInt_zero]; omega)⟩, fun a => absurd a (by decide)⟩
theorem BI_a {f g h : Nat → Int32} {q b mo i k r v : Int32} (x : BIp f g h q b mo i) (e1 : r.toInt = min (f (6 * q.toNatClampNeg + i.toNatClampNeg)).toInt 99) (e2 : h i.toNatClampNeg = v) (c : r < v) (e : k.toInt = i.toInt + 1) : BIp f g h q b mo k := by
  have c := ti_lt c
  have e0 : i.toNatClampNeg = i.toInt.toNat := rfl
  have h0 := x.1
  refine ⟨by omega, fun a => ⟨(x.2.1 a).1, fun j b1 d1 => ?_⟩, x.2.2⟩
  by_cases kk : (j : Int) < i.toInt
  · exact (x.2.1 a).2 j b1 kk
  · have e3 : j = i.toNatClampNeg := by omega
    rw [e3]
    intro w
    have w1 := w.1
    rw [e2, ← e1] at w1
    omega
theorem BI_b {f g h : Nat → Int32} {q b mo i k r : Int32} (x : BIp f g h q b mo i) (e1 : r.toInt = min (f (6 * q.toNatClampNeg + i.toNatClampNeg)).toInt 99) (c : r ≤ mo) (e : k.toInt = i.toInt + 1) : BIp f g h q b mo k := by
  have c := ti_le c
  have e0 : i.toNatClampNeg = i.toInt.toNat := rfl
  have h0 := x.1
  refine ⟨by omega, fun a => ⟨(x.2.1 a).1, fun j b1 d1 => ?_⟩, x.2.2⟩
  by_cases kk : (j : Int) < i.toInt
  · exact (x.2.1 a).2 j b1 kk
  · have e3 : j = i.toNatClampNeg := by omega
    rw [e3]
    intro w
    have w2 := w.2
    have := (x.2.1 a).1
    rw [← e1] at w2
    omega
theorem BI_c {f g h : Nat → Int32} {q b mo i k r v u : Int32} (x : BIp f g h q b mo i) (hi : RI i 0 5) (hm : RI mo 0 2147483647) (e1 : r.toInt = min (f (6 * q.toNatClampNeg + i.toNatClampNeg)).toInt 99) (e2 : h i.toNatClampNeg = v) (e4 : g 0 = u) (c : ¬ r < v) (c2 : ¬ r ≤ mo) (c3 : ¬ u ≤ i) (e : k.toInt = i.toInt + 1) : BIp f g h q i r k := by
  have c := ti_nlt c
  have c2 := ti_nle c2
  have c3 := ti_nle c3
  have e0 : i.toNatClampNeg = i.toInt.toNat := rfl
  have h0 := hi.1
  have h1 := hi.2
  have h2 := hm.1
  refine ⟨by omega, fun a => absurd a (by omega), fun _ => ⟨i.toNatClampNeg, by omega, by rw [e4]; omega, ?_, ?_⟩⟩
  · rw [e2, ← e1]; exact c
  · rw [← e1]; omega
def NBq (f g h : Nat → Int32) (q : Int32) : Prop := ∀ j : Nat, j < 6 → (j : Int) < (g 0).toInt → ¬ OKp f h q j
def WBq (f g h : Nat → Int32) (q : Int32) : Prop := ∃ j : Nat, j < 6 ∧ (j : Int) < (g 0).toInt ∧ OKp f h q j
theorem BI_nb {f g h : Nat → Int32} {q b mo i u : Int32} (x : BIp f g h q b mo i) (hb : RI b (-1) (-1)) (e4 : g 0 = u) (c3 : u ≤ i) : NBq f g h q := by
  have c3 := ti_le c3
  subst e4
  exact fun j b1 d1 => (x.2.1 (by have := hb.2; omega)).2 j b1 (by omega)
section FACTS3
variable {s : State} {H : Heap} {locs : List Loc} {D : va_G} {cy : Nat → ClassId} {A : Nat → Prop} {ws w0 : va_W} {Ps P0 : PSI} {wr : List (Nat × Nat)} {wa : List Nat}
theorem WX.mk {w : Nat} {F : (Nat → Int32) → (Nat → Int32) → (Nat → Int32) → Prop} (hw : WD D cy GG A s wr wa P0 w0 Ps ws H locs) (hm : (w, 24) ∈ Ps) (k : ∀ f g h, (∀ a i v, FLD ws w 8 2 (.ref a) → AEL ws a i v → f i.toNatClampNeg = v) → (∀ p a i v, FLD ws w 8 0 (.ref p) → FLD ws p 3 1 (.ref a) → AEL ws a i v → g i.toNatClampNeg = v) → (∀ p a i v, FLD ws w 8 0 (.ref p) → FLD ws p 3 2 (.ref a) → AEL ws a i v → h i.toNatClampNeg = v) → F f g h) : WX F Ps ws w := by
  have hD := hw.2.2.1
  obtain ⟨q, e1, -, h2, fs, rfl, h4⟩ := hw.1.find hm
  obtain ⟨v0, h5, p, rfl, hp⟩ := h4 0 (vR 25) rfl
  obtain ⟨v2, h6, a1, rfl, ha1⟩ := h4 2 (vR 8) rfl
  obtain ⟨q', e1', -, h2', fs', rfl, h4'⟩ := hw.1.find hp
  obtain ⟨v3, h7, a2, rfl, ha2⟩ := h4' 1 (vR 4) rfl
  obtain ⟨v4, h8, a3, rfl, ha3⟩ := h4' 2 (vR 5) rfl
  obtain ⟨f, f1, -, -⟩ := arr_of hw ha1 rfl
  obtain ⟨g, g1, -, -⟩ := arr_of hw ha2 rfl
  obtain ⟨h, k1, -, -⟩ := arr_of hw ha3 rfl
  have y0 : FLD ws w 8 0 (.ref p) := ⟨q, fs, h2, h5⟩
  have y2 : FLD ws w 8 2 (.ref a1) := ⟨q, fs, h2, h6⟩
  have y3 : FLD ws p 3 1 (.ref a2) := ⟨q', fs', h2', h7⟩
  have y4 : FLD ws p 3 2 (.ref a3) := ⟨q', fs', h2', h8⟩
  refine ⟨p, a1, a2, a3, f, g, h, y0, y2, f1, y3, g1, y4, k1, k f g h ?_ ?_ ?_⟩
  · intro a i v b1 b2
    cases FLD.inj hD y2 b1
    exact ARR.ael hD f1 b2
  · intro p' a i v b0 b1 b2
    cases FLD.inj hD y0 b0
    cases FLD.inj hD y3 b1
    exact ARR.ael hD g1 b2
  · intro p' a i v b0 b1 b2
    cases FLD.inj hD y0 b0
    cases FLD.inj hD y4 b1
    exact ARR.ael hD k1 b2
theorem WX.and {w : Nat} {F F2 : (Nat → Int32) → (Nat → Int32) → (Nat → Int32) → Prop} (hw : WD D cy GG A s wr wa P0 w0 Ps ws H locs) (x : WX F Ps ws w) (y : WX F2 Ps ws w) : WX (fun f g h => F f g h ∧ F2 f g h) Ps ws w := by
  have hD := hw.2.2.1
  obtain ⟨p, a1, a2, a3, f, g, h', x1, x2, x3, x4, x5, x6, x7, x8⟩ := x
  obtain ⟨p', b1, b2, b3, f', g', h'', y1, y2, y3, y4, y5, y6, y7, y8⟩ := y
  cases FLD.inj hD x1 y1
  cases FLD.inj hD x2 y2
  cases FLD.inj hD x4 y4
  cases FLD.inj hD x6 y6
  cases ARR.inj hD x3 y3
  cases ARR.inj hD x5 y5
  cases ARR.inj hD x7 y7
  exact ⟨p, a1, a2, a3, f, g, h', x1, x2, x3, x4, x5, x6, x7, x8, y8⟩
theorem WX.no {w : Nat} {q : Int32} (hw : WD D cy GG A s wr wa P0 w0 Ps ws H locs) (x : WX (fun f g h => NBq f g h q) Ps ws w) (y : WX (fun f g h => WBq f g h q) Ps ws w) : False := by
  obtain ⟨_, _, _, _, f, g, h, _, _, _, _, _, _, _, h1, j, h2, h3, h4⟩ := WX.and hw x y
  exact h1 j h2 h3 h4
end FACTS3
