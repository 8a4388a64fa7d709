theorem tq_add {x y v : Int32} {a b c d lo hi : Int} (hx : RI x a b) (hy : RI y c d) (h : (-2147483648 ≤ a + c ∧ b + d ≤ 2147483647) ∧ lo ≤ a + c ∧ b + d ≤ hi) (e : v = x + y) : v.toInt = x.toInt + y.toInt ∧ RI v lo hi := by
  have h1 := ri_add hx hy h.1
  obtain ⟨a1, a2⟩ := hx
  obtain ⟨a3, a4⟩ := hy
  rw [← e] at h1
  exact ⟨h1, by unfold RI; rw [h1]; omega⟩
theorem tq_sub {x y v : Int32} {a b c d lo hi : Int} (hx : RI x a b) (hy : RI y c d) (h : (-2147483648 ≤ a - d ∧ b - c ≤ 2147483647) ∧ lo ≤ a - d ∧ b - c ≤ hi) (e : v = x - y) : v.toInt = x.toInt - y.toInt ∧ RI v lo hi := by
  have h1 := ri_sub hx hy h.1
  obtain ⟨a1, a2⟩ := hx
  obtain ⟨a3, a4⟩ := hy
  rw [← e] at h1
  exact ⟨h1, by unfold RI; rw [h1]; omega⟩
theorem tq_mul {x y v : Int32} {a b c d lo hi : Int} (hx : RI x a b) (hy : RI y c d) (h : ((lo ≤ a * c ∧ lo ≤ a * d ∧ lo ≤ b * c ∧ lo ≤ b * d) ∧ (a * c ≤ hi ∧ a * d ≤ hi ∧ b * c ≤ hi ∧ b * d ≤ hi)) ∧ -2147483648 ≤ lo ∧ hi ≤ 2147483647) (e : v = x * y) : v.toInt = x.toInt * y.toInt ∧ RI v lo hi := by
  rw [e]
  exact ri_mul hx hy h
theorem tq_i2l {x : Int32} {v : Int64} {a b : Int} (hx : RI x a b) (e : x.toInt64 = v) : RJ v a b := by
  rw [← e]
  unfold RJ
  rw [Int32.toInt_toInt64]
  exact hx
theorem tq_ladd {x y v : Int64} {a b c d lo hi : Int} (hx : RJ x a b) (hy : RJ y c d) (h : (-9223372036854775808 ≤ a + c ∧ b + d ≤ 9223372036854775807) ∧ lo ≤ a + c ∧ b + d ≤ hi) (e : v = x + y) : RJ v lo hi := by
  obtain ⟨a1, a2⟩ := hx
  obtain ⟨a3, a4⟩ := hy
  rw [e]
  unfold RJ
  rw [Int64.toInt_add, bm64 (by omega) (by omega)]
  omega
theorem tq_lsub {x y v : Int64} {a b c d lo hi : Int} (hx : RJ x a b) (hy : RJ y c d) (h : (-9223372036854775808 ≤ a - d ∧ b - c ≤ 9223372036854775807) ∧ lo ≤ a - d ∧ b - c ≤ hi) (e : v = x - y) : RJ v lo hi := by
  obtain ⟨a1, a2⟩ := hx
  obtain ⟨a3, a4⟩ := hy
  rw [e]
  unfold RJ
  rw [Int64.toInt_sub, bm64 (by omega) (by omega)]
  omega
theorem tq_lmul {x y v : Int64} {a b c d lo hi : Int} (hx : RJ x a b) (hy : RJ y c d) (h : ((lo ≤ a * c ∧ lo ≤ a * d ∧ lo ≤ b * c ∧ lo ≤ b * d) ∧ (a * c ≤ hi ∧ a * d ≤ hi ∧ b * c ≤ hi ∧ b * d ≤ hi)) ∧ -9223372036854775808 ≤ lo ∧ hi ≤ 9223372036854775807) (e : v = x * y) : RJ v lo hi := by
  obtain ⟨h1, h2⟩ := hx
  obtain ⟨h3, h4⟩ := hy
  obtain ⟨h5, h6, h7⟩ := h
  have q := mul_rng h1 h2 h3 h4 h5
  rw [e]
  unfold RJ
  rw [Int64.toInt_mul, bm64 (by omega) (by omega)]
  exact q
theorem tq_bits {x y v : Int32} (h : x.toInt ≠ (0 : Int32).toInt) (e : y = x - 1) (e2 : v = x &&& y) : v.toBitVec.toNat < x.toBitVec.toNat := by
  have hx : x.toBitVec.toNat ≠ 0 := fun q => h (by
    have : x.toBitVec = 0#32 := BitVec.eq_of_toNat_eq q
    show x.toBitVec.toInt = _
    rw [this]; rfl)
  rw [e2, Int32.toBitVec_and, BitVec.toNat_and, e, Int32.toBitVec_sub]
  have h1 : (x.toBitVec - (1 : Int32).toBitVec).toNat = x.toBitVec.toNat - 1 := by
    have := x.toBitVec.isLt
    rw [BitVec.toNat_sub]
    show (2 ^ 32 - 1 + x.toBitVec.toNat) % 2 ^ 32 = _
    omega
  rw [h1]
  have := @Nat.and_le_right x.toBitVec.toNat (x.toBitVec.toNat - 1)
  omega
theorem tq_ldiv {x v : Int64} {a b lo hi : Int} (hx : RJ x a b) (h : 0 ≤ a ∧ lo * 27 ≤ a ∧ b < (hi + 1) * 27) (e : v = x / 27) : RJ v lo hi := by
  obtain ⟨h1, h2⟩ := hx
  have h3 := Int64.toInt_lt x
  have e2 : (x / 27).toInt = x.toInt / 27 := by
    rw [Int64.toInt_div, show (27 : Int64).toInt = 27 from by decide, Int.tdiv_eq_ediv_of_nonneg (by omega)]
    exact bm64 (by omega) (by omega)
  rw [e]
  unfold RJ
  rw [e2]
  omega
theorem tq_lc_lt {x y : Int64} {v : Int32} {a b c u : Int} (hx : RJ x a b) (hy : RJ y c c) (e : v = lg_cmp x y) (h : v < 0) (hu : c - 1 ≤ u) : RJ x a u := by
  rw [e] at h
  have h1 := Int64.lt_iff_toInt_lt.mp ((lg_cmp_lt x y).mp h)
  obtain ⟨h2, h3⟩ := hy
  exact ⟨hx.1, by omega⟩
theorem tq_lc_nlt {x y : Int64} {v : Int32} {a b c u : Int} (hx : RJ x a b) (hy : RJ y c c) (e : v = lg_cmp x y) (h : ¬ v < 0) (hu : u ≤ c) : RJ x u b := by
  rw [e] at h
  have h1 : ¬ x.toInt < y.toInt := fun q => h ((lg_cmp_lt x y).mpr (Int64.lt_iff_toInt_lt.mpr q))
  obtain ⟨h2, h3⟩ := hy
  exact ⟨by omega, hx.2⟩
theorem tq_01 {x : Int32} (h : RI x 0 1) : x = 0 ∨ x = 1 := by
  obtain ⟨h1, h2⟩ := h
  rcases (show x.toInt = 0 ∨ x.toInt = 1 by omega) with q | q
  · exact Or.inl (Int32.toInt_inj.mp q)
  · exact Or.inr (Int32.toInt_inj.mp q)
theorem tq_nz {x : Int32} (h : RI x 0 1) : narrow .boolean (.int x) = .int x := by
  rcases tq_01 h with rfl | rfl <;> rfl
theorem tq_fz {x : Int32} (h : RI x 0 1) : fits .boolean (.int x) = true := by
  rcases tq_01 h with rfl | rfl <;> rfl
theorem ARR.ael {Ps : PSI} {ws : va_W} {A : Nat → Prop} {b t : Nat} {f : Nat → Int32} {i v : Int32} (hD : va_D A ws) (h : ARR Ps ws b t f) (he : AEL ws b i v) : f i.toNatClampNeg = v := by
  obtain ⟨q, cA, n, -, h2⟩ := h
  obtain ⟨q', cB, n', f', k1, k2⟩ := he
  have e := hD.1 q q' _ _ h2 k1 rfl
  subst e
  cases h2.symm.trans k1
  exact k2
theorem FLD.inj {ws : va_W} {A : Nat → Prop} {m ci k : Nat} {u v : Value} (hD : va_D A ws) (h : FLD ws m ci k u) (h2 : FLD ws m ci k v) : u = v := by
  obtain ⟨q, fs, a1, a2⟩ := h
  obtain ⟨q', fs', b1, b2⟩ := h2
  have e := hD.1 q q' _ _ a1 b1 rfl
  subst e
  cases a1.symm.trans b1
  exact Option.some.inj (a2.symm.trans b2)
/-- what is known of an array that the reference holds -/
def AX (k t : Nat) (F : (Nat → Int32) → Prop) (Ps : PSI) (ws : va_W) (m : Nat) : Prop := ∃ (a : Nat) (f : Nat → Int32), FLD ws m 10 k (.ref a) ∧ ARR Ps ws a t f ∧ F f
theorem AX.over {wr : List (Nat × Nat)} {wa : List Nat} {Ps : PSI} {ws ws' : va_W} {k t m : Nat} {F : (Nat → Int32) → Prop} (h : FR wr wa Ps ws ws') (x : AX k t F Ps ws m) (hn : (10, k) ∉ wr ∧ t ∉ wa) : AX k t F Ps ws' m := by
  obtain ⟨a, f, h1, h2, h3⟩ := x
  exact ⟨a, f, FLD.over h h1 hn.1, ARR.over h h2 hn.2, h3⟩
theorem AX.ast {Ps : PSI} {ws ws1 : va_W} {A : Nat → Prop} {k t m a j : Nat} {v : Int32} {F F2 : (Nat → Int32) → Prop} (hF : FR [] [t] Ps ws ws1) (hU : va_D A ws ∧ ∀ f, ARR Ps ws a t f → ARR Ps ws1 a t (upd f j v)) (x : AX k t F Ps ws m) (hf : FLD ws m 10 k (.ref a)) (h : ∀ f, F f → F2 (upd f j v)) : AX k t F2 Ps ws1 m := by
  obtain ⟨a', f, h1, h2, h3⟩ := x
  cases FLD.inj hU.1 h1 hf
  exact ⟨a, upd f j v, FLD.over hF h1 List.not_mem_nil, hU.2 f h2, h f h3⟩
section TYPED2
variable {p : Program} {l : Launch} {e : Env} {R : Room} {s : State} {m : MethodId} {args : Array Value} {below : List Frame} {meth : Method} {c : Code} {H : Heap} {locs : List Loc} {cells slots : Nat} {Q : State → Prop}
variable {cc : ByteArray} {pc : Nat} {ls : Array Slot} {rest : List Value} {D : va_G} {cy : Nat → ClassId} {z : Nat → Nat} {A : Nat → Prop} {a : Nat} {ws w0 : va_W} {G : Nat → Nat → CTy} {Ps P0 : PSI} {wr : List (Nat × Nat)} {wa : List Nat}
theorem tg_copy {cc : ByteArray} (hexec : p.tables.exec = Jvm.exec) (hb : c.code = cc) (hml : c.maxLocals = ls.size) {own : String} {index : Nat} (hown : s.vm.findClass own = some m.cls) (hlink : (Cond.methodLink own index arraycopyName).before args s = true) (hnat : (Cond.native arraycopyName).before args s = true) (hstat : (Cond.static arraycopyName).before args s = true) (hini : (Cond.initialized "java/lang/System").before args s = true)
    (hK : va_K D classes (TY cy) s) (hw : WD D cy G A s wr wa P0 w0 Ps ws H locs) {b t u n0 n1 : Nat} {lo hi lo2 hi2 : Int} (ha : (b, t) ∈ Ps) (hb2 : (a, u) ∈ Ps) (hG : G b t = .inr (.inl (1, n0, (fun _ => (lo, hi)), (fun _ => True)))) (hG2 : G a u = .inr (.inl (1, n1, (fun _ => (lo2, hi2)), (fun _ => True)))) (hsub : lo2 ≤ lo ∧ hi ≤ hi2) {n : Int32} {x y : Int} (hn : RI n x y) (hnn : 0 ≤ x ∧ y ≤ (n0 : Int) ∧ y ≤ (n1 : Int)) (hm : u ∈ wa)
    (hframes : 1 ≤ R.frames) (hlocals : (rest.map fun v => v.category).sum + (nativeFrameWords "java/lang/System" "arraycopy" 5 + 11) ≤ R.locals) (hdg : decode cc pc = .ok (.invokestatic index, 3))
    (kk : ∀ (ws1 : va_W) (H1 : Heap) (locs1 : List Loc), WD D cy G A s wr wa P0 w0 Ps ws1 H1 locs1 → FR [] [u] Ps ws ws1 → W p l e R s m args below meth c H1 locs1 cells slots Q (F0 m (pc + 3) ls rest)) : W p l e R s m args below meth c H locs cells slots Q (F0 m pc ls (.int n :: .int 0 :: .ref a :: .int 0 :: .ref b :: rest)) := by
  obtain ⟨q0, e0, g1, g2, g3⟩ := hw.1.find ha
  obtain ⟨q1, e1, h1, h2, h3⟩ := hw.1.find hb2
  rw [hG] at g3
  obtain ⟨f, rfl, g4, -⟩ := g3
  have h9 := h3
  rw [hG2] at h9
  obtain ⟨g, rfl, h4, -⟩ := h9
  obtain ⟨w1, w2, w3, w4, w5, w6, X, w7⟩ := hw
  subst w7
  have k1 := hn.1
  have k2 := hn.2
  have k3 := hn.cl hnn.1
  refine va_copyi (ty := .int) hexec hb hml hown hlink hnat hstat hini hK w2 w3 w4 q0 q1 1 1 g2 h2 rfl rfl rfl (by decide) (by decide) (fun h => by have := ti_lt h; rw [Int32.toInt_zero] at this; omega) (by show 0 + n.toNatClampNeg ≤ n0; omega) (by show 0 + n.toNatClampNeg ≤ n1; omega) (fun i hi => rfl) hframes hlocals hdg (fun H1 locs1 a1 a2 a3 => kk _ H1 locs1 ⟨w1.set h1 ?_, a1, a2, a3, w5.putA h2 h1 hm, w6, X, rfl⟩ (FR.putA (X := []) FR.rf h2 (by rw [List.append_nil]; exact h1) List.mem_cons_self))
  rw [hG2]
  refine ⟨_, rfl, fun j hj => ?_, trivial⟩
  show RI (va_cpy f g 0 0 n.toNatClampNeg j) lo2 hi2
  unfold va_cpy
  split
  · exact (g4 _ (by show 0 + (j - 0) < n0; omega)).to hsub
  · exact h4 j hj
theorem tg_fld (hw : WD D cy G A s wr wa P0 w0 Ps ws H locs) {t ci k : Nat} (ha : (a, t) ∈ Ps) {ts : List VT} (hG : G a t = .inl (ci, ts)) {lo hi : Int} (hft : ts[k]? = some (vI lo hi)) : ∃ x : Int32, FLD ws a ci k (.int x) ∧ RI x lo hi := by
  obtain ⟨q, e1, -, h2, h3⟩ := hw.1.find ha
  rw [hG] at h3
  obtain ⟨fs, rfl, h4⟩ := h3
  obtain ⟨v, h5, x, rfl, h6⟩ := h4 k _ hft
  exact ⟨x, ⟨q, fs, h2, h5⟩, h6⟩
theorem arr_of (hw : WD D cy G A s wr wa P0 w0 Ps ws H locs) {b t t0 n : Nat} {el : Nat → Int × Int} {Rl : (Nat → Int32) → Prop} (hb : (b, t) ∈ Ps) (hG : G b t = .inr (.inl (t0, n, el, Rl))) : ∃ f, ARR Ps ws b t f ∧ Rl f ∧ ∀ j, j < n → RI (f j) (el j).1 (el j).2 := by
  obtain ⟨q, e1, h1, h2, h3⟩ := hw.1.find hb
  rw [hG] at h3
  obtain ⟨f, rfl, h4, h5⟩ := h3
  exact ⟨f, ⟨q, _, _, h1, h2⟩, h5, h4⟩
theorem ARR.inj {b t : Nat} {f g : Nat → Int32} (hD : va_D A ws) (h : ARR Ps ws b t f) (h2 : ARR Ps ws b t g) : f = g := by
  obtain ⟨q, cA, n, -, a2⟩ := h
  obtain ⟨q', cB, n', -, b2⟩ := h2
  have e := hD.1 q q' _ _ a2 b2 rfl
  subst e
  cases a2.symm.trans b2
  rfl
theorem AX.mk {k t t0 n b mm : Nat} {el : Nat → Int × Int} {Rl F : (Nat → Int32) → Prop} (hw : WD D cy G A s wr wa P0 w0 Ps ws H locs) (hb : (b, t) ∈ Ps) (hG : G b t = .inr (.inl (t0, n, el, Rl))) (hf : FLD ws mm 10 k (.ref b)) (h : ∀ f : Nat → Int32, (∀ i v, AEL ws b i v → f i.toNatClampNeg = v) → Rl f → F f) : AX k t F Ps ws mm := by
  obtain ⟨f, h1, h2, -⟩ := arr_of hw hb hG
  exact ⟨b, f, hf, h1, h f (fun i v he => ARR.ael hw.2.2.1 h1 he) h2⟩
theorem AX.use {k t t0 n b mm : Nat} {el : Nat → Int × Int} {Rl F : (Nat → Int32) → Prop} (hw : WD D cy G A s wr wa P0 w0 Ps ws H locs) (x : AX k t F Ps ws mm) (hb : (b, t) ∈ Ps) (hG : G b t = .inr (.inl (t0, n, el, Rl))) (hf : FLD ws mm 10 k (.ref b)) : ∃ f : Nat → Int32, F f ∧ Rl f ∧ ∀ i v, AEL ws b i v → f i.toNatClampNeg = v := by
  obtain ⟨a', f, h1, h2, h3⟩ := x
  have e := FLD.inj hw.2.2.1 h1 hf
  cases e
  obtain ⟨g, g1, g2, -⟩ := arr_of hw hb hG
  have e2 := ARR.inj hw.2.2.1 h2 g1
  subst e2
  exact ⟨f, h3, g2, fun i v he => ARR.ael hw.2.2.1 h2 he⟩
theorem tz_most {z0 : Nat} (hexec : p.tables.exec = Jvm.exec) (hb : c.code = cc) (hT : va_T .int z0 4 (fun j => .int (([6, 4, 6, 8] : List Int32).getD j 0)) A s s.heap) (hS : va_S A s.heap H locs) {i : Int32} (hi : RI i 0 3) (hdg : decode cc pc = .ok (.iaload, 1))
    (kk : ∀ v : Int32, RI v 4 8 → W p l e R s m args below meth c H locs cells slots Q (F0 m (pc + 1) ls (.int v :: rest))) : W p l e R s m args below meth c H locs cells slots Q (F0 m pc ls (.int i :: .ref z0 :: rest)) := by
  refine va_ti hexec hb hT hS (hi.inn (by decide)) rfl hdg (kk _ ?_)
  obtain ⟨j, h1, -, rfl⟩ := ri_nat hi
  have h : ∀ j : Nat, j < 4 → (4 ≤ ((([6, 4, 6, 8] : List Int32).getD (nI j).toNatClampNeg 0)).toInt ∧ ((([6, 4, 6, 8] : List Int32).getD (nI j).toNatClampNeg 0)).toInt ≤ 8) := by decide +kernel
  exact h j (by omega)
end TYPED2
