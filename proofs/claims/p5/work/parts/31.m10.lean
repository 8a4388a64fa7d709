section TKV
variable {p : Program} {l : Launch} {e : Env} {R : Room} {s : State} {m : MethodId} {args : Array Value} {below : List Frame} {meth : Method} {c : Code} {H : Heap} {locs : List Loc} {cells slots : Nat} {Q : State → Prop} {ls : Array Slot} {rest : List Value} {D : va_G} {cy : Nat → ClassId} {A : Nat → Prop} {ws w0 : va_W} {G : Nat → Nat → CTy} {Ps P0 : PSI} {wr : List (Nat × Nat)} {wa : List Nat}
theorem tk_vr {post : Unit → Prop} {pc : Nat} {st0 : List Value} {ar : Array Value} (hr : va_Run p l e R s m args below meth c H locs cells slots 0 0 (F0 m pc ls st0) rest (va_Qv post (BB D cy (va_A ws H.size) (fun _ => ws)) (va_A ws H.size) ar) (va_A ws H.size)) (hw : WD D cy G A s wr wa P0 w0 Ps ws H locs) (hA : ∀ q, s.heap.size ≤ q → A q)
    (kk : ∀ (H1 : Heap) (locs1 : List Loc), post () → WD D cy G A s wr wa P0 w0 Ps ws H1 locs1 → W p l e R s m args below meth c H1 locs1 cells slots Q (F0 m (pc + 3) ls rest)) : W p l e R s m args below meth c H locs cells slots Q (F0 m pc ls st0) := by
  have hF := tg_free hw hA
  refine va_callv hr hw.2.2.2.1 (fun q _ h => hF q h) hF (fun u t H1 locs1 ht hvm hp hB hz1 hk1 hS1 => ?_)
  obtain ⟨hP1, -, hD1⟩ := hB
  rw [ht] at hP1
  exact kk H1 locs1 hp (tg_next (wr2 := []) (wa2 := []) hw hA hw.1 FR.rf ⟨fun q h => absurd h List.not_mem_nil, fun q h => absurd h List.not_mem_nil⟩ hP1 hD1 hS1)
end TKV
/-! facts of arrays that other objects hold -/
def AXC (ci k t : Nat) (F : (Nat → Int32) → Prop) (Ps : PSI) (ws : va_W) (m : Nat) : Prop := ∃ (a : Nat) (f : Nat → Int32), FLD ws m ci k (.ref a) ∧ ARR Ps ws a t f ∧ F f
theorem AXC.over {wr : List (Nat × Nat)} {wa : List Nat} {Ps : PSI} {ws ws' : va_W} {ci k t m : Nat} {F : (Nat → Int32) → Prop} (h : FR wr wa Ps ws ws') (x : AXC ci k t F Ps ws m) (hn : (ci, k) ∉ wr ∧ t ∉ wa) : AXC ci k t F Ps ws' m := by
  obtain ⟨a, f, h1, h2, h3⟩ := x
  exact ⟨a, f, FLD.over h h1 hn.1, ARR.over h h2 hn.2, h3⟩
/-! the lines of a book, in the class -/
def gb (w x y : Int32) : Prop := ((137 ≤ w.toInt ∧ w.toInt ≤ 140) → 0 ≤ x.toInt ∧ x.toInt ≤ 7) ∧ ((139 ≤ w.toInt ∧ w.toInt ≤ 140) → 0 ≤ y.toInt ∧ y.toInt ≤ 5) ∧ (w.toInt = 137 → -1 ≤ y.toInt ∧ y.toInt ≤ 5) ∧ ((141 ≤ w.toInt ∧ w.toInt ≤ 142) → 0 ≤ x.toInt ∧ x.toInt ≤ 5)
def B3 (F : Int32 → (Nat → Int32) → (Nat → Int32) → (Nat → Int32) → Prop) (Ps : PSI) (ws : va_W) (b : Nat) : Prop := ∃ (n : Int32) (a1 a2 a3 : Nat) (f g h : Nat → Int32), FLD ws b 0 3 (.int n) ∧ FLD ws b 0 0 (.ref a1) ∧ ARR Ps ws a1 18 f ∧ FLD ws b 0 1 (.ref a2) ∧ ARR Ps ws a2 19 g ∧ FLD ws b 0 2 (.ref a3) ∧ ARR Ps ws a3 20 h ∧ F n f g h
def gbs (n : Int32) (f g h : Nat → Int32) : Prop := ∀ k : Nat, (k : Int) < n.toInt → gb (f k) (g k) (h k)
abbrev BG (Ps : PSI) (ws : va_W) (b : Nat) : Prop := B3 gbs Ps ws b
theorem B3.over {wr : List (Nat × Nat)} {wa : List Nat} {Ps : PSI} {ws ws' : va_W} {b : Nat} {F : Int32 → (Nat → Int32) → (Nat → Int32) → (Nat → Int32) → Prop} (hF : FR wr wa Ps ws ws') (x : B3 F Ps ws b) (hn : ((0, 0) ∉ wr ∧ (0, 1) ∉ wr ∧ (0, 2) ∉ wr ∧ (0, 3) ∉ wr) ∧ 18 ∉ wa ∧ 19 ∉ wa ∧ 20 ∉ wa) : B3 F Ps ws' b := by
  obtain ⟨n, a1, a2, a3, f, g, h, x0, x1, x2, x3, x4, x5, x6, x7⟩ := x
  obtain ⟨⟨n0, n1, n2, n3⟩, n4, n5, n6⟩ := hn
  exact ⟨n, a1, a2, a3, f, g, h, FLD.over hF x0 n3, FLD.over hF x1 n0, ARR.over hF x2 n4, FLD.over hF x3 n1, ARR.over hF x4 n5, FLD.over hF x5 n2, ARR.over hF x6 n6, x7⟩
theorem B3.imp {Ps : PSI} {ws : va_W} {b : Nat} {F F2 : Int32 → (Nat → Int32) → (Nat → Int32) → (Nat → Int32) → Prop} (x : B3 F Ps ws b) (k : ∀ n f g h, F n f g h → F2 n f g h) : B3 F2 Ps ws b := by
  obtain ⟨n, a1, a2, a3, f, g, h, x0, x1, x2, x3, x4, x5, x6, x7⟩ := x
  exact ⟨n, a1, a2, a3, f, g, h, x0, x1, x2, x3, x4, x5, x6, k _ _ _ _ x7⟩
section ST10
variable {Ps : PSI} {ws ws1 : va_W} {A : Nat → Prop} {b a j : Nat} {v : Int32} {F F2 : Int32 → (Nat → Int32) → (Nat → Int32) → (Nat → Int32) → Prop}
theorem B3.st1 (hF : FR [] [18] Ps ws ws1) (hU : va_D A ws ∧ ∀ f, ARR Ps ws a 18 f → ARR Ps ws1 a 18 (upd f j v)) (x : B3 F Ps ws b) (hf : FLD ws b 0 0 (.ref a)) (k : ∀ n f g h, F n f g h → F2 n (upd f j v) g h) : B3 F2 Ps ws1 b := by
  obtain ⟨n, a1, a2, a3, f, g, h, x0, x1, x2, x3, x4, x5, x6, x7⟩ := x
  cases FLD.inj hU.1 x1 hf
  exact ⟨n, a, a2, a3, upd f j v, g, h, FLD.over hF x0 List.not_mem_nil, FLD.over hF x1 List.not_mem_nil, hU.2 f x2, FLD.over hF x3 List.not_mem_nil, ARR.over hF x4 (by decide), FLD.over hF x5 List.not_mem_nil, ARR.over hF x6 (by decide), k _ _ _ _ x7⟩
theorem B3.st2 (hF : FR [] [19] Ps ws ws1) (hU : va_D A ws ∧ ∀ f, ARR Ps ws a 19 f → ARR Ps ws1 a 19 (upd f j v)) (x : B3 F Ps ws b) (hf : FLD ws b 0 1 (.ref a)) (k : ∀ n f g h, F n f g h → F2 n f (upd g j v) h) : B3 F2 Ps ws1 b := by
  obtain ⟨n, a1, a2, a3, f, g, h, x0, x1, x2, x3, x4, x5, x6, x7⟩ := x
  cases FLD.inj hU.1 x3 hf
  exact ⟨n, a1, a, a3, f, upd g j v, h, FLD.over hF x0 List.not_mem_nil, FLD.over hF x1 List.not_mem_nil, ARR.over hF x2 (by decide), FLD.over hF x3 List.not_mem_nil, hU.2 g x4, FLD.over hF x5 List.not_mem_nil, ARR.over hF x6 (by decide), k _ _ _ _ x7⟩
theorem B3.st3 (hF : FR [] [20] Ps ws ws1) (hU : va_D A ws ∧ ∀ f, ARR Ps ws a 20 f → ARR Ps ws1 a 20 (upd f j v)) (x : B3 F Ps ws b) (hf : FLD ws b 0 2 (.ref a)) (k : ∀ n f g h, F n f g h → F2 n f g (upd h j v)) : B3 F2 Ps ws1 b := by
  obtain ⟨n, a1, a2, a3, f, g, h, x0, x1, x2, x3, x4, x5, x6, x7⟩ := x
  cases FLD.inj hU.1 x5 hf
  exact ⟨n, a1, a2, a, f, g, upd h j v, FLD.over hF x0 List.not_mem_nil, FLD.over hF x1 List.not_mem_nil, ARR.over hF x2 (by decide), FLD.over hF x3 List.not_mem_nil, ARR.over hF x4 (by decide), FLD.over hF x5 List.not_mem_nil, hU.2 h x6, k _ _ _ _ x7⟩
theorem B3.inc (hF : FR [(0, 3)] [] Ps ws ws1) (x : B3 F Ps ws b) (hn : FLD ws1 b 0 3 (.int v)) (k : ∀ n f g h, F n f g h → F2 v f g h) : B3 F2 Ps ws1 b := by
  obtain ⟨n, a1, a2, a3, f, g, h, x0, x1, x2, x3, x4, x5, x6, x7⟩ := x
  exact ⟨v, a1, a2, a3, f, g, h, hn, FLD.over hF x1 (by decide), ARR.over hF x2 (by decide), FLD.over hF x3 (by decide), ARR.over hF x4 (by decide), FLD.over hF x5 (by decide), ARR.over hF x6 (by decide), k _ _ _ _ x7⟩
end ST10
/-- j of three places are written: behind them the line is good -/
def B4 (z : Int32) (n : Int32) (f g h : Nat → Int32) : Prop := n = z ∧ gbs n f g h
theorem B4_end {z w x y v : Int32} {n : Int32} {f g h : Nat → Int32} (e : B4 z n f g h ∧ f z.toNatClampNeg = w ∧ g z.toNatClampNeg = x ∧ h z.toNatClampNeg = y) (hz : 0 ≤ z.toInt) (hv : v.toInt = z.toInt + 1) (hb : gb w x y) : gbs v f g h := by
  obtain ⟨⟨rfl, e1⟩, e2, e3, e4⟩ := e
  intro k hk
  by_cases c : (k : Int) < n.toInt
  · exact e1 k c
  · have e0 : n.toNatClampNeg = n.toInt.toNat := rfl
    rw [show k = n.toNatClampNeg by omega, e2, e3, e4]
    exact hb
theorem gbs_upd1 {z n v : Int32} {f g h : Nat → Int32} (e : B4 z n f g h) (hz : 0 ≤ z.toInt) : B4 z n (upd f z.toNatClampNeg v) g h := by
  obtain ⟨rfl, e1⟩ := e
  have e0 : n.toNatClampNeg = n.toInt.toNat := rfl
  exact ⟨rfl, fun k hk => by rw [pk_un (by omega)]; exact e1 k hk⟩
theorem gbs_upd2 {z n v : Int32} {f g h : Nat → Int32} (e : B4 z n f g h) (hz : 0 ≤ z.toInt) : B4 z n f (upd g z.toNatClampNeg v) h := by
  obtain ⟨rfl, e1⟩ := e
  have e0 : n.toNatClampNeg = n.toInt.toNat := rfl
  exact ⟨rfl, fun k hk => by rw [pk_un (by omega)]; exact e1 k hk⟩
theorem gbs_upd3 {z n v : Int32} {f g h : Nat → Int32} (e : B4 z n f g h) (hz : 0 ≤ z.toInt) : B4 z n f g (upd h z.toNatClampNeg v) := by
  obtain ⟨rfl, e1⟩ := e
  have e0 : n.toNatClampNeg = n.toInt.toNat := rfl
  exact ⟨rfl, fun k hk => by rw [pk_un (by omega)]; exact e1 k hk⟩
def FLTp (ws : va_W) (t : Nat) : Prop := ∃ v : Int32, FLD ws t 7 10 (.int v) ∧ RI v 1 4
theorem FLTp.over {wr : List (Nat × Nat)} {wa : List Nat} {Ps : PSI} {ws ws' : va_W} {t : Nat} (hF : FR wr wa Ps ws ws') (x : FLTp ws t) (hn : (7, 10) ∉ wr) : FLTp ws' t := by
  obtain ⟨v, h1, h2⟩ := x
  exact ⟨v, FLD.over hF h1 hn, h2⟩
def JB (Ps : PSI) (ws : va_W) (t b : Nat) : Prop := FLTp ws t ∨ BG Ps ws b
theorem JB.over {wr : List (Nat × Nat)} {wa : List Nat} {Ps : PSI} {ws ws' : va_W} {t b : Nat} (hF : FR wr wa Ps ws ws') (x : JB Ps ws t b) (hn : (7, 10) ∉ wr ∧ ((0, 0) ∉ wr ∧ (0, 1) ∉ wr ∧ (0, 2) ∉ wr ∧ (0, 3) ∉ wr) ∧ 18 ∉ wa ∧ 19 ∉ wa ∧ 20 ∉ wa) : JB Ps ws' t b := x.elim (fun h => Or.inl (h.over hF hn.1)) (fun h => Or.inr (B3.over hF h hn.2))
def LTL (ws : va_W) (b : Nat) (i : Int32) : Prop := ∃ n : Int32, FLD ws b 0 3 (.int n) ∧ i.toInt < n.toInt
def EQF (ws : va_W) (p : Nat) : Prop := ∃ (t : Nat) (v : Int32), FLD ws p 9 0 (.ref t) ∧ FLD ws p 9 11 (.int v) ∧ FLD ws t 7 10 (.int v)
section FACTS10
variable {s : State} {H : Heap} {locs : List Loc} {D : va_G} {cy : Nat → ClassId} {A : Nat → Prop} {ws w0 : va_W} {G : Nat → Nat → CTy} {Ps P0 : PSI} {wr : List (Nat × Nat)} {wa : List Nat}
theorem AXC.mk {ci k t t0 n b mm : Nat} {el : Nat → Int × Int} {Rl F : (Nat → Int32) → Prop} (hw : WD D cy G A s wr wa P0 w0 Ps ws H locs) (hb : (b, t) ∈ Ps) (hG : G b t = .inr (.inl (t0, n, el, Rl))) (hf : FLD ws mm ci k (.ref b)) (h : ∀ f : Nat → Int32, (∀ i v, AEL ws b i v → f i.toNatClampNeg = v) → F f) : AXC ci k t F Ps ws mm := by
  obtain ⟨f, h1, h2, -⟩ := arr_of hw hb hG
  exact ⟨b, f, hf, h1, h f (fun i v he => ARR.ael hw.2.2.1 h1 he)⟩
theorem AXC.use {ci k t b mm : Nat} {F : (Nat → Int32) → Prop} {i v : Int32} (hw : WD D cy G A s wr wa P0 w0 Ps ws H locs) (x : AXC ci k t F Ps ws mm) (hf : FLD ws mm ci k (.ref b)) (he : AEL ws b i v) : ∃ f, F f ∧ f i.toNatClampNeg = v := by
  obtain ⟨a, f, h1, h2, h3⟩ := x
  cases FLD.inj hw.2.2.1 h1 hf
  exact ⟨f, h3, ARR.ael hw.2.2.1 h2 he⟩
theorem BG.zero {b : Nat} (hw : WD D cy GG A s wr wa P0 w0 Ps ws H locs) (hb : (b, 31) ∈ Ps) (hn : FLD ws b 0 3 (.int 0)) : BG Ps ws b := by
  obtain ⟨q, e1, -, h2, fs, rfl, h4⟩ := hw.1.find hb
  obtain ⟨v1, h5, a1, rfl, ha1⟩ := h4 0 (vR 18) rfl
  obtain ⟨v2, h6, a2, rfl, ha2⟩ := h4 1 (vR 19) rfl
  obtain ⟨v3, h7, a3, rfl, ha3⟩ := h4 2 (vR 20) rfl
  obtain ⟨f, f1, -, -⟩ := arr_of hw ha1 rfl
  obtain ⟨g, g1, -, -⟩ := arr_of hw ha2 rfl
  obtain ⟨h, k1, -, -⟩ := arr_of hw ha3 rfl
  exact ⟨0, a1, a2, a3, f, g, h, hn, ⟨q, fs, h2, h5⟩, f1, ⟨q, fs, h2, h6⟩, g1, ⟨q, fs, h2, h7⟩, k1, fun k hk => absurd hk (by rw [Int32.toInt_zero]; omega)⟩
theorem B3.at {b : Nat} {n : Int32} {F : Int32 → (Nat → Int32) → (Nat → Int32) → (Nat → Int32) → Prop} (hw : WD D cy G A s wr wa P0 w0 Ps ws H locs) (x : B3 F Ps ws b) (hn : FLD ws b 0 3 (.int n)) : B3 (fun m f g h => m = n ∧ F m f g h) Ps ws b := by
  obtain ⟨n', a1, a2, a3, f, g, h, x0, x1⟩ := x
  cases FLD.inj hw.2.2.1 x0 hn
  exact ⟨n, a1, a2, a3, f, g, h, x0, x1.1, x1.2.1, x1.2.2.1, x1.2.2.2.1, x1.2.2.2.2.1, x1.2.2.2.2.2.1, rfl, x1.2.2.2.2.2.2⟩
theorem BG.get {b a1 a2 a3 : Nat} {i w x y : Int32} (hw : WD D cy G A s wr wa P0 w0 Ps ws H locs) (X : BG Ps ws b) (hl : LTL ws b i) (hi : 0 ≤ i.toInt) (h1 : FLD ws b 0 0 (.ref a1)) (e1 : AEL ws a1 i w) (h2 : FLD ws b 0 1 (.ref a2)) (e2 : AEL ws a2 i x) (h3 : FLD ws b 0 2 (.ref a3)) (e3 : AEL ws a3 i y) : gb w x y := by
  obtain ⟨n, b1, b2, b3, f, g, h, x0, x1, x2, x3, x4, x5, x6, x7⟩ := X
  obtain ⟨n', l1, l2⟩ := hl
  have hD := hw.2.2.1
  cases FLD.inj hD x0 l1
  cases FLD.inj hD x1 h1
  cases FLD.inj hD x3 h2
  cases FLD.inj hD x5 h3
  have e0 : i.toNatClampNeg = i.toInt.toNat := rfl
  have := x7 i.toNatClampNeg (by omega)
  rw [ARR.ael hD x2 e1, ARR.ael hD x4 e2, ARR.ael hD x6 e3] at this
  exact this
theorem JB.bg {p t b : Nat} {v : Int32} (hw : WD D cy G A s wr wa P0 w0 Ps ws H locs) (x : JB Ps ws t b) (e : EQF ws p) (ht : FLD ws p 9 0 (.ref t)) (hv : FLD ws p 9 11 (.int v)) (h0 : RI v 0 0) : BG Ps ws b := by
  rcases x with h | h
  · obtain ⟨t', v', e1, e2, e3⟩ := e
    obtain ⟨u, g1, g2⟩ := h
    have hD := hw.2.2.1
    cases FLD.inj hD e1 ht
    cases FLD.inj hD e2 hv
    cases FLD.inj hD e3 g1
    have a := g2.1
    have b := h0.2
    omega
  · exact h
end FACTS10
theorem EQF.over {wr : List (Nat × Nat)} {wa : List Nat} {Ps : PSI} {ws ws' : va_W} {p : Nat} (hF : FR wr wa Ps ws ws') (x : EQF ws p) (hn : (9, 0) ∉ wr ∧ (9, 11) ∉ wr ∧ (7, 10) ∉ wr) : EQF ws' p := by
  obtain ⟨t, v, h1, h2, h3⟩ := x
  exact ⟨t, v, FLD.over hF h1 hn.1, FLD.over hF h2 hn.2.1, FLD.over hF h3 hn.2.2⟩
theorem LTL.over {wr : List (Nat × Nat)} {wa : List Nat} {Ps : PSI} {ws ws' : va_W} {p : Nat} {i : Int32} (hF : FR wr wa Ps ws ws') (x : LTL ws p i) (hn : (0, 3) ∉ wr) : LTL ws' p i := by
  obtain ⟨n, h1, h2⟩ := x
  exact ⟨n, FLD.over hF h1 hn, h2⟩
section TZ10
variable {p : Program} {l : Launch} {e : Env} {R : Room} {s : State} {m : MethodId} {args : Array Value} {below : List Frame} {meth : Method} {c : Code} {H : Heap} {locs : List Loc} {cells slots : Nat} {Q : State → Prop} {cc : ByteArray} {pc : Nat} {ls : Array Slot} {rest : List Value} {A : Nat → Prop}
theorem tz_mk {z0 : Nat} (k : Nat) (q : Int32) (hexec : p.tables.exec = Jvm.exec) (hb : c.code = cc) (hT : va_T .int z0 4 (fun j => .int (([6, 4, 6, 8] : List Int32).getD j 0)) A s s.heap) (hS : va_S A s.heap H locs) {i : Int32} (hi : RI i k k) (hk : k < 4) (hq : ([6, 4, 6, 8] : List Int32).getD k 0 = q) (hdg : decode cc pc = .ok (.iaload, 1))
    (kk : ∀ v : Int32, v = q → W p l e R s m args below meth c H locs cells slots Q (F0 m (pc + 1) ls (.int v :: rest))) : W p l e R s m args below meth c H locs cells slots Q (F0 m pc ls (.int i :: .ref z0 :: rest)) := by
  refine va_ti hexec hb hT hS (hi.inn (by omega)) rfl hdg (kk _ ?_)
  have h1 := hi.1
  have h2 := hi.2
  have e0 : i.toNatClampNeg = i.toInt.toNat := rfl
  rw [show i.toNatClampNeg = k by omega]
  exact hq
end TZ10
abbrev wr_X7_refuse__1 : List (Nat × Nat) := []
abbrev wa_X7_refuse__1 : List Nat := []
set_option maxHeartbeats 4000000 in
set_option maxRecDepth 100000 in
theorem c_X7_refuse__1 (l : Launch) (D : va_G) (cy : Nat → ClassId) (z : Nat → Nat) (sz : Nat) (Ps : PSI) (w0 : va_W) (hT : HT cy GG Ps w0) (p0 : Nat) (p1 : Int32) (f0_10 : Int32) (h_p0 : (p0, 26) ∈ Ps) (r_p1 : RI p1 1 4) (r_f0_10 : RI f0_10 1 4) (m_f0_10 : FLD w0 p0 7 10 (.int f0_10)) : Met l yX7_refuse (Cond.code yX7_refuse cX7_refuse 2 none :: gT) ({ frames := 0, cells := 0, slots := 0, locals := 200 } : Room) (va_Pc [.ref p0, .int p1] (PRE D cy z w0 sz)) (va_Qv (fun (u : Unit) => True) (BB D cy (va_A w0 sz) (fun (u : Unit) => w0)) (va_A w0 sz)) 0 0 (va_A w0 sz) := by
  refine Met.ofW (cc := cX7_refuse) (maxL := 2) (ret := none) (by decide) rfl ?_
  intro p e s m args below meth c s₁ B hml hv
  obtain ⟨rfl, hsz, hP, hK, hD0, hSD⟩ := hv
  have hx := B.exec
  have hb := B.bytes
  have hr := B.returns
  have hlocks := B.notSynchronized
  have hts : ∀ w ∈ gT, w.before _ s = true := fun w h => atoms_spec (ws := Cond.code yX7_refuse cX7_refuse 2 none :: gT) B.pre w (List.mem_cons_of_mem _ h)
  have hown : s.vm.findClass RX7 = some m.cls := findClass_of_methodNamed B.named
  subst hsz
  have hD := hD0.self (sz := s.heap.size)
  generalize hAe : va_A w0 s.heap.size = A at hD hSD ⊢
  have hA : ∀ q : Nat, s.heap.size ≤ q → A q := fun q h => by rw [← hAe]; exact Or.inr h
  have hl := lv_entry ([.ref p0, .int p1]) (n := 2) (Nat.le_of_ble_eq_true rfl)
  rw [lg_entry_eq]
  generalize (lg_sl ([.ref p0, .int p1]) ++ List.replicate (2 - (lg_sl ([.ref p0, .int p1])).length) Slot.unset).toArray = ls at hl ⊢
  have hl : lv_has ls 2 [(0, .ref p0), (1, .int p1)] := hl
  refine nameQ (fun Q hQ => ?_)
  have hw : WD D cy GG A s wr_X7_refuse__1 wa_X7_refuse__1 Ps w0 Ps w0 s.heap [] := ⟨hT, hP, hD, va_S.rf, FR.rf, hT.1, [], (List.append_nil _).symm⟩
  refine lv_aload_n hx hb dX7_refuse_0 rfl (lv_at hl 0 rfl) ?_
  refine tg_mem (ci := 7) (C := RX7) (T := TX7) (N := 12) hx hb hts inX7 hown hK hw 10 m_f0_10 rfl (by decide) (hts _ tw_104) (fun _ h9 => h9) dX7_refuse_1 ?_
  refine lv_if_ne (tgt := 20) hx hb dX7_refuse_4 (by decide) (fun c_4 => ?_) (fun c_4 => ?_)
  · subst hQ
    exact W.vret hx hb hr (fun t ht hW => ⟨⟨(), rfl, trivial, by rw [ht]; exact hw.2.1, va_K.moved hW.alike hK, hw.2.2.1⟩, hw.2.2.2.1.F ht⟩) hw.2.2.2.1.2.2 dX7_refuse_20
  · have r_f0_10 : RI f0_10 1 0 := rc_eq1 r_f0_10 rl_0 (ti_eq c_4) (by decide)
    exact (r_f0_10.no (by decide)).elim
abbrev wr_X7_goesOn__1 : List (Nat × Nat) := []
abbrev wa_X7_goesOn__1 : List Nat := []
set_option maxHeartbeats 4000000 in
set_option maxRecDepth 100000 in
theorem c_X7_goesOn__1 (l : Launch) (D : va_G) (cy : Nat → ClassId) (z : Nat → Nat) (sz : Nat) (Ps : PSI) (w0 : va_W) (hT : HT cy GG Ps w0) (p0 : Nat) (f0_10 : Int32) (h_p0 : (p0, 26) ∈ Ps) (r_f0_10 : RI f0_10 1 4) (m_f0_10 : FLD w0 p0 7 10 (.int f0_10)) : Met l yX7_goesOn (Cond.code yX7_goesOn cX7_goesOn 1 (some .boolean) :: gT) ({ frames := 2, cells := 0, slots := 0, locals := 400 } : Room) (va_Pc [.ref p0] (PRE D cy z w0 sz)) (va_Qi (fun (r : Int32) (u : Unit) => RI r 0 0 ∧ (r = 0 → True) ∧ (¬ r = 0 → True)) (BB D cy (va_A w0 sz) (fun (u : Unit) => w0)) (va_A w0 sz)) 0 0 (va_A w0 sz) := by
  refine Met.ofW (cc := cX7_goesOn) (maxL := 1) (ret := (some .boolean)) (by decide) rfl ?_
  intro p e s m args below meth c s₁ B hml hv
  obtain ⟨rfl, hsz, hP, hK, hD0, hSD⟩ := hv
  have hx := B.exec
  have hb := B.bytes
  have hr := B.returns
  have hlocks := B.notSynchronized
  have hts : ∀ w ∈ gT, w.before _ s = true := fun w h => atoms_spec (ws := Cond.code yX7_goesOn cX7_goesOn 1 (some .boolean) :: gT) B.pre w (List.mem_cons_of_mem _ h)
  have hown : s.vm.findClass RX7 = some m.cls := findClass_of_methodNamed B.named
  subst hsz
  have hD := hD0.self (sz := s.heap.size)
  generalize hAe : va_A w0 s.heap.size = A at hD hSD ⊢
  have hA : ∀ q : Nat, s.heap.size ≤ q → A q := fun q h => by rw [← hAe]; exact Or.inr h
  have hl := lv_entry ([.ref p0]) (n := 1) (Nat.le_of_ble_eq_true rfl)
  rw [lg_entry_eq]
  generalize (lg_sl ([.ref p0]) ++ List.replicate (1 - (lg_sl ([.ref p0])).length) Slot.unset).toArray = ls at hl ⊢
  have hl : lv_has ls 1 [(0, .ref p0)] := hl
  refine nameQ (fun Q hQ => ?_)
  have hw : WD D cy GG A s wr_X7_goesOn__1 wa_X7_goesOn__1 Ps w0 Ps w0 s.heap [] := ⟨hT, hP, hD, va_S.rf, FR.rf, hT.1, [], (List.append_nil _).symm⟩
  have B19 : ∀ (z0_10 : Int32) (H : Heap) (locs : List Loc) (ls : Array Slot), RI z0_10 1 4 → FLD w0 p0 7 10 (.int z0_10) → WD D cy GG A s wr_X7_goesOn__1 wa_X7_goesOn__1 Ps w0 Ps w0 H locs → lv_has ls 1 [(0, .ref p0)] → W p l e (headSpec (Cond.code yX7_goesOn cX7_goesOn 1 (some .boolean) :: gT) ({ frames := 2, cells := 0, slots := 0, locals := 400 } : Room)).room s m ([.ref p0] : List Value).toArray below meth c H locs 0 0 Q (F0 m 19 ls []) := by
    intro z0_10 H locs ls r_z0_10 m_z0_10 hw hl
    refine lv_aload_n hx hb dX7_goesOn_19 rfl (lv_at hl 0 rfl) ?_
    refine tg_mem (ci := 7) (C := RX7) (T := TX7) (N := 12) hx hb hts inX7 hown hK hw 10 m_z0_10 rfl (by decide) (hts _ tw_104) (fun _ h9 => h9) dX7_goesOn_20 ?_
    refine lv_if_ne (tgt := 37) hx hb dX7_goesOn_23 (by decide) (fun c_23 => ?_) (fun c_23 => ?_)
    · refine lv_iconst (v := 0) hx hb dX7_goesOn_37 (by decide) ?_
      subst hQ
      exact W.zret (v := 0) hx hb hr (rfl) (fun t ht hW => ⟨⟨0, (), rfl, ⟨rl_0.to (by decide), (fun h0 => trivial), (fun _ => trivial)⟩, by rw [ht]; exact hw.2.1, va_K.moved hW.alike hK, hw.2.2.1⟩, hw.2.2.2.1.F ht⟩) hw.2.2.2.1.2.2 dX7_goesOn_38
    · have r_z0_10 : RI z0_10 1 0 := rc_eq1 r_z0_10 rl_0 (ti_eq c_23) (by decide)
      exact (r_z0_10.no (by decide)).elim
  refine lv_aload_n hx hb dX7_goesOn_0 rfl (lv_at hl 0 rfl) ?_
  refine tg_get (ci := 7) (ts := ty_TAPE) (C := RX7) (T := TX7) (N := 12) hx hb hts inX7 hown hK hw h_p0 rfl rfl 7 (by decide) (hts _ tw_98) (fun _ h9 => h9) (ft := vI (-2147483648) 2147483647) rfl dX7_goesOn_1 (fun u_1 hv_u_1 m_u_1 => ?_)
  obtain ⟨vu_1, rfl, r_vu_1⟩ := hv_u_1
  refine lv_if_ne (tgt := 19) hx hb dX7_goesOn_4 (by decide) (fun c_4 => ?_) (fun c_4 => ?_)
  · exact B19 f0_10 _ _ ls r_f0_10 m_f0_10 hw hl
  · have r_vu_1 : RI vu_1 0 0 := rc_eq1 r_vu_1 rl_0 (ti_eq c_4) (by decide)
    refine lv_aload_n hx hb dX7_goesOn_7 rfl (lv_at hl 0 rfl) ?_
    refine tg_get (ci := 7) (ts := ty_TAPE) (C := RX7) (T := TX7) (N := 12) hx hb hts inX7 hown hK hw h_p0 rfl rfl 4 (by decide) (hts _ tw_92) (fun _ h9 => h9) (ft := vI 0 1) rfl dX7_goesOn_8 (fun u_2 hv_u_2 m_u_2 => ?_)
    obtain ⟨vu_2, rfl, r_vu_2⟩ := hv_u_2
    refine lv_if_eq (tgt := 19) hx hb dX7_goesOn_11 (by decide) (fun c_11 => ?_) (fun c_11 => ?_)
    · have r_vu_2 : RI vu_2 0 0 := rc_eq1 r_vu_2 rl_0 (ti_eq c_11) (by decide)
      exact B19 f0_10 _ _ ls r_f0_10 m_f0_10 hw hl
    · have r_vu_2 : RI vu_2 1 1 := rc_neL r_vu_2 rl_0 (ti_ne c_11) (by decide)
      refine lv_aload_n hx hb dX7_goesOn_14 rfl (lv_at hl 0 rfl) ?_
      refine lv_iconst (v := 1) hx hb dX7_goesOn_15 (by decide) ?_
      refine tk_vr (va_runV (As := [.int 1]) (rest := []) ⟨hx, hb, hml, hown, hts⟩ (c_X7_refuse__1 l D cy z s.heap.size Ps w0 hw.1 p0 1 f0_10 h_p0 (rl_1.to (by decide)) r_f0_10 m_f0_10) (cwV 1 hts (gV tw_442 tw_443 tw_444 tw_2 tw_445) rfl rfl rfl (by decide +kernel) ⟨Nat.le_of_ble_eq_true rfl, Nat.le_of_ble_eq_true rfl⟩) (tg_preV hw hK hSD hA (ci := 7) (q := (RX7, TX7, 12)) rfl h_p0 rfl) rfl rfl hl.1 rfl (lv_room (Nat.le_of_ble_eq_true rfl)) dX7_goesOn_16 ⟨Nat.le_of_ble_eq_true rfl, Nat.le_of_ble_eq_true rfl⟩) hw hA (fun  H locs hp_v_3 hw => ?_)
      exact B19 f0_10 _ _ ls r_f0_10 m_f0_10 hw hl
abbrev wr_X7_refuse__2 : List (Nat × Nat) := [(7, 10), (7, 11)]
abbrev wa_X7_refuse__2 : List Nat := []
set_option maxHeartbeats 4000000 in
set_option maxRecDepth 100000 in
theorem c_X7_refuse__2 (l : Launch) (D : va_G) (cy : Nat → ClassId) (z : Nat → Nat) (sz : Nat) (Ps : PSI) (w0 : va_W) (hT : HT cy GG Ps w0) (p0 : Nat) (p1 : Int32) (h_p0 : (p0, 26) ∈ Ps) (r_p1 : RI p1 1 4) : Met l yX7_refuse (Cond.code yX7_refuse cX7_refuse 2 none :: gT) ({ frames := 0, cells := 0, slots := 0, locals := 200 } : Room) (va_Pc [.ref p0, .int p1] (PRE D cy z w0 sz)) (va_Qv (fun (u : va_W) => ((∃ v9 : Int32, FLD u p0 7 10 (.int v9) ∧ RI v9 1 4) ∧ True) ∧ HT cy GG Ps u ∧ FR wr_X7_refuse__2 wa_X7_refuse__2 Ps w0 u) (BB D cy (va_A w0 sz) (fun (u : va_W) => u)) (va_A w0 sz)) 0 0 (va_A w0 sz) := by
  refine Met.ofW (cc := cX7_refuse) (maxL := 2) (ret := none) (by decide) rfl ?_
  intro p e s m args below meth c s₁ B hml hv
  obtain ⟨rfl, hsz, hP, hK, hD0, hSD⟩ := hv
  have hx := B.exec
  have hb := B.bytes
  have hr := B.returns
  have hlocks := B.notSynchronized
  have hts : ∀ w ∈ gT, w.before _ s = true := fun w h => atoms_spec (ws := Cond.code yX7_refuse cX7_refuse 2 none :: gT) B.pre w (List.mem_cons_of_mem _ h)
  have hown : s.vm.findClass RX7 = some m.cls := findClass_of_methodNamed B.named
  subst hsz
  have hD := hD0.self (sz := s.heap.size)
  generalize hAe : va_A w0 s.heap.size = A at hD hSD ⊢
  have hA : ∀ q : Nat, s.heap.size ≤ q → A q := fun q h => by rw [← hAe]; exact Or.inr h
  have hl := lv_entry ([.ref p0, .int p1]) (n := 2) (Nat.le_of_ble_eq_true rfl)
  rw [lg_entry_eq]
  generalize (lg_sl ([.ref p0, .int p1]) ++ List.replicate (2 - (lg_sl ([.ref p0, .int p1])).length) Slot.unset).toArray = ls at hl ⊢
  have hl : lv_has ls 2 [(0, .ref p0), (1, .int p1)] := hl
  refine nameQ (fun Q hQ => ?_)
  have hw : WD D cy GG A s wr_X7_refuse__2 wa_X7_refuse__2 Ps w0 Ps w0 s.heap [] := ⟨hT, hP, hD, va_S.rf, FR.rf, hT.1, [], (List.append_nil _).symm⟩
  refine lv_aload_n hx hb dX7_refuse_0 rfl (lv_at hl 0 rfl) ?_
  refine tg_get (ci := 7) (ts := ty_TAPE) (C := RX7) (T := TX7) (N := 12) hx hb hts inX7 hown hK hw h_p0 rfl rfl 10 (by decide) (hts _ tw_104) (fun _ h9 => h9) (ft := vI 0 4) rfl dX7_refuse_1 (fun u_1 hv_u_1 m_u_1 => ?_)
  obtain ⟨vu_1, rfl, r_vu_1⟩ := hv_u_1
  refine lv_if_ne (tgt := 20) hx hb dX7_refuse_4 (by decide) (fun c_4 => ?_) (fun c_4 => ?_)
  · have r_vu_1 : RI vu_1 1 4 := rc_neL r_vu_1 rl_0 (ti_ne c_4) (by decide)
    subst hQ
    exact W.vret hx hb hr (fun t ht hW => ⟨⟨w0, rfl, ⟨⟨⟨_, m_u_1, r_vu_1⟩, trivial⟩, hw.1, hw.2.2.2.2.1⟩, by rw [ht]; exact hw.2.1, va_K.moved hW.alike hK, hw.2.2.1⟩, hw.2.2.2.1.F ht⟩) hw.2.2.2.1.2.2 dX7_refuse_20
  · have r_vu_1 : RI vu_1 0 0 := rc_eq1 r_vu_1 rl_0 (ti_eq c_4) (by decide)
    refine lv_aload_n hx hb dX7_refuse_7 rfl (lv_at hl 0 rfl) ?_
    refine lv_iload_n hx hb dX7_refuse_8 rfl (lv_at hl 1 rfl) ?_
    refine tg_put (ci := 7) (ts := ty_TAPE) (v := .int p1) (ty := .int) (C := RX7) (T := TX7) (N := 12) hx hb hts inX7 tyX7 tyX7_ok nmX7 hown hK hw h_p0 rfl rfl 10 (by decide) (hts _ tw_104) (fun _ h9 => h9) rfl (by decide +kernel) rfl rfl (ft := vI 0 4) rfl ⟨_, rfl, (r_p1.to (by decide))⟩ (by decide) dX7_refuse_9 (fun ws H locs hw n_k_2 hF9 => ?_)
    refine lv_aload_n hx hb dX7_refuse_12 rfl (lv_at hl 0 rfl) ?_
    refine lv_aload_n hx hb dX7_refuse_13 rfl (lv_at hl 0 rfl) ?_
    refine tg_get (ci := 7) (ts := ty_TAPE) (C := RX7) (T := TX7) (N := 12) hx hb hts inX7 hown hK hw h_p0 rfl rfl 5 (by decide) (hts _ tw_93) (fun _ h9 => h9) (ft := vI 0 940) rfl dX7_refuse_14 (fun u_3 hv_u_3 m_u_3 => ?_)
    obtain ⟨vu_3, rfl, r_vu_3⟩ := hv_u_3
    refine tg_put (ci := 7) (ts := ty_TAPE) (v := .int vu_3) (ty := .int) (C := RX7) (T := TX7) (N := 12) hx hb hts inX7 tyX7 tyX7_ok nmX7 hown hK hw h_p0 rfl rfl 11 (by decide) (hts _ tw_108) (fun _ h9 => h9) rfl (by decide +kernel) rfl rfl (ft := vI (-2147483648) 2147483647) rfl ⟨_, rfl, (r_vu_3.to (by decide))⟩ (by decide) dX7_refuse_17 (fun ws H locs hw n_k_4 hF9 => ?_)
    have n_k_2 := FLD.over hF9 n_k_2 (by decide)
    have m_u_3 := FLD.over hF9 m_u_3 (by decide)
    subst hQ
    exact W.vret hx hb hr (fun t ht hW => ⟨⟨ws, rfl, ⟨⟨⟨_, n_k_2, r_p1⟩, trivial⟩, hw.1, hw.2.2.2.2.1⟩, by rw [ht]; exact hw.2.1, va_K.moved hW.alike hK, hw.2.2.1⟩, hw.2.2.2.1.F ht⟩) hw.2.2.2.1.2.2 dX7_refuse_20
abbrev wr_X7_goesOn__2 : List (Nat × Nat) := [(7, 10), (7, 11)]
abbrev wa_X7_goesOn__2 : List Nat := []
set_option maxHeartbeats 4000000 in
set_option maxRecDepth 100000 in
theorem c_X7_goesOn__2 (l : Launch) (D : va_G) (cy : Nat → ClassId) (z : Nat → Nat) (sz : Nat) (Ps : PSI) (w0 : va_W) (hT : HT cy GG Ps w0) (p0 : Nat) (h_p0 : (p0, 26) ∈ Ps) : Met l yX7_goesOn (Cond.code yX7_goesOn cX7_goesOn 1 (some .boolean) :: gT) ({ frames := 2, cells := 0, slots := 0, locals := 400 } : Room) (va_Pc [.ref p0] (PRE D cy z w0 sz)) (va_Qi (fun (r : Int32) (u : va_W) => (RI r 0 1 ∧ (r = 0 → True) ∧ (¬ r = 0 → (∃ v9 : Int32, FLD u p0 7 10 (.int v9) ∧ RI v9 0 0) ∧ True)) ∧ HT cy GG Ps u ∧ FR wr_X7_goesOn__2 wa_X7_goesOn__2 Ps w0 u) (BB D cy (va_A w0 sz) (fun (u : va_W) => u)) (va_A w0 sz)) 0 0 (va_A w0 sz) := by
  refine Met.ofW (cc := cX7_goesOn) (maxL := 1) (ret := (some .boolean)) (by decide) rfl ?_
  intro p e s m args below meth c s₁ B hml hv
  obtain ⟨rfl, hsz, hP, hK, hD0, hSD⟩ := hv
  have hx := B.exec
  have hb := B.bytes
  have hr := B.returns
  have hlocks := B.notSynchronized
  have hts : ∀ w ∈ gT, w.before _ s = true := fun w h => atoms_spec (ws := Cond.code yX7_goesOn cX7_goesOn 1 (some .boolean) :: gT) B.pre w (List.mem_cons_of_mem _ h)
  have hown : s.vm.findClass RX7 = some m.cls := findClass_of_methodNamed B.named
  subst hsz
  have hD := hD0.self (sz := s.heap.size)
  generalize hAe : va_A w0 s.heap.size = A at hD hSD ⊢
  have hA : ∀ q : Nat, s.heap.size ≤ q → A q := fun q h => by rw [← hAe]; exact Or.inr h
  have hl := lv_entry ([.ref p0]) (n := 1) (Nat.le_of_ble_eq_true rfl)
  rw [lg_entry_eq]
  generalize (lg_sl ([.ref p0]) ++ List.replicate (1 - (lg_sl ([.ref p0])).length) Slot.unset).toArray = ls at hl ⊢
  have hl : lv_has ls 1 [(0, .ref p0)] := hl
  refine nameQ (fun Q hQ => ?_)
  have hw : WD D cy GG A s wr_X7_goesOn__2 wa_X7_goesOn__2 Ps w0 Ps w0 s.heap [] := ⟨hT, hP, hD, va_S.rf, FR.rf, hT.1, [], (List.append_nil _).symm⟩
  have B19 : ∀ (ws : va_W) (H : Heap) (locs : List Loc) (ls : Array Slot), WD D cy GG A s wr_X7_goesOn__2 wa_X7_goesOn__2 Ps w0 Ps ws H locs → lv_has ls 1 [(0, .ref p0)] → W p l e (headSpec (Cond.code yX7_goesOn cX7_goesOn 1 (some .boolean) :: gT) ({ frames := 2, cells := 0, slots := 0, locals := 400 } : Room)).room s m ([.ref p0] : List Value).toArray below meth c H locs 0 0 Q (F0 m 19 ls []) := by
    intro  ws H locs ls  hw hl
    refine lv_aload_n hx hb dX7_goesOn_19 rfl (lv_at hl 0 rfl) ?_
    refine tg_get (ci := 7) (ts := ty_TAPE) (C := RX7) (T := TX7) (N := 12) hx hb hts inX7 hown hK hw h_p0 rfl rfl 10 (by decide) (hts _ tw_104) (fun _ h9 => h9) (ft := vI 0 4) rfl dX7_goesOn_20 (fun u_1 hv_u_1 m_u_1 => ?_)
    obtain ⟨vu_1, rfl, r_vu_1⟩ := hv_u_1
    refine lv_if_ne (tgt := 37) hx hb dX7_goesOn_23 (by decide) (fun c_23 => ?_) (fun c_23 => ?_)
    · have r_vu_1 : RI vu_1 1 4 := rc_neL r_vu_1 rl_0 (ti_ne c_23) (by decide)
      refine lv_iconst (v := 0) hx hb dX7_goesOn_37 (by decide) ?_
      subst hQ
      exact W.zret (v := 0) hx hb hr (rfl) (fun t ht hW => ⟨⟨0, ws, rfl, ⟨⟨rl_0.to (by decide), (fun h0 => trivial), (fun h0 => absurd rfl h0)⟩, hw.1, hw.2.2.2.2.1⟩, by rw [ht]; exact hw.2.1, va_K.moved hW.alike hK, hw.2.2.1⟩, hw.2.2.2.1.F ht⟩) hw.2.2.2.1.2.2 dX7_goesOn_38
    · have r_vu_1 : RI vu_1 0 0 := rc_eq1 r_vu_1 rl_0 (ti_eq c_23) (by decide)
      refine lv_aload_n hx hb dX7_goesOn_26 rfl (lv_at hl 0 rfl) ?_
      refine tg_get (ci := 7) (ts := ty_TAPE) (C := RX7) (T := TX7) (N := 12) hx hb hts inX7 hown hK hw h_p0 rfl rfl 7 (by decide) (hts _ tw_98) (fun _ h9 => h9) (ft := vI (-2147483648) 2147483647) rfl dX7_goesOn_27 (fun u_2 hv_u_2 m_u_2 => ?_)
      obtain ⟨vu_2, rfl, r_vu_2⟩ := hv_u_2
      refine lv_if_eq (tgt := 37) hx hb dX7_goesOn_30 (by decide) (fun c_30 => ?_) (fun c_30 => ?_)
      · have r_vu_2 : RI vu_2 0 0 := rc_eq1 r_vu_2 rl_0 (ti_eq c_30) (by decide)
        refine lv_iconst (v := 0) hx hb dX7_goesOn_37 (by decide) ?_
        subst hQ
        exact W.zret (v := 0) hx hb hr (rfl) (fun t ht hW => ⟨⟨0, ws, rfl, ⟨⟨rl_0.to (by decide), (fun h0 => trivial), (fun h0 => absurd rfl h0)⟩, hw.1, hw.2.2.2.2.1⟩, by rw [ht]; exact hw.2.1, va_K.moved hW.alike hK, hw.2.2.1⟩, hw.2.2.2.1.F ht⟩) hw.2.2.2.1.2.2 dX7_goesOn_38
      · refine lv_iconst (v := 1) hx hb dX7_goesOn_33 (by decide) ?_
        refine lv_goto (tgt := 38) hx hb dX7_goesOn_34 (by decide) ?_
        subst hQ
        exact W.zret (v := 1) hx hb hr (rfl) (fun t ht hW => ⟨⟨1, ws, rfl, ⟨⟨rl_1.to (by decide), (fun _ => trivial), (fun h0 => ⟨⟨_, m_u_1, r_vu_1⟩, trivial⟩)⟩, hw.1, hw.2.2.2.2.1⟩, by rw [ht]; exact hw.2.1, va_K.moved hW.alike hK, hw.2.2.1⟩, hw.2.2.2.1.F ht⟩) hw.2.2.2.1.2.2 dX7_goesOn_38
  refine lv_aload_n hx hb dX7_goesOn_0 rfl (lv_at hl 0 rfl) ?_
  refine tg_get (ci := 7) (ts := ty_TAPE) (C := RX7) (T := TX7) (N := 12) hx hb hts inX7 hown hK hw h_p0 rfl rfl 7 (by decide) (hts _ tw_98) (fun _ h9 => h9) (ft := vI (-2147483648) 2147483647) rfl dX7_goesOn_1 (fun u_3 hv_u_3 m_u_3 => ?_)
  obtain ⟨vu_3, rfl, r_vu_3⟩ := hv_u_3
  refine lv_if_ne (tgt := 19) hx hb dX7_goesOn_4 (by decide) (fun c_4 => ?_) (fun c_4 => ?_)
  · exact B19  w0 _ _ ls  hw hl
  · have r_vu_3 : RI vu_3 0 0 := rc_eq1 r_vu_3 rl_0 (ti_eq c_4) (by decide)
    refine lv_aload_n hx hb dX7_goesOn_7 rfl (lv_at hl 0 rfl) ?_
    refine tg_get (ci := 7) (ts := ty_TAPE) (C := RX7) (T := TX7) (N := 12) hx hb hts inX7 hown hK hw h_p0 rfl rfl 4 (by decide) (hts _ tw_92) (fun _ h9 => h9) (ft := vI 0 1) rfl dX7_goesOn_8 (fun u_4 hv_u_4 m_u_4 => ?_)
    obtain ⟨vu_4, rfl, r_vu_4⟩ := hv_u_4
    refine lv_if_eq (tgt := 19) hx hb dX7_goesOn_11 (by decide) (fun c_11 => ?_) (fun c_11 => ?_)
    · have r_vu_4 : RI vu_4 0 0 := rc_eq1 r_vu_4 rl_0 (ti_eq c_11) (by decide)
      exact B19  w0 _ _ ls  hw hl
    · have r_vu_4 : RI vu_4 1 1 := rc_neL r_vu_4 rl_0 (ti_ne c_11) (by decide)
      refine lv_aload_n hx hb dX7_goesOn_14 rfl (lv_at hl 0 rfl) ?_
      refine lv_iconst (v := 1) hx hb dX7_goesOn_15 (by decide) ?_
      refine tk_v (va_runV (As := [.int 1]) (rest := []) ⟨hx, hb, hml, hown, hts⟩ (c_X7_refuse__2 l D cy z s.heap.size Ps w0 hw.1 p0 1 h_p0 (rl_1.to (by decide))) (cwV 1 hts (gV tw_442 tw_443 tw_444 tw_2 tw_445) rfl rfl rfl (by decide +kernel) ⟨Nat.le_of_ble_eq_true rfl, Nat.le_of_ble_eq_true rfl⟩) (tg_preV hw hK hSD hA (ci := 7) (q := (RX7, TX7, 12)) rfl h_p0 rfl) rfl rfl hl.1 rfl (lv_room (Nat.le_of_ble_eq_true rfl)) dX7_goesOn_16 ⟨Nat.le_of_ble_eq_true rfl, Nat.le_of_ble_eq_true rfl⟩) hw hA ⟨by decide, by decide⟩ (fun ws H locs hp_v_5 hw hF9 => ?_)
      have m_u_3 := FLD.over hF9 m_u_3 (by decide)
      have m_u_4 := FLD.over hF9 m_u_4 (by decide)
      obtain ⟨v_6, m_v_6, r_v_6⟩ := (hp_v_5.1)
      exact B19  ws _ _ ls  hw hl
abbrev wr_X7_refuse__3 : List (Nat × Nat) := [(7, 10), (7, 11)]
abbrev wa_X7_refuse__3 : List Nat := []
set_option maxHeartbeats 4000000 in
set_option maxRecDepth 100000 in
theorem c_X7_refuse__3 (l : Launch) (D : va_G) (cy : Nat → ClassId) (z : Nat → Nat) (sz : Nat) (Ps : PSI) (w0 : va_W) (hT : HT cy GG Ps w0) (p0 : Nat) (p1 : Int32) (f0_10 : Int32) (h_p0 : (p0, 26) ∈ Ps) (r_p1 : RI p1 1 4) (r_f0_10 : RI f0_10 0 0) (m_f0_10 : FLD w0 p0 7 10 (.int f0_10)) : Met l yX7_refuse (Cond.code yX7_refuse cX7_refuse 2 none :: gT) ({ frames := 0, cells := 0, slots := 0, locals := 200 } : Room) (va_Pc [.ref p0, .int p1] (PRE D cy z w0 sz)) (va_Qv (fun (u : va_W) => ((∃ v9 : Int32, FLD u p0 7 10 (.int v9) ∧ RI v9 1 4) ∧ True) ∧ HT cy GG Ps u ∧ FR wr_X7_refuse__3 wa_X7_refuse__3 Ps w0 u) (BB D cy (va_A w0 sz) (fun (u : va_W) => u)) (va_A w0 sz)) 0 0 (va_A w0 sz) := by
  refine Met.ofW (cc := cX7_refuse) (maxL := 2) (ret := none) (by decide) rfl ?_
  intro p e s m args below meth c s₁ B hml hv
  obtain ⟨rfl, hsz, hP, hK, hD0, hSD⟩ := hv
  have hx := B.exec
  have hb := B.bytes
  have hr := B.returns
  have hlocks := B.notSynchronized
  have hts : ∀ w ∈ gT, w.before _ s = true := fun w h => atoms_spec (ws := Cond.code yX7_refuse cX7_refuse 2 none :: gT) B.pre w (List.mem_cons_of_mem _ h)
  have hown : s.vm.findClass RX7 = some m.cls := findClass_of_methodNamed B.named
  subst hsz
  have hD := hD0.self (sz := s.heap.size)
  generalize hAe : va_A w0 s.heap.size = A at hD hSD ⊢
  have hA : ∀ q : Nat, s.heap.size ≤ q → A q := fun q h => by rw [← hAe]; exact Or.inr h
  have hl := lv_entry ([.ref p0, .int p1]) (n := 2) (Nat.le_of_ble_eq_true rfl)
  rw [lg_entry_eq]
  generalize (lg_sl ([.ref p0, .int p1]) ++ List.replicate (2 - (lg_sl ([.ref p0, .int p1])).length) Slot.unset).toArray = ls at hl ⊢
  have hl : lv_has ls 2 [(0, .ref p0), (1, .int p1)] := hl
  refine nameQ (fun Q hQ => ?_)
  have hw : WD D cy GG A s wr_X7_refuse__3 wa_X7_refuse__3 Ps w0 Ps w0 s.heap [] := ⟨hT, hP, hD, va_S.rf, FR.rf, hT.1, [], (List.append_nil _).symm⟩
  refine lv_aload_n hx hb dX7_refuse_0 rfl (lv_at hl 0 rfl) ?_
  refine tg_mem (ci := 7) (C := RX7) (T := TX7) (N := 12) hx hb hts inX7 hown hK hw 10 m_f0_10 rfl (by decide) (hts _ tw_104) (fun _ h9 => h9) dX7_refuse_1 ?_
  refine lv_if_ne (tgt := 20) hx hb dX7_refuse_4 (by decide) (fun c_4 => ?_) (fun c_4 => ?_)
  · exact absurd (r_f0_10.eq.trans rl_0.eq.symm) ((ti_ne c_4))
  · refine lv_aload_n hx hb dX7_refuse_7 rfl (lv_at hl 0 rfl) ?_
    refine lv_iload_n hx hb dX7_refuse_8 rfl (lv_at hl 1 rfl) ?_
    refine tg_put (ci := 7) (ts := ty_TAPE) (v := .int p1) (ty := .int) (C := RX7) (T := TX7) (N := 12) hx hb hts inX7 tyX7 tyX7_ok nmX7 hown hK hw h_p0 rfl rfl 10 (by decide) (hts _ tw_104) (fun _ h9 => h9) rfl (by decide +kernel) rfl rfl (ft := vI 0 4) rfl ⟨_, rfl, (r_p1.to (by decide))⟩ (by decide) dX7_refuse_9 (fun ws H locs hw n_k_1 hF9 => ?_)
    refine lv_aload_n hx hb dX7_refuse_12 rfl (lv_at hl 0 rfl) ?_
    refine lv_aload_n hx hb dX7_refuse_13 rfl (lv_at hl 0 rfl) ?_
    refine tg_get (ci := 7) (ts := ty_TAPE) (C := RX7) (T := TX7) (N := 12) hx hb hts inX7 hown hK hw h_p0 rfl rfl 5 (by decide) (hts _ tw_93) (fun _ h9 => h9) (ft := vI 0 940) rfl dX7_refuse_14 (fun u_2 hv_u_2 m_u_2 => ?_)
    obtain ⟨vu_2, rfl, r_vu_2⟩ := hv_u_2
    refine tg_put (ci := 7) (ts := ty_TAPE) (v := .int vu_2) (ty := .int) (C := RX7) (T := TX7) (N := 12) hx hb hts inX7 tyX7 tyX7_ok nmX7 hown hK hw h_p0 rfl rfl 11 (by decide) (hts _ tw_108) (fun _ h9 => h9) rfl (by decide +kernel) rfl rfl (ft := vI (-2147483648) 2147483647) rfl ⟨_, rfl, (r_vu_2.to (by decide))⟩ (by decide) dX7_refuse_17 (fun ws H locs hw n_k_3 hF9 => ?_)
    have n_k_1 := FLD.over hF9 n_k_1 (by decide)
    have m_u_2 := FLD.over hF9 m_u_2 (by decide)
    subst hQ
    exact W.vret hx hb hr (fun t ht hW => ⟨⟨ws, rfl, ⟨⟨⟨_, n_k_1, r_p1⟩, trivial⟩, hw.1, hw.2.2.2.2.1⟩, by rw [ht]; exact hw.2.1, va_K.moved hW.alike hK, hw.2.2.1⟩, hw.2.2.2.1.F ht⟩) hw.2.2.2.1.2.2 dX7_refuse_20
abbrev wr_X7_pass__1 : List (Nat × Nat) := []
abbrev wa_X7_pass__1 : List Nat := []
set_option maxHeartbeats 4000000 in
set_option maxRecDepth 100000 in
theorem c_X7_pass__1 (l : Launch) (D : va_G) (cy : Nat → ClassId) (z : Nat → Nat) (sz : Nat) (Ps : PSI) (w0 : va_W) (hT : HT cy GG Ps w0) (p0 : Nat) (f0_10 : Int32) (h_p0 : (p0, 26) ∈ Ps) (r_f0_10 : RI f0_10 1 4) (m_f0_10 : FLD w0 p0 7 10 (.int f0_10)) : Met l yX7_pass (Cond.code yX7_pass cX7_pass 2 none :: gT) ({ frames := 0, cells := 0, slots := 0, locals := 200 } : Room) (va_Pc [.ref p0] (PRE D cy z w0 sz)) (va_Qv (fun (u : Unit) => True) (BB D cy (va_A w0 sz) (fun (u : Unit) => w0)) (va_A w0 sz)) 0 0 (va_A w0 sz) := by
  refine Met.ofW (cc := cX7_pass) (maxL := 2) (ret := none) (by decide) rfl ?_
  intro p e s m args below meth c s₁ B hml hv
  obtain ⟨rfl, hsz, hP, hK, hD0, hSD⟩ := hv
  have hx := B.exec
  have hb := B.bytes
  have hr := B.returns
  have hlocks := B.notSynchronized
  have hts : ∀ w ∈ gT, w.before _ s = true := fun w h => atoms_spec (ws := Cond.code yX7_pass cX7_pass 2 none :: gT) B.pre w (List.mem_cons_of_mem _ h)
  have hown : s.vm.findClass RX7 = some m.cls := findClass_of_methodNamed B.named
  subst hsz
  have hD := hD0.self (sz := s.heap.size)
  generalize hAe : va_A w0 s.heap.size = A at hD hSD ⊢
  have hA : ∀ q : Nat, s.heap.size ≤ q → A q := fun q h => by rw [← hAe]; exact Or.inr h
  have hl := lv_entry ([.ref p0]) (n := 2) (Nat.le_of_ble_eq_true rfl)
  rw [lg_entry_eq]
  generalize (lg_sl ([.ref p0]) ++ List.replicate (2 - (lg_sl ([.ref p0])).length) Slot.unset).toArray = ls at hl ⊢
  have hl : lv_has ls 2 [(0, .ref p0)] := hl
  refine nameQ (fun Q hQ => ?_)
  have hw : WD D cy GG A s wr_X7_pass__1 wa_X7_pass__1 Ps w0 Ps w0 s.heap [] := ⟨hT, hP, hD, va_S.rf, FR.rf, hT.1, [], (List.append_nil _).symm⟩
  refine lv_aload_n hx hb dX7_pass_0 rfl (lv_at hl 0 rfl) ?_
  refine tg_mem (ci := 7) (C := RX7) (T := TX7) (N := 12) hx hb hts inX7 hown hK hw 10 m_f0_10 rfl (by decide) (hts _ tw_104) (fun _ h9 => h9) dX7_pass_1 ?_
  refine lv_if_eq (tgt := 8) hx hb dX7_pass_4 (by decide) (fun c_4 => ?_) (fun c_4 => ?_)
  · have r_f0_10 : RI f0_10 1 0 := rc_eq1 r_f0_10 rl_0 (ti_eq c_4) (by decide)
    exact (r_f0_10.no (by decide)).elim
  · subst hQ
    exact W.vret hx hb hr (fun t ht hW => ⟨⟨(), rfl, trivial, by rw [ht]; exact hw.2.1, va_K.moved hW.alike hK, hw.2.2.1⟩, hw.2.2.2.1.F ht⟩) hw.2.2.2.1.2.2 dX7_pass_7
abbrev wr_X0_beginsLine__1 : List (Nat × Nat) := [(7, 10), (7, 11)]
abbrev wa_X0_beginsLine__1 : List Nat := []
set_option maxHeartbeats 4000000 in
set_option maxRecDepth 100000 in
theorem c_X0_beginsLine__1 (l : Launch) (D : va_G) (cy : Nat → ClassId) (z : Nat → Nat) (sz : Nat) (Ps : PSI) (w0 : va_W) (hT : HT cy GG Ps w0) (p0 : Nat) (p1 : Nat) (p2 : Int32) (f1_10 : Int32) (h_p0 : (p0, 31) ∈ Ps) (h_p1 : (p1, 26) ∈ Ps) (r_p2 : RI p2 (-2147483648) 1) (r_f1_10 : RI f1_10 0 0) (m_f1_10 : FLD w0 p1 7 10 (.int f1_10)) : Met l yX0_beginsLine (Cond.code yX0_beginsLine cX0_beginsLine 3 (some .boolean) :: gT) ({ frames := 2, cells := 0, slots := 0, locals := 400 } : Room) (va_Pc [.ref p0, .ref p1, .int p2] (PRE D cy z w0 sz)) (va_Qi (fun (r : Int32) (u : va_W) => (RI r 0 0 ∧ (r = 0 → (∃ v9 : Int32, FLD u p1 7 10 (.int v9) ∧ RI v9 1 4) ∧ True) ∧ (¬ r = 0 → True)) ∧ HT cy GG Ps u ∧ FR wr_X0_beginsLine__1 wa_X0_beginsLine__1 Ps w0 u) (BB D cy (va_A w0 sz) (fun (u : va_W) => u)) (va_A w0 sz)) 0 0 (va_A w0 sz) := by
  refine Met.ofW (cc := cX0_beginsLine) (maxL := 3) (ret := (some .boolean)) (by decide) rfl ?_
  intro p e s m args below meth c s₁ B hml hv
  obtain ⟨rfl, hsz, hP, hK, hD0, hSD⟩ := hv
  have hx := B.exec
  have hb := B.bytes
  have hr := B.returns
  have hlocks := B.notSynchronized
  have hts : ∀ w ∈ gT, w.before _ s = true := fun w h => atoms_spec (ws := Cond.code yX0_beginsLine cX0_beginsLine 3 (some .boolean) :: gT) B.pre w (List.mem_cons_of_mem _ h)
  have hown : s.vm.findClass RX0 = some m.cls := findClass_of_methodNamed B.named
  subst hsz
  have hD := hD0.self (sz := s.heap.size)
  generalize hAe : va_A w0 s.heap.size = A at hD hSD ⊢
  have hA : ∀ q : Nat, s.heap.size ≤ q → A q := fun q h => by rw [← hAe]; exact Or.inr h
  have hl := lv_entry ([.ref p0, .ref p1, .int p2]) (n := 3) (Nat.le_of_ble_eq_true rfl)
  rw [lg_entry_eq]
  generalize (lg_sl ([.ref p0, .ref p1, .int p2]) ++ List.replicate (3 - (lg_sl ([.ref p0, .ref p1, .int p2])).length) Slot.unset).toArray = ls at hl ⊢
  have hl : lv_has ls 3 [(0, .ref p0), (1, .ref p1), (2, .int p2)] := hl
  refine nameQ (fun Q hQ => ?_)
  have hw : WD D cy GG A s wr_X0_beginsLine__1 wa_X0_beginsLine__1 Ps w0 Ps w0 s.heap [] := ⟨hT, hP, hD, va_S.rf, FR.rf, hT.1, [], (List.append_nil _).symm⟩
  refine lv_iload_n hx hb dX0_beginsLine_0 rfl (lv_at hl 2 rfl) ?_
  refine lv_iconst (v := 2) hx hb dX0_beginsLine_1 (by decide) ?_
  refine lv_icmp_eq (tgt := 27) hx hb dX0_beginsLine_2 (by decide) (fun c_2 => ?_) (fun c_2 => ?_)
  · have r_p2 : RI p2 2 1 := rc_eq1 r_p2 rl_2 (ti_eq c_2) (by decide)
    exact (r_p2.no (by decide)).elim
  · refine lv_iload_n hx hb dX0_beginsLine_5 rfl (lv_at hl 2 rfl) ?_
    refine lv_sipush (v := 141) hx hb dX0_beginsLine_6 (by decide) ?_
    refine lv_icmp_lt (tgt := 19) hx hb dX0_beginsLine_9 (by decide) (fun c_9 => ?_) (fun c_9 => ?_)
    · refine lv_aload_n hx hb dX0_beginsLine_19 rfl (lv_at hl 1 rfl) ?_
      refine lv_iconst (v := 1) hx hb dX0_beginsLine_20 (by decide) ?_
      refine tk_v (va_runV (As := [.int 1]) (rest := []) ⟨hx, hb, hml, hown, hts⟩ (c_X7_refuse__3 l D cy z s.heap.size Ps w0 hw.1 p1 1 f1_10 h_p1 (rl_1.to (by decide)) r_f1_10 m_f1_10) (cwV 1 hts (gV tw_897 tw_443 tw_444 tw_2 tw_445) rfl rfl rfl (by decide +kernel) ⟨Nat.le_of_ble_eq_true rfl, Nat.le_of_ble_eq_true rfl⟩) (tg_preV hw hK hSD hA (ci := 7) (q := (RX7, TX7, 12)) rfl h_p1 rfl) rfl rfl hl.1 rfl (lv_room (Nat.le_of_ble_eq_true rfl)) dX0_beginsLine_21 ⟨Nat.le_of_ble_eq_true rfl, Nat.le_of_ble_eq_true rfl⟩) hw hA ⟨by decide, by decide⟩ (fun ws H locs hp_v_1 hw hF9 => ?_)
      obtain ⟨v_2, m_v_2, r_v_2⟩ := (hp_v_1.1)
      refine lv_goto (tgt := 41) hx hb dX0_beginsLine_24 (by decide) ?_
      refine lv_aload_n hx hb dX0_beginsLine_41 rfl (lv_at hl 1 rfl) ?_
      refine tk_vr (va_runV (As := []) (rest := []) ⟨hx, hb, hml, hown, hts⟩ (c_X7_pass__1 l D cy z H.size Ps ws hw.1 p1 v_2 h_p1 r_v_2 m_v_2) (cwV 0 hts (gV tw_898 tw_425 tw_426 tw_2 tw_427) rfl rfl rfl (by decide +kernel) ⟨Nat.le_of_ble_eq_true rfl, Nat.le_of_ble_eq_true rfl⟩) (tg_preV hw hK hSD hA (ci := 7) (q := (RX7, TX7, 12)) rfl h_p1 rfl) rfl rfl hl.1 rfl (lv_room (Nat.le_of_ble_eq_true rfl)) dX0_beginsLine_42 ⟨Nat.le_of_ble_eq_true rfl, Nat.le_of_ble_eq_true rfl⟩) hw hA (fun  H locs hp_v_3 hw => ?_)
      refine lv_aload_n hx hb dX0_beginsLine_45 rfl (lv_at hl 1 rfl) ?_
      refine tg_memN (ci := 7) (C := RX7) (T := TX7) (N := 12) hx hb hts inX7 hown hK hw 10 m_v_2 rfl (by decide) (hSD.nest tn_102) (fun _ h9 => h9) dX0_beginsLine_46 ?_
      refine lv_if_ne (tgt := 56) hx hb dX0_beginsLine_49 (by decide) (fun c_49 => ?_) (fun c_49 => ?_)
      · refine lv_iconst (v := 0) hx hb dX0_beginsLine_56 (by decide) ?_
        subst hQ
        exact W.zret (v := 0) hx hb hr (rfl) (fun t ht hW => ⟨⟨0, ws, rfl, ⟨⟨rl_0.to (by decide), (fun h0 => ⟨⟨_, m_v_2, r_v_2⟩, trivial⟩), (fun _ => trivial)⟩, hw.1, hw.2.2.2.2.1⟩, by rw [ht]; exact hw.2.1, va_K.moved hW.alike hK, hw.2.2.1⟩, hw.2.2.2.1.F ht⟩) hw.2.2.2.1.2.2 dX0_beginsLine_57
      · have r_v_2 : RI v_2 1 0 := rc_eq1 r_v_2 rl_0 (ti_eq c_49) (by decide)
        exact (r_v_2.no (by decide)).elim
    · have r_p2 : RI p2 141 1 := rc_le2 rl_141 r_p2 (ti_nlt c_9) (by decide)
      exact (r_p2.no (by decide)).elim
abbrev wr_X7_nameAhead__4 : List (Nat × Nat) := [(7, 10), (7, 11)]
abbrev wa_X7_nameAhead__4 : List Nat := []
set_option maxHeartbeats 4000000 in
set_option maxRecDepth 100000 in
theorem c_X7_nameAhead__4 (l : Launch) (D : va_G) (cy : Nat → ClassId) (z : Nat → Nat) (sz : Nat) (Ps : PSI) (w0 : va_W) (hT : HT cy GG Ps w0) (p0 : Nat) (p1 : Nat) (p2 : Int32) (f0_10 : Int32) (h_p0 : (p0, 26) ∈ Ps) (h_p1 : (p1, 25) ∈ Ps) (r_p2 : RI p2 3 3) (r_f0_10 : RI f0_10 0 0) (m_f0_10 : FLD w0 p0 7 10 (.int f0_10)) : Met l yX7_nameAhead (Cond.code yX7_nameAhead cX7_nameAhead 4 (some .int) :: gT) ({ frames := 2, cells := 0, slots := 0, locals := 400 } : Room) (va_Pc [.ref p0, .ref p1, .int p2] (PRE D cy z w0 sz)) (va_Qi (fun (r : Int32) (u : va_W) => (RI r (-1) 7 ∧ (r = 0 → True) ∧ (¬ r = 0 → True) ∧ (True) ∧ (r.toInt < 0 → FLTp u p0 ∧ True) ∧ (0 ≤ r.toInt → True)) ∧ HT cy GG Ps u ∧ FR wr_X7_nameAhead__4 wa_X7_nameAhead__4 Ps w0 u) (BB D cy (va_A w0 sz) (fun (u : va_W) => u)) (va_A w0 sz)) 0 0 (va_A w0 sz) := by
  refine Met.ofW (cc := cX7_nameAhead) (maxL := 4) (ret := (some .int)) (by decide) rfl ?_
  intro p e s m args below meth c s₁ B hml hv
  obtain ⟨rfl, hsz, hP, hK, hD0, hSD⟩ := hv
  have hx := B.exec
  have hb := B.bytes
  have hr := B.returns
  have hlocks := B.notSynchronized
  have hts : ∀ w ∈ gT, w.before _ s = true := fun w h => atoms_spec (ws := Cond.code yX7_nameAhead cX7_nameAhead 4 (some .int) :: gT) B.pre w (List.mem_cons_of_mem _ h)
  have hown : s.vm.findClass RX7 = some m.cls := findClass_of_methodNamed B.named
  subst hsz
  have hD := hD0.self (sz := s.heap.size)
  generalize hAe : va_A w0 s.heap.size = A at hD hSD ⊢
  have hA : ∀ q : Nat, s.heap.size ≤ q → A q := fun q h => by rw [← hAe]; exact Or.inr h
  have hl := lv_entry ([.ref p0, .ref p1, .int p2]) (n := 4) (Nat.le_of_ble_eq_true rfl)
  rw [lg_entry_eq]
  generalize (lg_sl ([.ref p0, .ref p1, .int p2]) ++ List.replicate (4 - (lg_sl ([.ref p0, .ref p1, .int p2])).length) Slot.unset).toArray = ls at hl ⊢
  have hl : lv_has ls 4 [(0, .ref p0), (1, .ref p1), (2, .int p2)] := hl
  refine nameQ (fun Q hQ => ?_)
  have hw : WD D cy GG A s wr_X7_nameAhead__4 wa_X7_nameAhead__4 Ps w0 Ps w0 s.heap [] := ⟨hT, hP, hD, va_S.rf, FR.rf, hT.1, [], (List.append_nil _).symm⟩
  refine lv_aload_n hx hb dX7_nameAhead_0 rfl (lv_at hl 0 rfl) ?_
  refine tg_get (ci := 7) (ts := ty_TAPE) (C := RX7) (T := TX7) (N := 12) hx hb hts inX7 hown hK hw h_p0 rfl rfl 7 (by decide) (hts _ tw_98) (fun _ h9 => h9) (ft := vI (-2147483648) 2147483647) rfl dX7_nameAhead_1 (fun u_1 hv_u_1 m_u_1 => ?_)
  obtain ⟨vu_1, rfl, r_vu_1⟩ := hv_u_1
  refine lv_iconst (v := 2) hx hb dX7_nameAhead_4 (by decide) ?_
  refine lv_icmp_eq (tgt := 15) hx hb dX7_nameAhead_5 (by decide) (fun c_5 => ?_) (fun c_5 => ?_)
  · have r_vu_1 : RI vu_1 2 2 := rc_eq1 r_vu_1 rl_2 (ti_eq c_5) (by decide)
    refine lv_aload_n hx hb dX7_nameAhead_15 rfl (lv_at hl 1 rfl) ?_
    refine lv_aload_n hx hb dX7_nameAhead_16 rfl (lv_at hl 0 rfl) ?_
    refine tg_get (ci := 7) (ts := ty_TAPE) (C := RX7) (T := TX7) (N := 12) hx hb hts inX7 hown hK hw h_p0 rfl rfl 8 (by decide) (hts _ tw_100) (fun _ h9 => h9) (ft := vJ (-9223372036854775808) 9223372036854775807) rfl dX7_nameAhead_17 (fun u_2 hv_u_2 m_u_2 => ?_)
    obtain ⟨vu_2, rfl, r_vu_2⟩ := hv_u_2
    refine lv_iload_n hx hb dX7_nameAhead_20 rfl (lv_at hl 2 rfl) ?_
    refine tk_ir (va_runV (As := [.long vu_2, .int p2]) (rest := []) ⟨hx, hb, hml, hown, hts⟩ (c_X3_numberOf__3 l D cy z s.heap.size Ps w0 hw.1 p1 vu_2 p2 h_p1 r_vu_2 r_p2) (cwV 2 hts (gV tw_460 tw_461 tw_462 tw_11 tw_463) rfl rfl rfl (by decide +kernel) ⟨Nat.le_of_ble_eq_true rfl, Nat.le_of_ble_eq_true rfl⟩) (tg_preV hw hK hSD hA (ci := 3) (q := (RX3, TX3, 9)) rfl h_p1 rfl) rfl rfl hl.1 rfl (lv_room (Nat.le_of_ble_eq_true rfl)) dX7_nameAhead_21 ⟨Nat.le_of_ble_eq_true rfl, Nat.le_of_ble_eq_true rfl⟩) hw hA (fun v_3  H locs hp_v_3 hw => ?_)
    have r_v_3 : RI v_3 (-1) 7 := hp_v_3.1
    refine lv_istore_n (lv' := [(3, .int v_3), (0, .ref p0), (1, .ref p1), (2, .int p2)]) hx hb dX7_nameAhead_24 rfl hl (by decide) rfl (fun ls hl => ?_)
    refine lv_iload_n hx hb dX7_nameAhead_25 rfl (lv_at hl 0 rfl) ?_
    refine lv_iconst (v := (-1)) hx hb dX7_nameAhead_26 (by decide) ?_
    refine lv_icmp_ne (tgt := 35) hx hb dX7_nameAhead_27 (by decide) (fun c_27 => ?_) (fun c_27 => ?_)
    · have r_v_3 : RI v_3 0 7 := rc_neL r_v_3 rl_m1 (ti_ne c_27) (by decide)
      refine lv_aload_n hx hb dX7_nameAhead_35 rfl (lv_at hl 1 rfl) ?_
      refine tg_mem (ci := 7) (C := RX7) (T := TX7) (N := 12) hx hb hts inX7 hown hK hw 10 m_f0_10 rfl (by decide) (hts _ tw_104) (fun _ h9 => h9) dX7_nameAhead_36 ?_
      refine lv_if_ne (tgt := 46) hx hb dX7_nameAhead_39 (by decide) (fun c_39 => ?_) (fun c_39 => ?_)
      · exact absurd (r_f0_10.eq.trans rl_0.eq.symm) ((ti_ne c_39))
      · refine lv_iload_n hx hb dX7_nameAhead_42 rfl (lv_at hl 0 rfl) ?_
        refine lv_goto (tgt := 47) hx hb dX7_nameAhead_43 (by decide) ?_
        subst hQ
        exact W.iret (v := v_3) hx hb hr (fun t ht hW => ⟨⟨v_3, w0, rfl, ⟨⟨r_v_3.to (by decide), (fun h0 => trivial), (fun h0 => trivial), trivial, (fun h0 => absurd h0 (by have h8 := r_v_3; unfold RI at h8; omega)), (fun _ => trivial)⟩, hw.1, hw.2.2.2.2.1⟩, by rw [ht]; exact hw.2.1, va_K.moved hW.alike hK, hw.2.2.1⟩, hw.2.2.2.1.F ht⟩) hw.2.2.2.1.2.2 dX7_nameAhead_47
    · have r_v_3 : RI v_3 (-1) (-1) := rc_eq1 r_v_3 rl_m1 (ti_eq c_27) (by decide)
      refine lv_aload_n hx hb dX7_nameAhead_30 rfl (lv_at hl 1 rfl) ?_
      refine lv_iconst (v := 3) hx hb dX7_nameAhead_31 (by decide) ?_
      refine tk_v (va_runV (As := [.int 3]) (rest := []) ⟨hx, hb, hml, hown, hts⟩ (c_X7_refuse__3 l D cy z H.size Ps w0 hw.1 p0 3 f0_10 h_p0 (rl_3.to (by decide)) r_f0_10 m_f0_10) (cwV 1 hts (gV tw_442 tw_443 tw_444 tw_2 tw_445) rfl rfl rfl (by decide +kernel) ⟨Nat.le_of_ble_eq_true rfl, Nat.le_of_ble_eq_true rfl⟩) (tg_preV hw hK hSD hA (ci := 7) (q := (RX7, TX7, 12)) rfl h_p0 rfl) rfl rfl hl.1 rfl (lv_room (Nat.le_of_ble_eq_true rfl)) dX7_nameAhead_32 ⟨Nat.le_of_ble_eq_true rfl, Nat.le_of_ble_eq_true rfl⟩) hw hA ⟨by decide, by decide⟩ (fun ws H locs hp_v_4 hw hF9 => ?_)
      have m_u_1 := FLD.over hF9 m_u_1 (by decide)
      obtain ⟨v_5, m_v_5, r_v_5⟩ := (hp_v_4.1)
      refine lv_aload_n hx hb dX7_nameAhead_35 rfl (lv_at hl 1 rfl) ?_
      refine tg_mem (ci := 7) (C := RX7) (T := TX7) (N := 12) hx hb hts inX7 hown hK hw 10 m_v_5 rfl (by decide) (hts _ tw_104) (fun _ h9 => h9) dX7_nameAhead_36 ?_
      refine lv_if_ne (tgt := 46) hx hb dX7_nameAhead_39 (by decide) (fun c_39 => ?_) (fun c_39 => ?_)
      · refine lv_iconst (v := (-1)) hx hb dX7_nameAhead_46 (by decide) ?_
        subst hQ
        have x_FLT_p0 : FLTp ws p0 := ⟨_, m_v_5, r_v_5.to (by decide)⟩
        exact W.iret (v := (-1)) hx hb hr (fun t ht hW => ⟨⟨(-1), ws, rfl, ⟨⟨rl_m1.to (by decide), (fun _ => trivial), (fun h0 => trivial), trivial, (fun h0 => ⟨x_FLT_p0, trivial⟩), (fun _ => trivial)⟩, hw.1, hw.2.2.2.2.1⟩, by rw [ht]; exact hw.2.1, va_K.moved hW.alike hK, hw.2.2.1⟩, hw.2.2.2.1.F ht⟩) hw.2.2.2.1.2.2 dX7_nameAhead_47
      · have r_v_5 : RI v_5 1 0 := rc_eq1 r_v_5 rl_0 (ti_eq c_39) (by decide)
        exact (r_v_5.no (by decide)).elim
  · refine lv_aload_n hx hb dX7_nameAhead_8 rfl (lv_at hl 0 rfl) ?_
    refine lv_iconst (v := 1) hx hb dX7_nameAhead_9 (by decide) ?_
    refine tk_v (va_runV (As := [.int 1]) (rest := []) ⟨hx, hb, hml, hown, hts⟩ (c_X7_refuse__3 l D cy z s.heap.size Ps w0 hw.1 p0 1 f0_10 h_p0 (rl_1.to (by decide)) r_f0_10 m_f0_10) (cwV 1 hts (gV tw_442 tw_443 tw_444 tw_2 tw_445) rfl rfl rfl (by decide +kernel) ⟨Nat.le_of_ble_eq_true rfl, Nat.le_of_ble_eq_true rfl⟩) (tg_preV hw hK hSD hA (ci := 7) (q := (RX7, TX7, 12)) rfl h_p0 rfl) rfl rfl hl.1 rfl (lv_room (Nat.le_of_ble_eq_true rfl)) dX7_nameAhead_10 ⟨Nat.le_of_ble_eq_true rfl, Nat.le_of_ble_eq_true rfl⟩) hw hA ⟨by decide, by decide⟩ (fun ws H locs hp_v_6 hw hF9 => ?_)
    have m_u_1 := FLD.over hF9 m_u_1 (by decide)
    obtain ⟨v_7, m_v_7, r_v_7⟩ := (hp_v_6.1)
    refine lv_iconst (v := (-1)) hx hb dX7_nameAhead_13 (by decide) ?_
    subst hQ
    have x_FLT_p0 : FLTp ws p0 := ⟨_, m_v_7, r_v_7.to (by decide)⟩
    exact W.iret (v := (-1)) hx hb hr (fun t ht hW => ⟨⟨(-1), ws, rfl, ⟨⟨rl_m1.to (by decide), (fun _ => trivial), (fun h0 => trivial), trivial, (fun h0 => ⟨x_FLT_p0, trivial⟩), (fun _ => trivial)⟩, hw.1, hw.2.2.2.2.1⟩, by rw [ht]; exact hw.2.1, va_K.moved hW.alike hK, hw.2.2.1⟩, hw.2.2.2.1.F ht⟩) hw.2.2.2.1.2.2 dX7_nameAhead_14
abbrev wr_X0_beginsLine__2 : List (Nat × Nat) := []
abbrev wa_X0_beginsLine__2 : List Nat := []
set_option maxHeartbeats 4000000 in
set_option maxRecDepth 100000 in
theorem c_X0_beginsLine__2 (l : Launch) (D : va_G) (cy : Nat → ClassId) (z : Nat → Nat) (sz : Nat) (Ps : PSI) (w0 : va_W) (hT : HT cy GG Ps w0) (p0 : Nat) (p1 : Nat) (p2 : Int32) (f1_10 : Int32) (h_p0 : (p0, 31) ∈ Ps) (h_p1 : (p1, 26) ∈ Ps) (r_p2 : RI p2 2 2) (r_f1_10 : RI f1_10 1 4) (m_f1_10 : FLD w0 p1 7 10 (.int f1_10)) : Met l yX0_beginsLine (Cond.code yX0_beginsLine cX0_beginsLine 3 (some .boolean) :: gT) ({ frames := 2, cells := 0, slots := 0, locals := 400 } : Room) (va_Pc [.ref p0, .ref p1, .int p2] (PRE D cy z w0 sz)) (va_Qi (fun (r : Int32) (u : Unit) => RI r 0 0 ∧ (r = 0 → True) ∧ (¬ r = 0 → True)) (BB D cy (va_A w0 sz) (fun (u : Unit) => w0)) (va_A w0 sz)) 0 0 (va_A w0 sz) := by
  refine Met.ofW (cc := cX0_beginsLine) (maxL := 3) (ret := (some .boolean)) (by decide) rfl ?_
  intro p e s m args below meth c s₁ B hml hv
  obtain ⟨rfl, hsz, hP, hK, hD0, hSD⟩ := hv
  have hx := B.exec
  have hb := B.bytes
  have hr := B.returns
  have hlocks := B.notSynchronized
  have hts : ∀ w ∈ gT, w.before _ s = true := fun w h => atoms_spec (ws := Cond.code yX0_beginsLine cX0_beginsLine 3 (some .boolean) :: gT) B.pre w (List.mem_cons_of_mem _ h)
  have hown : s.vm.findClass RX0 = some m.cls := findClass_of_methodNamed B.named
  subst hsz
  have hD := hD0.self (sz := s.heap.size)
  generalize hAe : va_A w0 s.heap.size = A at hD hSD ⊢
  have hA : ∀ q : Nat, s.heap.size ≤ q → A q := fun q h => by rw [← hAe]; exact Or.inr h
  have hl := lv_entry ([.ref p0, .ref p1, .int p2]) (n := 3) (Nat.le_of_ble_eq_true rfl)
  rw [lg_entry_eq]
  generalize (lg_sl ([.ref p0, .ref p1, .int p2]) ++ List.replicate (3 - (lg_sl ([.ref p0, .ref p1, .int p2])).length) Slot.unset).toArray = ls at hl ⊢
  have hl : lv_has ls 3 [(0, .ref p0), (1, .ref p1), (2, .int p2)] := hl
  refine nameQ (fun Q hQ => ?_)
  have hw : WD D cy GG A s wr_X0_beginsLine__2 wa_X0_beginsLine__2 Ps w0 Ps w0 s.heap [] := ⟨hT, hP, hD, va_S.rf, FR.rf, hT.1, [], (List.append_nil _).symm⟩
  refine lv_iload_n hx hb dX0_beginsLine_0 rfl (lv_at hl 2 rfl) ?_
  refine lv_iconst (v := 2) hx hb dX0_beginsLine_1 (by decide) ?_
  refine lv_icmp_eq (tgt := 27) hx hb dX0_beginsLine_2 (by decide) (fun c_2 => ?_) (fun c_2 => ?_)
  · refine lv_aload_n hx hb dX0_beginsLine_27 rfl (lv_at hl 0 rfl) ?_
    refine tg_get (ci := 0) (ts := ty_BOOK) (C := RX0) (T := TX0) (N := 5) hx hb hts inX0 hown hK hw h_p0 rfl rfl 3 (by decide) (hts _ tw_145) (fun _ h9 => h9) (ft := vI 0 40) rfl dX0_beginsLine_28 (fun u_1 hv_u_1 m_u_1 => ?_)
    obtain ⟨vu_1, rfl, r_vu_1⟩ := hv_u_1
    refine lv_bipush (v := 40) hx hb dX0_beginsLine_31 (by decide) ?_
    refine lv_icmp_lt (tgt := 41) hx hb dX0_beginsLine_33 (by decide) (fun c_33 => ?_) (fun c_33 => ?_)
    · have r_vu_1 : RI vu_1 0 39 := rc_lt1 r_vu_1 rl_40 (ti_lt c_33) (by decide)
      refine lv_aload_n hx hb dX0_beginsLine_41 rfl (lv_at hl 1 rfl) ?_
      refine tk_vr (va_runV (As := []) (rest := []) ⟨hx, hb, hml, hown, hts⟩ (c_X7_pass__1 l D cy z s.heap.size Ps w0 hw.1 p1 f1_10 h_p1 r_f1_10 m_f1_10) (cwV 0 hts (gV tw_898 tw_425 tw_426 tw_2 tw_427) rfl rfl rfl (by decide +kernel) ⟨Nat.le_of_ble_eq_true rfl, Nat.le_of_ble_eq_true rfl⟩) (tg_preV hw hK hSD hA (ci := 7) (q := (RX7, TX7, 12)) rfl h_p1 rfl) rfl rfl hl.1 rfl (lv_room (Nat.le_of_ble_eq_true rfl)) dX0_beginsLine_42 ⟨Nat.le_of_ble_eq_true rfl, Nat.le_of_ble_eq_true rfl⟩) hw hA (fun  H locs hp_v_2 hw => ?_)
      refine lv_aload_n hx hb dX0_beginsLine_45 rfl (lv_at hl 1 rfl) ?_
      refine tg_memN (ci := 7) (C := RX7) (T := TX7) (N := 12) hx hb hts inX7 hown hK hw 10 m_f1_10 rfl (by decide) (hSD.nest tn_102) (fun _ h9 => h9) dX0_beginsLine_46 ?_
      refine lv_if_ne (tgt := 56) hx hb dX0_beginsLine_49 (by decide) (fun c_49 => ?_) (fun c_49 => ?_)
      · refine lv_iconst (v := 0) hx hb dX0_beginsLine_56 (by decide) ?_
        subst hQ
        exact W.zret (v := 0) hx hb hr (rfl) (fun t ht hW => ⟨⟨0, (), rfl, ⟨rl_0.to (by decide), (fun h0 => trivial), (fun _ => trivial)⟩, by rw [ht]; exact hw.2.1, va_K.moved hW.alike hK, hw.2.2.1⟩, hw.2.2.2.1.F ht⟩) hw.2.2.2.1.2.2 dX0_beginsLine_57
      · have r_f1_10 : RI f1_10 1 0 := rc_eq1 r_f1_10 rl_0 (ti_eq c_49) (by decide)
        exact (r_f1_10.no (by decide)).elim
    · have r_vu_1 : RI vu_1 40 40 := rc_le2 rl_40 r_vu_1 (ti_nlt c_33) (by decide)
      refine lv_aload_n hx hb dX0_beginsLine_36 rfl (lv_at hl 1 rfl) ?_
      refine lv_iconst (v := 4) hx hb dX0_beginsLine_37 (by decide) ?_
      refine tk_vr (va_runV (As := [.int 4]) (rest := []) ⟨hx, hb, hml, hown, hts⟩ (c_X7_refuse__1 l D cy z s.heap.size Ps w0 hw.1 p1 4 f1_10 h_p1 (rl_4.to (by decide)) r_f1_10 m_f1_10) (cwV 1 hts (gV tw_897 tw_443 tw_444 tw_2 tw_445) rfl rfl rfl (by decide +kernel) ⟨Nat.le_of_ble_eq_true rfl, Nat.le_of_ble_eq_true rfl⟩) (tg_preV hw hK hSD hA (ci := 7) (q := (RX7, TX7, 12)) rfl h_p1 rfl) rfl rfl hl.1 rfl (lv_room (Nat.le_of_ble_eq_true rfl)) dX0_beginsLine_38 ⟨Nat.le_of_ble_eq_true rfl, Nat.le_of_ble_eq_true rfl⟩) hw hA (fun  H locs hp_v_3 hw => ?_)
      refine lv_aload_n hx hb dX0_beginsLine_41 rfl (lv_at hl 1 rfl) ?_
      refine tk_vr (va_runV (As := []) (rest := []) ⟨hx, hb, hml, hown, hts⟩ (c_X7_pass__1 l D cy z H.size Ps w0 hw.1 p1 f1_10 h_p1 r_f1_10 m_f1_10) (cwV 0 hts (gV tw_898 tw_425 tw_426 tw_2 tw_427) rfl rfl rfl (by decide +kernel) ⟨Nat.le_of_ble_eq_true rfl, Nat.le_of_ble_eq_true rfl⟩) (tg_preV hw hK hSD hA (ci := 7) (q := (RX7, TX7, 12)) rfl h_p1 rfl) rfl rfl hl.1 rfl (lv_room (Nat.le_of_ble_eq_true rfl)) dX0_beginsLine_42 ⟨Nat.le_of_ble_eq_true rfl, Nat.le_of_ble_eq_true rfl⟩) hw hA (fun  H locs hp_v_4 hw => ?_)
      refine lv_aload_n hx hb dX0_beginsLine_45 rfl (lv_at hl 1 rfl) ?_
      refine tg_memN (ci := 7) (C := RX7) (T := TX7) (N := 12) hx hb hts inX7 hown hK hw 10 m_f1_10 rfl (by decide) (hSD.nest tn_102) (fun _ h9 => h9) dX0_beginsLine_46 ?_
      refine lv_if_ne (tgt := 56) hx hb dX0_beginsLine_49 (by decide) (fun c_49 => ?_) (fun c_49 => ?_)
      · refine lv_iconst (v := 0) hx hb dX0_beginsLine_56 (by decide) ?_
        subst hQ
        exact W.zret (v := 0) hx hb hr (rfl) (fun t ht hW => ⟨⟨0, (), rfl, ⟨rl_0.to (by decide), (fun h0 => trivial), (fun _ => trivial)⟩, by rw [ht]; exact hw.2.1, va_K.moved hW.alike hK, hw.2.2.1⟩, hw.2.2.2.1.F ht⟩) hw.2.2.2.1.2.2 dX0_beginsLine_57
      · have r_f1_10 : RI f1_10 1 0 := rc_eq1 r_f1_10 rl_0 (ti_eq c_49) (by decide)
        exact (r_f1_10.no (by decide)).elim
  · exact absurd (r_p2.eq.trans rl_2.eq.symm) ((ti_ne c_2))
abbrev wr_X7_pass__2 : List (Nat × Nat) := [(7, 5), (7, 6), (7, 7), (7, 8), (7, 9)]
abbrev wa_X7_pass__2 : List Nat := []
set_option maxHeartbeats 4000000 in
set_option maxRecDepth 100000 in
theorem c_X7_pass__2 (l : Launch) (D : va_G) (cy : Nat → ClassId) (z : Nat → Nat) (sz : Nat) (Ps : PSI) (w0 : va_W) (hT : HT cy GG Ps w0) (p0 : Nat) (h_p0 : (p0, 26) ∈ Ps) : Met l yX7_pass (Cond.code yX7_pass cX7_pass 2 none :: gT) ({ frames := 2, cells := 0, slots := 0, locals := 400 } : Room) (va_Pc [.ref p0] (PRE D cy z w0 sz)) (va_Qv (fun (u : va_W) => (True) ∧ HT cy GG Ps u ∧ FR wr_X7_pass__2 wa_X7_pass__2 Ps w0 u) (BB D cy (va_A w0 sz) (fun (u : va_W) => u)) (va_A w0 sz)) 0 0 (va_A w0 sz) := by
  refine Met.ofW (cc := cX7_pass) (maxL := 2) (ret := none) (by decide) rfl ?_
  intro p e s m args below meth c s₁ B hml hv
  obtain ⟨rfl, hsz, hP, hK, hD0, hSD⟩ := hv
  have hx := B.exec
  have hb := B.bytes
  have hr := B.returns
  have hlocks := B.notSynchronized
  have hts : ∀ w ∈ gT, w.before _ s = true := fun w h => atoms_spec (ws := Cond.code yX7_pass cX7_pass 2 none :: gT) B.pre w (List.mem_cons_of_mem _ h)
  have hown : s.vm.findClass RX7 = some m.cls := findClass_of_methodNamed B.named
  subst hsz
  have hD := hD0.self (sz := s.heap.size)
  generalize hAe : va_A w0 s.heap.size = A at hD hSD ⊢
  have hA : ∀ q : Nat, s.heap.size ≤ q → A q := fun q h => by rw [← hAe]; exact Or.inr h
  have hl := lv_entry ([.ref p0]) (n := 2) (Nat.le_of_ble_eq_true rfl)
  rw [lg_entry_eq]
  generalize (lg_sl ([.ref p0]) ++ List.replicate (2 - (lg_sl ([.ref p0])).length) Slot.unset).toArray = ls at hl ⊢
  have hl : lv_has ls 2 [(0, .ref p0)] := hl
  refine nameQ (fun Q hQ => ?_)
  have hw : WD D cy GG A s wr_X7_pass__2 wa_X7_pass__2 Ps w0 Ps w0 s.heap [] := ⟨hT, hP, hD, va_S.rf, FR.rf, hT.1, [], (List.append_nil _).symm⟩
  have B142 : ∀ (x1 : Int32) (y0 : Int32) (z0_3 : Int32) (z0_5 : Int32) (z0_6 : Int32) (z0_10 : Int32) (ws : va_W) (H : Heap) (locs : List Loc) (ls : Array Slot), RI x1 (-128) 127 → RI y0 1 62 → RI z0_3 1 940 → FLD ws p0 7 3 (.int z0_3) → RI z0_5 0 939 → FLD ws p0 7 5 (.int z0_5) → RI z0_6 0 939 → FLD ws p0 7 6 (.int z0_6) → RI z0_10 0 0 → FLD ws p0 7 10 (.int z0_10) → WD D cy GG A s wr_X7_pass__2 wa_X7_pass__2 Ps w0 Ps ws H locs → lv_has ls 2 [(0, .ref p0), (1, .int x1)] → W p l e (headSpec (Cond.code yX7_pass cX7_pass 2 none :: gT) ({ frames := 2, cells := 0, slots := 0, locals := 400 } : Room)).room s m ([.ref p0] : List Value).toArray below meth c H locs 0 0 Q (F0 m 142 ls [.int y0, .ref p0]) := by
    intro x1 y0 z0_3 z0_5 z0_6 z0_10 ws H locs ls r_x1 r_y0 r_z0_3 m_z0_3 r_z0_5 m_z0_5 r_z0_6 m_z0_6 r_z0_10 m_z0_10 hw hl
    refine tg_put (ci := 7) (ts := ty_TAPE) (v := .int y0) (ty := .int) (C := RX7) (T := TX7) (N := 12) hx hb hts inX7 tyX7 tyX7_ok nmX7 hown hK hw h_p0 rfl rfl 7 (by decide) (hts _ tw_98) (fun _ h9 => h9) rfl (by decide +kernel) rfl rfl (ft := vI (-2147483648) 2147483647) rfl ⟨_, rfl, (r_y0.to (by decide))⟩ (by decide) dX7_pass_142 (fun ws H locs hw n_k_1 hF9 => ?_)
    have m_z0_3 := FLD.over hF9 m_z0_3 (by decide)
    have m_z0_5 := FLD.over hF9 m_z0_5 (by decide)
    have m_z0_6 := FLD.over hF9 m_z0_6 (by decide)
    have m_z0_10 := FLD.over hF9 m_z0_10 (by decide)
    refine lv_aload_n hx hb dX7_pass_145 rfl (lv_at hl 0 rfl) ?_
    refine lv_dup hx hb dX7_pass_146 rfl ?_
    refine tg_mem (ci := 7) (C := RX7) (T := TX7) (N := 12) hx hb hts inX7 hown hK hw 6 m_z0_6 rfl (by decide) (hts _ tw_94) (fun _ h9 => h9) dX7_pass_147 ?_
    refine lv_iconst (v := 1) hx hb dX7_pass_150 (by decide) ?_
    refine lv_iadd hx hb dX7_pass_151 (lv_topi (fun v_2 e_v_2 => ?_))
    obtain ⟨t_v_2, r_v_2⟩ := tq_add (lo := 1) (hi := 940) r_z0_6 rl_1 (by decide +kernel) e_v_2
    have t_v_2 : v_2.toInt = z0_6.toInt + 1 := t_v_2
    refine tg_put (ci := 7) (ts := ty_TAPE) (v := .int v_2) (ty := .int) (C := RX7) (T := TX7) (N := 12) hx hb hts inX7 tyX7 tyX7_ok nmX7 hown hK hw h_p0 rfl rfl 6 (by decide) (hts _ tw_94) (fun _ h9 => h9) rfl (by decide +kernel) rfl rfl (ft := vI 0 940) rfl ⟨_, rfl, (r_v_2.to (by decide))⟩ (by decide) dX7_pass_152 (fun ws H locs hw n_k_3 hF9 => ?_)
    have m_z0_3 := FLD.over hF9 m_z0_3 (by decide)
    have m_z0_5 := FLD.over hF9 m_z0_5 (by decide)
    have m_z0_10 := FLD.over hF9 m_z0_10 (by decide)
    have n_k_1 := FLD.over hF9 n_k_1 (by decide)
    subst hQ
    exact W.vret hx hb hr (fun t ht hW => ⟨⟨ws, rfl, ⟨trivial, hw.1, hw.2.2.2.2.1⟩, by rw [ht]; exact hw.2.1, va_K.moved hW.alike hK, hw.2.2.1⟩, hw.2.2.2.1.F ht⟩) hw.2.2.2.1.2.2 dX7_pass_155
  have B129 : ∀ (x1 : Int32) (z0_3 : Int32) (z0_5 : Int32) (z0_6 : Int32) (z0_10 : Int32) (ws : va_W) (H : Heap) (locs : List Loc) (ls : Array Slot), RI x1 (-128) 127 → RI z0_3 1 940 → FLD ws p0 7 3 (.int z0_3) → RI z0_5 0 939 → FLD ws p0 7 5 (.int z0_5) → RI z0_6 0 939 → FLD ws p0 7 6 (.int z0_6) → RI z0_10 0 0 → FLD ws p0 7 10 (.int z0_10) → WD D cy GG A s wr_X7_pass__2 wa_X7_pass__2 Ps w0 Ps ws H locs → lv_has ls 2 [(0, .ref p0), (1, .int x1)] → W p l e (headSpec (Cond.code yX7_pass cX7_pass 2 none :: gT) ({ frames := 2, cells := 0, slots := 0, locals := 400 } : Room)).room s m ([.ref p0] : List Value).toArray below meth c H locs 0 0 Q (F0 m 129 ls []) := by
    intro x1 z0_3 z0_5 z0_6 z0_10 ws H locs ls r_x1 r_z0_3 m_z0_3 r_z0_5 m_z0_5 r_z0_6 m_z0_6 r_z0_10 m_z0_10 hw hl
    refine lv_aload_n hx hb dX7_pass_129 rfl (lv_at hl 0 rfl) ?_
    refine lv_iload_n hx hb dX7_pass_130 rfl (lv_at hl 1 rfl) ?_
    refine tk_ir (va_runS (As := [.int x1]) (rest := [.ref p0]) ⟨hx, hb, hml, hown, hts⟩ (c_X7_isSign l D cy z H.size Ps ws hw.1 x1 (r_x1.to (by decide))) (va_cwS 1 hts (gS tw_435 tw_436 tw_2 tw_437) rfl rfl rfl (by decide +kernel) ⟨Nat.le_of_ble_eq_true rfl, Nat.le_of_ble_eq_true rfl⟩) (tg_preS hw hK hSD hA) rfl rfl hl.1 rfl (lv_room (Nat.le_of_ble_eq_true rfl)) dX7_pass_131 ⟨Nat.le_of_ble_eq_true rfl, Nat.le_of_ble_eq_true rfl⟩) hw hA (fun v_4  H locs hp_v_4 hw => ?_)
    have r_v_4 : RI v_4 0 1 := hp_v_4.1
    refine lv_if_eq (tgt := 141) hx hb dX7_pass_134 (by decide) (fun c_134 => ?_) (fun c_134 => ?_)
    · have r_v_4 : RI v_4 0 0 := rc_eq1 r_v_4 rl_0 (ti_eq c_134) (by decide)
      refine lv_iconst (v := 1) hx hb dX7_pass_141 (by decide) ?_
      exact B142 x1 1 z0_3 z0_5 z0_6 z0_10 ws _ _ ls r_x1 (rl_1.to (by decide)) r_z0_3 m_z0_3 r_z0_5 m_z0_5 r_z0_6 m_z0_6 r_z0_10 m_z0_10 hw hl
    · have r_v_4 : RI v_4 1 1 := rc_neL r_v_4 rl_0 (ti_ne c_134) (by decide)
      have r_x1 : RI x1 40 62 := ((hp_v_4.2.2 c_134).1)
      refine lv_iload_n hx hb dX7_pass_137 rfl (lv_at hl 1 rfl) ?_
      refine lv_goto (tgt := 142) hx hb dX7_pass_138 (by decide) ?_
      exact B142 x1 x1 z0_3 z0_5 z0_6 z0_10 ws _ _ ls (r_x1.to (by decide)) (r_x1.to (by decide)) r_z0_3 m_z0_3 r_z0_5 m_z0_5 r_z0_6 m_z0_6 r_z0_10 m_z0_10 hw hl
  have B122 : ∀ (x1 : Int32) (z0_3 : Int32) (z0_5 : Int32) (z0_6 : Int32) (z0_10 : Int32) (ws : va_W) (H : Heap) (locs : List Loc) (ls : Array Slot), RI x1 48 122 → RI z0_3 1 940 → FLD ws p0 7 3 (.int z0_3) → RI z0_5 0 939 → FLD ws p0 7 5 (.int z0_5) → RI z0_6 0 939 → FLD ws p0 7 6 (.int z0_6) → RI z0_10 0 0 → FLD ws p0 7 10 (.int z0_10) → WD D cy GG A s wr_X7_pass__2 wa_X7_pass__2 Ps w0 Ps ws H locs → lv_has ls 2 [(0, .ref p0), (1, .int x1)] → W p l e (headSpec (Cond.code yX7_pass cX7_pass 2 none :: gT) ({ frames := 2, cells := 0, slots := 0, locals := 400 } : Room)).room s m ([.ref p0] : List Value).toArray below meth c H locs 0 0 Q (F0 m 122 ls []) := by
    intro x1 z0_3 z0_5 z0_6 z0_10 ws H locs ls r_x1 r_z0_3 m_z0_3 r_z0_5 m_z0_5 r_z0_6 m_z0_6 r_z0_10 m_z0_10 hw hl
    refine lv_aload_n hx hb dX7_pass_122 rfl (lv_at hl 0 rfl) ?_
    refine tk_v (va_runV (As := []) (rest := []) ⟨hx, hb, hml, hown, hts⟩ (c_X7_readRun l D cy z H.size Ps ws hw.1 p0 h_p0) (cwV 0 hts (gV tw_431 tw_433 ts_0 tw_2 tw_434) rfl rfl rfl (by decide +kernel) ⟨Nat.le_of_ble_eq_true rfl, Nat.le_of_ble_eq_true rfl⟩) (tg_preV hw hK hSD hA (ci := 7) (q := (RX7, TX7, 12)) rfl h_p0 rfl) rfl rfl hl.1 rfl (lv_room (Nat.le_of_ble_eq_true rfl)) dX7_pass_123 ⟨Nat.le_of_ble_eq_true rfl, Nat.le_of_ble_eq_true rfl⟩) hw hA ⟨by decide, by decide⟩ (fun ws H locs hp_v_5 hw hF9 => ?_)
    have m_z0_3 := FLD.over hF9 m_z0_3 (by decide)
    have m_z0_5 := FLD.over hF9 m_z0_5 (by decide)
    have m_z0_10 := FLD.over hF9 m_z0_10 (by decide)
    refine lv_goto (tgt := 155) hx hb dX7_pass_126 (by decide) ?_
    subst hQ
    exact W.vret hx hb hr (fun t ht hW => ⟨⟨ws, rfl, ⟨trivial, hw.1, hw.2.2.2.2.1⟩, by rw [ht]; exact hw.2.1, va_K.moved hW.alike hK, hw.2.2.1⟩, hw.2.2.2.1.F ht⟩) hw.2.2.2.1.2.2 dX7_pass_155
  have B110 : ∀ (x1 : Int32) (z0_3 : Int32) (z0_5 : Int32) (z0_6 : Int32) (z0_10 : Int32) (ws : va_W) (H : Heap) (locs : List Loc) (ls : Array Slot), RI x1 (-128) 127 → RI z0_3 1 940 → FLD ws p0 7 3 (.int z0_3) → RI z0_5 0 939 → FLD ws p0 7 5 (.int z0_5) → RI z0_6 0 939 → FLD ws p0 7 6 (.int z0_6) → RI z0_10 0 0 → FLD ws p0 7 10 (.int z0_10) → WD D cy GG A s wr_X7_pass__2 wa_X7_pass__2 Ps w0 Ps ws H locs → lv_has ls 2 [(0, .ref p0), (1, .int x1)] → W p l e (headSpec (Cond.code yX7_pass cX7_pass 2 none :: gT) ({ frames := 2, cells := 0, slots := 0, locals := 400 } : Room)).room s m ([.ref p0] : List Value).toArray below meth c H locs 0 0 Q (F0 m 110 ls []) := by
    intro x1 z0_3 z0_5 z0_6 z0_10 ws H locs ls r_x1 r_z0_3 m_z0_3 r_z0_5 m_z0_5 r_z0_6 m_z0_6 r_z0_10 m_z0_10 hw hl
    refine lv_iload_n hx hb dX7_pass_110 rfl (lv_at hl 1 rfl) ?_
    refine lv_bipush (v := 48) hx hb dX7_pass_111 (by decide) ?_
    refine lv_icmp_lt (tgt := 129) hx hb dX7_pass_113 (by decide) (fun c_113 => ?_) (fun c_113 => ?_)
    · have r_x1 : RI x1 (-128) 47 := rc_lt1 r_x1 rl_48 (ti_lt c_113) (by decide)
      exact B129 x1 z0_3 z0_5 z0_6 z0_10 ws _ _ ls (r_x1.to (by decide)) r_z0_3 m_z0_3 r_z0_5 m_z0_5 r_z0_6 m_z0_6 r_z0_10 m_z0_10 hw hl
    · have r_x1 : RI x1 48 127 := rc_le2 rl_48 r_x1 (ti_nlt c_113) (by decide)
      refine lv_iload_n hx hb dX7_pass_116 rfl (lv_at hl 1 rfl) ?_
      refine lv_bipush (v := 57) hx hb dX7_pass_117 (by decide) ?_
      refine lv_icmp_gt (tgt := 129) hx hb dX7_pass_119 (by decide) (fun c_119 => ?_) (fun c_119 => ?_)
      · have r_x1 : RI x1 58 127 := rc_lt2 rl_57 r_x1 (ti_lt c_119) (by decide)
        exact B129 x1 z0_3 z0_5 z0_6 z0_10 ws _ _ ls (r_x1.to (by decide)) r_z0_3 m_z0_3 r_z0_5 m_z0_5 r_z0_6 m_z0_6 r_z0_10 m_z0_10 hw hl
      · have r_x1 : RI x1 48 57 := rc_le1 r_x1 rl_57 (ti_nlt c_119) (by decide)
        exact B122 x1 z0_3 z0_5 z0_6 z0_10 ws _ _ ls (r_x1.to (by decide)) r_z0_3 m_z0_3 r_z0_5 m_z0_5 r_z0_6 m_z0_6 r_z0_10 m_z0_10 hw hl
  have B55 : ∀ (z0_5 : Int32) (z0_10 : Int32) (ws : va_W) (H : Heap) (locs : List Loc) (ls : Array Slot), RI z0_5 0 940 → FLD ws p0 7 5 (.int z0_5) → RI z0_10 0 0 → FLD ws p0 7 10 (.int z0_10) → WD D cy GG A s wr_X7_pass__2 wa_X7_pass__2 Ps w0 Ps ws H locs → lv_has ls 2 [(0, .ref p0)] → W p l e (headSpec (Cond.code yX7_pass cX7_pass 2 none :: gT) ({ frames := 2, cells := 0, slots := 0, locals := 400 } : Room)).room s m ([.ref p0] : List Value).toArray below meth c H locs 0 0 Q (F0 m 55 ls []) := by
    intro z0_5 z0_10 ws H locs ls r_z0_5 m_z0_5 r_z0_10 m_z0_10 hw hl
    refine lv_aload_n hx hb dX7_pass_55 rfl (lv_at hl 0 rfl) ?_
    refine tg_mem (ci := 7) (C := RX7) (T := TX7) (N := 12) hx hb hts inX7 hown hK hw 5 m_z0_5 rfl (by decide) (hts _ tw_93) (fun _ h9 => h9) dX7_pass_56 ?_
    refine lv_aload_n hx hb dX7_pass_59 rfl (lv_at hl 0 rfl) ?_
    refine tg_get (ci := 7) (ts := ty_TAPE) (C := RX7) (T := TX7) (N := 12) hx hb hts inX7 hown hK hw h_p0 rfl rfl 3 (by decide) (hts _ tw_91) (fun _ h9 => h9) (ft := vI 0 940) rfl dX7_pass_60 (fun u_6 hv_u_6 m_u_6 => ?_)
    obtain ⟨vu_6, rfl, r_vu_6⟩ := hv_u_6
    refine lv_icmp_lt (tgt := 80) hx hb dX7_pass_63 (by decide) (fun c_63 => ?_) (fun c_63 => ?_)
    · have r_z0_5 : RI z0_5 0 939 := rc_lt1 r_z0_5 r_vu_6 (ti_lt c_63) (by decide)
      have r_vu_6 : RI vu_6 1 940 := rc_lt2 r_z0_5 r_vu_6 (ti_lt c_63) (by decide)
      refine lv_aload_n hx hb dX7_pass_80 rfl (lv_at hl 0 rfl) ?_
      refine tg_get (ci := 7) (ts := ty_TAPE) (C := RX7) (T := TX7) (N := 12) hx hb hts inX7 hown hK hw h_p0 rfl rfl 0 (by decide) (hts _ tw_87) (fun _ h9 => h9) (ft := vR 2) rfl dX7_pass_81 (fun u_7 hv_u_7 m_u_7 => ?_)
      obtain ⟨vu_7, rfl, h_vu_7⟩ := hv_u_7
      refine lv_aload_n hx hb dX7_pass_84 rfl (lv_at hl 0 rfl) ?_
      refine tg_mem (ci := 7) (C := RX7) (T := TX7) (N := 12) hx hb hts inX7 hown hK hw 5 m_z0_5 rfl (by decide) (hts _ tw_93) (fun _ h9 => h9) dX7_pass_85 ?_
      refine tg_bald (lo := (-128)) (hi := 127) hx hb hK hw h_vu_7 rfl 0 939 r_z0_5 (by decide) (by exact fun _ _ _ => ⟨Int.le_refl _, Int.le_refl _⟩) dX7_pass_88 (fun v_8 r_v_8 => ?_)
      refine lv_istore_n (lv' := [(1, .int v_8), (0, .ref p0)]) hx hb dX7_pass_89 rfl hl (by decide) rfl (fun ls hl => ?_)
      refine lv_aload_n hx hb dX7_pass_90 rfl (lv_at hl 1 rfl) ?_
      refine lv_aload_n hx hb dX7_pass_91 rfl (lv_at hl 1 rfl) ?_
      refine tg_mem (ci := 7) (C := RX7) (T := TX7) (N := 12) hx hb hts inX7 hown hK hw 5 m_z0_5 rfl (by decide) (hts _ tw_93) (fun _ h9 => h9) dX7_pass_92 ?_
      refine tg_put (ci := 7) (ts := ty_TAPE) (v := .int z0_5) (ty := .int) (C := RX7) (T := TX7) (N := 12) hx hb hts inX7 tyX7 tyX7_ok nmX7 hown hK hw h_p0 rfl rfl 6 (by decide) (hts _ tw_94) (fun _ h9 => h9) rfl (by decide +kernel) rfl rfl (ft := vI 0 940) rfl ⟨_, rfl, (r_z0_5.to (by decide))⟩ (by decide) dX7_pass_95 (fun ws H locs hw n_k_9 hF9 => ?_)
      have m_z0_5 := FLD.over hF9 m_z0_5 (by decide)
      have m_z0_10 := FLD.over hF9 m_z0_10 (by decide)
      have m_u_6 := FLD.over hF9 m_u_6 (by decide)
      refine lv_iload_n hx hb dX7_pass_98 rfl (lv_at hl 0 rfl) ?_
      refine lv_bipush (v := 97) hx hb dX7_pass_99 (by decide) ?_
      refine lv_icmp_lt (tgt := 110) hx hb dX7_pass_101 (by decide) (fun c_101 => ?_) (fun c_101 => ?_)
      · have r_v_8 : RI v_8 (-128) 96 := rc_lt1 r_v_8 rl_97 (ti_lt c_101) (by decide)
        exact B110 v_8 vu_6 z0_5 z0_5 z0_10 ws _ _ ls (r_v_8.to (by decide)) r_vu_6 m_u_6 r_z0_5 m_z0_5 r_z0_5 n_k_9 r_z0_10 m_z0_10 hw (lv_sub hl [1, 0] rfl)
      · have r_v_8 : RI v_8 97 127 := rc_le2 rl_97 r_v_8 (ti_nlt c_101) (by decide)
        refine lv_iload_n hx hb dX7_pass_104 rfl (lv_at hl 0 rfl) ?_
        refine lv_bipush (v := 122) hx hb dX7_pass_105 (by decide) ?_
        refine lv_icmp_le (tgt := 122) hx hb dX7_pass_107 (by decide) (fun c_107 => ?_) (fun c_107 => ?_)
        · have r_v_8 : RI v_8 97 122 := rc_le1 r_v_8 rl_122 (ti_le c_107) (by decide)
          exact B122 v_8 vu_6 z0_5 z0_5 z0_10 ws _ _ ls (r_v_8.to (by decide)) r_vu_6 m_u_6 r_z0_5 m_z0_5 r_z0_5 n_k_9 r_z0_10 m_z0_10 hw (lv_sub hl [1, 0] rfl)
        · have r_v_8 : RI v_8 123 127 := rc_lt2 rl_122 r_v_8 (ti_nle c_107) (by decide)
          exact B110 v_8 vu_6 z0_5 z0_5 z0_10 ws _ _ ls (r_v_8.to (by decide)) r_vu_6 m_u_6 r_z0_5 m_z0_5 r_z0_5 n_k_9 r_z0_10 m_z0_10 hw (lv_sub hl [1, 0] rfl)
    · refine lv_aload_n hx hb dX7_pass_66 rfl (lv_at hl 0 rfl) ?_
      refine lv_aload_n hx hb dX7_pass_67 rfl (lv_at hl 0 rfl) ?_
      refine tg_mem (ci := 7) (C := RX7) (T := TX7) (N := 12) hx hb hts inX7 hown hK hw 3 m_u_6 rfl (by decide) (hts _ tw_91) (fun _ h9 => h9) dX7_pass_68 ?_
      refine tg_put (ci := 7) (ts := ty_TAPE) (v := .int vu_6) (ty := .int) (C := RX7) (T := TX7) (N := 12) hx hb hts inX7 tyX7 tyX7_ok nmX7 hown hK hw h_p0 rfl rfl 5 (by decide) (hts _ tw_93) (fun _ h9 => h9) rfl (by decide +kernel) rfl rfl (ft := vI 0 940) rfl ⟨_, rfl, r_vu_6⟩ (by decide) dX7_pass_71 (fun ws H locs hw n_k_10 hF9 => ?_)
      have m_z0_10 := FLD.over hF9 m_z0_10 (by decide)
      have m_u_6 := FLD.over hF9 m_u_6 (by decide)
      refine lv_aload_n hx hb dX7_pass_74 rfl (lv_at hl 0 rfl) ?_
      refine lv_iconst (v := 0) hx hb dX7_pass_75 (by decide) ?_
      refine tg_put (ci := 7) (ts := ty_TAPE) (v := .int 0) (ty := .int) (C := RX7) (T := TX7) (N := 12) hx hb hts inX7 tyX7 tyX7_ok nmX7 hown hK hw h_p0 rfl rfl 7 (by decide) (hts _ tw_98) (fun _ h9 => h9) rfl (by decide +kernel) rfl rfl (ft := vI (-2147483648) 2147483647) rfl ⟨_, rfl, (rl_0.to (by decide))⟩ (by decide) dX7_pass_76 (fun ws H locs hw n_k_11 hF9 => ?_)
      have m_z0_10 := FLD.over hF9 m_z0_10 (by decide)
      have m_u_6 := FLD.over hF9 m_u_6 (by decide)
      have n_k_10 := FLD.over hF9 n_k_10 (by decide)
      subst hQ
      exact W.vret hx hb hr (fun t ht hW => ⟨⟨ws, rfl, ⟨trivial, hw.1, hw.2.2.2.2.1⟩, by rw [ht]; exact hw.2.1, va_K.moved hW.alike hK, hw.2.2.1⟩, hw.2.2.2.1.F ht⟩) hw.2.2.2.1.2.2 dX7_pass_79
  have B16 : ∀ (nf : Nat) (z0_5 : Int32) (z0_10 : Int32) (ws : va_W) (H : Heap) (locs : List Loc) (ls : Array Slot), 940 - z0_5.toInt < (nf : Int) → RI z0_5 0 940 → FLD ws p0 7 5 (.int z0_5) → RI z0_10 0 0 → FLD ws p0 7 10 (.int z0_10) → WD D cy GG A s wr_X7_pass__2 wa_X7_pass__2 Ps w0 Ps ws H locs → lv_has ls 2 [(0, .ref p0)] → W p l e (headSpec (Cond.code yX7_pass cX7_pass 2 none :: gT) ({ frames := 2, cells := 0, slots := 0, locals := 400 } : Room)).room s m ([.ref p0] : List Value).toArray below meth c H locs 0 0 Q (F0 m 16 ls []) := by
    intro nf16
    induction nf16 with
    | zero =>
      intro z0_5 z0_10 ws H locs ls hn16 r_z0_5 m_z0_5 r_z0_10 m_z0_10 hw hl
      exact absurd hn16 (by have q0 := r_z0_5.1; have u0 := r_z0_5.2; omega)
    | succ nf16 ih16 =>
      intro z0_5 z0_10 ws H locs ls hn16 r_z0_5 m_z0_5 r_z0_10 m_z0_10 hw hl
      refine lv_aload_n hx hb dX7_pass_16 rfl (lv_at hl 0 rfl) ?_
      refine tg_mem (ci := 7) (C := RX7) (T := TX7) (N := 12) hx hb hts inX7 hown hK hw 5 m_z0_5 rfl (by decide) (hts _ tw_93) (fun _ h9 => h9) dX7_pass_17 ?_
      refine lv_aload_n hx hb dX7_pass_20 rfl (lv_at hl 0 rfl) ?_
      refine tg_get (ci := 7) (ts := ty_TAPE) (C := RX7) (T := TX7) (N := 12) hx hb hts inX7 hown hK hw h_p0 rfl rfl 3 (by decide) (hts _ tw_91) (fun _ h9 => h9) (ft := vI 0 940) rfl dX7_pass_21 (fun u_12 hv_u_12 m_u_12 => ?_)
      obtain ⟨vu_12, rfl, r_vu_12⟩ := hv_u_12
      refine lv_icmp_ge (tgt := 55) hx hb dX7_pass_24 (by decide) (fun c_24 => ?_) (fun c_24 => ?_)
      · exact B55 z0_5 z0_10 ws _ _ ls r_z0_5 m_z0_5 r_z0_10 m_z0_10 hw hl
      · have r_z0_5 : RI z0_5 0 939 := rc_lt1 r_z0_5 r_vu_12 (ti_nle c_24) (by decide)
        have r_vu_12 : RI vu_12 1 940 := rc_lt2 r_z0_5 r_vu_12 (ti_nle c_24) (by decide)
        refine lv_aload_n hx hb dX7_pass_27 rfl (lv_at hl 0 rfl) ?_
        refine tg_get (ci := 7) (ts := ty_TAPE) (C := RX7) (T := TX7) (N := 12) hx hb hts inX7 hown hK hw h_p0 rfl rfl 0 (by decide) (hts _ tw_87) (fun _ h9 => h9) (ft := vR 2) rfl dX7_pass_28 (fun u_13 hv_u_13 m_u_13 => ?_)
        obtain ⟨vu_13, rfl, h_vu_13⟩ := hv_u_13
        refine lv_aload_n hx hb dX7_pass_31 rfl (lv_at hl 0 rfl) ?_
        refine tg_mem (ci := 7) (C := RX7) (T := TX7) (N := 12) hx hb hts inX7 hown hK hw 5 m_z0_5 rfl (by decide) (hts _ tw_93) (fun _ h9 => h9) dX7_pass_32 ?_
        refine tg_bald (lo := (-128)) (hi := 127) hx hb hK hw h_vu_13 rfl 0 939 r_z0_5 (by decide) (by exact fun _ _ _ => ⟨Int.le_refl _, Int.le_refl _⟩) dX7_pass_35 (fun v_14 r_v_14 => ?_)
        refine tk_ir (va_runS (As := [.int v_14]) (rest := []) ⟨hx, hb, hml, hown, hts⟩ (c_X7_isBlank l D cy z H.size Ps ws hw.1 v_14 (r_v_14.to (by decide))) (va_cwS 1 hts (gS tw_428 tw_429 tw_2 tw_430) rfl rfl rfl (by decide +kernel) ⟨Nat.le_of_ble_eq_true rfl, Nat.le_of_ble_eq_true rfl⟩) (tg_preS hw hK hSD hA) rfl rfl hl.1 rfl (lv_room (Nat.le_of_ble_eq_true rfl)) dX7_pass_36 ⟨Nat.le_of_ble_eq_true rfl, Nat.le_of_ble_eq_true rfl⟩) hw hA (fun v_15  H locs hp_v_15 hw => ?_)
        have r_v_15 : RI v_15 0 1 := hp_v_15.1
        refine lv_if_eq (tgt := 55) hx hb dX7_pass_39 (by decide) (fun c_39 => ?_) (fun c_39 => ?_)
        · have r_v_15 : RI v_15 0 0 := rc_eq1 r_v_15 rl_0 (ti_eq c_39) (by decide)
          exact B55 z0_5 z0_10 ws _ _ ls (r_z0_5.to (by decide)) m_z0_5 r_z0_10 m_z0_10 hw hl
        · have r_v_15 : RI v_15 1 1 := rc_neL r_v_15 rl_0 (ti_ne c_39) (by decide)
          have r_v_14 : RI v_14 10 32 := ((hp_v_15.2.2 c_39).1)
          refine lv_aload_n hx hb dX7_pass_42 rfl (lv_at hl 0 rfl) ?_
          refine lv_dup hx hb dX7_pass_43 rfl ?_
          refine tg_mem (ci := 7) (C := RX7) (T := TX7) (N := 12) hx hb hts inX7 hown hK hw 5 m_z0_5 rfl (by decide) (hts _ tw_93) (fun _ h9 => h9) dX7_pass_44 ?_
          refine lv_iconst (v := 1) hx hb dX7_pass_47 (by decide) ?_
          refine lv_iadd hx hb dX7_pass_48 (lv_topi (fun v_16 e_v_16 => ?_))
          obtain ⟨t_v_16, r_v_16⟩ := tq_add (lo := 1) (hi := 940) r_z0_5 rl_1 (by decide +kernel) e_v_16
          have t_v_16 : v_16.toInt = z0_5.toInt + 1 := t_v_16
          refine tg_put (ci := 7) (ts := ty_TAPE) (v := .int v_16) (ty := .int) (C := RX7) (T := TX7) (N := 12) hx hb hts inX7 tyX7 tyX7_ok nmX7 hown hK hw h_p0 rfl rfl 5 (by decide) (hts _ tw_93) (fun _ h9 => h9) rfl (by decide +kernel) rfl rfl (ft := vI 0 940) rfl ⟨_, rfl, (r_v_16.to (by decide))⟩ (by decide) dX7_pass_49 (fun ws H locs hw n_k_17 hF9 => ?_)
          have m_z0_10 := FLD.over hF9 m_z0_10 (by decide)
          have m_u_12 := FLD.over hF9 m_u_12 (by decide)
          refine lv_goto (tgt := 16) hx hb dX7_pass_52 (by decide) ?_
          exact ih16 v_16 z0_10 ws _ _ ls (by have q0 := r_v_16.1; have u0 := r_v_16.2; have o0 := r_z0_5.1; have p0 := r_z0_5.2; omega) (r_v_16.to (by decide)) n_k_17 r_z0_10 m_z0_10 hw hl
  refine lv_aload_n hx hb dX7_pass_0 rfl (lv_at hl 0 rfl) ?_
  refine tg_get (ci := 7) (ts := ty_TAPE) (C := RX7) (T := TX7) (N := 12) hx hb hts inX7 hown hK hw h_p0 rfl rfl 10 (by decide) (hts _ tw_104) (fun _ h9 => h9) (ft := vI 0 4) rfl dX7_pass_1 (fun u_18 hv_u_18 m_u_18 => ?_)
  obtain ⟨vu_18, rfl, r_vu_18⟩ := hv_u_18
  refine lv_if_eq (tgt := 8) hx hb dX7_pass_4 (by decide) (fun c_4 => ?_) (fun c_4 => ?_)
  · have r_vu_18 : RI vu_18 0 0 := rc_eq1 r_vu_18 rl_0 (ti_eq c_4) (by decide)
    refine lv_aload_n hx hb dX7_pass_8 rfl (lv_at hl 0 rfl) ?_
    refine lv_aload_n hx hb dX7_pass_9 rfl (lv_at hl 0 rfl) ?_
    refine tg_get (ci := 7) (ts := ty_TAPE) (C := RX7) (T := TX7) (N := 12) hx hb hts inX7 hown hK hw h_p0 rfl rfl 6 (by decide) (hts _ tw_94) (fun _ h9 => h9) (ft := vI 0 940) rfl dX7_pass_10 (fun u_19 hv_u_19 m_u_19 => ?_)
    obtain ⟨vu_19, rfl, r_vu_19⟩ := hv_u_19
    refine tg_put (ci := 7) (ts := ty_TAPE) (v := .int vu_19) (ty := .int) (C := RX7) (T := TX7) (N := 12) hx hb hts inX7 tyX7 tyX7_ok nmX7 hown hK hw h_p0 rfl rfl 5 (by decide) (hts _ tw_93) (fun _ h9 => h9) rfl (by decide +kernel) rfl rfl (ft := vI 0 940) rfl ⟨_, rfl, r_vu_19⟩ (by decide) dX7_pass_13 (fun ws H locs hw n_k_20 hF9 => ?_)
    have m_u_18 := FLD.over hF9 m_u_18 (by decide)
    have m_u_19 := FLD.over hF9 m_u_19 (by decide)
    exact B16 4294967298 vu_19 vu_18 ws _ _ ls (by have q0 := r_vu_19.1; have u0 := r_vu_19.2; omega) r_vu_19 n_k_20 r_vu_18 m_u_18 hw hl
  · have r_vu_18 : RI vu_18 1 4 := rc_neL r_vu_18 rl_0 (ti_ne c_4) (by decide)
    subst hQ
    exact W.vret hx hb hr (fun t ht hW => ⟨⟨w0, rfl, ⟨trivial, hw.1, hw.2.2.2.2.1⟩, by rw [ht]; exact hw.2.1, va_K.moved hW.alike hK, hw.2.2.1⟩, hw.2.2.2.1.F ht⟩) hw.2.2.2.1.2.2 dX7_pass_7
abbrev wr_X0_beginsLine__3 : List (Nat × Nat) := [(7, 5), (7, 6), (7, 7), (7, 8), (7, 9), (7, 10), (7, 11)]
abbrev wa_X0_beginsLine__3 : List Nat := []
set_option maxHeartbeats 4000000 in
set_option maxRecDepth 100000 in
theorem c_X0_beginsLine__3 (l : Launch) (D : va_G) (cy : Nat → ClassId) (z : Nat → Nat) (sz : Nat) (Ps : PSI) (w0 : va_W) (hT : HT cy GG Ps w0) (p0 : Nat) (p1 : Nat) (p2 : Int32) (h_p0 : (p0, 31) ∈ Ps) (h_p1 : (p1, 26) ∈ Ps) (r_p2 : RI p2 2 2) : Met l yX0_beginsLine (Cond.code yX0_beginsLine cX0_beginsLine 3 (some .boolean) :: gT) ({ frames := 3, cells := 0, slots := 0, locals := 600 } : Room) (va_Pc [.ref p0, .ref p1, .int p2] (PRE D cy z w0 sz)) (va_Qi (fun (r : Int32) (u : va_W) => (RI r 0 1 ∧ (r = 0 → (∃ v9 : Int32, FLD u p1 7 10 (.int v9) ∧ RI v9 1 4) ∧ True) ∧ (¬ r = 0 → (∃ v9 : Int32, FLD u p0 0 3 (.int v9) ∧ RI v9 0 39) ∧ (∃ v9 : Int32, FLD u p1 7 10 (.int v9) ∧ RI v9 0 0) ∧ True)) ∧ HT cy GG Ps u ∧ FR wr_X0_beginsLine__3 wa_X0_beginsLine__3 Ps w0 u) (BB D cy (va_A w0 sz) (fun (u : va_W) => u)) (va_A w0 sz)) 0 0 (va_A w0 sz) := by
  refine Met.ofW (cc := cX0_beginsLine) (maxL := 3) (ret := (some .boolean)) (by decide) rfl ?_
  intro p e s m args below meth c s₁ B hml hv
  obtain ⟨rfl, hsz, hP, hK, hD0, hSD⟩ := hv
  have hx := B.exec
  have hb := B.bytes
  have hr := B.returns
  have hlocks := B.notSynchronized
  have hts : ∀ w ∈ gT, w.before _ s = true := fun w h => atoms_spec (ws := Cond.code yX0_beginsLine cX0_beginsLine 3 (some .boolean) :: gT) B.pre w (List.mem_cons_of_mem _ h)
  have hown : s.vm.findClass RX0 = some m.cls := findClass_of_methodNamed B.named
  subst hsz
  have hD := hD0.self (sz := s.heap.size)
  generalize hAe : va_A w0 s.heap.size = A at hD hSD ⊢
  have hA : ∀ q : Nat, s.heap.size ≤ q → A q := fun q h => by rw [← hAe]; exact Or.inr h
  have hl := lv_entry ([.ref p0, .ref p1, .int p2]) (n := 3) (Nat.le_of_ble_eq_true rfl)
  rw [lg_entry_eq]
  generalize (lg_sl ([.ref p0, .ref p1, .int p2]) ++ List.replicate (3 - (lg_sl ([.ref p0, .ref p1, .int p2])).length) Slot.unset).toArray = ls at hl ⊢
  have hl : lv_has ls 3 [(0, .ref p0), (1, .ref p1), (2, .int p2)] := hl
  refine nameQ (fun Q hQ => ?_)
  have hw : WD D cy GG A s wr_X0_beginsLine__3 wa_X0_beginsLine__3 Ps w0 Ps w0 s.heap [] := ⟨hT, hP, hD, va_S.rf, FR.rf, hT.1, [], (List.append_nil _).symm⟩
  refine lv_iload_n hx hb dX0_beginsLine_0 rfl (lv_at hl 2 rfl) ?_
  refine lv_iconst (v := 2) hx hb dX0_beginsLine_1 (by decide) ?_
  refine lv_icmp_eq (tgt := 27) hx hb dX0_beginsLine_2 (by decide) (fun c_2 => ?_) (fun c_2 => ?_)
  · refine lv_aload_n hx hb dX0_beginsLine_27 rfl (lv_at hl 0 rfl) ?_
    refine tg_get (ci := 0) (ts := ty_BOOK) (C := RX0) (T := TX0) (N := 5) hx hb hts inX0 hown hK hw h_p0 rfl rfl 3 (by decide) (hts _ tw_145) (fun _ h9 => h9) (ft := vI 0 40) rfl dX0_beginsLine_28 (fun u_1 hv_u_1 m_u_1 => ?_)
    obtain ⟨vu_1, rfl, r_vu_1⟩ := hv_u_1
    refine lv_bipush (v := 40) hx hb dX0_beginsLine_31 (by decide) ?_
    refine lv_icmp_lt (tgt := 41) hx hb dX0_beginsLine_33 (by decide) (fun c_33 => ?_) (fun c_33 => ?_)
    · have r_vu_1 : RI vu_1 0 39 := rc_lt1 r_vu_1 rl_40 (ti_lt c_33) (by decide)
      refine lv_aload_n hx hb dX0_beginsLine_41 rfl (lv_at hl 1 rfl) ?_
      refine tk_v (va_runV (As := []) (rest := []) ⟨hx, hb, hml, hown, hts⟩ (c_X7_pass__2 l D cy z s.heap.size Ps w0 hw.1 p1 h_p1) (cwV 0 hts (gV tw_898 tw_425 tw_426 tw_2 tw_427) rfl rfl rfl (by decide +kernel) ⟨Nat.le_of_ble_eq_true rfl, Nat.le_of_ble_eq_true rfl⟩) (tg_preV hw hK hSD hA (ci := 7) (q := (RX7, TX7, 12)) rfl h_p1 rfl) rfl rfl hl.1 rfl (lv_room (Nat.le_of_ble_eq_true rfl)) dX0_beginsLine_42 ⟨Nat.le_of_ble_eq_true rfl, Nat.le_of_ble_eq_true rfl⟩) hw hA ⟨by decide, by decide⟩ (fun ws H locs hp_v_2 hw hF9 => ?_)
      have m_u_1 := FLD.over hF9 m_u_1 (by decide)
      refine lv_aload_n hx hb dX0_beginsLine_45 rfl (lv_at hl 1 rfl) ?_
      refine tg_getN (ci := 7) (ts := ty_TAPE) (C := RX7) (T := TX7) (N := 12) hx hb hts inX7 hown hK hw h_p1 rfl rfl 10 (by decide) (hSD.nest tn_102) (fun _ h9 => h9) (ft := vI 0 4) rfl dX0_beginsLine_46 (fun u_3 hv_u_3 m_u_3 => ?_)
      obtain ⟨vu_3, rfl, r_vu_3⟩ := hv_u_3
      refine lv_if_ne (tgt := 56) hx hb dX0_beginsLine_49 (by decide) (fun c_49 => ?_) (fun c_49 => ?_)
      · have r_vu_3 : RI vu_3 1 4 := rc_neL r_vu_3 rl_0 (ti_ne c_49) (by decide)
        refine lv_iconst (v := 0) hx hb dX0_beginsLine_56 (by decide) ?_
        subst hQ
        exact W.zret (v := 0) hx hb hr (rfl) (fun t ht hW => ⟨⟨0, ws, rfl, ⟨⟨rl_0.to (by decide), (fun h0 => ⟨⟨_, m_u_3, r_vu_3⟩, trivial⟩), (fun h0 => absurd rfl h0)⟩, hw.1, hw.2.2.2.2.1⟩, by rw [ht]; exact hw.2.1, va_K.moved hW.alike hK, hw.2.2.1⟩, hw.2.2.2.1.F ht⟩) hw.2.2.2.1.2.2 dX0_beginsLine_57
      · have r_vu_3 : RI vu_3 0 0 := rc_eq1 r_vu_3 rl_0 (ti_eq c_49) (by decide)
        refine lv_iconst (v := 1) hx hb dX0_beginsLine_52 (by decide) ?_
        refine lv_goto (tgt := 57) hx hb dX0_beginsLine_53 (by decide) ?_
        subst hQ
        exact W.zret (v := 1) hx hb hr (rfl) (fun t ht hW => ⟨⟨1, ws, rfl, ⟨⟨rl_1.to (by decide), (fun h0 => absurd h0 (by decide)), (fun h0 => ⟨⟨_, m_u_1, r_vu_1⟩, ⟨_, m_u_3, r_vu_3⟩, trivial⟩)⟩, hw.1, hw.2.2.2.2.1⟩, by rw [ht]; exact hw.2.1, va_K.moved hW.alike hK, hw.2.2.1⟩, hw.2.2.2.1.F ht⟩) hw.2.2.2.1.2.2 dX0_beginsLine_57
    · have r_vu_1 : RI vu_1 40 40 := rc_le2 rl_40 r_vu_1 (ti_nlt c_33) (by decide)
      refine lv_aload_n hx hb dX0_beginsLine_36 rfl (lv_at hl 1 rfl) ?_
      refine lv_iconst (v := 4) hx hb dX0_beginsLine_37 (by decide) ?_
      refine tk_v (va_runV (As := [.int 4]) (rest := []) ⟨hx, hb, hml, hown, hts⟩ (c_X7_refuse__2 l D cy z s.heap.size Ps w0 hw.1 p1 4 h_p1 (rl_4.to (by decide))) (cwV 1 hts (gV tw_897 tw_443 tw_444 tw_2 tw_445) rfl rfl rfl (by decide +kernel) ⟨Nat.le_of_ble_eq_true rfl, Nat.le_of_ble_eq_true rfl⟩) (tg_preV hw hK hSD hA (ci := 7) (q := (RX7, TX7, 12)) rfl h_p1 rfl) rfl rfl hl.1 rfl (lv_room (Nat.le_of_ble_eq_true rfl)) dX0_beginsLine_38 ⟨Nat.le_of_ble_eq_true rfl, Nat.le_of_ble_eq_true rfl⟩) hw hA ⟨by decide, by decide⟩ (fun ws H locs hp_v_4 hw hF9 => ?_)
      have m_u_1 := FLD.over hF9 m_u_1 (by decide)
      obtain ⟨v_5, m_v_5, r_v_5⟩ := (hp_v_4.1)
      refine lv_aload_n hx hb dX0_beginsLine_41 rfl (lv_at hl 1 rfl) ?_
      refine tk_vr (va_runV (As := []) (rest := []) ⟨hx, hb, hml, hown, hts⟩ (c_X7_pass__1 l D cy z H.size Ps ws hw.1 p1 v_5 h_p1 r_v_5 m_v_5) (cwV 0 hts (gV tw_898 tw_425 tw_426 tw_2 tw_427) rfl rfl rfl (by decide +kernel) ⟨Nat.le_of_ble_eq_true rfl, Nat.le_of_ble_eq_true rfl⟩) (tg_preV hw hK hSD hA (ci := 7) (q := (RX7, TX7, 12)) rfl h_p1 rfl) rfl rfl hl.1 rfl (lv_room (Nat.le_of_ble_eq_true rfl)) dX0_beginsLine_42 ⟨Nat.le_of_ble_eq_true rfl, Nat.le_of_ble_eq_true rfl⟩) hw hA (fun  H locs hp_v_6 hw => ?_)
      refine lv_aload_n hx hb dX0_beginsLine_45 rfl (lv_at hl 1 rfl) ?_
      refine tg_memN (ci := 7) (C := RX7) (T := TX7) (N := 12) hx hb hts inX7 hown hK hw 10 m_v_5 rfl (by decide) (hSD.nest tn_102) (fun _ h9 => h9) dX0_beginsLine_46 ?_
      refine lv_if_ne (tgt := 56) hx hb dX0_beginsLine_49 (by decide) (fun c_49 => ?_) (fun c_49 => ?_)
      · refine lv_iconst (v := 0) hx hb dX0_beginsLine_56 (by decide) ?_
        subst hQ
        exact W.zret (v := 0) hx hb hr (rfl) (fun t ht hW => ⟨⟨0, ws, rfl, ⟨⟨rl_0.to (by decide), (fun h0 => ⟨⟨_, m_v_5, r_v_5⟩, trivial⟩), (fun h0 => absurd rfl h0)⟩, hw.1, hw.2.2.2.2.1⟩, by rw [ht]; exact hw.2.1, va_K.moved hW.alike hK, hw.2.2.1⟩, hw.2.2.2.1.F ht⟩) hw.2.2.2.1.2.2 dX0_beginsLine_57
      · have r_v_5 : RI v_5 1 0 := rc_eq1 r_v_5 rl_0 (ti_eq c_49) (by decide)
        exact (r_v_5.no (by decide)).elim
  · exact absurd (r_p2.eq.trans rl_2.eq.symm) ((ti_ne c_2))
abbrev wr_X7_nameAhead__5 : List (Nat × Nat) := []
abbrev wa_X7_nameAhead__5 : List Nat := []
set_option maxHeartbeats 4000000 in
set_option maxRecDepth 100000 in
theorem c_X7_nameAhead__5 (l : Launch) (D : va_G) (cy : Nat → ClassId) (z : Nat → Nat) (sz : Nat) (Ps : PSI) (w0 : va_W) (hT : HT cy GG Ps w0) (p0 : Nat) (p1 : Nat) (p2 : Int32) (f0_10 : Int32) (h_p0 : (p0, 26) ∈ Ps) (h_p1 : (p1, 25) ∈ Ps) (r_p2 : RI p2 0 0) (r_f0_10 : RI f0_10 1 4) (m_f0_10 : FLD w0 p0 7 10 (.int f0_10)) : Met l yX7_nameAhead (Cond.code yX7_nameAhead cX7_nameAhead 4 (some .int) :: gT) ({ frames := 2, cells := 0, slots := 0, locals := 400 } : Room) (va_Pc [.ref p0, .ref p1, .int p2] (PRE D cy z w0 sz)) (va_Qi (fun (r : Int32) (u : Unit) => RI r (-1) (-1) ∧ (r = 0 → True) ∧ (¬ r = 0 → True) ∧ (True) ∧ (r.toInt < 0 → FLTp w0 p0 ∧ True) ∧ (0 ≤ r.toInt → True)) (BB D cy (va_A w0 sz) (fun (u : Unit) => w0)) (va_A w0 sz)) 0 0 (va_A w0 sz) := by
  refine Met.ofW (cc := cX7_nameAhead) (maxL := 4) (ret := (some .int)) (by decide) rfl ?_
  intro p e s m args below meth c s₁ B hml hv
  obtain ⟨rfl, hsz, hP, hK, hD0, hSD⟩ := hv
  have hx := B.exec
  have hb := B.bytes
  have hr := B.returns
  have hlocks := B.notSynchronized
  have hts : ∀ w ∈ gT, w.before _ s = true := fun w h => atoms_spec (ws := Cond.code yX7_nameAhead cX7_nameAhead 4 (some .int) :: gT) B.pre w (List.mem_cons_of_mem _ h)
  have hown : s.vm.findClass RX7 = some m.cls := findClass_of_methodNamed B.named
  subst hsz
  have hD := hD0.self (sz := s.heap.size)
  generalize hAe : va_A w0 s.heap.size = A at hD hSD ⊢
  have hA : ∀ q : Nat, s.heap.size ≤ q → A q := fun q h => by rw [← hAe]; exact Or.inr h
  have hl := lv_entry ([.ref p0, .ref p1, .int p2]) (n := 4) (Nat.le_of_ble_eq_true rfl)
  rw [lg_entry_eq]
  generalize (lg_sl ([.ref p0, .ref p1, .int p2]) ++ List.replicate (4 - (lg_sl ([.ref p0, .ref p1, .int p2])).length) Slot.unset).toArray = ls at hl ⊢
  have hl : lv_has ls 4 [(0, .ref p0), (1, .ref p1), (2, .int p2)] := hl
  refine nameQ (fun Q hQ => ?_)
  have hw : WD D cy GG A s wr_X7_nameAhead__5 wa_X7_nameAhead__5 Ps w0 Ps w0 s.heap [] := ⟨hT, hP, hD, va_S.rf, FR.rf, hT.1, [], (List.append_nil _).symm⟩
  refine lv_aload_n hx hb dX7_nameAhead_0 rfl (lv_at hl 0 rfl) ?_
  refine tg_get (ci := 7) (ts := ty_TAPE) (C := RX7) (T := TX7) (N := 12) hx hb hts inX7 hown hK hw h_p0 rfl rfl 7 (by decide) (hts _ tw_98) (fun _ h9 => h9) (ft := vI (-2147483648) 2147483647) rfl dX7_nameAhead_1 (fun u_1 hv_u_1 m_u_1 => ?_)
  obtain ⟨vu_1, rfl, r_vu_1⟩ := hv_u_1
  refine lv_iconst (v := 2) hx hb dX7_nameAhead_4 (by decide) ?_
  refine lv_icmp_eq (tgt := 15) hx hb dX7_nameAhead_5 (by decide) (fun c_5 => ?_) (fun c_5 => ?_)
  · have r_vu_1 : RI vu_1 2 2 := rc_eq1 r_vu_1 rl_2 (ti_eq c_5) (by decide)
    refine lv_aload_n hx hb dX7_nameAhead_15 rfl (lv_at hl 1 rfl) ?_
    refine lv_aload_n hx hb dX7_nameAhead_16 rfl (lv_at hl 0 rfl) ?_
    refine tg_get (ci := 7) (ts := ty_TAPE) (C := RX7) (T := TX7) (N := 12) hx hb hts inX7 hown hK hw h_p0 rfl rfl 8 (by decide) (hts _ tw_100) (fun _ h9 => h9) (ft := vJ (-9223372036854775808) 9223372036854775807) rfl dX7_nameAhead_17 (fun u_2 hv_u_2 m_u_2 => ?_)
    obtain ⟨vu_2, rfl, r_vu_2⟩ := hv_u_2
    refine lv_iload_n hx hb dX7_nameAhead_20 rfl (lv_at hl 2 rfl) ?_
    refine tk_ir (va_runV (As := [.long vu_2, .int p2]) (rest := []) ⟨hx, hb, hml, hown, hts⟩ (c_X3_numberOf l D cy z s.heap.size Ps w0 hw.1 p1 vu_2 p2 h_p1 r_vu_2 r_p2) (cwV 2 hts (gV tw_460 tw_461 tw_462 tw_11 tw_463) rfl rfl rfl (by decide +kernel) ⟨Nat.le_of_ble_eq_true rfl, Nat.le_of_ble_eq_true rfl⟩) (tg_preV hw hK hSD hA (ci := 3) (q := (RX3, TX3, 9)) rfl h_p1 rfl) rfl rfl hl.1 rfl (lv_room (Nat.le_of_ble_eq_true rfl)) dX7_nameAhead_21 ⟨Nat.le_of_ble_eq_true rfl, Nat.le_of_ble_eq_true rfl⟩) hw hA (fun v_3  H locs hp_v_3 hw => ?_)
    have r_v_3 : RI v_3 (-1) 5 := hp_v_3.1
    refine lv_istore_n (lv' := [(3, .int v_3), (0, .ref p0), (1, .ref p1), (2, .int p2)]) hx hb dX7_nameAhead_24 rfl hl (by decide) rfl (fun ls hl => ?_)
    refine lv_iload_n hx hb dX7_nameAhead_25 rfl (lv_at hl 0 rfl) ?_
    refine lv_iconst (v := (-1)) hx hb dX7_nameAhead_26 (by decide) ?_
    refine lv_icmp_ne (tgt := 35) hx hb dX7_nameAhead_27 (by decide) (fun c_27 => ?_) (fun c_27 => ?_)
    · have r_v_3 : RI v_3 0 5 := rc_neL r_v_3 rl_m1 (ti_ne c_27) (by decide)
      refine lv_aload_n hx hb dX7_nameAhead_35 rfl (lv_at hl 1 rfl) ?_
      refine tg_mem (ci := 7) (C := RX7) (T := TX7) (N := 12) hx hb hts inX7 hown hK hw 10 m_f0_10 rfl (by decide) (hts _ tw_104) (fun _ h9 => h9) dX7_nameAhead_36 ?_
      refine lv_if_ne (tgt := 46) hx hb dX7_nameAhead_39 (by decide) (fun c_39 => ?_) (fun c_39 => ?_)
      · refine lv_iconst (v := (-1)) hx hb dX7_nameAhead_46 (by decide) ?_
        subst hQ
        have x_FLT_p0 : FLTp w0 p0 := ⟨_, m_f0_10, r_f0_10.to (by decide)⟩
        exact W.iret (v := (-1)) hx hb hr (fun t ht hW => ⟨⟨(-1), (), rfl, ⟨rl_m1.to (by decide), (fun _ => trivial), (fun h0 => trivial), trivial, (fun h0 => ⟨x_FLT_p0, trivial⟩), (fun _ => trivial)⟩, by rw [ht]; exact hw.2.1, va_K.moved hW.alike hK, hw.2.2.1⟩, hw.2.2.2.1.F ht⟩) hw.2.2.2.1.2.2 dX7_nameAhead_47
      · have r_f0_10 : RI f0_10 1 0 := rc_eq1 r_f0_10 rl_0 (ti_eq c_39) (by decide)
        exact (r_f0_10.no (by decide)).elim
    · have r_v_3 : RI v_3 (-1) (-1) := rc_eq1 r_v_3 rl_m1 (ti_eq c_27) (by decide)
      refine lv_aload_n hx hb dX7_nameAhead_30 rfl (lv_at hl 1 rfl) ?_
      refine lv_iconst (v := 3) hx hb dX7_nameAhead_31 (by decide) ?_
      refine tk_vr (va_runV (As := [.int 3]) (rest := []) ⟨hx, hb, hml, hown, hts⟩ (c_X7_refuse__1 l D cy z H.size Ps w0 hw.1 p0 3 f0_10 h_p0 (rl_3.to (by decide)) r_f0_10 m_f0_10) (cwV 1 hts (gV tw_442 tw_443 tw_444 tw_2 tw_445) rfl rfl rfl (by decide +kernel) ⟨Nat.le_of_ble_eq_true rfl, Nat.le_of_ble_eq_true rfl⟩) (tg_preV hw hK hSD hA (ci := 7) (q := (RX7, TX7, 12)) rfl h_p0 rfl) rfl rfl hl.1 rfl (lv_room (Nat.le_of_ble_eq_true rfl)) dX7_nameAhead_32 ⟨Nat.le_of_ble_eq_true rfl, Nat.le_of_ble_eq_true rfl⟩) hw hA (fun  H locs hp_v_4 hw => ?_)
      refine lv_aload_n hx hb dX7_nameAhead_35 rfl (lv_at hl 1 rfl) ?_
      refine tg_mem (ci := 7) (C := RX7) (T := TX7) (N := 12) hx hb hts inX7 hown hK hw 10 m_f0_10 rfl (by decide) (hts _ tw_104) (fun _ h9 => h9) dX7_nameAhead_36 ?_
      refine lv_if_ne (tgt := 46) hx hb dX7_nameAhead_39 (by decide) (fun c_39 => ?_) (fun c_39 => ?_)
      · refine lv_iconst (v := (-1)) hx hb dX7_nameAhead_46 (by decide) ?_
        subst hQ
        have x_FLT_p0 : FLTp w0 p0 := ⟨_, m_f0_10, r_f0_10.to (by decide)⟩
        exact W.iret (v := (-1)) hx hb hr (fun t ht hW => ⟨⟨(-1), (), rfl, ⟨rl_m1.to (by decide), (fun _ => trivial), (fun h0 => trivial), trivial, (fun h0 => ⟨x_FLT_p0, trivial⟩), (fun _ => trivial)⟩, by rw [ht]; exact hw.2.1, va_K.moved hW.alike hK, hw.2.2.1⟩, hw.2.2.2.1.F ht⟩) hw.2.2.2.1.2.2 dX7_nameAhead_47
      · have r_f0_10 : RI f0_10 1 0 := rc_eq1 r_f0_10 rl_0 (ti_eq c_39) (by decide)
        exact (r_f0_10.no (by decide)).elim
  · refine lv_aload_n hx hb dX7_nameAhead_8 rfl (lv_at hl 0 rfl) ?_
    refine lv_iconst (v := 1) hx hb dX7_nameAhead_9 (by decide) ?_
    refine tk_vr (va_runV (As := [.int 1]) (rest := []) ⟨hx, hb, hml, hown, hts⟩ (c_X7_refuse__1 l D cy z s.heap.size Ps w0 hw.1 p0 1 f0_10 h_p0 (rl_1.to (by decide)) r_f0_10 m_f0_10) (cwV 1 hts (gV tw_442 tw_443 tw_444 tw_2 tw_445) rfl rfl rfl (by decide +kernel) ⟨Nat.le_of_ble_eq_true rfl, Nat.le_of_ble_eq_true rfl⟩) (tg_preV hw hK hSD hA (ci := 7) (q := (RX7, TX7, 12)) rfl h_p0 rfl) rfl rfl hl.1 rfl (lv_room (Nat.le_of_ble_eq_true rfl)) dX7_nameAhead_10 ⟨Nat.le_of_ble_eq_true rfl, Nat.le_of_ble_eq_true rfl⟩) hw hA (fun  H locs hp_v_5 hw => ?_)
    refine lv_iconst (v := (-1)) hx hb dX7_nameAhead_13 (by decide) ?_
    subst hQ
    have x_FLT_p0 : FLTp w0 p0 := ⟨_, m_f0_10, r_f0_10.to (by decide)⟩
    exact W.iret (v := (-1)) hx hb hr (fun t ht hW => ⟨⟨(-1), (), rfl, ⟨rl_m1.to (by decide), (fun _ => trivial), (fun h0 => trivial), trivial, (fun h0 => ⟨x_FLT_p0, trivial⟩), (fun _ => trivial)⟩, by rw [ht]; exact hw.2.1, va_K.moved hW.alike hK, hw.2.2.1⟩, hw.2.2.2.1.F ht⟩) hw.2.2.2.1.2.2 dX7_nameAhead_14
abbrev wr_X7_takeName__4 : List (Nat × Nat) := []
abbrev wa_X7_takeName__4 : List Nat := []
set_option maxHeartbeats 4000000 in
set_option maxRecDepth 100000 in
theorem c_X7_takeName__4 (l : Launch) (D : va_G) (cy : Nat → ClassId) (z : Nat → Nat) (sz : Nat) (Ps : PSI) (w0 : va_W) (hT : HT cy GG Ps w0) (p0 : Nat) (p1 : Nat) (p2 : Int32) (f0_10 : Int32) (h_p0 : (p0, 26) ∈ Ps) (h_p1 : (p1, 25) ∈ Ps) (r_p2 : RI p2 0 0) (r_f0_10 : RI f0_10 1 4) (m_f0_10 : FLD w0 p0 7 10 (.int f0_10)) : Met l yX7_takeName (Cond.code yX7_takeName cX7_takeName 4 (some .int) :: gT) ({ frames := 3, cells := 0, slots := 0, locals := 600 } : Room) (va_Pc [.ref p0, .ref p1, .int p2] (PRE D cy z w0 sz)) (va_Qi (fun (r : Int32) (u : Unit) => RI r (-1) (-1) ∧ (r = 0 → True) ∧ (¬ r = 0 → True) ∧ (True) ∧ (r.toInt < 0 → FLTp w0 p0 ∧ True) ∧ (0 ≤ r.toInt → True)) (BB D cy (va_A w0 sz) (fun (u : Unit) => w0)) (va_A w0 sz)) 0 0 (va_A w0 sz) := by
  refine Met.ofW (cc := cX7_takeName) (maxL := 4) (ret := (some .int)) (by decide) rfl ?_
  intro p e s m args below meth c s₁ B hml hv
  obtain ⟨rfl, hsz, hP, hK, hD0, hSD⟩ := hv
  have hx := B.exec
  have hb := B.bytes
  have hr := B.returns
  have hlocks := B.notSynchronized
  have hts : ∀ w ∈ gT, w.before _ s = true := fun w h => atoms_spec (ws := Cond.code yX7_takeName cX7_takeName 4 (some .int) :: gT) B.pre w (List.mem_cons_of_mem _ h)
  have hown : s.vm.findClass RX7 = some m.cls := findClass_of_methodNamed B.named
  subst hsz
  have hD := hD0.self (sz := s.heap.size)
  generalize hAe : va_A w0 s.heap.size = A at hD hSD ⊢
  have hA : ∀ q : Nat, s.heap.size ≤ q → A q := fun q h => by rw [← hAe]; exact Or.inr h
  have hl := lv_entry ([.ref p0, .ref p1, .int p2]) (n := 4) (Nat.le_of_ble_eq_true rfl)
  rw [lg_entry_eq]
  generalize (lg_sl ([.ref p0, .ref p1, .int p2]) ++ List.replicate (4 - (lg_sl ([.ref p0, .ref p1, .int p2])).length) Slot.unset).toArray = ls at hl ⊢
  have hl : lv_has ls 4 [(0, .ref p0), (1, .ref p1), (2, .int p2)] := hl
  refine nameQ (fun Q hQ => ?_)
  have hw : WD D cy GG A s wr_X7_takeName__4 wa_X7_takeName__4 Ps w0 Ps w0 s.heap [] := ⟨hT, hP, hD, va_S.rf, FR.rf, hT.1, [], (List.append_nil _).symm⟩
  refine lv_aload_n hx hb dX7_takeName_0 rfl (lv_at hl 0 rfl) ?_
  refine lv_aload_n hx hb dX7_takeName_1 rfl (lv_at hl 1 rfl) ?_
  refine lv_iload_n hx hb dX7_takeName_2 rfl (lv_at hl 2 rfl) ?_
  refine tk_ir (va_runV (As := [.ref p1, .int p2]) (rest := []) ⟨hx, hb, hml, hown, hts⟩ (c_X7_nameAhead__5 l D cy z s.heap.size Ps w0 hw.1 p0 p1 p2 f0_10 h_p0 h_p1 r_p2 r_f0_10 m_f0_10) (cwV 2 hts (gV tw_468 tw_457 tw_458 tw_2 tw_459) rfl rfl rfl (by decide +kernel) ⟨Nat.le_of_ble_eq_true rfl, Nat.le_of_ble_eq_true rfl⟩) (tg_preV hw hK hSD hA (ci := 7) (q := (RX7, TX7, 12)) rfl h_p0 rfl) rfl rfl hl.1 rfl (lv_room (Nat.le_of_ble_eq_true rfl)) dX7_takeName_3 ⟨Nat.le_of_ble_eq_true rfl, Nat.le_of_ble_eq_true rfl⟩) hw hA (fun v_1  H locs hp_v_1 hw => ?_)
  have r_v_1 : RI v_1 (-1) (-1) := hp_v_1.1
  by_cases c9_v_1 : v_1.toInt < 0
  · have r_v_1 : RI v_1 (-1) (-1) := by unfold RI at r_v_1 ⊢; omega
    have x_FLT_p0 := (hp_v_1.2.2.2.2.1 (by omega)).1
    obtain ⟨v_2, m_v_2, r_v_2⟩ := id x_FLT_p0
    refine lv_istore_n (lv' := [(3, .int v_1), (0, .ref p0), (1, .ref p1), (2, .int p2)]) hx hb dX7_takeName_6 rfl hl (by decide) rfl (fun ls hl => ?_)
    refine lv_aload_n hx hb dX7_takeName_7 rfl (lv_at hl 1 rfl) ?_
    refine tk_vr (va_runV (As := []) (rest := []) ⟨hx, hb, hml, hown, hts⟩ (c_X7_pass__1 l D cy z H.size Ps w0 hw.1 p0 v_2 h_p0 r_v_2 m_v_2) (cwV 0 hts (gV tw_424 tw_425 tw_426 tw_2 tw_427) rfl rfl rfl (by decide +kernel) ⟨Nat.le_of_ble_eq_true rfl, Nat.le_of_ble_eq_true rfl⟩) (tg_preV hw hK hSD hA (ci := 7) (q := (RX7, TX7, 12)) rfl h_p0 rfl) rfl rfl hl.1 rfl (lv_room (Nat.le_of_ble_eq_true rfl)) dX7_takeName_8 ⟨Nat.le_of_ble_eq_true rfl, Nat.le_of_ble_eq_true rfl⟩) hw hA (fun  H locs hp_v_3 hw => ?_)
    refine lv_iload_n hx hb dX7_takeName_11 rfl (lv_at hl 0 rfl) ?_
    subst hQ
    exact W.iret (v := v_1) hx hb hr (fun t ht hW => ⟨⟨v_1, (), rfl, ⟨r_v_1.to (by decide), (fun _ => trivial), (fun h0 => trivial), trivial, (fun h0 => ⟨x_FLT_p0, trivial⟩), (fun _ => trivial)⟩, by rw [ht]; exact hw.2.1, va_K.moved hW.alike hK, hw.2.2.1⟩, hw.2.2.2.1.F ht⟩) hw.2.2.2.1.2.2 dX7_takeName_12
  · exact absurd c9_v_1 (by unfold RI at r_v_1; omega)
abbrev wr_X0_addLine__1 : List (Nat × Nat) := [(0, 3)]
abbrev wa_X0_addLine__1 : List Nat := [18, 19, 20]
set_option maxHeartbeats 4000000 in
set_option maxRecDepth 100000 in
theorem c_X0_addLine__1 (l : Launch) (D : va_G) (cy : Nat → ClassId) (z : Nat → Nat) (sz : Nat) (Ps : PSI) (w0 : va_W) (hT : HT cy GG Ps w0) (p0 : Nat) (p1 : Int32) (p2 : Int32) (p3 : Int32) (h_p0 : (p0, 31) ∈ Ps) (r_p1 : RI p1 (-2147483648) 2147483647) (r_p2 : RI p2 (-2147483648) 2147483647) (r_p3 : RI p3 (-2147483648) 2147483647) (x_BG_p0 : BG Ps w0 p0) (x_GB_p1_p2_p3 : gb p1 p2 p3) : Met l yX0_addLine (Cond.code yX0_addLine cX0_addLine 4 none :: gT) ({ frames := 0, cells := 0, slots := 0, locals := 200 } : Room) (va_Pc [.ref p0, .int p1, .int p2, .int p3] (PRE D cy z w0 sz)) (va_Qv (fun (u : va_W) => ((∃ v9 : Int32, FLD u p0 0 3 (.int v9) ∧ RI v9 1 40) ∧ BG Ps u p0 ∧ True) ∧ HT cy GG Ps u ∧ FR wr_X0_addLine__1 wa_X0_addLine__1 Ps w0 u) (BB D cy (va_A w0 sz) (fun (u : va_W) => u)) (va_A w0 sz)) 0 0 (va_A w0 sz) := by
  refine Met.ofW (cc := cX0_addLine) (maxL := 4) (ret := none) (by decide) rfl ?_
  intro p e s m args below meth c s₁ B hml hv
  obtain ⟨rfl, hsz, hP, hK, hD0, hSD⟩ := hv
  have hx := B.exec
  have hb := B.bytes
  have hr := B.returns
  have hlocks := B.notSynchronized
  have hts : ∀ w ∈ gT, w.before _ s = true := fun w h => atoms_spec (ws := Cond.code yX0_addLine cX0_addLine 4 none :: gT) B.pre w (List.mem_cons_of_mem _ h)
  have hown : s.vm.findClass RX0 = some m.cls := findClass_of_methodNamed B.named
  subst hsz
  have hD := hD0.self (sz := s.heap.size)
  generalize hAe : va_A w0 s.heap.size = A at hD hSD ⊢
  have hA : ∀ q : Nat, s.heap.size ≤ q → A q := fun q h => by rw [← hAe]; exact Or.inr h
  have hl := lv_entry ([.ref p0, .int p1, .int p2, .int p3]) (n := 4) (Nat.le_of_ble_eq_true rfl)
  rw [lg_entry_eq]
  generalize (lg_sl ([.ref p0, .int p1, .int p2, .int p3]) ++ List.replicate (4 - (lg_sl ([.ref p0, .int p1, .int p2, .int p3])).length) Slot.unset).toArray = ls at hl ⊢
  have hl : lv_has ls 4 [(0, .ref p0), (1, .int p1), (2, .int p2), (3, .int p3)] := hl
  refine nameQ (fun Q hQ => ?_)
  have hw : WD D cy GG A s wr_X0_addLine__1 wa_X0_addLine__1 Ps w0 Ps w0 s.heap [] := ⟨hT, hP, hD, va_S.rf, FR.rf, hT.1, [], (List.append_nil _).symm⟩
  refine lv_aload_n hx hb dX0_addLine_0 rfl (lv_at hl 0 rfl) ?_
  refine tg_get (ci := 0) (ts := ty_BOOK) (C := RX0) (T := TX0) (N := 5) hx hb hts inX0 hown hK hw h_p0 rfl rfl 3 (by decide) (hts _ tw_145) (fun _ h9 => h9) (ft := vI 0 40) rfl dX0_addLine_1 (fun u_1 hv_u_1 m_u_1 => ?_)
  obtain ⟨vu_1, rfl, r_vu_1⟩ := hv_u_1
  refine lv_bipush (v := 40) hx hb dX0_addLine_4 (by decide) ?_
  refine lv_icmp_ge (tgt := 49) hx hb dX0_addLine_6 (by decide) (fun c_6 => ?_) (fun c_6 => ?_)
  · have r_vu_1 : RI vu_1 40 40 := rc_le2 rl_40 r_vu_1 (ti_le c_6) (by decide)
    subst hQ
    exact W.vret hx hb hr (fun t ht hW => ⟨⟨w0, rfl, ⟨⟨⟨_, m_u_1, (r_vu_1.to (by decide))⟩, x_BG_p0, trivial⟩, hw.1, hw.2.2.2.2.1⟩, by rw [ht]; exact hw.2.1, va_K.moved hW.alike hK, hw.2.2.1⟩, hw.2.2.2.1.F ht⟩) hw.2.2.2.1.2.2 dX0_addLine_49
  · have r_vu_1 : RI vu_1 0 39 := rc_lt1 r_vu_1 rl_40 (ti_nle c_6) (by decide)
    have x_BQ0_p0_vu_1 : B3 (fun n f g h => B4 vu_1 n f g h) Ps w0 p0 := B3.at hw x_BG_p0 m_u_1
    refine lv_aload_n hx hb dX0_addLine_9 rfl (lv_at hl 0 rfl) ?_
    refine tg_get (ci := 0) (ts := ty_BOOK) (C := RX0) (T := TX0) (N := 5) hx hb hts inX0 hown hK hw h_p0 rfl rfl 0 (by decide) (hts _ tw_142) (fun _ h9 => h9) (ft := vR 18) rfl dX0_addLine_10 (fun u_2 hv_u_2 m_u_2 => ?_)
    obtain ⟨vu_2, rfl, h_vu_2⟩ := hv_u_2
    refine lv_aload_n hx hb dX0_addLine_13 rfl (lv_at hl 0 rfl) ?_
    refine tg_mem (ci := 0) (C := RX0) (T := TX0) (N := 5) hx hb hts inX0 hown hK hw 3 m_u_1 rfl (by decide) (hts _ tw_145) (fun _ h9 => h9) dX0_addLine_14 ?_
    refine lv_iload_n hx hb dX0_addLine_17 rfl (lv_at hl 1 rfl) ?_
    refine tg_iast hx hb hK hw h_vu_2 rfl 0 39 r_vu_1 (by decide) r_p1 (by exact fun _ _ _ => by decide) (fun _ _ _ _ _ => trivial) (by decide) dX0_addLine_18 (fun ws H locs hw hF9 hU9 => ?_)
    have x_BQ1_p0_vu_1_p1 : B3 (fun n f g h => B4 vu_1 n f g h ∧ f (Int32.toNatClampNeg vu_1) = p1) Ps ws p0 := B3.st1 hF9 hU9 x_BQ0_p0_vu_1 m_u_2 (fun n9 f9 g9 h8 h9 => ⟨gbs_upd1 h9 r_vu_1.1, pk_us⟩)
    have m_u_1 := FLD.over hF9 m_u_1 (by decide)
    have m_u_2 := FLD.over hF9 m_u_2 (by decide)
    refine lv_aload_n hx hb dX0_addLine_19 rfl (lv_at hl 0 rfl) ?_
    refine tg_get (ci := 0) (ts := ty_BOOK) (C := RX0) (T := TX0) (N := 5) hx hb hts inX0 hown hK hw h_p0 rfl rfl 1 (by decide) (hts _ tw_143) (fun _ h9 => h9) (ft := vR 19) rfl dX0_addLine_20 (fun u_3 hv_u_3 m_u_3 => ?_)
    obtain ⟨vu_3, rfl, h_vu_3⟩ := hv_u_3
    refine lv_aload_n hx hb dX0_addLine_23 rfl (lv_at hl 0 rfl) ?_
    refine tg_mem (ci := 0) (C := RX0) (T := TX0) (N := 5) hx hb hts inX0 hown hK hw 3 m_u_1 rfl (by decide) (hts _ tw_145) (fun _ h9 => h9) dX0_addLine_24 ?_
    refine lv_iload_n hx hb dX0_addLine_27 rfl (lv_at hl 2 rfl) ?_
    refine tg_iast hx hb hK hw h_vu_3 rfl 0 39 r_vu_1 (by decide) r_p2 (by exact fun _ _ _ => by decide) (fun _ _ _ _ _ => trivial) (by decide) dX0_addLine_28 (fun ws H locs hw hF9 hU9 => ?_)
    have x_BQ2_p0_vu_1_p1_p2 : B3 (fun n f g h => B4 vu_1 n f g h ∧ f (Int32.toNatClampNeg vu_1) = p1 ∧ g (Int32.toNatClampNeg vu_1) = p2) Ps ws p0 := B3.st2 hF9 hU9 x_BQ1_p0_vu_1_p1 m_u_3 (fun n9 f9 g9 h8 h9 => ⟨gbs_upd2 h9.1 r_vu_1.1, h9.2, pk_us⟩)
    have m_u_1 := FLD.over hF9 m_u_1 (by decide)
    have m_u_2 := FLD.over hF9 m_u_2 (by decide)
    have m_u_3 := FLD.over hF9 m_u_3 (by decide)
    refine lv_aload_n hx hb dX0_addLine_29 rfl (lv_at hl 0 rfl) ?_
    refine tg_get (ci := 0) (ts := ty_BOOK) (C := RX0) (T := TX0) (N := 5) hx hb hts inX0 hown hK hw h_p0 rfl rfl 2 (by decide) (hts _ tw_144) (fun _ h9 => h9) (ft := vR 20) rfl dX0_addLine_30 (fun u_4 hv_u_4 m_u_4 => ?_)
    obtain ⟨vu_4, rfl, h_vu_4⟩ := hv_u_4
    refine lv_aload_n hx hb dX0_addLine_33 rfl (lv_at hl 0 rfl) ?_
    refine tg_mem (ci := 0) (C := RX0) (T := TX0) (N := 5) hx hb hts inX0 hown hK hw 3 m_u_1 rfl (by decide) (hts _ tw_145) (fun _ h9 => h9) dX0_addLine_34 ?_
    refine lv_iload_n hx hb dX0_addLine_37 rfl (lv_at hl 3 rfl) ?_
    refine tg_iast hx hb hK hw h_vu_4 rfl 0 39 r_vu_1 (by decide) r_p3 (by exact fun _ _ _ => by decide) (fun _ _ _ _ _ => trivial) (by decide) dX0_addLine_38 (fun ws H locs hw hF9 hU9 => ?_)
    have x_BQ3_p0_vu_1_p1_p2_p3 : B3 (fun n f g h => B4 vu_1 n f g h ∧ f (Int32.toNatClampNeg vu_1) = p1 ∧ g (Int32.toNatClampNeg vu_1) = p2 ∧ h (Int32.toNatClampNeg vu_1) = p3) Ps ws p0 := B3.st3 hF9 hU9 x_BQ2_p0_vu_1_p1_p2 m_u_4 (fun n9 f9 g9 h8 h9 => ⟨gbs_upd3 h9.1 r_vu_1.1, h9.2.1, h9.2.2, pk_us⟩)
    have m_u_1 := FLD.over hF9 m_u_1 (by decide)
    have m_u_2 := FLD.over hF9 m_u_2 (by decide)
    have m_u_3 := FLD.over hF9 m_u_3 (by decide)
    have m_u_4 := FLD.over hF9 m_u_4 (by decide)
    refine lv_aload_n hx hb dX0_addLine_39 rfl (lv_at hl 0 rfl) ?_
    refine lv_dup hx hb dX0_addLine_40 rfl ?_
    refine tg_mem (ci := 0) (C := RX0) (T := TX0) (N := 5) hx hb hts inX0 hown hK hw 3 m_u_1 rfl (by decide) (hts _ tw_145) (fun _ h9 => h9) dX0_addLine_41 ?_
    refine lv_iconst (v := 1) hx hb dX0_addLine_44 (by decide) ?_
    refine lv_iadd hx hb dX0_addLine_45 (lv_topi (fun v_5 e_v_5 => ?_))
    obtain ⟨t_v_5, r_v_5⟩ := tq_add (lo := 1) (hi := 40) r_vu_1 rl_1 (by decide +kernel) e_v_5
    have t_v_5 : v_5.toInt = vu_1.toInt + 1 := t_v_5
    refine tg_put (ci := 0) (ts := ty_BOOK) (v := .int v_5) (ty := .int) (C := RX0) (T := TX0) (N := 5) hx hb hts inX0 tyX0 tyX0_ok nmX0 hown hK hw h_p0 rfl rfl 3 (by decide) (hts _ tw_145) (fun _ h9 => h9) rfl (by decide +kernel) rfl rfl (ft := vI 0 40) rfl ⟨_, rfl, (r_v_5.to (by decide))⟩ (by decide) dX0_addLine_46 (fun ws H locs hw n_k_6 hF9 => ?_)
    have m_u_2 := FLD.over hF9 m_u_2 (by decide)
    have m_u_3 := FLD.over hF9 m_u_3 (by decide)
    have m_u_4 := FLD.over hF9 m_u_4 (by decide)
    have x_BG_p0 : BG Ps ws p0 := B3.inc hF9 x_BQ3_p0_vu_1_p1_p2_p3 n_k_6 (fun n9 f9 g9 h8 h9 => B4_end h9 r_vu_1.1 t_v_5 x_GB_p1_p2_p3)
    subst hQ
    exact W.vret hx hb hr (fun t ht hW => ⟨⟨ws, rfl, ⟨⟨⟨_, n_k_6, r_v_5⟩, x_BG_p0, trivial⟩, hw.1, hw.2.2.2.2.1⟩, by rw [ht]; exact hw.2.1, va_K.moved hW.alike hK, hw.2.2.1⟩, hw.2.2.2.1.F ht⟩) hw.2.2.2.1.2.2 dX0_addLine_49
abbrev wr_X7_nameAhead__6 : List (Nat × Nat) := [(7, 10), (7, 11)]
abbrev wa_X7_nameAhead__6 : List Nat := []
set_option maxHeartbeats 4000000 in
set_option maxRecDepth 100000 in
theorem c_X7_nameAhead__6 (l : Launch) (D : va_G) (cy : Nat → ClassId) (z : Nat → Nat) (sz : Nat) (Ps : PSI) (w0 : va_W) (hT : HT cy GG Ps w0) (p0 : Nat) (p1 : Nat) (p2 : Int32) (h_p0 : (p0, 26) ∈ Ps) (h_p1 : (p1, 25) ∈ Ps) (r_p2 : RI p2 0 0) : Met l yX7_nameAhead (Cond.code yX7_nameAhead cX7_nameAhead 4 (some .int) :: gT) ({ frames := 2, cells := 0, slots := 0, locals := 400 } : Room) (va_Pc [.ref p0, .ref p1, .int p2] (PRE D cy z w0 sz)) (va_Qi (fun (r : Int32) (u : va_W) => (RI r (-1) 5 ∧ (r = 0 → True) ∧ (¬ r = 0 → True) ∧ (True) ∧ (r.toInt < 0 → FLTp u p0 ∧ True) ∧ (0 ≤ r.toInt → True)) ∧ HT cy GG Ps u ∧ FR wr_X7_nameAhead__6 wa_X7_nameAhead__6 Ps w0 u) (BB D cy (va_A w0 sz) (fun (u : va_W) => u)) (va_A w0 sz)) 0 0 (va_A w0 sz) := by
  refine Met.ofW (cc := cX7_nameAhead) (maxL := 4) (ret := (some .int)) (by decide) rfl ?_
  intro p e s m args below meth c s₁ B hml hv
  obtain ⟨rfl, hsz, hP, hK, hD0, hSD⟩ := hv
  have hx := B.exec
  have hb := B.bytes
  have hr := B.returns
  have hlocks := B.notSynchronized
  have hts : ∀ w ∈ gT, w.before _ s = true := fun w h => atoms_spec (ws := Cond.code yX7_nameAhead cX7_nameAhead 4 (some .int) :: gT) B.pre w (List.mem_cons_of_mem _ h)
  have hown : s.vm.findClass RX7 = some m.cls := findClass_of_methodNamed B.named
  subst hsz
  have hD := hD0.self (sz := s.heap.size)
  generalize hAe : va_A w0 s.heap.size = A at hD hSD ⊢
  have hA : ∀ q : Nat, s.heap.size ≤ q → A q := fun q h => by rw [← hAe]; exact Or.inr h
  have hl := lv_entry ([.ref p0, .ref p1, .int p2]) (n := 4) (Nat.le_of_ble_eq_true rfl)
  rw [lg_entry_eq]
  generalize (lg_sl ([.ref p0, .ref p1, .int p2]) ++ List.replicate (4 - (lg_sl ([.ref p0, .ref p1, .int p2])).length) Slot.unset).toArray = ls at hl ⊢
  have hl : lv_has ls 4 [(0, .ref p0), (1, .ref p1), (2, .int p2)] := hl
  refine nameQ (fun Q hQ => ?_)
  have hw : WD D cy GG A s wr_X7_nameAhead__6 wa_X7_nameAhead__6 Ps w0 Ps w0 s.heap [] := ⟨hT, hP, hD, va_S.rf, FR.rf, hT.1, [], (List.append_nil _).symm⟩
  refine lv_aload_n hx hb dX7_nameAhead_0 rfl (lv_at hl 0 rfl) ?_
  refine tg_get (ci := 7) (ts := ty_TAPE) (C := RX7) (T := TX7) (N := 12) hx hb hts inX7 hown hK hw h_p0 rfl rfl 7 (by decide) (hts _ tw_98) (fun _ h9 => h9) (ft := vI (-2147483648) 2147483647) rfl dX7_nameAhead_1 (fun u_1 hv_u_1 m_u_1 => ?_)
  obtain ⟨vu_1, rfl, r_vu_1⟩ := hv_u_1
  refine lv_iconst (v := 2) hx hb dX7_nameAhead_4 (by decide) ?_
  refine lv_icmp_eq (tgt := 15) hx hb dX7_nameAhead_5 (by decide) (fun c_5 => ?_) (fun c_5 => ?_)
  · have r_vu_1 : RI vu_1 2 2 := rc_eq1 r_vu_1 rl_2 (ti_eq c_5) (by decide)
    refine lv_aload_n hx hb dX7_nameAhead_15 rfl (lv_at hl 1 rfl) ?_
    refine lv_aload_n hx hb dX7_nameAhead_16 rfl (lv_at hl 0 rfl) ?_
    refine tg_get (ci := 7) (ts := ty_TAPE) (C := RX7) (T := TX7) (N := 12) hx hb hts inX7 hown hK hw h_p0 rfl rfl 8 (by decide) (hts _ tw_100) (fun _ h9 => h9) (ft := vJ (-9223372036854775808) 9223372036854775807) rfl dX7_nameAhead_17 (fun u_2 hv_u_2 m_u_2 => ?_)
    obtain ⟨vu_2, rfl, r_vu_2⟩ := hv_u_2
    refine lv_iload_n hx hb dX7_nameAhead_20 rfl (lv_at hl 2 rfl) ?_
    refine tk_ir (va_runV (As := [.long vu_2, .int p2]) (rest := []) ⟨hx, hb, hml, hown, hts⟩ (c_X3_numberOf l D cy z s.heap.size Ps w0 hw.1 p1 vu_2 p2 h_p1 r_vu_2 r_p2) (cwV 2 hts (gV tw_460 tw_461 tw_462 tw_11 tw_463) rfl rfl rfl (by decide +kernel) ⟨Nat.le_of_ble_eq_true rfl, Nat.le_of_ble_eq_true rfl⟩) (tg_preV hw hK hSD hA (ci := 3) (q := (RX3, TX3, 9)) rfl h_p1 rfl) rfl rfl hl.1 rfl (lv_room (Nat.le_of_ble_eq_true rfl)) dX7_nameAhead_21 ⟨Nat.le_of_ble_eq_true rfl, Nat.le_of_ble_eq_true rfl⟩) hw hA (fun v_3  H locs hp_v_3 hw => ?_)
    have r_v_3 : RI v_3 (-1) 5 := hp_v_3.1
    refine lv_istore_n (lv' := [(3, .int v_3), (0, .ref p0), (1, .ref p1), (2, .int p2)]) hx hb dX7_nameAhead_24 rfl hl (by decide) rfl (fun ls hl => ?_)
    refine lv_iload_n hx hb dX7_nameAhead_25 rfl (lv_at hl 0 rfl) ?_
    refine lv_iconst (v := (-1)) hx hb dX7_nameAhead_26 (by decide) ?_
    refine lv_icmp_ne (tgt := 35) hx hb dX7_nameAhead_27 (by decide) (fun c_27 => ?_) (fun c_27 => ?_)
    · have r_v_3 : RI v_3 0 5 := rc_neL r_v_3 rl_m1 (ti_ne c_27) (by decide)
      refine lv_aload_n hx hb dX7_nameAhead_35 rfl (lv_at hl 1 rfl) ?_
      refine tg_get (ci := 7) (ts := ty_TAPE) (C := RX7) (T := TX7) (N := 12) hx hb hts inX7 hown hK hw h_p0 rfl rfl 10 (by decide) (hts _ tw_104) (fun _ h9 => h9) (ft := vI 0 4) rfl dX7_nameAhead_36 (fun u_4 hv_u_4 m_u_4 => ?_)
      obtain ⟨vu_4, rfl, r_vu_4⟩ := hv_u_4
      refine lv_if_ne (tgt := 46) hx hb dX7_nameAhead_39 (by decide) (fun c_39 => ?_) (fun c_39 => ?_)
      · have r_vu_4 : RI vu_4 1 4 := rc_neL r_vu_4 rl_0 (ti_ne c_39) (by decide)
        refine lv_iconst (v := (-1)) hx hb dX7_nameAhead_46 (by decide) ?_
        subst hQ
        have x_FLT_p0 : FLTp w0 p0 := ⟨_, m_u_4, r_vu_4.to (by decide)⟩
        exact W.iret (v := (-1)) hx hb hr (fun t ht hW => ⟨⟨(-1), w0, rfl, ⟨⟨rl_m1.to (by decide), (fun _ => trivial), (fun h0 => trivial), trivial, (fun h0 => ⟨x_FLT_p0, trivial⟩), (fun _ => trivial)⟩, hw.1, hw.2.2.2.2.1⟩, by rw [ht]; exact hw.2.1, va_K.moved hW.alike hK, hw.2.2.1⟩, hw.2.2.2.1.F ht⟩) hw.2.2.2.1.2.2 dX7_nameAhead_47
      · have r_vu_4 : RI vu_4 0 0 := rc_eq1 r_vu_4 rl_0 (ti_eq c_39) (by decide)
        refine lv_iload_n hx hb dX7_nameAhead_42 rfl (lv_at hl 0 rfl) ?_
        refine lv_goto (tgt := 47) hx hb dX7_nameAhead_43 (by decide) ?_
        subst hQ
        exact W.iret (v := v_3) hx hb hr (fun t ht hW => ⟨⟨v_3, w0, rfl, ⟨⟨r_v_3.to (by decide), (fun h0 => trivial), (fun h0 => trivial), trivial, (fun h0 => absurd h0 (by have h8 := r_v_3; unfold RI at h8; omega)), (fun _ => trivial)⟩, hw.1, hw.2.2.2.2.1⟩, by rw [ht]; exact hw.2.1, va_K.moved hW.alike hK, hw.2.2.1⟩, hw.2.2.2.1.F ht⟩) hw.2.2.2.1.2.2 dX7_nameAhead_47
    · have r_v_3 : RI v_3 (-1) (-1) := rc_eq1 r_v_3 rl_m1 (ti_eq c_27) (by decide)
      refine lv_aload_n hx hb dX7_nameAhead_30 rfl (lv_at hl 1 rfl) ?_
      refine lv_iconst (v := 3) hx hb dX7_nameAhead_31 (by decide) ?_
      refine tk_v (va_runV (As := [.int 3]) (rest := []) ⟨hx, hb, hml, hown, hts⟩ (c_X7_refuse__2 l D cy z H.size Ps w0 hw.1 p0 3 h_p0 (rl_3.to (by decide))) (cwV 1 hts (gV tw_442 tw_443 tw_444 tw_2 tw_445) rfl rfl rfl (by decide +kernel) ⟨Nat.le_of_ble_eq_true rfl, Nat.le_of_ble_eq_true rfl⟩) (tg_preV hw hK hSD hA (ci := 7) (q := (RX7, TX7, 12)) rfl h_p0 rfl) rfl rfl hl.1 rfl (lv_room (Nat.le_of_ble_eq_true rfl)) dX7_nameAhead_32 ⟨Nat.le_of_ble_eq_true rfl, Nat.le_of_ble_eq_true rfl⟩) hw hA ⟨by decide, by decide⟩ (fun ws H locs hp_v_5 hw hF9 => ?_)
      have m_u_1 := FLD.over hF9 m_u_1 (by decide)
      obtain ⟨v_6, m_v_6, r_v_6⟩ := (hp_v_5.1)
      refine lv_aload_n hx hb dX7_nameAhead_35 rfl (lv_at hl 1 rfl) ?_
      refine tg_mem (ci := 7) (C := RX7) (T := TX7) (N := 12) hx hb hts inX7 hown hK hw 10 m_v_6 rfl (by decide) (hts _ tw_104) (fun _ h9 => h9) dX7_nameAhead_36 ?_
      refine lv_if_ne (tgt := 46) hx hb dX7_nameAhead_39 (by decide) (fun c_39 => ?_) (fun c_39 => ?_)
      · refine lv_iconst (v := (-1)) hx hb dX7_nameAhead_46 (by decide) ?_
        subst hQ
        have x_FLT_p0 : FLTp ws p0 := ⟨_, m_v_6, r_v_6.to (by decide)⟩
        exact W.iret (v := (-1)) hx hb hr (fun t ht hW => ⟨⟨(-1), ws, rfl, ⟨⟨rl_m1.to (by decide), (fun _ => trivial), (fun h0 => trivial), trivial, (fun h0 => ⟨x_FLT_p0, trivial⟩), (fun _ => trivial)⟩, hw.1, hw.2.2.2.2.1⟩, by rw [ht]; exact hw.2.1, va_K.moved hW.alike hK, hw.2.2.1⟩, hw.2.2.2.1.F ht⟩) hw.2.2.2.1.2.2 dX7_nameAhead_47
      · have r_v_6 : RI v_6 1 0 := rc_eq1 r_v_6 rl_0 (ti_eq c_39) (by decide)
        exact (r_v_6.no (by decide)).elim
  · refine lv_aload_n hx hb dX7_nameAhead_8 rfl (lv_at hl 0 rfl) ?_
    refine lv_iconst (v := 1) hx hb dX7_nameAhead_9 (by decide) ?_
    refine tk_v (va_runV (As := [.int 1]) (rest := []) ⟨hx, hb, hml, hown, hts⟩ (c_X7_refuse__2 l D cy z s.heap.size Ps w0 hw.1 p0 1 h_p0 (rl_1.to (by decide))) (cwV 1 hts (gV tw_442 tw_443 tw_444 tw_2 tw_445) rfl rfl rfl (by decide +kernel) ⟨Nat.le_of_ble_eq_true rfl, Nat.le_of_ble_eq_true rfl⟩) (tg_preV hw hK hSD hA (ci := 7) (q := (RX7, TX7, 12)) rfl h_p0 rfl) rfl rfl hl.1 rfl (lv_room (Nat.le_of_ble_eq_true rfl)) dX7_nameAhead_10 ⟨Nat.le_of_ble_eq_true rfl, Nat.le_of_ble_eq_true rfl⟩) hw hA ⟨by decide, by decide⟩ (fun ws H locs hp_v_7 hw hF9 => ?_)
    have m_u_1 := FLD.over hF9 m_u_1 (by decide)
    obtain ⟨v_8, m_v_8, r_v_8⟩ := (hp_v_7.1)
    refine lv_iconst (v := (-1)) hx hb dX7_nameAhead_13 (by decide) ?_
    subst hQ
    have x_FLT_p0 : FLTp ws p0 := ⟨_, m_v_8, r_v_8.to (by decide)⟩
    exact W.iret (v := (-1)) hx hb hr (fun t ht hW => ⟨⟨(-1), ws, rfl, ⟨⟨rl_m1.to (by decide), (fun _ => trivial), (fun h0 => trivial), trivial, (fun h0 => ⟨x_FLT_p0, trivial⟩), (fun _ => trivial)⟩, hw.1, hw.2.2.2.2.1⟩, by rw [ht]; exact hw.2.1, va_K.moved hW.alike hK, hw.2.2.1⟩, hw.2.2.2.1.F ht⟩) hw.2.2.2.1.2.2 dX7_nameAhead_14
abbrev wr_X7_takeName__5 : List (Nat × Nat) := [(7, 5), (7, 6), (7, 7), (7, 8), (7, 9), (7, 10), (7, 11)]
abbrev wa_X7_takeName__5 : List Nat := []
set_option maxHeartbeats 4000000 in
set_option maxRecDepth 100000 in
theorem c_X7_takeName__5 (l : Launch) (D : va_G) (cy : Nat → ClassId) (z : Nat → Nat) (sz : Nat) (Ps : PSI) (w0 : va_W) (hT : HT cy GG Ps w0) (p0 : Nat) (p1 : Nat) (p2 : Int32) (h_p0 : (p0, 26) ∈ Ps) (h_p1 : (p1, 25) ∈ Ps) (r_p2 : RI p2 0 0) : Met l yX7_takeName (Cond.code yX7_takeName cX7_takeName 4 (some .int) :: gT) ({ frames := 3, cells := 0, slots := 0, locals := 600 } : Room) (va_Pc [.ref p0, .ref p1, .int p2] (PRE D cy z w0 sz)) (va_Qi (fun (r : Int32) (u : va_W) => (RI r (-1) 5 ∧ (r = 0 → True) ∧ (¬ r = 0 → True) ∧ (True) ∧ (r.toInt < 0 → FLTp u p0 ∧ True) ∧ (0 ≤ r.toInt → True)) ∧ HT cy GG Ps u ∧ FR wr_X7_takeName__5 wa_X7_takeName__5 Ps w0 u) (BB D cy (va_A w0 sz) (fun (u : va_W) => u)) (va_A w0 sz)) 0 0 (va_A w0 sz) := by
  refine Met.ofW (cc := cX7_takeName) (maxL := 4) (ret := (some .int)) (by decide) rfl ?_
  intro p e s m args below meth c s₁ B hml hv
  obtain ⟨rfl, hsz, hP, hK, hD0, hSD⟩ := hv
  have hx := B.exec
  have hb := B.bytes
  have hr := B.returns
  have hlocks := B.notSynchronized
  have hts : ∀ w ∈ gT, w.before _ s = true := fun w h => atoms_spec (ws := Cond.code yX7_takeName cX7_takeName 4 (some .int) :: gT) B.pre w (List.mem_cons_of_mem _ h)
  have hown : s.vm.findClass RX7 = some m.cls := findClass_of_methodNamed B.named
  subst hsz
  have hD := hD0.self (sz := s.heap.size)
  generalize hAe : va_A w0 s.heap.size = A at hD hSD ⊢
  have hA : ∀ q : Nat, s.heap.size ≤ q → A q := fun q h => by rw [← hAe]; exact Or.inr h
  have hl := lv_entry ([.ref p0, .ref p1, .int p2]) (n := 4) (Nat.le_of_ble_eq_true rfl)
  rw [lg_entry_eq]
  generalize (lg_sl ([.ref p0, .ref p1, .int p2]) ++ List.replicate (4 - (lg_sl ([.ref p0, .ref p1, .int p2])).length) Slot.unset).toArray = ls at hl ⊢
  have hl : lv_has ls 4 [(0, .ref p0), (1, .ref p1), (2, .int p2)] := hl
  refine nameQ (fun Q hQ => ?_)
  have hw : WD D cy GG A s wr_X7_takeName__5 wa_X7_takeName__5 Ps w0 Ps w0 s.heap [] := ⟨hT, hP, hD, va_S.rf, FR.rf, hT.1, [], (List.append_nil _).symm⟩
  refine lv_aload_n hx hb dX7_takeName_0 rfl (lv_at hl 0 rfl) ?_
  refine lv_aload_n hx hb dX7_takeName_1 rfl (lv_at hl 1 rfl) ?_
  refine lv_iload_n hx hb dX7_takeName_2 rfl (lv_at hl 2 rfl) ?_
  refine tk_i (va_runV (As := [.ref p1, .int p2]) (rest := []) ⟨hx, hb, hml, hown, hts⟩ (c_X7_nameAhead__6 l D cy z s.heap.size Ps w0 hw.1 p0 p1 p2 h_p0 h_p1 r_p2) (cwV 2 hts (gV tw_468 tw_457 tw_458 tw_2 tw_459) rfl rfl rfl (by decide +kernel) ⟨Nat.le_of_ble_eq_true rfl, Nat.le_of_ble_eq_true rfl⟩) (tg_preV hw hK hSD hA (ci := 7) (q := (RX7, TX7, 12)) rfl h_p0 rfl) rfl rfl hl.1 rfl (lv_room (Nat.le_of_ble_eq_true rfl)) dX7_takeName_3 ⟨Nat.le_of_ble_eq_true rfl, Nat.le_of_ble_eq_true rfl⟩) hw hA ⟨by decide, by decide⟩ (fun v_1 ws H locs hp_v_1 hw hF9 => ?_)
  have r_v_1 : RI v_1 (-1) 5 := hp_v_1.1
  by_cases c9_v_1 : v_1.toInt < 0
  · have r_v_1 : RI v_1 (-1) (-1) := by unfold RI at r_v_1 ⊢; omega
    have x_FLT_p0 := (hp_v_1.2.2.2.2.1 (by omega)).1
    obtain ⟨v_2, m_v_2, r_v_2⟩ := id x_FLT_p0
    refine lv_istore_n (lv' := [(3, .int v_1), (0, .ref p0), (1, .ref p1), (2, .int p2)]) hx hb dX7_takeName_6 rfl hl (by decide) rfl (fun ls hl => ?_)
    refine lv_aload_n hx hb dX7_takeName_7 rfl (lv_at hl 1 rfl) ?_
    refine tk_vr (va_runV (As := []) (rest := []) ⟨hx, hb, hml, hown, hts⟩ (c_X7_pass__1 l D cy z H.size Ps ws hw.1 p0 v_2 h_p0 r_v_2 m_v_2) (cwV 0 hts (gV tw_424 tw_425 tw_426 tw_2 tw_427) rfl rfl rfl (by decide +kernel) ⟨Nat.le_of_ble_eq_true rfl, Nat.le_of_ble_eq_true rfl⟩) (tg_preV hw hK hSD hA (ci := 7) (q := (RX7, TX7, 12)) rfl h_p0 rfl) rfl rfl hl.1 rfl (lv_room (Nat.le_of_ble_eq_true rfl)) dX7_takeName_8 ⟨Nat.le_of_ble_eq_true rfl, Nat.le_of_ble_eq_true rfl⟩) hw hA (fun  H locs hp_v_3 hw => ?_)
    refine lv_iload_n hx hb dX7_takeName_11 rfl (lv_at hl 0 rfl) ?_
    subst hQ
    exact W.iret (v := v_1) hx hb hr (fun t ht hW => ⟨⟨v_1, ws, rfl, ⟨⟨r_v_1.to (by decide), (fun _ => trivial), (fun h0 => trivial), trivial, (fun h0 => ⟨x_FLT_p0, trivial⟩), (fun _ => trivial)⟩, hw.1, hw.2.2.2.2.1⟩, by rw [ht]; exact hw.2.1, va_K.moved hW.alike hK, hw.2.2.1⟩, hw.2.2.2.1.F ht⟩) hw.2.2.2.1.2.2 dX7_takeName_12
  · have r_v_1 : RI v_1 0 5 := by unfold RI at r_v_1 ⊢; omega
    refine lv_istore_n (lv' := [(3, .int v_1), (0, .ref p0), (1, .ref p1), (2, .int p2)]) hx hb dX7_takeName_6 rfl hl (by decide) rfl (fun ls hl => ?_)
    refine lv_aload_n hx hb dX7_takeName_7 rfl (lv_at hl 1 rfl) ?_
    refine tk_v (va_runV (As := []) (rest := []) ⟨hx, hb, hml, hown, hts⟩ (c_X7_pass__2 l D cy z H.size Ps ws hw.1 p0 h_p0) (cwV 0 hts (gV tw_424 tw_425 tw_426 tw_2 tw_427) rfl rfl rfl (by decide +kernel) ⟨Nat.le_of_ble_eq_true rfl, Nat.le_of_ble_eq_true rfl⟩) (tg_preV hw hK hSD hA (ci := 7) (q := (RX7, TX7, 12)) rfl h_p0 rfl) rfl rfl hl.1 rfl (lv_room (Nat.le_of_ble_eq_true rfl)) dX7_takeName_8 ⟨Nat.le_of_ble_eq_true rfl, Nat.le_of_ble_eq_true rfl⟩) hw hA ⟨by decide, by decide⟩ (fun ws H locs hp_v_4 hw hF9 => ?_)
    refine lv_iload_n hx hb dX7_takeName_11 rfl (lv_at hl 0 rfl) ?_
    subst hQ
    exact W.iret (v := v_1) hx hb hr (fun t ht hW => ⟨⟨v_1, ws, rfl, ⟨⟨r_v_1.to (by decide), (fun h0 => trivial), (fun h0 => trivial), trivial, (fun h0 => absurd h0 (by have h8 := r_v_1; unfold RI at h8; omega)), (fun _ => trivial)⟩, hw.1, hw.2.2.2.2.1⟩, by rw [ht]; exact hw.2.1, va_K.moved hW.alike hK, hw.2.2.1⟩, hw.2.2.2.1.F ht⟩) hw.2.2.2.1.2.2 dX7_takeName_12
abbrev wr_X0_addLine__2 : List (Nat × Nat) := [(0, 3)]
abbrev wa_X0_addLine__2 : List Nat := [18, 19, 20]
set_option maxHeartbeats 4000000 in
set_option maxRecDepth 100000 in
theorem c_X0_addLine__2 (l : Launch) (D : va_G) (cy : Nat → ClassId) (z : Nat → Nat) (sz : Nat) (Ps : PSI) (w0 : va_W) (hT : HT cy GG Ps w0) (p0 : Nat) (p1 : Int32) (p2 : Int32) (p3 : Int32) (h_p0 : (p0, 31) ∈ Ps) (r_p1 : RI p1 (-2147483648) 2147483647) (r_p2 : RI p2 (-2147483648) 2147483647) (r_p3 : RI p3 (-2147483648) 2147483647) : Met l yX0_addLine (Cond.code yX0_addLine cX0_addLine 4 none :: gT) ({ frames := 0, cells := 0, slots := 0, locals := 200 } : Room) (va_Pc [.ref p0, .int p1, .int p2, .int p3] (PRE D cy z w0 sz)) (va_Qv (fun (u : va_W) => ((∃ v9 : Int32, FLD u p0 0 3 (.int v9) ∧ RI v9 1 40) ∧ True) ∧ HT cy GG Ps u ∧ FR wr_X0_addLine__2 wa_X0_addLine__2 Ps w0 u) (BB D cy (va_A w0 sz) (fun (u : va_W) => u)) (va_A w0 sz)) 0 0 (va_A w0 sz) := by
  refine Met.ofW (cc := cX0_addLine) (maxL := 4) (ret := none) (by decide) rfl ?_
  intro p e s m args below meth c s₁ B hml hv
  obtain ⟨rfl, hsz, hP, hK, hD0, hSD⟩ := hv
  have hx := B.exec
  have hb := B.bytes
  have hr := B.returns
  have hlocks := B.notSynchronized
  have hts : ∀ w ∈ gT, w.before _ s = true := fun w h => atoms_spec (ws := Cond.code yX0_addLine cX0_addLine 4 none :: gT) B.pre w (List.mem_cons_of_mem _ h)
  have hown : s.vm.findClass RX0 = some m.cls := findClass_of_methodNamed B.named
  subst hsz
  have hD := hD0.self (sz := s.heap.size)
  generalize hAe : va_A w0 s.heap.size = A at hD hSD ⊢
  have hA : ∀ q : Nat, s.heap.size ≤ q → A q := fun q h => by rw [← hAe]; exact Or.inr h
  have hl := lv_entry ([.ref p0, .int p1, .int p2, .int p3]) (n := 4) (Nat.le_of_ble_eq_true rfl)
  rw [lg_entry_eq]
  generalize (lg_sl ([.ref p0, .int p1, .int p2, .int p3]) ++ List.replicate (4 - (lg_sl ([.ref p0, .int p1, .int p2, .int p3])).length) Slot.unset).toArray = ls at hl ⊢
  have hl : lv_has ls 4 [(0, .ref p0), (1, .int p1), (2, .int p2), (3, .int p3)] := hl
  refine nameQ (fun Q hQ => ?_)
  have hw : WD D cy GG A s wr_X0_addLine__2 wa_X0_addLine__2 Ps w0 Ps w0 s.heap [] := ⟨hT, hP, hD, va_S.rf, FR.rf, hT.1, [], (List.append_nil _).symm⟩
  refine lv_aload_n hx hb dX0_addLine_0 rfl (lv_at hl 0 rfl) ?_
  refine tg_get (ci := 0) (ts := ty_BOOK) (C := RX0) (T := TX0) (N := 5) hx hb hts inX0 hown hK hw h_p0 rfl rfl 3 (by decide) (hts _ tw_145) (fun _ h9 => h9) (ft := vI 0 40) rfl dX0_addLine_1 (fun u_1 hv_u_1 m_u_1 => ?_)
  obtain ⟨vu_1, rfl, r_vu_1⟩ := hv_u_1
  refine lv_bipush (v := 40) hx hb dX0_addLine_4 (by decide) ?_
  refine lv_icmp_ge (tgt := 49) hx hb dX0_addLine_6 (by decide) (fun c_6 => ?_) (fun c_6 => ?_)
  · have r_vu_1 : RI vu_1 40 40 := rc_le2 rl_40 r_vu_1 (ti_le c_6) (by decide)
    subst hQ
    exact W.vret hx hb hr (fun t ht hW => ⟨⟨w0, rfl, ⟨⟨⟨_, m_u_1, (r_vu_1.to (by decide))⟩, trivial⟩, hw.1, hw.2.2.2.2.1⟩, by rw [ht]; exact hw.2.1, va_K.moved hW.alike hK, hw.2.2.1⟩, hw.2.2.2.1.F ht⟩) hw.2.2.2.1.2.2 dX0_addLine_49
  · have r_vu_1 : RI vu_1 0 39 := rc_lt1 r_vu_1 rl_40 (ti_nle c_6) (by decide)
    refine lv_aload_n hx hb dX0_addLine_9 rfl (lv_at hl 0 rfl) ?_
    refine tg_get (ci := 0) (ts := ty_BOOK) (C := RX0) (T := TX0) (N := 5) hx hb hts inX0 hown hK hw h_p0 rfl rfl 0 (by decide) (hts _ tw_142) (fun _ h9 => h9) (ft := vR 18) rfl dX0_addLine_10 (fun u_2 hv_u_2 m_u_2 => ?_)
    obtain ⟨vu_2, rfl, h_vu_2⟩ := hv_u_2
    refine lv_aload_n hx hb dX0_addLine_13 rfl (lv_at hl 0 rfl) ?_
    refine tg_mem (ci := 0) (C := RX0) (T := TX0) (N := 5) hx hb hts inX0 hown hK hw 3 m_u_1 rfl (by decide) (hts _ tw_145) (fun _ h9 => h9) dX0_addLine_14 ?_
    refine lv_iload_n hx hb dX0_addLine_17 rfl (lv_at hl 1 rfl) ?_
    refine tg_iast hx hb hK hw h_vu_2 rfl 0 39 r_vu_1 (by decide) r_p1 (by exact fun _ _ _ => by decide) (fun _ _ _ _ _ => trivial) (by decide) dX0_addLine_18 (fun ws H locs hw hF9 hU9 => ?_)
    have m_u_1 := FLD.over hF9 m_u_1 (by decide)
    refine lv_aload_n hx hb dX0_addLine_19 rfl (lv_at hl 0 rfl) ?_
    refine tg_get (ci := 0) (ts := ty_BOOK) (C := RX0) (T := TX0) (N := 5) hx hb hts inX0 hown hK hw h_p0 rfl rfl 1 (by decide) (hts _ tw_143) (fun _ h9 => h9) (ft := vR 19) rfl dX0_addLine_20 (fun u_3 hv_u_3 m_u_3 => ?_)
    obtain ⟨vu_3, rfl, h_vu_3⟩ := hv_u_3
    refine lv_aload_n hx hb dX0_addLine_23 rfl (lv_at hl 0 rfl) ?_
    refine tg_mem (ci := 0) (C := RX0) (T := TX0) (N := 5) hx hb hts inX0 hown hK hw 3 m_u_1 rfl (by decide) (hts _ tw_145) (fun _ h9 => h9) dX0_addLine_24 ?_
    refine lv_iload_n hx hb dX0_addLine_27 rfl (lv_at hl 2 rfl) ?_
    refine tg_iast hx hb hK hw h_vu_3 rfl 0 39 r_vu_1 (by decide) r_p2 (by exact fun _ _ _ => by decide) (fun _ _ _ _ _ => trivial) (by decide) dX0_addLine_28 (fun ws H locs hw hF9 hU9 => ?_)
    have m_u_1 := FLD.over hF9 m_u_1 (by decide)
    refine lv_aload_n hx hb dX0_addLine_29 rfl (lv_at hl 0 rfl) ?_
    refine tg_get (ci := 0) (ts := ty_BOOK) (C := RX0) (T := TX0) (N := 5) hx hb hts inX0 hown hK hw h_p0 rfl rfl 2 (by decide) (hts _ tw_144) (fun _ h9 => h9) (ft := vR 20) rfl dX0_addLine_30 (fun u_4 hv_u_4 m_u_4 => ?_)
    obtain ⟨vu_4, rfl, h_vu_4⟩ := hv_u_4
    refine lv_aload_n hx hb dX0_addLine_33 rfl (lv_at hl 0 rfl) ?_
    refine tg_mem (ci := 0) (C := RX0) (T := TX0) (N := 5) hx hb hts inX0 hown hK hw 3 m_u_1 rfl (by decide) (hts _ tw_145) (fun _ h9 => h9) dX0_addLine_34 ?_
    refine lv_iload_n hx hb dX0_addLine_37 rfl (lv_at hl 3 rfl) ?_
    refine tg_iast hx hb hK hw h_vu_4 rfl 0 39 r_vu_1 (by decide) r_p3 (by exact fun _ _ _ => by decide) (fun _ _ _ _ _ => trivial) (by decide) dX0_addLine_38 (fun ws H locs hw hF9 hU9 => ?_)
    have m_u_1 := FLD.over hF9 m_u_1 (by decide)
    refine lv_aload_n hx hb dX0_addLine_39 rfl (lv_at hl 0 rfl) ?_
    refine lv_dup hx hb dX0_addLine_40 rfl ?_
    refine tg_mem (ci := 0) (C := RX0) (T := TX0) (N := 5) hx hb hts inX0 hown hK hw 3 m_u_1 rfl (by decide) (hts _ tw_145) (fun _ h9 => h9) dX0_addLine_41 ?_
    refine lv_iconst (v := 1) hx hb dX0_addLine_44 (by decide) ?_
    refine lv_iadd hx hb dX0_addLine_45 (lv_topi (fun v_5 e_v_5 => ?_))
    obtain ⟨t_v_5, r_v_5⟩ := tq_add (lo := 1) (hi := 40) r_vu_1 rl_1 (by decide +kernel) e_v_5
    have t_v_5 : v_5.toInt = vu_1.toInt + 1 := t_v_5
    refine tg_put (ci := 0) (ts := ty_BOOK) (v := .int v_5) (ty := .int) (C := RX0) (T := TX0) (N := 5) hx hb hts inX0 tyX0 tyX0_ok nmX0 hown hK hw h_p0 rfl rfl 3 (by decide) (hts _ tw_145) (fun _ h9 => h9) rfl (by decide +kernel) rfl rfl (ft := vI 0 40) rfl ⟨_, rfl, (r_v_5.to (by decide))⟩ (by decide) dX0_addLine_46 (fun ws H locs hw n_k_6 hF9 => ?_)
    subst hQ
    exact W.vret hx hb hr (fun t ht hW => ⟨⟨ws, rfl, ⟨⟨⟨_, n_k_6, r_v_5⟩, trivial⟩, hw.1, hw.2.2.2.2.1⟩, by rw [ht]; exact hw.2.1, va_K.moved hW.alike hK, hw.2.2.1⟩, hw.2.2.2.1.F ht⟩) hw.2.2.2.1.2.2 dX0_addLine_49
abbrev wr_X7_nameAhead__7 : List (Nat × Nat) := [(7, 10), (7, 11)]
abbrev wa_X7_nameAhead__7 : List Nat := []
set_option maxHeartbeats 4000000 in
set_option maxRecDepth 100000 in
theorem c_X7_nameAhead__7 (l : Launch) (D : va_G) (cy : Nat → ClassId) (z : Nat → Nat) (sz : Nat) (Ps : PSI) (w0 : va_W) (hT : HT cy GG Ps w0) (p0 : Nat) (p1 : Nat) (p2 : Int32) (h_p0 : (p0, 26) ∈ Ps) (h_p1 : (p1, 25) ∈ Ps) (r_p2 : RI p2 2 2) : Met l yX7_nameAhead (Cond.code yX7_nameAhead cX7_nameAhead 4 (some .int) :: gT) ({ frames := 2, cells := 0, slots := 0, locals := 400 } : Room) (va_Pc [.ref p0, .ref p1, .int p2] (PRE D cy z w0 sz)) (va_Qi (fun (r : Int32) (u : va_W) => (RI r (-1) 5 ∧ (r = 0 → True) ∧ (¬ r = 0 → True) ∧ (True) ∧ (r.toInt < 0 → FLTp u p0 ∧ True) ∧ (0 ≤ r.toInt → True)) ∧ HT cy GG Ps u ∧ FR wr_X7_nameAhead__7 wa_X7_nameAhead__7 Ps w0 u) (BB D cy (va_A w0 sz) (fun (u : va_W) => u)) (va_A w0 sz)) 0 0 (va_A w0 sz) := by
  refine Met.ofW (cc := cX7_nameAhead) (maxL := 4) (ret := (some .int)) (by decide) rfl ?_
  intro p e s m args below meth c s₁ B hml hv
  obtain ⟨rfl, hsz, hP, hK, hD0, hSD⟩ := hv
  have hx := B.exec
  have hb := B.bytes
  have hr := B.returns
  have hlocks := B.notSynchronized
  have hts : ∀ w ∈ gT, w.before _ s = true := fun w h => atoms_spec (ws := Cond.code yX7_nameAhead cX7_nameAhead 4 (some .int) :: gT) B.pre w (List.mem_cons_of_mem _ h)
  have hown : s.vm.findClass RX7 = some m.cls := findClass_of_methodNamed B.named
  subst hsz
  have hD := hD0.self (sz := s.heap.size)
  generalize hAe : va_A w0 s.heap.size = A at hD hSD ⊢
  have hA : ∀ q : Nat, s.heap.size ≤ q → A q := fun q h => by rw [← hAe]; exact Or.inr h
  have hl := lv_entry ([.ref p0, .ref p1, .int p2]) (n := 4) (Nat.le_of_ble_eq_true rfl)
  rw [lg_entry_eq]
  generalize (lg_sl ([.ref p0, .ref p1, .int p2]) ++ List.replicate (4 - (lg_sl ([.ref p0, .ref p1, .int p2])).length) Slot.unset).toArray = ls at hl ⊢
  have hl : lv_has ls 4 [(0, .ref p0), (1, .ref p1), (2, .int p2)] := hl
  refine nameQ (fun Q hQ => ?_)
  have hw : WD D cy GG A s wr_X7_nameAhead__7 wa_X7_nameAhead__7 Ps w0 Ps w0 s.heap [] := ⟨hT, hP, hD, va_S.rf, FR.rf, hT.1, [], (List.append_nil _).symm⟩
  refine lv_aload_n hx hb dX7_nameAhead_0 rfl (lv_at hl 0 rfl) ?_
  refine tg_get (ci := 7) (ts := ty_TAPE) (C := RX7) (T := TX7) (N := 12) hx hb hts inX7 hown hK hw h_p0 rfl rfl 7 (by decide) (hts _ tw_98) (fun _ h9 => h9) (ft := vI (-2147483648) 2147483647) rfl dX7_nameAhead_1 (fun u_1 hv_u_1 m_u_1 => ?_)
  obtain ⟨vu_1, rfl, r_vu_1⟩ := hv_u_1
  refine lv_iconst (v := 2) hx hb dX7_nameAhead_4 (by decide) ?_
  refine lv_icmp_eq (tgt := 15) hx hb dX7_nameAhead_5 (by decide) (fun c_5 => ?_) (fun c_5 => ?_)
  · have r_vu_1 : RI vu_1 2 2 := rc_eq1 r_vu_1 rl_2 (ti_eq c_5) (by decide)
    refine lv_aload_n hx hb dX7_nameAhead_15 rfl (lv_at hl 1 rfl) ?_
    refine lv_aload_n hx hb dX7_nameAhead_16 rfl (lv_at hl 0 rfl) ?_
    refine tg_get (ci := 7) (ts := ty_TAPE) (C := RX7) (T := TX7) (N := 12) hx hb hts inX7 hown hK hw h_p0 rfl rfl 8 (by decide) (hts _ tw_100) (fun _ h9 => h9) (ft := vJ (-9223372036854775808) 9223372036854775807) rfl dX7_nameAhead_17 (fun u_2 hv_u_2 m_u_2 => ?_)
    obtain ⟨vu_2, rfl, r_vu_2⟩ := hv_u_2
    refine lv_iload_n hx hb dX7_nameAhead_20 rfl (lv_at hl 2 rfl) ?_
    refine tk_ir (va_runV (As := [.long vu_2, .int p2]) (rest := []) ⟨hx, hb, hml, hown, hts⟩ (c_X3_numberOf__2 l D cy z s.heap.size Ps w0 hw.1 p1 vu_2 p2 h_p1 r_vu_2 r_p2) (cwV 2 hts (gV tw_460 tw_461 tw_462 tw_11 tw_463) rfl rfl rfl (by decide +kernel) ⟨Nat.le_of_ble_eq_true rfl, Nat.le_of_ble_eq_true rfl⟩) (tg_preV hw hK hSD hA (ci := 3) (q := (RX3, TX3, 9)) rfl h_p1 rfl) rfl rfl hl.1 rfl (lv_room (Nat.le_of_ble_eq_true rfl)) dX7_nameAhead_21 ⟨Nat.le_of_ble_eq_true rfl, Nat.le_of_ble_eq_true rfl⟩) hw hA (fun v_3  H locs hp_v_3 hw => ?_)
    have r_v_3 : RI v_3 (-1) 5 := hp_v_3.1
    refine lv_istore_n (lv' := [(3, .int v_3), (0, .ref p0), (1, .ref p1), (2, .int p2)]) hx hb dX7_nameAhead_24 rfl hl (by decide) rfl (fun ls hl => ?_)
    refine lv_iload_n hx hb dX7_nameAhead_25 rfl (lv_at hl 0 rfl) ?_
    refine lv_iconst (v := (-1)) hx hb dX7_nameAhead_26 (by decide) ?_
    refine lv_icmp_ne (tgt := 35) hx hb dX7_nameAhead_27 (by decide) (fun c_27 => ?_) (fun c_27 => ?_)
    · have r_v_3 : RI v_3 0 5 := rc_neL r_v_3 rl_m1 (ti_ne c_27) (by decide)
      refine lv_aload_n hx hb dX7_nameAhead_35 rfl (lv_at hl 1 rfl) ?_
      refine tg_get (ci := 7) (ts := ty_TAPE) (C := RX7) (T := TX7) (N := 12) hx hb hts inX7 hown hK hw h_p0 rfl rfl 10 (by decide) (hts _ tw_104) (fun _ h9 => h9) (ft := vI 0 4) rfl dX7_nameAhead_36 (fun u_4 hv_u_4 m_u_4 => ?_)
      obtain ⟨vu_4, rfl, r_vu_4⟩ := hv_u_4
      refine lv_if_ne (tgt := 46) hx hb dX7_nameAhead_39 (by decide) (fun c_39 => ?_) (fun c_39 => ?_)
      · have r_vu_4 : RI vu_4 1 4 := rc_neL r_vu_4 rl_0 (ti_ne c_39) (by decide)
        refine lv_iconst (v := (-1)) hx hb dX7_nameAhead_46 (by decide) ?_
        subst hQ
        have x_FLT_p0 : FLTp w0 p0 := ⟨_, m_u_4, r_vu_4.to (by decide)⟩
        exact W.iret (v := (-1)) hx hb hr (fun t ht hW => ⟨⟨(-1), w0, rfl, ⟨⟨rl_m1.to (by decide), (fun _ => trivial), (fun h0 => trivial), trivial, (fun h0 => ⟨x_FLT_p0, trivial⟩), (fun _ => trivial)⟩, hw.1, hw.2.2.2.2.1⟩, by rw [ht]; exact hw.2.1, va_K.moved hW.alike hK, hw.2.2.1⟩, hw.2.2.2.1.F ht⟩) hw.2.2.2.1.2.2 dX7_nameAhead_47
      · have r_vu_4 : RI vu_4 0 0 := rc_eq1 r_vu_4 rl_0 (ti_eq c_39) (by decide)
        refine lv_iload_n hx hb dX7_nameAhead_42 rfl (lv_at hl 0 rfl) ?_
        refine lv_goto (tgt := 47) hx hb dX7_nameAhead_43 (by decide) ?_
        subst hQ
        exact W.iret (v := v_3) hx hb hr (fun t ht hW => ⟨⟨v_3, w0, rfl, ⟨⟨r_v_3.to (by decide), (fun h0 => trivial), (fun h0 => trivial), trivial, (fun h0 => absurd h0 (by have h8 := r_v_3; unfold RI at h8; omega)), (fun _ => trivial)⟩, hw.1, hw.2.2.2.2.1⟩, by rw [ht]; exact hw.2.1, va_K.moved hW.alike hK, hw.2.2.1⟩, hw.2.2.2.1.F ht⟩) hw.2.2.2.1.2.2 dX7_nameAhead_47
    · have r_v_3 : RI v_3 (-1) (-1) := rc_eq1 r_v_3 rl_m1 (ti_eq c_27) (by decide)
      refine lv_aload_n hx hb dX7_nameAhead_30 rfl (lv_at hl 1 rfl) ?_
      refine lv_iconst (v := 3) hx hb dX7_nameAhead_31 (by decide) ?_
      refine tk_v (va_runV (As := [.int 3]) (rest := []) ⟨hx, hb, hml, hown, hts⟩ (c_X7_refuse__2 l D cy z H.size Ps w0 hw.1 p0 3 h_p0 (rl_3.to (by decide))) (cwV 1 hts (gV tw_442 tw_443 tw_444 tw_2 tw_445) rfl rfl rfl (by decide +kernel) ⟨Nat.le_of_ble_eq_true rfl, Nat.le_of_ble_eq_true rfl⟩) (tg_preV hw hK hSD hA (ci := 7) (q := (RX7, TX7, 12)) rfl h_p0 rfl) rfl rfl hl.1 rfl (lv_room (Nat.le_of_ble_eq_true rfl)) dX7_nameAhead_32 ⟨Nat.le_of_ble_eq_true rfl, Nat.le_of_ble_eq_true rfl⟩) hw hA ⟨by decide, by decide⟩ (fun ws H locs hp_v_5 hw hF9 => ?_)
      have m_u_1 := FLD.over hF9 m_u_1 (by decide)
      obtain ⟨v_6, m_v_6, r_v_6⟩ := (hp_v_5.1)
      refine lv_aload_n hx hb dX7_nameAhead_35 rfl (lv_at hl 1 rfl) ?_
      refine tg_mem (ci := 7) (C := RX7) (T := TX7) (N := 12) hx hb hts inX7 hown hK hw 10 m_v_6 rfl (by decide) (hts _ tw_104) (fun _ h9 => h9) dX7_nameAhead_36 ?_
      refine lv_if_ne (tgt := 46) hx hb dX7_nameAhead_39 (by decide) (fun c_39 => ?_) (fun c_39 => ?_)
      · refine lv_iconst (v := (-1)) hx hb dX7_nameAhead_46 (by decide) ?_
        subst hQ
        have x_FLT_p0 : FLTp ws p0 := ⟨_, m_v_6, r_v_6.to (by decide)⟩
        exact W.iret (v := (-1)) hx hb hr (fun t ht hW => ⟨⟨(-1), ws, rfl, ⟨⟨rl_m1.to (by decide), (fun _ => trivial), (fun h0 => trivial), trivial, (fun h0 => ⟨x_FLT_p0, trivial⟩), (fun _ => trivial)⟩, hw.1, hw.2.2.2.2.1⟩, by rw [ht]; exact hw.2.1, va_K.moved hW.alike hK, hw.2.2.1⟩, hw.2.2.2.1.F ht⟩) hw.2.2.2.1.2.2 dX7_nameAhead_47
      · have r_v_6 : RI v_6 1 0 := rc_eq1 r_v_6 rl_0 (ti_eq c_39) (by decide)
        exact (r_v_6.no (by decide)).elim
  · refine lv_aload_n hx hb dX7_nameAhead_8 rfl (lv_at hl 0 rfl) ?_
    refine lv_iconst (v := 1) hx hb dX7_nameAhead_9 (by decide) ?_
    refine tk_v (va_runV (As := [.int 1]) (rest := []) ⟨hx, hb, hml, hown, hts⟩ (c_X7_refuse__2 l D cy z s.heap.size Ps w0 hw.1 p0 1 h_p0 (rl_1.to (by decide))) (cwV 1 hts (gV tw_442 tw_443 tw_444 tw_2 tw_445) rfl rfl rfl (by decide +kernel) ⟨Nat.le_of_ble_eq_true rfl, Nat.le_of_ble_eq_true rfl⟩) (tg_preV hw hK hSD hA (ci := 7) (q := (RX7, TX7, 12)) rfl h_p0 rfl) rfl rfl hl.1 rfl (lv_room (Nat.le_of_ble_eq_true rfl)) dX7_nameAhead_10 ⟨Nat.le_of_ble_eq_true rfl, Nat.le_of_ble_eq_true rfl⟩) hw hA ⟨by decide, by decide⟩ (fun ws H locs hp_v_7 hw hF9 => ?_)
    have m_u_1 := FLD.over hF9 m_u_1 (by decide)
    obtain ⟨v_8, m_v_8, r_v_8⟩ := (hp_v_7.1)
    refine lv_iconst (v := (-1)) hx hb dX7_nameAhead_13 (by decide) ?_
    subst hQ
    have x_FLT_p0 : FLTp ws p0 := ⟨_, m_v_8, r_v_8.to (by decide)⟩
    exact W.iret (v := (-1)) hx hb hr (fun t ht hW => ⟨⟨(-1), ws, rfl, ⟨⟨rl_m1.to (by decide), (fun _ => trivial), (fun h0 => trivial), trivial, (fun h0 => ⟨x_FLT_p0, trivial⟩), (fun _ => trivial)⟩, hw.1, hw.2.2.2.2.1⟩, by rw [ht]; exact hw.2.1, va_K.moved hW.alike hK, hw.2.2.1⟩, hw.2.2.2.1.F ht⟩) hw.2.2.2.1.2.2 dX7_nameAhead_14
abbrev wr_X7_takeName__6 : List (Nat × Nat) := [(7, 5), (7, 6), (7, 7), (7, 8), (7, 9), (7, 10), (7, 11)]
abbrev wa_X7_takeName__6 : List Nat := []
set_option maxHeartbeats 4000000 in
set_option maxRecDepth 100000 in
theorem c_X7_takeName__6 (l : Launch) (D : va_G) (cy : Nat → ClassId) (z : Nat → Nat) (sz : Nat) (Ps : PSI) (w0 : va_W) (hT : HT cy GG Ps w0) (p0 : Nat) (p1 : Nat) (p2 : Int32) (h_p0 : (p0, 26) ∈ Ps) (h_p1 : (p1, 25) ∈ Ps) (r_p2 : RI p2 2 2) : Met l yX7_takeName (Cond.code yX7_takeName cX7_takeName 4 (some .int) :: gT) ({ frames := 3, cells := 0, slots := 0, locals := 600 } : Room) (va_Pc [.ref p0, .ref p1, .int p2] (PRE D cy z w0 sz)) (va_Qi (fun (r : Int32) (u : va_W) => (RI r (-1) 5 ∧ (r = 0 → True) ∧ (¬ r = 0 → True) ∧ (True) ∧ (r.toInt < 0 → FLTp u p0 ∧ True) ∧ (0 ≤ r.toInt → True)) ∧ HT cy GG Ps u ∧ FR wr_X7_takeName__6 wa_X7_takeName__6 Ps w0 u) (BB D cy (va_A w0 sz) (fun (u : va_W) => u)) (va_A w0 sz)) 0 0 (va_A w0 sz) := by
  refine Met.ofW (cc := cX7_takeName) (maxL := 4) (ret := (some .int)) (by decide) rfl ?_
  intro p e s m args below meth c s₁ B hml hv
  obtain ⟨rfl, hsz, hP, hK, hD0, hSD⟩ := hv
  have hx := B.exec
  have hb := B.bytes
  have hr := B.returns
  have hlocks := B.notSynchronized
  have hts : ∀ w ∈ gT, w.before _ s = true := fun w h => atoms_spec (ws := Cond.code yX7_takeName cX7_takeName 4 (some .int) :: gT) B.pre w (List.mem_cons_of_mem _ h)
  have hown : s.vm.findClass RX7 = some m.cls := findClass_of_methodNamed B.named
  subst hsz
  have hD := hD0.self (sz := s.heap.size)
  generalize hAe : va_A w0 s.heap.size = A at hD hSD ⊢
  have hA : ∀ q : Nat, s.heap.size ≤ q → A q := fun q h => by rw [← hAe]; exact Or.inr h
  have hl := lv_entry ([.ref p0, .ref p1, .int p2]) (n := 4) (Nat.le_of_ble_eq_true rfl)
  rw [lg_entry_eq]
  generalize (lg_sl ([.ref p0, .ref p1, .int p2]) ++ List.replicate (4 - (lg_sl ([.ref p0, .ref p1, .int p2])).length) Slot.unset).toArray = ls at hl ⊢
  have hl : lv_has ls 4 [(0, .ref p0), (1, .ref p1), (2, .int p2)] := hl
  refine nameQ (fun Q hQ => ?_)
  have hw : WD D cy GG A s wr_X7_takeName__6 wa_X7_takeName__6 Ps w0 Ps w0 s.heap [] := ⟨hT, hP, hD, va_S.rf, FR.rf, hT.1, [], (List.append_nil _).symm⟩
  refine lv_aload_n hx hb dX7_takeName_0 rfl (lv_at hl 0 rfl) ?_
  refine lv_aload_n hx hb dX7_takeName_1 rfl (lv_at hl 1 rfl) ?_
  refine lv_iload_n hx hb dX7_takeName_2 rfl (lv_at hl 2 rfl) ?_
  refine tk_i (va_runV (As := [.ref p1, .int p2]) (rest := []) ⟨hx, hb, hml, hown, hts⟩ (c_X7_nameAhead__7 l D cy z s.heap.size Ps w0 hw.1 p0 p1 p2 h_p0 h_p1 r_p2) (cwV 2 hts (gV tw_468 tw_457 tw_458 tw_2 tw_459) rfl rfl rfl (by decide +kernel) ⟨Nat.le_of_ble_eq_true rfl, Nat.le_of_ble_eq_true rfl⟩) (tg_preV hw hK hSD hA (ci := 7) (q := (RX7, TX7, 12)) rfl h_p0 rfl) rfl rfl hl.1 rfl (lv_room (Nat.le_of_ble_eq_true rfl)) dX7_takeName_3 ⟨Nat.le_of_ble_eq_true rfl, Nat.le_of_ble_eq_true rfl⟩) hw hA ⟨by decide, by decide⟩ (fun v_1 ws H locs hp_v_1 hw hF9 => ?_)
  have r_v_1 : RI v_1 (-1) 5 := hp_v_1.1
  by_cases c9_v_1 : v_1.toInt < 0
  · have r_v_1 : RI v_1 (-1) (-1) := by unfold RI at r_v_1 ⊢; omega
    have x_FLT_p0 := (hp_v_1.2.2.2.2.1 (by omega)).1
    obtain ⟨v_2, m_v_2, r_v_2⟩ := id x_FLT_p0
    refine lv_istore_n (lv' := [(3, .int v_1), (0, .ref p0), (1, .ref p1), (2, .int p2)]) hx hb dX7_takeName_6 rfl hl (by decide) rfl (fun ls hl => ?_)
    refine lv_aload_n hx hb dX7_takeName_7 rfl (lv_at hl 1 rfl) ?_
    refine tk_vr (va_runV (As := []) (rest := []) ⟨hx, hb, hml, hown, hts⟩ (c_X7_pass__1 l D cy z H.size Ps ws hw.1 p0 v_2 h_p0 r_v_2 m_v_2) (cwV 0 hts (gV tw_424 tw_425 tw_426 tw_2 tw_427) rfl rfl rfl (by decide +kernel) ⟨Nat.le_of_ble_eq_true rfl, Nat.le_of_ble_eq_true rfl⟩) (tg_preV hw hK hSD hA (ci := 7) (q := (RX7, TX7, 12)) rfl h_p0 rfl) rfl rfl hl.1 rfl (lv_room (Nat.le_of_ble_eq_true rfl)) dX7_takeName_8 ⟨Nat.le_of_ble_eq_true rfl, Nat.le_of_ble_eq_true rfl⟩) hw hA (fun  H locs hp_v_3 hw => ?_)
    refine lv_iload_n hx hb dX7_takeName_11 rfl (lv_at hl 0 rfl) ?_
    subst hQ
    exact W.iret (v := v_1) hx hb hr (fun t ht hW => ⟨⟨v_1, ws, rfl, ⟨⟨r_v_1.to (by decide), (fun _ => trivial), (fun h0 => trivial), trivial, (fun h0 => ⟨x_FLT_p0, trivial⟩), (fun _ => trivial)⟩, hw.1, hw.2.2.2.2.1⟩, by rw [ht]; exact hw.2.1, va_K.moved hW.alike hK, hw.2.2.1⟩, hw.2.2.2.1.F ht⟩) hw.2.2.2.1.2.2 dX7_takeName_12
  · have r_v_1 : RI v_1 0 5 := by unfold RI at r_v_1 ⊢; omega
    refine lv_istore_n (lv' := [(3, .int v_1), (0, .ref p0), (1, .ref p1), (2, .int p2)]) hx hb dX7_takeName_6 rfl hl (by decide) rfl (fun ls hl => ?_)
    refine lv_aload_n hx hb dX7_takeName_7 rfl (lv_at hl 1 rfl) ?_
    refine tk_v (va_runV (As := []) (rest := []) ⟨hx, hb, hml, hown, hts⟩ (c_X7_pass__2 l D cy z H.size Ps ws hw.1 p0 h_p0) (cwV 0 hts (gV tw_424 tw_425 tw_426 tw_2 tw_427) rfl rfl rfl (by decide +kernel) ⟨Nat.le_of_ble_eq_true rfl, Nat.le_of_ble_eq_true rfl⟩) (tg_preV hw hK hSD hA (ci := 7) (q := (RX7, TX7, 12)) rfl h_p0 rfl) rfl rfl hl.1 rfl (lv_room (Nat.le_of_ble_eq_true rfl)) dX7_takeName_8 ⟨Nat.le_of_ble_eq_true rfl, Nat.le_of_ble_eq_true rfl⟩) hw hA ⟨by decide, by decide⟩ (fun ws H locs hp_v_4 hw hF9 => ?_)
    refine lv_iload_n hx hb dX7_takeName_11 rfl (lv_at hl 0 rfl) ?_
    subst hQ
    exact W.iret (v := v_1) hx hb hr (fun t ht hW => ⟨⟨v_1, ws, rfl, ⟨⟨r_v_1.to (by decide), (fun h0 => trivial), (fun h0 => trivial), trivial, (fun h0 => absurd h0 (by have h8 := r_v_1; unfold RI at h8; omega)), (fun _ => trivial)⟩, hw.1, hw.2.2.2.2.1⟩, by rw [ht]; exact hw.2.1, va_K.moved hW.alike hK, hw.2.2.1⟩, hw.2.2.2.1.F ht⟩) hw.2.2.2.1.2.2 dX7_takeName_12
abbrev wr_X0_readVerb : List (Nat × Nat) := [(0, 3), (7, 5), (7, 6), (7, 7), (7, 8), (7, 9), (7, 10), (7, 11)]
abbrev wa_X0_readVerb : List Nat := [18, 19, 20]
set_option maxHeartbeats 4000000 in
set_option maxRecDepth 100000 in
theorem c_X0_readVerb (l : Launch) (D : va_G) (cy : Nat → ClassId) (z : Nat → Nat) (sz : Nat) (Ps : PSI) (w0 : va_W) (hT : HT cy GG Ps w0) (p0 : Nat) (p1 : Nat) (p2 : Nat) (p3 : Int32) (h_p0 : (p0, 31) ∈ Ps) (h_p1 : (p1, 26) ∈ Ps) (h_p2 : (p2, 25) ∈ Ps) (r_p3 : RI p3 0 7) (x_BG_p0 : BG Ps w0 p0) : Met l yX0_readVerb (Cond.code yX0_readVerb cX0_readVerb 5 none :: gT) ({ frames := 4, cells := 0, slots := 0, locals := 800 } : Room) (va_Pc [.ref p0, .ref p1, .ref p2, .int p3] (PRE D cy z w0 sz)) (va_Qv (fun (u : va_W) => ((∃ v9 : Int32, FLD u p0 0 3 (.int v9) ∧ RI v9 1 40) ∧ JB Ps u p1 p0 ∧ True) ∧ HT cy GG Ps u ∧ FR wr_X0_readVerb wa_X0_readVerb Ps w0 u) (BB D cy (va_A w0 sz) (fun (u : va_W) => u)) (va_A w0 sz)) 0 0 (va_A w0 sz) := by
  refine Met.ofW (cc := cX0_readVerb) (maxL := 5) (ret := none) (by decide) rfl ?_
  intro p e s m args below meth c s₁ B hml hv
  obtain ⟨rfl, hsz, hP, hK, hD0, hSD⟩ := hv
  have hx := B.exec
  have hb := B.bytes
  have hr := B.returns
  have hlocks := B.notSynchronized
  have hts : ∀ w ∈ gT, w.before _ s = true := fun w h => atoms_spec (ws := Cond.code yX0_readVerb cX0_readVerb 5 none :: gT) B.pre w (List.mem_cons_of_mem _ h)
  have hown : s.vm.findClass RX0 = some m.cls := findClass_of_methodNamed B.named
  subst hsz
  have hD := hD0.self (sz := s.heap.size)
  generalize hAe : va_A w0 s.heap.size = A at hD hSD ⊢
  have hA : ∀ q : Nat, s.heap.size ≤ q → A q := fun q h => by rw [← hAe]; exact Or.inr h
  have hl := lv_entry ([.ref p0, .ref p1, .ref p2, .int p3]) (n := 5) (Nat.le_of_ble_eq_true rfl)
  rw [lg_entry_eq]
  generalize (lg_sl ([.ref p0, .ref p1, .ref p2, .int p3]) ++ List.replicate (5 - (lg_sl ([.ref p0, .ref p1, .ref p2, .int p3])).length) Slot.unset).toArray = ls at hl ⊢
  have hl : lv_has ls 5 [(0, .ref p0), (1, .ref p1), (2, .ref p2), (3, .int p3)] := hl
  refine nameQ (fun Q hQ => ?_)
  have hw : WD D cy GG A s wr_X0_readVerb wa_X0_readVerb Ps w0 Ps w0 s.heap [] := ⟨hT, hP, hD, va_S.rf, FR.rf, hT.1, [], (List.append_nil _).symm⟩
  refine lv_aload_n hx hb dX0_readVerb_0 rfl (lv_at hl 1 rfl) ?_
  refine tg_getN (ci := 7) (ts := ty_TAPE) (C := RX7) (T := TX7) (N := 12) hx hb hts inX7 hown hK hw h_p1 rfl rfl 7 (by decide) (hSD.nest tn_95) (fun _ h9 => h9) (ft := vI (-2147483648) 2147483647) rfl dX0_readVerb_1 (fun u_1 hv_u_1 m_u_1 => ?_)
  obtain ⟨vu_1, rfl, r_vu_1⟩ := hv_u_1
  refine lv_istore (lv' := [(4, .int vu_1), (0, .ref p0), (1, .ref p1), (2, .ref p2), (3, .int p3)]) hx hb dX0_readVerb_4 hl (by decide) rfl (fun ls hl => ?_)
  refine lv_iload hx hb dX0_readVerb_6 (lv_at hl 0 rfl) ?_
  refine lv_sipush (v := 137) hx hb dX0_readVerb_8 (by decide) ?_
  refine lv_icmp_lt (tgt := 22) hx hb dX0_readVerb_11 (by decide) (fun c_11 => ?_) (fun c_11 => ?_)
  · have r_vu_1 : RI vu_1 (-2147483648) 136 := rc_lt1 r_vu_1 rl_137 (ti_lt c_11) (by decide)
    refine lv_aload_n hx hb dX0_readVerb_22 rfl (lv_at hl 2 rfl) ?_
    refine lv_iconst (v := 1) hx hb dX0_readVerb_23 (by decide) ?_
    refine tk_v (va_runV (As := [.int 1]) (rest := []) ⟨hx, hb, hml, hown, hts⟩ (c_X7_refuse__2 l D cy z s.heap.size Ps w0 hw.1 p1 1 h_p1 (rl_1.to (by decide))) (cwV 1 hts (gV tw_897 tw_443 tw_444 tw_2 tw_445) rfl rfl rfl (by decide +kernel) ⟨Nat.le_of_ble_eq_true rfl, Nat.le_of_ble_eq_true rfl⟩) (tg_preV hw hK hSD hA (ci := 7) (q := (RX7, TX7, 12)) rfl h_p1 rfl) rfl rfl hl.1 rfl (lv_room (Nat.le_of_ble_eq_true rfl)) dX0_readVerb_24 ⟨Nat.le_of_ble_eq_true rfl, Nat.le_of_ble_eq_true rfl⟩) hw hA ⟨by decide, by decide⟩ (fun ws H locs hp_v_2 hw hF9 => ?_)
    have m_u_1 := FLD.over hF9 m_u_1 (by decide)
    have x_BG_p0 := B3.over hF9 x_BG_p0 (by decide)
    obtain ⟨v_3, m_v_3, r_v_3⟩ := (hp_v_2.1)
    refine lv_aload_n hx hb dX0_readVerb_27 rfl (lv_at hl 2 rfl) ?_
    refine tk_vr (va_runV (As := []) (rest := []) ⟨hx, hb, hml, hown, hts⟩ (c_X7_pass__1 l D cy z H.size Ps ws hw.1 p1 v_3 h_p1 r_v_3 m_v_3) (cwV 0 hts (gV tw_898 tw_425 tw_426 tw_2 tw_427) rfl rfl rfl (by decide +kernel) ⟨Nat.le_of_ble_eq_true rfl, Nat.le_of_ble_eq_true rfl⟩) (tg_preV hw hK hSD hA (ci := 7) (q := (RX7, TX7, 12)) rfl h_p1 rfl) rfl rfl hl.1 rfl (lv_room (Nat.le_of_ble_eq_true rfl)) dX0_readVerb_28 ⟨Nat.le_of_ble_eq_true rfl, Nat.le_of_ble_eq_true rfl⟩) hw hA (fun  H locs hp_v_4 hw => ?_)
    refine lv_iload hx hb dX0_readVerb_31 (lv_at hl 0 rfl) ?_
    refine lv_sipush (v := 137) hx hb dX0_readVerb_33 (by decide) ?_
    refine lv_icmp_ne (tgt := 55) hx hb dX0_readVerb_36 (by decide) (fun c_36 => ?_) (fun c_36 => ?_)
    · refine lv_iload hx hb dX0_readVerb_55 (lv_at hl 0 rfl) ?_
      refine lv_sipush (v := 138) hx hb dX0_readVerb_57 (by decide) ?_
      refine lv_icmp_ne (tgt := 74) hx hb dX0_readVerb_60 (by decide) (fun c_60 => ?_) (fun c_60 => ?_)
      · refine lv_aload_n hx hb dX0_readVerb_74 rfl (lv_at hl 1 rfl) ?_
        refine lv_iload hx hb dX0_readVerb_75 (lv_at hl 0 rfl) ?_
        refine lv_iload_n hx hb dX0_readVerb_77 rfl (lv_at hl 4 rfl) ?_
        refine lv_aload_n hx hb dX0_readVerb_78 rfl (lv_at hl 2 rfl) ?_
        refine lv_aload_n hx hb dX0_readVerb_79 rfl (lv_at hl 3 rfl) ?_
        refine lv_iconst (v := 0) hx hb dX0_readVerb_80 (by decide) ?_
        refine tk_ir (va_runV (As := [.ref p2, .int 0]) (rest := [.int p3, .int vu_1, .ref p0]) ⟨hx, hb, hml, hown, hts⟩ (c_X7_takeName__4 l D cy z H.size Ps ws hw.1 p1 p2 0 v_3 h_p1 h_p2 rl_0 r_v_3 m_v_3) (cwV 2 hts (gV tw_903 tw_465 tw_466 tw_2 tw_467) rfl rfl rfl (by decide +kernel) ⟨Nat.le_of_ble_eq_true rfl, Nat.le_of_ble_eq_true rfl⟩) (tg_preV hw hK hSD hA (ci := 7) (q := (RX7, TX7, 12)) rfl h_p1 rfl) rfl rfl hl.1 rfl (lv_room (Nat.le_of_ble_eq_true rfl)) dX0_readVerb_81 ⟨Nat.le_of_ble_eq_true rfl, Nat.le_of_ble_eq_true rfl⟩) hw hA (fun v_5  H locs hp_v_5 hw => ?_)
        have r_v_5 : RI v_5 (-1) (-1) := hp_v_5.1
        by_cases c9_v_5 : v_5.toInt < 0
        · have r_v_5 : RI v_5 (-1) (-1) := by unfold RI at r_v_5 ⊢; omega
          have x_FLT_p1 := (hp_v_5.2.2.2.2.1 (by omega)).1
          obtain ⟨v_6, m_v_6, r_v_6⟩ := id x_FLT_p1
          have x_GB_vu_1_p3_v_5 : gb vu_1 p3 v_5 := by have k1 := r_vu_1; have k2 := r_p3; have k3 := r_v_5; unfold RI at k1 k2 k3; unfold gb; omega
          refine tk_v (va_runV (As := [.int vu_1, .int p3, .int v_5]) (rest := []) ⟨hx, hb, hml, hown, hts⟩ (c_X0_addLine__1 l D cy z H.size Ps ws hw.1 p0 vu_1 p3 v_5 h_p0 (r_vu_1.to (by decide)) (r_p3.to (by decide)) (r_v_5.to (by decide)) x_BG_p0 x_GB_vu_1_p3_v_5) (cwV 3 hts (gV tw_904 tw_906 ts_28 tw_7 tw_907) rfl rfl rfl (by decide +kernel) ⟨Nat.le_of_ble_eq_true rfl, Nat.le_of_ble_eq_true rfl⟩) (tg_preV hw hK hSD hA (ci := 0) (q := (RX0, TX0, 5)) rfl h_p0 rfl) rfl rfl hl.1 rfl (lv_room (Nat.le_of_ble_eq_true rfl)) dX0_readVerb_84 ⟨Nat.le_of_ble_eq_true rfl, Nat.le_of_ble_eq_true rfl⟩) hw hA ⟨by decide, by decide⟩ (fun ws H locs hp_v_7 hw hF9 => ?_)
          have m_u_1 := FLD.over hF9 m_u_1 (by decide)
          have m_v_6 := FLD.over hF9 m_v_6 (by decide)
          have x_FLT_p1 := FLTp.over hF9 x_FLT_p1 (by decide)
          obtain ⟨v_8, m_v_8, r_v_8⟩ := (hp_v_7.1)
          have x_BG_p0 := (hp_v_7.2.1)
          have x_JB_p1_p0 : JB Ps ws p1 p0 := Or.inr x_BG_p0
          subst hQ
          exact W.vret hx hb hr (fun t ht hW => ⟨⟨ws, rfl, ⟨⟨⟨_, m_v_8, r_v_8⟩, x_JB_p1_p0, trivial⟩, hw.1, hw.2.2.2.2.1⟩, by rw [ht]; exact hw.2.1, va_K.moved hW.alike hK, hw.2.2.1⟩, hw.2.2.2.1.F ht⟩) hw.2.2.2.1.2.2 dX0_readVerb_87
        · exact absurd c9_v_5 (by unfold RI at r_v_5; omega)
      · have r_vu_1 : RI vu_1 138 136 := rc_eq1 r_vu_1 rl_138 (ti_eq c_60) (by decide)
        exact (r_vu_1.no (by decide)).elim
    · have r_vu_1 : RI vu_1 137 136 := rc_eq1 r_vu_1 rl_137 (ti_eq c_36) (by decide)
      exact (r_vu_1.no (by decide)).elim
  · have r_vu_1 : RI vu_1 137 2147483647 := rc_le2 rl_137 r_vu_1 (ti_nlt c_11) (by decide)
    refine lv_iload hx hb dX0_readVerb_14 (lv_at hl 0 rfl) ?_
    refine lv_sipush (v := 140) hx hb dX0_readVerb_16 (by decide) ?_
    refine lv_icmp_le (tgt := 27) hx hb dX0_readVerb_19 (by decide) (fun c_19 => ?_) (fun c_19 => ?_)
    · have r_vu_1 : RI vu_1 137 140 := rc_le1 r_vu_1 rl_140 (ti_le c_19) (by decide)
      refine lv_aload_n hx hb dX0_readVerb_27 rfl (lv_at hl 2 rfl) ?_
      refine tk_v (va_runV (As := []) (rest := []) ⟨hx, hb, hml, hown, hts⟩ (c_X7_pass__2 l D cy z s.heap.size Ps w0 hw.1 p1 h_p1) (cwV 0 hts (gV tw_898 tw_425 tw_426 tw_2 tw_427) rfl rfl rfl (by decide +kernel) ⟨Nat.le_of_ble_eq_true rfl, Nat.le_of_ble_eq_true rfl⟩) (tg_preV hw hK hSD hA (ci := 7) (q := (RX7, TX7, 12)) rfl h_p1 rfl) rfl rfl hl.1 rfl (lv_room (Nat.le_of_ble_eq_true rfl)) dX0_readVerb_28 ⟨Nat.le_of_ble_eq_true rfl, Nat.le_of_ble_eq_true rfl⟩) hw hA ⟨by decide, by decide⟩ (fun ws H locs hp_v_9 hw hF9 => ?_)
      have x_BG_p0 := B3.over hF9 x_BG_p0 (by decide)
      refine lv_iload hx hb dX0_readVerb_31 (lv_at hl 0 rfl) ?_
      refine lv_sipush (v := 137) hx hb dX0_readVerb_33 (by decide) ?_
      refine lv_icmp_ne (tgt := 55) hx hb dX0_readVerb_36 (by decide) (fun c_36 => ?_) (fun c_36 => ?_)
      · have r_vu_1 : RI vu_1 138 140 := rc_neL r_vu_1 rl_137 (ti_ne c_36) (by decide)
        refine lv_iload hx hb dX0_readVerb_55 (lv_at hl 0 rfl) ?_
        refine lv_sipush (v := 138) hx hb dX0_readVerb_57 (by decide) ?_
        refine lv_icmp_ne (tgt := 74) hx hb dX0_readVerb_60 (by decide) (fun c_60 => ?_) (fun c_60 => ?_)
        · have r_vu_1 : RI vu_1 139 140 := rc_neL r_vu_1 rl_138 (ti_ne c_60) (by decide)
          refine lv_aload_n hx hb dX0_readVerb_74 rfl (lv_at hl 1 rfl) ?_
          refine lv_iload hx hb dX0_readVerb_75 (lv_at hl 0 rfl) ?_
          refine lv_iload_n hx hb dX0_readVerb_77 rfl (lv_at hl 4 rfl) ?_
          refine lv_aload_n hx hb dX0_readVerb_78 rfl (lv_at hl 2 rfl) ?_
          refine lv_aload_n hx hb dX0_readVerb_79 rfl (lv_at hl 3 rfl) ?_
          refine lv_iconst (v := 0) hx hb dX0_readVerb_80 (by decide) ?_
          refine tk_i (va_runV (As := [.ref p2, .int 0]) (rest := [.int p3, .int vu_1, .ref p0]) ⟨hx, hb, hml, hown, hts⟩ (c_X7_takeName__5 l D cy z H.size Ps ws hw.1 p1 p2 0 h_p1 h_p2 rl_0) (cwV 2 hts (gV tw_903 tw_465 tw_466 tw_2 tw_467) rfl rfl rfl (by decide +kernel) ⟨Nat.le_of_ble_eq_true rfl, Nat.le_of_ble_eq_true rfl⟩) (tg_preV hw hK hSD hA (ci := 7) (q := (RX7, TX7, 12)) rfl h_p1 rfl) rfl rfl hl.1 rfl (lv_room (Nat.le_of_ble_eq_true rfl)) dX0_readVerb_81 ⟨Nat.le_of_ble_eq_true rfl, Nat.le_of_ble_eq_true rfl⟩) hw hA ⟨by decide, by decide⟩ (fun v_10 ws H locs hp_v_10 hw hF9 => ?_)
          have x_BG_p0 := B3.over hF9 x_BG_p0 (by decide)
          have r_v_10 : RI v_10 (-1) 5 := hp_v_10.1
          by_cases c9_v_10 : v_10.toInt < 0
          · have r_v_10 : RI v_10 (-1) (-1) := by unfold RI at r_v_10 ⊢; omega
            have x_FLT_p1 := (hp_v_10.2.2.2.2.1 (by omega)).1
            obtain ⟨v_11, m_v_11, r_v_11⟩ := id x_FLT_p1
            refine tk_v (va_runV (As := [.int vu_1, .int p3, .int v_10]) (rest := []) ⟨hx, hb, hml, hown, hts⟩ (c_X0_addLine__2 l D cy z H.size Ps ws hw.1 p0 vu_1 p3 v_10 h_p0 (r_vu_1.to (by decide)) (r_p3.to (by decide)) (r_v_10.to (by decide))) (cwV 3 hts (gV tw_904 tw_906 ts_28 tw_7 tw_907) rfl rfl rfl (by decide +kernel) ⟨Nat.le_of_ble_eq_true rfl, Nat.le_of_ble_eq_true rfl⟩) (tg_preV hw hK hSD hA (ci := 0) (q := (RX0, TX0, 5)) rfl h_p0 rfl) rfl rfl hl.1 rfl (lv_room (Nat.le_of_ble_eq_true rfl)) dX0_readVerb_84 ⟨Nat.le_of_ble_eq_true rfl, Nat.le_of_ble_eq_true rfl⟩) hw hA ⟨by decide, by decide⟩ (fun ws H locs hp_v_12 hw hF9 => ?_)
            have m_v_11 := FLD.over hF9 m_v_11 (by decide)
            have x_FLT_p1 := FLTp.over hF9 x_FLT_p1 (by decide)
            obtain ⟨v_13, m_v_13, r_v_13⟩ := (hp_v_12.1)
            have x_JB_p1_p0 : JB Ps ws p1 p0 := Or.inl ⟨_, m_v_11, r_v_11.to (by decide)⟩
            subst hQ
            exact W.vret hx hb hr (fun t ht hW => ⟨⟨ws, rfl, ⟨⟨⟨_, m_v_13, r_v_13⟩, x_JB_p1_p0, trivial⟩, hw.1, hw.2.2.2.2.1⟩, by rw [ht]; exact hw.2.1, va_K.moved hW.alike hK, hw.2.2.1⟩, hw.2.2.2.1.F ht⟩) hw.2.2.2.1.2.2 dX0_readVerb_87
          · have r_v_10 : RI v_10 0 5 := by unfold RI at r_v_10 ⊢; omega
            have x_GB_vu_1_p3_v_10 : gb vu_1 p3 v_10 := by have k1 := r_vu_1; have k2 := r_p3; have k3 := r_v_10; unfold RI at k1 k2 k3; unfold gb; omega
            refine tk_v (va_runV (As := [.int vu_1, .int p3, .int v_10]) (rest := []) ⟨hx, hb, hml, hown, hts⟩ (c_X0_addLine__1 l D cy z H.size Ps ws hw.1 p0 vu_1 p3 v_10 h_p0 (r_vu_1.to (by decide)) (r_p3.to (by decide)) (r_v_10.to (by decide)) x_BG_p0 x_GB_vu_1_p3_v_10) (cwV 3 hts (gV tw_904 tw_906 ts_28 tw_7 tw_907) rfl rfl rfl (by decide +kernel) ⟨Nat.le_of_ble_eq_true rfl, Nat.le_of_ble_eq_true rfl⟩) (tg_preV hw hK hSD hA (ci := 0) (q := (RX0, TX0, 5)) rfl h_p0 rfl) rfl rfl hl.1 rfl (lv_room (Nat.le_of_ble_eq_true rfl)) dX0_readVerb_84 ⟨Nat.le_of_ble_eq_true rfl, Nat.le_of_ble_eq_true rfl⟩) hw hA ⟨by decide, by decide⟩ (fun ws H locs hp_v_14 hw hF9 => ?_)
            obtain ⟨v_15, m_v_15, r_v_15⟩ := (hp_v_14.1)
            have x_BG_p0 := (hp_v_14.2.1)
            have x_JB_p1_p0 : JB Ps ws p1 p0 := Or.inr x_BG_p0
            subst hQ
            exact W.vret hx hb hr (fun t ht hW => ⟨⟨ws, rfl, ⟨⟨⟨_, m_v_15, r_v_15⟩, x_JB_p1_p0, trivial⟩, hw.1, hw.2.2.2.2.1⟩, by rw [ht]; exact hw.2.1, va_K.moved hW.alike hK, hw.2.2.1⟩, hw.2.2.2.1.F ht⟩) hw.2.2.2.1.2.2 dX0_readVerb_87
        · have r_vu_1 : RI vu_1 138 138 := rc_eq1 r_vu_1 rl_138 (ti_eq c_60) (by decide)
          refine lv_aload_n hx hb dX0_readVerb_63 rfl (lv_at hl 1 rfl) ?_
          refine lv_iload hx hb dX0_readVerb_64 (lv_at hl 0 rfl) ?_
          refine lv_iload_n hx hb dX0_readVerb_66 rfl (lv_at hl 4 rfl) ?_
          refine lv_iconst (v := (-1)) hx hb dX0_readVerb_67 (by decide) ?_
          have x_GB_vu_1_p3___1_ : gb vu_1 p3 (-1) := by have k1 := r_vu_1; have k2 := r_p3; have k3 := rl_m1; unfold RI at k1 k2 k3; unfold gb; omega
          refine tk_v (va_runV (As := [.int vu_1, .int p3, .int (-1)]) (rest := []) ⟨hx, hb, hml, hown, hts⟩ (c_X0_addLine__1 l D cy z H.size Ps ws hw.1 p0 vu_1 p3 (-1) h_p0 (r_vu_1.to (by decide)) (r_p3.to (by decide)) (rl_m1.to (by decide)) x_BG_p0 x_GB_vu_1_p3___1_) (cwV 3 hts (gV tw_904 tw_906 ts_28 tw_7 tw_907) rfl rfl rfl (by decide +kernel) ⟨Nat.le_of_ble_eq_true rfl, Nat.le_of_ble_eq_true rfl⟩) (tg_preV hw hK hSD hA (ci := 0) (q := (RX0, TX0, 5)) rfl h_p0 rfl) rfl rfl hl.1 rfl (lv_room (Nat.le_of_ble_eq_true rfl)) dX0_readVerb_68 ⟨Nat.le_of_ble_eq_true rfl, Nat.le_of_ble_eq_true rfl⟩) hw hA ⟨by decide, by decide⟩ (fun ws H locs hp_v_16 hw hF9 => ?_)
          obtain ⟨v_17, m_v_17, r_v_17⟩ := (hp_v_16.1)
          have x_BG_p0 := (hp_v_16.2.1)
          refine lv_goto (tgt := 87) hx hb dX0_readVerb_71 (by decide) ?_
          have x_JB_p1_p0 : JB Ps ws p1 p0 := Or.inr x_BG_p0
          subst hQ
          exact W.vret hx hb hr (fun t ht hW => ⟨⟨ws, rfl, ⟨⟨⟨_, m_v_17, r_v_17⟩, x_JB_p1_p0, trivial⟩, hw.1, hw.2.2.2.2.1⟩, by rw [ht]; exact hw.2.1, va_K.moved hW.alike hK, hw.2.2.1⟩, hw.2.2.2.1.F ht⟩) hw.2.2.2.1.2.2 dX0_readVerb_87
      · have r_vu_1 : RI vu_1 137 137 := rc_eq1 r_vu_1 rl_137 (ti_eq c_36) (by decide)
        refine lv_aload_n hx hb dX0_readVerb_39 rfl (lv_at hl 1 rfl) ?_
        refine lv_iload hx hb dX0_readVerb_40 (lv_at hl 0 rfl) ?_
        refine lv_iload_n hx hb dX0_readVerb_42 rfl (lv_at hl 4 rfl) ?_
        refine lv_aload_n hx hb dX0_readVerb_43 rfl (lv_at hl 2 rfl) ?_
        refine lv_aload_n hx hb dX0_readVerb_44 rfl (lv_at hl 3 rfl) ?_
        refine lv_iconst (v := 2) hx hb dX0_readVerb_45 (by decide) ?_
        refine tk_i (va_runV (As := [.ref p2, .int 2]) (rest := [.int p3, .int vu_1, .ref p0]) ⟨hx, hb, hml, hown, hts⟩ (c_X7_takeName__6 l D cy z H.size Ps ws hw.1 p1 p2 2 h_p1 h_p2 rl_2) (cwV 2 hts (gV tw_903 tw_465 tw_466 tw_2 tw_467) rfl rfl rfl (by decide +kernel) ⟨Nat.le_of_ble_eq_true rfl, Nat.le_of_ble_eq_true rfl⟩) (tg_preV hw hK hSD hA (ci := 7) (q := (RX7, TX7, 12)) rfl h_p1 rfl) rfl rfl hl.1 rfl (lv_room (Nat.le_of_ble_eq_true rfl)) dX0_readVerb_46 ⟨Nat.le_of_ble_eq_true rfl, Nat.le_of_ble_eq_true rfl⟩) hw hA ⟨by decide, by decide⟩ (fun v_18 ws H locs hp_v_18 hw hF9 => ?_)
        have x_BG_p0 := B3.over hF9 x_BG_p0 (by decide)
        have r_v_18 : RI v_18 (-1) 5 := hp_v_18.1
        by_cases c9_v_18 : v_18.toInt < 0
        · have r_v_18 : RI v_18 (-1) (-1) := by unfold RI at r_v_18 ⊢; omega
          have x_FLT_p1 := (hp_v_18.2.2.2.2.1 (by omega)).1
          obtain ⟨v_19, m_v_19, r_v_19⟩ := id x_FLT_p1
          have x_GB_vu_1_p3_v_18 : gb vu_1 p3 v_18 := by have k1 := r_vu_1; have k2 := r_p3; have k3 := r_v_18; unfold RI at k1 k2 k3; unfold gb; omega
          refine tk_v (va_runV (As := [.int vu_1, .int p3, .int v_18]) (rest := []) ⟨hx, hb, hml, hown, hts⟩ (c_X0_addLine__1 l D cy z H.size Ps ws hw.1 p0 vu_1 p3 v_18 h_p0 (r_vu_1.to (by decide)) (r_p3.to (by decide)) (r_v_18.to (by decide)) x_BG_p0 x_GB_vu_1_p3_v_18) (cwV 3 hts (gV tw_904 tw_906 ts_28 tw_7 tw_907) rfl rfl rfl (by decide +kernel) ⟨Nat.le_of_ble_eq_true rfl, Nat.le_of_ble_eq_true rfl⟩) (tg_preV hw hK hSD hA (ci := 0) (q := (RX0, TX0, 5)) rfl h_p0 rfl) rfl rfl hl.1 rfl (lv_room (Nat.le_of_ble_eq_true rfl)) dX0_readVerb_49 ⟨Nat.le_of_ble_eq_true rfl, Nat.le_of_ble_eq_true rfl⟩) hw hA ⟨by decide, by decide⟩ (fun ws H locs hp_v_20 hw hF9 => ?_)
          have m_v_19 := FLD.over hF9 m_v_19 (by decide)
          have x_FLT_p1 := FLTp.over hF9 x_FLT_p1 (by decide)
          obtain ⟨v_21, m_v_21, r_v_21⟩ := (hp_v_20.1)
          have x_BG_p0 := (hp_v_20.2.1)
          refine lv_goto (tgt := 87) hx hb dX0_readVerb_52 (by decide) ?_
          have x_JB_p1_p0 : JB Ps ws p1 p0 := Or.inr x_BG_p0
          subst hQ
          exact W.vret hx hb hr (fun t ht hW => ⟨⟨ws, rfl, ⟨⟨⟨_, m_v_21, r_v_21⟩, x_JB_p1_p0, trivial⟩, hw.1, hw.2.2.2.2.1⟩, by rw [ht]; exact hw.2.1, va_K.moved hW.alike hK, hw.2.2.1⟩, hw.2.2.2.1.F ht⟩) hw.2.2.2.1.2.2 dX0_readVerb_87
        · have r_v_18 : RI v_18 0 5 := by unfold RI at r_v_18 ⊢; omega
          have x_GB_vu_1_p3_v_18 : gb vu_1 p3 v_18 := by have k1 := r_vu_1; have k2 := r_p3; have k3 := r_v_18; unfold RI at k1 k2 k3; unfold gb; omega
          refine tk_v (va_runV (As := [.int vu_1, .int p3, .int v_18]) (rest := []) ⟨hx, hb, hml, hown, hts⟩ (c_X0_addLine__1 l D cy z H.size Ps ws hw.1 p0 vu_1 p3 v_18 h_p0 (r_vu_1.to (by decide)) (r_p3.to (by decide)) (r_v_18.to (by decide)) x_BG_p0 x_GB_vu_1_p3_v_18) (cwV 3 hts (gV tw_904 tw_906 ts_28 tw_7 tw_907) rfl rfl rfl (by decide +kernel) ⟨Nat.le_of_ble_eq_true rfl, Nat.le_of_ble_eq_true rfl⟩) (tg_preV hw hK hSD hA (ci := 0) (q := (RX0, TX0, 5)) rfl h_p0 rfl) rfl rfl hl.1 rfl (lv_room (Nat.le_of_ble_eq_true rfl)) dX0_readVerb_49 ⟨Nat.le_of_ble_eq_true rfl, Nat.le_of_ble_eq_true rfl⟩) hw hA ⟨by decide, by decide⟩ (fun ws H locs hp_v_22 hw hF9 => ?_)
          obtain ⟨v_23, m_v_23, r_v_23⟩ := (hp_v_22.1)
          have x_BG_p0 := (hp_v_22.2.1)
          refine lv_goto (tgt := 87) hx hb dX0_readVerb_52 (by decide) ?_
          have x_JB_p1_p0 : JB Ps ws p1 p0 := Or.inr x_BG_p0
          subst hQ
          exact W.vret hx hb hr (fun t ht hW => ⟨⟨ws, rfl, ⟨⟨⟨_, m_v_23, r_v_23⟩, x_JB_p1_p0, trivial⟩, hw.1, hw.2.2.2.2.1⟩, by rw [ht]; exact hw.2.1, va_K.moved hW.alike hK, hw.2.2.1⟩, hw.2.2.2.1.F ht⟩) hw.2.2.2.1.2.2 dX0_readVerb_87
    · have r_vu_1 : RI vu_1 141 2147483647 := rc_lt2 rl_140 r_vu_1 (ti_nle c_19) (by decide)
      refine lv_aload_n hx hb dX0_readVerb_22 rfl (lv_at hl 2 rfl) ?_
      refine lv_iconst (v := 1) hx hb dX0_readVerb_23 (by decide) ?_
      refine tk_v (va_runV (As := [.int 1]) (rest := []) ⟨hx, hb, hml, hown, hts⟩ (c_X7_refuse__2 l D cy z s.heap.size Ps w0 hw.1 p1 1 h_p1 (rl_1.to (by decide))) (cwV 1 hts (gV tw_897 tw_443 tw_444 tw_2 tw_445) rfl rfl rfl (by decide +kernel) ⟨Nat.le_of_ble_eq_true rfl, Nat.le_of_ble_eq_true rfl⟩) (tg_preV hw hK hSD hA (ci := 7) (q := (RX7, TX7, 12)) rfl h_p1 rfl) rfl rfl hl.1 rfl (lv_room (Nat.le_of_ble_eq_true rfl)) dX0_readVerb_24 ⟨Nat.le_of_ble_eq_true rfl, Nat.le_of_ble_eq_true rfl⟩) hw hA ⟨by decide, by decide⟩ (fun ws H locs hp_v_24 hw hF9 => ?_)
      have m_u_1 := FLD.over hF9 m_u_1 (by decide)
      have x_BG_p0 := B3.over hF9 x_BG_p0 (by decide)
      obtain ⟨v_25, m_v_25, r_v_25⟩ := (hp_v_24.1)
      refine lv_aload_n hx hb dX0_readVerb_27 rfl (lv_at hl 2 rfl) ?_
      refine tk_vr (va_runV (As := []) (rest := []) ⟨hx, hb, hml, hown, hts⟩ (c_X7_pass__1 l D cy z H.size Ps ws hw.1 p1 v_25 h_p1 r_v_25 m_v_25) (cwV 0 hts (gV tw_898 tw_425 tw_426 tw_2 tw_427) rfl rfl rfl (by decide +kernel) ⟨Nat.le_of_ble_eq_true rfl, Nat.le_of_ble_eq_true rfl⟩) (tg_preV hw hK hSD hA (ci := 7) (q := (RX7, TX7, 12)) rfl h_p1 rfl) rfl rfl hl.1 rfl (lv_room (Nat.le_of_ble_eq_true rfl)) dX0_readVerb_28 ⟨Nat.le_of_ble_eq_true rfl, Nat.le_of_ble_eq_true rfl⟩) hw hA (fun  H locs hp_v_26 hw => ?_)
      refine lv_iload hx hb dX0_readVerb_31 (lv_at hl 0 rfl) ?_
      refine lv_sipush (v := 137) hx hb dX0_readVerb_33 (by decide) ?_
      refine lv_icmp_ne (tgt := 55) hx hb dX0_readVerb_36 (by decide) (fun c_36 => ?_) (fun c_36 => ?_)
      · refine lv_iload hx hb dX0_readVerb_55 (lv_at hl 0 rfl) ?_
        refine lv_sipush (v := 138) hx hb dX0_readVerb_57 (by decide) ?_
        refine lv_icmp_ne (tgt := 74) hx hb dX0_readVerb_60 (by decide) (fun c_60 => ?_) (fun c_60 => ?_)
        · refine lv_aload_n hx hb dX0_readVerb_74 rfl (lv_at hl 1 rfl) ?_
          refine lv_iload hx hb dX0_readVerb_75 (lv_at hl 0 rfl) ?_
          refine lv_iload_n hx hb dX0_readVerb_77 rfl (lv_at hl 4 rfl) ?_
          refine lv_aload_n hx hb dX0_readVerb_78 rfl (lv_at hl 2 rfl) ?_
          refine lv_aload_n hx hb dX0_readVerb_79 rfl (lv_at hl 3 rfl) ?_
          refine lv_iconst (v := 0) hx hb dX0_readVerb_80 (by decide) ?_
          refine tk_ir (va_runV (As := [.ref p2, .int 0]) (rest := [.int p3, .int vu_1, .ref p0]) ⟨hx, hb, hml, hown, hts⟩ (c_X7_takeName__4 l D cy z H.size Ps ws hw.1 p1 p2 0 v_25 h_p1 h_p2 rl_0 r_v_25 m_v_25) (cwV 2 hts (gV tw_903 tw_465 tw_466 tw_2 tw_467) rfl rfl rfl (by decide +kernel) ⟨Nat.le_of_ble_eq_true rfl, Nat.le_of_ble_eq_true rfl⟩) (tg_preV hw hK hSD hA (ci := 7) (q := (RX7, TX7, 12)) rfl h_p1 rfl) rfl rfl hl.1 rfl (lv_room (Nat.le_of_ble_eq_true rfl)) dX0_readVerb_81 ⟨Nat.le_of_ble_eq_true rfl, Nat.le_of_ble_eq_true rfl⟩) hw hA (fun v_27  H locs hp_v_27 hw => ?_)
          have r_v_27 : RI v_27 (-1) (-1) := hp_v_27.1
          by_cases c9_v_27 : v_27.toInt < 0
          · have r_v_27 : RI v_27 (-1) (-1) := by unfold RI at r_v_27 ⊢; omega
            have x_FLT_p1 := (hp_v_27.2.2.2.2.1 (by omega)).1
            obtain ⟨v_28, m_v_28, r_v_28⟩ := id x_FLT_p1
            refine tk_v (va_runV (As := [.int vu_1, .int p3, .int v_27]) (rest := []) ⟨hx, hb, hml, hown, hts⟩ (c_X0_addLine__2 l D cy z H.size Ps ws hw.1 p0 vu_1 p3 v_27 h_p0 (r_vu_1.to (by decide)) (r_p3.to (by decide)) (r_v_27.to (by decide))) (cwV 3 hts (gV tw_904 tw_906 ts_28 tw_7 tw_907) rfl rfl rfl (by decide +kernel) ⟨Nat.le_of_ble_eq_true rfl, Nat.le_of_ble_eq_true rfl⟩) (tg_preV hw hK hSD hA (ci := 0) (q := (RX0, TX0, 5)) rfl h_p0 rfl) rfl rfl hl.1 rfl (lv_room (Nat.le_of_ble_eq_true rfl)) dX0_readVerb_84 ⟨Nat.le_of_ble_eq_true rfl, Nat.le_of_ble_eq_true rfl⟩) hw hA ⟨by decide, by decide⟩ (fun ws H locs hp_v_29 hw hF9 => ?_)
            have m_u_1 := FLD.over hF9 m_u_1 (by decide)
            have m_v_28 := FLD.over hF9 m_v_28 (by decide)
            have x_FLT_p1 := FLTp.over hF9 x_FLT_p1 (by decide)
            obtain ⟨v_30, m_v_30, r_v_30⟩ := (hp_v_29.1)
            have x_JB_p1_p0 : JB Ps ws p1 p0 := Or.inl ⟨_, m_v_28, r_v_28.to (by decide)⟩
            subst hQ
            exact W.vret hx hb hr (fun t ht hW => ⟨⟨ws, rfl, ⟨⟨⟨_, m_v_30, r_v_30⟩, x_JB_p1_p0, trivial⟩, hw.1, hw.2.2.2.2.1⟩, by rw [ht]; exact hw.2.1, va_K.moved hW.alike hK, hw.2.2.1⟩, hw.2.2.2.1.F ht⟩) hw.2.2.2.1.2.2 dX0_readVerb_87
          · exact absurd c9_v_27 (by unfold RI at r_v_27; omega)
        · have r_vu_1 : RI vu_1 141 138 := rc_eq1 r_vu_1 rl_138 (ti_eq c_60) (by decide)
          exact (r_vu_1.no (by decide)).elim
      · have r_vu_1 : RI vu_1 141 137 := rc_eq1 r_vu_1 rl_137 (ti_eq c_36) (by decide)
        exact (r_vu_1.no (by decide)).elim
abbrev wr_X7_passOnly__1 : List (Nat × Nat) := []
abbrev wa_X7_passOnly__1 : List Nat := []
set_option maxHeartbeats 4000000 in
set_option maxRecDepth 100000 in
theorem c_X7_passOnly__1 (l : Launch) (D : va_G) (cy : Nat → ClassId) (z : Nat → Nat) (sz : Nat) (Ps : PSI) (w0 : va_W) (hT : HT cy GG Ps w0) (p0 : Nat) (p1 : Int32) (f0_10 : Int32) (h_p0 : (p0, 26) ∈ Ps) (r_p1 : RI p1 (-2147483648) 2147483647) (r_f0_10 : RI f0_10 1 4) (m_f0_10 : FLD w0 p0 7 10 (.int f0_10)) : Met l yX7_passOnly (Cond.code yX7_passOnly cX7_passOnly 2 none :: gT) ({ frames := 2, cells := 0, slots := 0, locals := 400 } : Room) (va_Pc [.ref p0, .int p1] (PRE D cy z w0 sz)) (va_Qv (fun (u : Unit) => True) (BB D cy (va_A w0 sz) (fun (u : Unit) => w0)) (va_A w0 sz)) 0 0 (va_A w0 sz) := by
  refine Met.ofW (cc := cX7_passOnly) (maxL := 2) (ret := none) (by decide) rfl ?_
  intro p e s m args below meth c s₁ B hml hv
  obtain ⟨rfl, hsz, hP, hK, hD0, hSD⟩ := hv
  have hx := B.exec
  have hb := B.bytes
  have hr := B.returns
  have hlocks := B.notSynchronized
  have hts : ∀ w ∈ gT, w.before _ s = true := fun w h => atoms_spec (ws := Cond.code yX7_passOnly cX7_passOnly 2 none :: gT) B.pre w (List.mem_cons_of_mem _ h)
  have hown : s.vm.findClass RX7 = some m.cls := findClass_of_methodNamed B.named
  subst hsz
  have hD := hD0.self (sz := s.heap.size)
  generalize hAe : va_A w0 s.heap.size = A at hD hSD ⊢
  have hA : ∀ q : Nat, s.heap.size ≤ q → A q := fun q h => by rw [← hAe]; exact Or.inr h
  have hl := lv_entry ([.ref p0, .int p1]) (n := 2) (Nat.le_of_ble_eq_true rfl)
  rw [lg_entry_eq]
  generalize (lg_sl ([.ref p0, .int p1]) ++ List.replicate (2 - (lg_sl ([.ref p0, .int p1])).length) Slot.unset).toArray = ls at hl ⊢
  have hl : lv_has ls 2 [(0, .ref p0), (1, .int p1)] := hl
  refine nameQ (fun Q hQ => ?_)
  have hw : WD D cy GG A s wr_X7_passOnly__1 wa_X7_passOnly__1 Ps w0 Ps w0 s.heap [] := ⟨hT, hP, hD, va_S.rf, FR.rf, hT.1, [], (List.append_nil _).symm⟩
  have B13 : ∀ (z0_10 : Int32) (H : Heap) (locs : List Loc) (ls : Array Slot), RI p1 (-2147483648) 2147483647 → RI z0_10 1 4 → FLD w0 p0 7 10 (.int z0_10) → WD D cy GG A s wr_X7_passOnly__1 wa_X7_passOnly__1 Ps w0 Ps w0 H locs → lv_has ls 2 [(0, .ref p0), (1, .int p1)] → W p l e (headSpec (Cond.code yX7_passOnly cX7_passOnly 2 none :: gT) ({ frames := 2, cells := 0, slots := 0, locals := 400 } : Room)).room s m ([.ref p0, .int p1] : List Value).toArray below meth c H locs 0 0 Q (F0 m 13 ls []) := by
    intro z0_10 H locs ls r_p1 r_z0_10 m_z0_10 hw hl
    refine lv_aload_n hx hb dX7_passOnly_13 rfl (lv_at hl 0 rfl) ?_
    refine tk_vr (va_runV (As := []) (rest := []) ⟨hx, hb, hml, hown, hts⟩ (c_X7_pass__1 l D cy z H.size Ps w0 hw.1 p0 z0_10 h_p0 r_z0_10 m_z0_10) (cwV 0 hts (gV tw_424 tw_425 tw_426 tw_2 tw_427) rfl rfl rfl (by decide +kernel) ⟨Nat.le_of_ble_eq_true rfl, Nat.le_of_ble_eq_true rfl⟩) (tg_preV hw hK hSD hA (ci := 7) (q := (RX7, TX7, 12)) rfl h_p0 rfl) rfl rfl hl.1 rfl (lv_room (Nat.le_of_ble_eq_true rfl)) dX7_passOnly_14 ⟨Nat.le_of_ble_eq_true rfl, Nat.le_of_ble_eq_true rfl⟩) hw hA (fun  H locs hp_v_1 hw => ?_)
    subst hQ
    exact W.vret hx hb hr (fun t ht hW => ⟨⟨(), rfl, trivial, by rw [ht]; exact hw.2.1, va_K.moved hW.alike hK, hw.2.2.1⟩, hw.2.2.2.1.F ht⟩) hw.2.2.2.1.2.2 dX7_passOnly_17
  refine lv_aload_n hx hb dX7_passOnly_0 rfl (lv_at hl 0 rfl) ?_
  refine tg_get (ci := 7) (ts := ty_TAPE) (C := RX7) (T := TX7) (N := 12) hx hb hts inX7 hown hK hw h_p0 rfl rfl 7 (by decide) (hts _ tw_98) (fun _ h9 => h9) (ft := vI (-2147483648) 2147483647) rfl dX7_passOnly_1 (fun u_2 hv_u_2 m_u_2 => ?_)
  obtain ⟨vu_2, rfl, r_vu_2⟩ := hv_u_2
  refine lv_iload_n hx hb dX7_passOnly_4 rfl (lv_at hl 1 rfl) ?_
  refine lv_icmp_eq (tgt := 13) hx hb dX7_passOnly_5 (by decide) (fun c_5 => ?_) (fun c_5 => ?_)
  · exact B13 f0_10 _ _ ls r_p1 r_f0_10 m_f0_10 hw hl
  · refine lv_aload_n hx hb dX7_passOnly_8 rfl (lv_at hl 0 rfl) ?_
    refine lv_iconst (v := 1) hx hb dX7_passOnly_9 (by decide) ?_
    refine tk_vr (va_runV (As := [.int 1]) (rest := []) ⟨hx, hb, hml, hown, hts⟩ (c_X7_refuse__1 l D cy z s.heap.size Ps w0 hw.1 p0 1 f0_10 h_p0 (rl_1.to (by decide)) r_f0_10 m_f0_10) (cwV 1 hts (gV tw_442 tw_443 tw_444 tw_2 tw_445) rfl rfl rfl (by decide +kernel) ⟨Nat.le_of_ble_eq_true rfl, Nat.le_of_ble_eq_true rfl⟩) (tg_preV hw hK hSD hA (ci := 7) (q := (RX7, TX7, 12)) rfl h_p0 rfl) rfl rfl hl.1 rfl (lv_room (Nat.le_of_ble_eq_true rfl)) dX7_passOnly_10 ⟨Nat.le_of_ble_eq_true rfl, Nat.le_of_ble_eq_true rfl⟩) hw hA (fun  H locs hp_v_3 hw => ?_)
    exact B13 f0_10 _ _ ls r_p1 r_f0_10 m_f0_10 hw hl
abbrev wr_X7_passOnly__2 : List (Nat × Nat) := [(7, 5), (7, 6), (7, 7), (7, 8), (7, 9), (7, 10), (7, 11)]
abbrev wa_X7_passOnly__2 : List Nat := []
set_option maxHeartbeats 4000000 in
set_option maxRecDepth 100000 in
theorem c_X7_passOnly__2 (l : Launch) (D : va_G) (cy : Nat → ClassId) (z : Nat → Nat) (sz : Nat) (Ps : PSI) (w0 : va_W) (hT : HT cy GG Ps w0) (p0 : Nat) (p1 : Int32) (h_p0 : (p0, 26) ∈ Ps) (r_p1 : RI p1 (-2147483648) 2147483647) : Met l yX7_passOnly (Cond.code yX7_passOnly cX7_passOnly 2 none :: gT) ({ frames := 3, cells := 0, slots := 0, locals := 600 } : Room) (va_Pc [.ref p0, .int p1] (PRE D cy z w0 sz)) (va_Qv (fun (u : va_W) => (True) ∧ HT cy GG Ps u ∧ FR wr_X7_passOnly__2 wa_X7_passOnly__2 Ps w0 u) (BB D cy (va_A w0 sz) (fun (u : va_W) => u)) (va_A w0 sz)) 0 0 (va_A w0 sz) := by
  refine Met.ofW (cc := cX7_passOnly) (maxL := 2) (ret := none) (by decide) rfl ?_
  intro p e s m args below meth c s₁ B hml hv
  obtain ⟨rfl, hsz, hP, hK, hD0, hSD⟩ := hv
  have hx := B.exec
  have hb := B.bytes
  have hr := B.returns
  have hlocks := B.notSynchronized
  have hts : ∀ w ∈ gT, w.before _ s = true := fun w h => atoms_spec (ws := Cond.code yX7_passOnly cX7_passOnly 2 none :: gT) B.pre w (List.mem_cons_of_mem _ h)
  have hown : s.vm.findClass RX7 = some m.cls := findClass_of_methodNamed B.named
  subst hsz
  have hD := hD0.self (sz := s.heap.size)
  generalize hAe : va_A w0 s.heap.size = A at hD hSD ⊢
  have hA : ∀ q : Nat, s.heap.size ≤ q → A q := fun q h => by rw [← hAe]; exact Or.inr h
  have hl := lv_entry ([.ref p0, .int p1]) (n := 2) (Nat.le_of_ble_eq_true rfl)
  rw [lg_entry_eq]
  generalize (lg_sl ([.ref p0, .int p1]) ++ List.replicate (2 - (lg_sl ([.ref p0, .int p1])).length) Slot.unset).toArray = ls at hl ⊢
  have hl : lv_has ls 2 [(0, .ref p0), (1, .int p1)] := hl
  refine nameQ (fun Q hQ => ?_)
  have hw : WD D cy GG A s wr_X7_passOnly__2 wa_X7_passOnly__2 Ps w0 Ps w0 s.heap [] := ⟨hT, hP, hD, va_S.rf, FR.rf, hT.1, [], (List.append_nil _).symm⟩
  have B13 : ∀ (ws : va_W) (H : Heap) (locs : List Loc) (ls : Array Slot), RI p1 (-2147483648) 2147483647 → WD D cy GG A s wr_X7_passOnly__2 wa_X7_passOnly__2 Ps w0 Ps ws H locs → lv_has ls 2 [(0, .ref p0), (1, .int p1)] → W p l e (headSpec (Cond.code yX7_passOnly cX7_passOnly 2 none :: gT) ({ frames := 3, cells := 0, slots := 0, locals := 600 } : Room)).room s m ([.ref p0, .int p1] : List Value).toArray below meth c H locs 0 0 Q (F0 m 13 ls []) := by
    intro  ws H locs ls r_p1 hw hl
    refine lv_aload_n hx hb dX7_passOnly_13 rfl (lv_at hl 0 rfl) ?_
    refine tk_v (va_runV (As := []) (rest := []) ⟨hx, hb, hml, hown, hts⟩ (c_X7_pass__2 l D cy z H.size Ps ws hw.1 p0 h_p0) (cwV 0 hts (gV tw_424 tw_425 tw_426 tw_2 tw_427) rfl rfl rfl (by decide +kernel) ⟨Nat.le_of_ble_eq_true rfl, Nat.le_of_ble_eq_true rfl⟩) (tg_preV hw hK hSD hA (ci := 7) (q := (RX7, TX7, 12)) rfl h_p0 rfl) rfl rfl hl.1 rfl (lv_room (Nat.le_of_ble_eq_true rfl)) dX7_passOnly_14 ⟨Nat.le_of_ble_eq_true rfl, Nat.le_of_ble_eq_true rfl⟩) hw hA ⟨by decide, by decide⟩ (fun ws H locs hp_v_1 hw hF9 => ?_)
    subst hQ
    exact W.vret hx hb hr (fun t ht hW => ⟨⟨ws, rfl, ⟨trivial, hw.1, hw.2.2.2.2.1⟩, by rw [ht]; exact hw.2.1, va_K.moved hW.alike hK, hw.2.2.1⟩, hw.2.2.2.1.F ht⟩) hw.2.2.2.1.2.2 dX7_passOnly_17
  refine lv_aload_n hx hb dX7_passOnly_0 rfl (lv_at hl 0 rfl) ?_
  refine tg_get (ci := 7) (ts := ty_TAPE) (C := RX7) (T := TX7) (N := 12) hx hb hts inX7 hown hK hw h_p0 rfl rfl 7 (by decide) (hts _ tw_98) (fun _ h9 => h9) (ft := vI (-2147483648) 2147483647) rfl dX7_passOnly_1 (fun u_2 hv_u_2 m_u_2 => ?_)
  obtain ⟨vu_2, rfl, r_vu_2⟩ := hv_u_2
  refine lv_iload_n hx hb dX7_passOnly_4 rfl (lv_at hl 1 rfl) ?_
  refine lv_icmp_eq (tgt := 13) hx hb dX7_passOnly_5 (by decide) (fun c_5 => ?_) (fun c_5 => ?_)
  · exact B13  w0 _ _ ls r_p1 hw hl
  · refine lv_aload_n hx hb dX7_passOnly_8 rfl (lv_at hl 0 rfl) ?_
    refine lv_iconst (v := 1) hx hb dX7_passOnly_9 (by decide) ?_
    refine tk_v (va_runV (As := [.int 1]) (rest := []) ⟨hx, hb, hml, hown, hts⟩ (c_X7_refuse__2 l D cy z s.heap.size Ps w0 hw.1 p0 1 h_p0 (rl_1.to (by decide))) (cwV 1 hts (gV tw_442 tw_443 tw_444 tw_2 tw_445) rfl rfl rfl (by decide +kernel) ⟨Nat.le_of_ble_eq_true rfl, Nat.le_of_ble_eq_true rfl⟩) (tg_preV hw hK hSD hA (ci := 7) (q := (RX7, TX7, 12)) rfl h_p0 rfl) rfl rfl hl.1 rfl (lv_room (Nat.le_of_ble_eq_true rfl)) dX7_passOnly_10 ⟨Nat.le_of_ble_eq_true rfl, Nat.le_of_ble_eq_true rfl⟩) hw hA ⟨by decide, by decide⟩ (fun ws H locs hp_v_3 hw hF9 => ?_)
    have m_u_2 := FLD.over hF9 m_u_2 (by decide)
    obtain ⟨v_4, m_v_4, r_v_4⟩ := (hp_v_3.1)
    exact B13  ws _ _ ls r_p1 hw hl
abbrev wr_X0_beginsLine__4 : List (Nat × Nat) := [(7, 10), (7, 11)]
abbrev wa_X0_beginsLine__4 : List Nat := []
set_option maxHeartbeats 4000000 in
set_option maxRecDepth 100000 in
theorem c_X0_beginsLine__4 (l : Launch) (D : va_G) (cy : Nat → ClassId) (z : Nat → Nat) (sz : Nat) (Ps : PSI) (w0 : va_W) (hT : HT cy GG Ps w0) (p0 : Nat) (p1 : Nat) (p2 : Int32) (f1_10 : Int32) (h_p0 : (p0, 31) ∈ Ps) (h_p1 : (p1, 26) ∈ Ps) (r_p2 : RI p2 3 140) (r_f1_10 : RI f1_10 0 0) (m_f1_10 : FLD w0 p1 7 10 (.int f1_10)) : Met l yX0_beginsLine (Cond.code yX0_beginsLine cX0_beginsLine 3 (some .boolean) :: gT) ({ frames := 2, cells := 0, slots := 0, locals := 400 } : Room) (va_Pc [.ref p0, .ref p1, .int p2] (PRE D cy z w0 sz)) (va_Qi (fun (r : Int32) (u : va_W) => (RI r 0 0 ∧ (r = 0 → (∃ v9 : Int32, FLD u p1 7 10 (.int v9) ∧ RI v9 1 4) ∧ True) ∧ (¬ r = 0 → True)) ∧ HT cy GG Ps u ∧ FR wr_X0_beginsLine__4 wa_X0_beginsLine__4 Ps w0 u) (BB D cy (va_A w0 sz) (fun (u : va_W) => u)) (va_A w0 sz)) 0 0 (va_A w0 sz) := by
  refine Met.ofW (cc := cX0_beginsLine) (maxL := 3) (ret := (some .boolean)) (by decide) rfl ?_
  intro p e s m args below meth c s₁ B hml hv
  obtain ⟨rfl, hsz, hP, hK, hD0, hSD⟩ := hv
  have hx := B.exec
  have hb := B.bytes
  have hr := B.returns
  have hlocks := B.notSynchronized
  have hts : ∀ w ∈ gT, w.before _ s = true := fun w h => atoms_spec (ws := Cond.code yX0_beginsLine cX0_beginsLine 3 (some .boolean) :: gT) B.pre w (List.mem_cons_of_mem _ h)
  have hown : s.vm.findClass RX0 = some m.cls := findClass_of_methodNamed B.named
  subst hsz
  have hD := hD0.self (sz := s.heap.size)
  generalize hAe : va_A w0 s.heap.size = A at hD hSD ⊢
  have hA : ∀ q : Nat, s.heap.size ≤ q → A q := fun q h => by rw [← hAe]; exact Or.inr h
  have hl := lv_entry ([.ref p0, .ref p1, .int p2]) (n := 3) (Nat.le_of_ble_eq_true rfl)
  rw [lg_entry_eq]
  generalize (lg_sl ([.ref p0, .ref p1, .int p2]) ++ List.replicate (3 - (lg_sl ([.ref p0, .ref p1, .int p2])).length) Slot.unset).toArray = ls at hl ⊢
  have hl : lv_has ls 3 [(0, .ref p0), (1, .ref p1), (2, .int p2)] := hl
  refine nameQ (fun Q hQ => ?_)
  have hw : WD D cy GG A s wr_X0_beginsLine__4 wa_X0_beginsLine__4 Ps w0 Ps w0 s.heap [] := ⟨hT, hP, hD, va_S.rf, FR.rf, hT.1, [], (List.append_nil _).symm⟩
  refine lv_iload_n hx hb dX0_beginsLine_0 rfl (lv_at hl 2 rfl) ?_
  refine lv_iconst (v := 2) hx hb dX0_beginsLine_1 (by decide) ?_
  refine lv_icmp_eq (tgt := 27) hx hb dX0_beginsLine_2 (by decide) (fun c_2 => ?_) (fun c_2 => ?_)
  · have r_p2 : RI p2 3 2 := rc_eq1 r_p2 rl_2 (ti_eq c_2) (by decide)
    exact (r_p2.no (by decide)).elim
  · refine lv_iload_n hx hb dX0_beginsLine_5 rfl (lv_at hl 2 rfl) ?_
    refine lv_sipush (v := 141) hx hb dX0_beginsLine_6 (by decide) ?_
    refine lv_icmp_lt (tgt := 19) hx hb dX0_beginsLine_9 (by decide) (fun c_9 => ?_) (fun c_9 => ?_)
    · refine lv_aload_n hx hb dX0_beginsLine_19 rfl (lv_at hl 1 rfl) ?_
      refine lv_iconst (v := 1) hx hb dX0_beginsLine_20 (by decide) ?_
      refine tk_v (va_runV (As := [.int 1]) (rest := []) ⟨hx, hb, hml, hown, hts⟩ (c_X7_refuse__3 l D cy z s.heap.size Ps w0 hw.1 p1 1 f1_10 h_p1 (rl_1.to (by decide)) r_f1_10 m_f1_10) (cwV 1 hts (gV tw_897 tw_443 tw_444 tw_2 tw_445) rfl rfl rfl (by decide +kernel) ⟨Nat.le_of_ble_eq_true rfl, Nat.le_of_ble_eq_true rfl⟩) (tg_preV hw hK hSD hA (ci := 7) (q := (RX7, TX7, 12)) rfl h_p1 rfl) rfl rfl hl.1 rfl (lv_room (Nat.le_of_ble_eq_true rfl)) dX0_beginsLine_21 ⟨Nat.le_of_ble_eq_true rfl, Nat.le_of_ble_eq_true rfl⟩) hw hA ⟨by decide, by decide⟩ (fun ws H locs hp_v_1 hw hF9 => ?_)
      obtain ⟨v_2, m_v_2, r_v_2⟩ := (hp_v_1.1)
      refine lv_goto (tgt := 41) hx hb dX0_beginsLine_24 (by decide) ?_
      refine lv_aload_n hx hb dX0_beginsLine_41 rfl (lv_at hl 1 rfl) ?_
      refine tk_vr (va_runV (As := []) (rest := []) ⟨hx, hb, hml, hown, hts⟩ (c_X7_pass__1 l D cy z H.size Ps ws hw.1 p1 v_2 h_p1 r_v_2 m_v_2) (cwV 0 hts (gV tw_898 tw_425 tw_426 tw_2 tw_427) rfl rfl rfl (by decide +kernel) ⟨Nat.le_of_ble_eq_true rfl, Nat.le_of_ble_eq_true rfl⟩) (tg_preV hw hK hSD hA (ci := 7) (q := (RX7, TX7, 12)) rfl h_p1 rfl) rfl rfl hl.1 rfl (lv_room (Nat.le_of_ble_eq_true rfl)) dX0_beginsLine_42 ⟨Nat.le_of_ble_eq_true rfl, Nat.le_of_ble_eq_true rfl⟩) hw hA (fun  H locs hp_v_3 hw => ?_)
      refine lv_aload_n hx hb dX0_beginsLine_45 rfl (lv_at hl 1 rfl) ?_
      refine tg_memN (ci := 7) (C := RX7) (T := TX7) (N := 12) hx hb hts inX7 hown hK hw 10 m_v_2 rfl (by decide) (hSD.nest tn_102) (fun _ h9 => h9) dX0_beginsLine_46 ?_
      refine lv_if_ne (tgt := 56) hx hb dX0_beginsLine_49 (by decide) (fun c_49 => ?_) (fun c_49 => ?_)
      · refine lv_iconst (v := 0) hx hb dX0_beginsLine_56 (by decide) ?_
        subst hQ
        exact W.zret (v := 0) hx hb hr (rfl) (fun t ht hW => ⟨⟨0, ws, rfl, ⟨⟨rl_0.to (by decide), (fun h0 => ⟨⟨_, m_v_2, r_v_2⟩, trivial⟩), (fun _ => trivial)⟩, hw.1, hw.2.2.2.2.1⟩, by rw [ht]; exact hw.2.1, va_K.moved hW.alike hK, hw.2.2.1⟩, hw.2.2.2.1.F ht⟩) hw.2.2.2.1.2.2 dX0_beginsLine_57
      · have r_v_2 : RI v_2 1 0 := rc_eq1 r_v_2 rl_0 (ti_eq c_49) (by decide)
        exact (r_v_2.no (by decide)).elim
    · have r_p2 : RI p2 141 140 := rc_le2 rl_141 r_p2 (ti_nlt c_9) (by decide)
      exact (r_p2.no (by decide)).elim
abbrev wr_X7_pass__3 : List (Nat × Nat) := [(7, 5), (7, 6), (7, 7), (7, 8), (7, 9)]
abbrev wa_X7_pass__3 : List Nat := []
set_option maxHeartbeats 4000000 in
set_option maxRecDepth 100000 in
theorem c_X7_pass__3 (l : Launch) (D : va_G) (cy : Nat → ClassId) (z : Nat → Nat) (sz : Nat) (Ps : PSI) (w0 : va_W) (hT : HT cy GG Ps w0) (p0 : Nat) (f0_10 : Int32) (h_p0 : (p0, 26) ∈ Ps) (r_f0_10 : RI f0_10 0 0) (m_f0_10 : FLD w0 p0 7 10 (.int f0_10)) : Met l yX7_pass (Cond.code yX7_pass cX7_pass 2 none :: gT) ({ frames := 2, cells := 0, slots := 0, locals := 400 } : Room) (va_Pc [.ref p0] (PRE D cy z w0 sz)) (va_Qv (fun (u : va_W) => ((∃ v9 : Int32, FLD u p0 7 10 (.int v9) ∧ RI v9 0 0) ∧ True) ∧ HT cy GG Ps u ∧ FR wr_X7_pass__3 wa_X7_pass__3 Ps w0 u) (BB D cy (va_A w0 sz) (fun (u : va_W) => u)) (va_A w0 sz)) 0 0 (va_A w0 sz) := by
  refine Met.ofW (cc := cX7_pass) (maxL := 2) (ret := none) (by decide) rfl ?_
  intro p e s m args below meth c s₁ B hml hv
  obtain ⟨rfl, hsz, hP, hK, hD0, hSD⟩ := hv
  have hx := B.exec
  have hb := B.bytes
  have hr := B.returns
  have hlocks := B.notSynchronized
  have hts : ∀ w ∈ gT, w.before _ s = true := fun w h => atoms_spec (ws := Cond.code yX7_pass cX7_pass 2 none :: gT) B.pre w (List.mem_cons_of_mem _ h)
  have hown : s.vm.findClass RX7 = some m.cls := findClass_of_methodNamed B.named
  subst hsz
  have hD := hD0.self (sz := s.heap.size)
  generalize hAe : va_A w0 s.heap.size = A at hD hSD ⊢
  have hA : ∀ q : Nat, s.heap.size ≤ q → A q := fun q h => by rw [← hAe]; exact Or.inr h
  have hl := lv_entry ([.ref p0]) (n := 2) (Nat.le_of_ble_eq_true rfl)
  rw [lg_entry_eq]
  generalize (lg_sl ([.ref p0]) ++ List.replicate (2 - (lg_sl ([.ref p0])).length) Slot.unset).toArray = ls at hl ⊢
  have hl : lv_has ls 2 [(0, .ref p0)] := hl
  refine nameQ (fun Q hQ => ?_)
  have hw : WD D cy GG A s wr_X7_pass__3 wa_X7_pass__3 Ps w0 Ps w0 s.heap [] := ⟨hT, hP, hD, va_S.rf, FR.rf, hT.1, [], (List.append_nil _).symm⟩
  have B142 : ∀ (x1 : Int32) (y0 : Int32) (z0_3 : Int32) (z0_5 : Int32) (z0_6 : Int32) (z0_10 : Int32) (ws : va_W) (H : Heap) (locs : List Loc) (ls : Array Slot), RI x1 (-128) 127 → RI y0 1 62 → RI z0_3 1 940 → FLD ws p0 7 3 (.int z0_3) → RI z0_5 0 939 → FLD ws p0 7 5 (.int z0_5) → RI z0_6 0 939 → FLD ws p0 7 6 (.int z0_6) → RI z0_10 0 0 → FLD ws p0 7 10 (.int z0_10) → WD D cy GG A s wr_X7_pass__3 wa_X7_pass__3 Ps w0 Ps ws H locs → lv_has ls 2 [(0, .ref p0), (1, .int x1)] → W p l e (headSpec (Cond.code yX7_pass cX7_pass 2 none :: gT) ({ frames := 2, cells := 0, slots := 0, locals := 400 } : Room)).room s m ([.ref p0] : List Value).toArray below meth c H locs 0 0 Q (F0 m 142 ls [.int y0, .ref p0]) := by
    intro x1 y0 z0_3 z0_5 z0_6 z0_10 ws H locs ls r_x1 r_y0 r_z0_3 m_z0_3 r_z0_5 m_z0_5 r_z0_6 m_z0_6 r_z0_10 m_z0_10 hw hl
    refine tg_put (ci := 7) (ts := ty_TAPE) (v := .int y0) (ty := .int) (C := RX7) (T := TX7) (N := 12) hx hb hts inX7 tyX7 tyX7_ok nmX7 hown hK hw h_p0 rfl rfl 7 (by decide) (hts _ tw_98) (fun _ h9 => h9) rfl (by decide +kernel) rfl rfl (ft := vI (-2147483648) 2147483647) rfl ⟨_, rfl, (r_y0.to (by decide))⟩ (by decide) dX7_pass_142 (fun ws H locs hw n_k_1 hF9 => ?_)
    have m_z0_3 := FLD.over hF9 m_z0_3 (by decide)
    have m_z0_5 := FLD.over hF9 m_z0_5 (by decide)
    have m_z0_6 := FLD.over hF9 m_z0_6 (by decide)
    have m_z0_10 := FLD.over hF9 m_z0_10 (by decide)
    refine lv_aload_n hx hb dX7_pass_145 rfl (lv_at hl 0 rfl) ?_
    refine lv_dup hx hb dX7_pass_146 rfl ?_
    refine tg_mem (ci := 7) (C := RX7) (T := TX7) (N := 12) hx hb hts inX7 hown hK hw 6 m_z0_6 rfl (by decide) (hts _ tw_94) (fun _ h9 => h9) dX7_pass_147 ?_
    refine lv_iconst (v := 1) hx hb dX7_pass_150 (by decide) ?_
    refine lv_iadd hx hb dX7_pass_151 (lv_topi (fun v_2 e_v_2 => ?_))
    obtain ⟨t_v_2, r_v_2⟩ := tq_add (lo := 1) (hi := 940) r_z0_6 rl_1 (by decide +kernel) e_v_2
    have t_v_2 : v_2.toInt = z0_6.toInt + 1 := t_v_2
    refine tg_put (ci := 7) (ts := ty_TAPE) (v := .int v_2) (ty := .int) (C := RX7) (T := TX7) (N := 12) hx hb hts inX7 tyX7 tyX7_ok nmX7 hown hK hw h_p0 rfl rfl 6 (by decide) (hts _ tw_94) (fun _ h9 => h9) rfl (by decide +kernel) rfl rfl (ft := vI 0 940) rfl ⟨_, rfl, (r_v_2.to (by decide))⟩ (by decide) dX7_pass_152 (fun ws H locs hw n_k_3 hF9 => ?_)
    have m_z0_3 := FLD.over hF9 m_z0_3 (by decide)
    have m_z0_5 := FLD.over hF9 m_z0_5 (by decide)
    have m_z0_10 := FLD.over hF9 m_z0_10 (by decide)
    have n_k_1 := FLD.over hF9 n_k_1 (by decide)
    subst hQ
    exact W.vret hx hb hr (fun t ht hW => ⟨⟨ws, rfl, ⟨⟨⟨_, m_z0_10, r_z0_10⟩, trivial⟩, hw.1, hw.2.2.2.2.1⟩, by rw [ht]; exact hw.2.1, va_K.moved hW.alike hK, hw.2.2.1⟩, hw.2.2.2.1.F ht⟩) hw.2.2.2.1.2.2 dX7_pass_155
  have B129 : ∀ (x1 : Int32) (z0_3 : Int32) (z0_5 : Int32) (z0_6 : Int32) (z0_10 : Int32) (ws : va_W) (H : Heap) (locs : List Loc) (ls : Array Slot), RI x1 (-128) 127 → RI z0_3 1 940 → FLD ws p0 7 3 (.int z0_3) → RI z0_5 0 939 → FLD ws p0 7 5 (.int z0_5) → RI z0_6 0 939 → FLD ws p0 7 6 (.int z0_6) → RI z0_10 0 0 → FLD ws p0 7 10 (.int z0_10) → WD D cy GG A s wr_X7_pass__3 wa_X7_pass__3 Ps w0 Ps ws H locs → lv_has ls 2 [(0, .ref p0), (1, .int x1)] → W p l e (headSpec (Cond.code yX7_pass cX7_pass 2 none :: gT) ({ frames := 2, cells := 0, slots := 0, locals := 400 } : Room)).room s m ([.ref p0] : List Value).toArray below meth c H locs 0 0 Q (F0 m 129 ls []) := by
    intro x1 z0_3 z0_5 z0_6 z0_10 ws H locs ls r_x1 r_z0_3 m_z0_3 r_z0_5 m_z0_5 r_z0_6 m_z0_6 r_z0_10 m_z0_10 hw hl
    refine lv_aload_n hx hb dX7_pass_129 rfl (lv_at hl 0 rfl) ?_
    refine lv_iload_n hx hb dX7_pass_130 rfl (lv_at hl 1 rfl) ?_
    refine tk_ir (va_runS (As := [.int x1]) (rest := [.ref p0]) ⟨hx, hb, hml, hown, hts⟩ (c_X7_isSign l D cy z H.size Ps ws hw.1 x1 (r_x1.to (by decide))) (va_cwS 1 hts (gS tw_435 tw_436 tw_2 tw_437) rfl rfl rfl (by decide +kernel) ⟨Nat.le_of_ble_eq_true rfl, Nat.le_of_ble_eq_true rfl⟩) (tg_preS hw hK hSD hA) rfl rfl hl.1 rfl (lv_room (Nat.le_of_ble_eq_true rfl)) dX7_pass_131 ⟨Nat.le_of_ble_eq_true rfl, Nat.le_of_ble_eq_true rfl⟩) hw hA (fun v_4  H locs hp_v_4 hw => ?_)
    have r_v_4 : RI v_4 0 1 := hp_v_4.1
    refine lv_if_eq (tgt := 141) hx hb dX7_pass_134 (by decide) (fun c_134 => ?_) (fun c_134 => ?_)
    · have r_v_4 : RI v_4 0 0 := rc_eq1 r_v_4 rl_0 (ti_eq c_134) (by decide)
      refine lv_iconst (v := 1) hx hb dX7_pass_141 (by decide) ?_
      exact B142 x1 1 z0_3 z0_5 z0_6 z0_10 ws _ _ ls r_x1 (rl_1.to (by decide)) r_z0_3 m_z0_3 r_z0_5 m_z0_5 r_z0_6 m_z0_6 r_z0_10 m_z0_10 hw hl
    · have r_v_4 : RI v_4 1 1 := rc_neL r_v_4 rl_0 (ti_ne c_134) (by decide)
      have r_x1 : RI x1 40 62 := ((hp_v_4.2.2 c_134).1)
      refine lv_iload_n hx hb dX7_pass_137 rfl (lv_at hl 1 rfl) ?_
      refine lv_goto (tgt := 142) hx hb dX7_pass_138 (by decide) ?_
      exact B142 x1 x1 z0_3 z0_5 z0_6 z0_10 ws _ _ ls (r_x1.to (by decide)) (r_x1.to (by decide)) r_z0_3 m_z0_3 r_z0_5 m_z0_5 r_z0_6 m_z0_6 r_z0_10 m_z0_10 hw hl
  have B122 : ∀ (x1 : Int32) (z0_3 : Int32) (z0_5 : Int32) (z0_6 : Int32) (z0_10 : Int32) (ws : va_W) (H : Heap) (locs : List Loc) (ls : Array Slot), RI x1 48 122 → RI z0_3 1 940 → FLD ws p0 7 3 (.int z0_3) → RI z0_5 0 939 → FLD ws p0 7 5 (.int z0_5) → RI z0_6 0 939 → FLD ws p0 7 6 (.int z0_6) → RI z0_10 0 0 → FLD ws p0 7 10 (.int z0_10) → WD D cy GG A s wr_X7_pass__3 wa_X7_pass__3 Ps w0 Ps ws H locs → lv_has ls 2 [(0, .ref p0), (1, .int x1)] → W p l e (headSpec (Cond.code yX7_pass cX7_pass 2 none :: gT) ({ frames := 2, cells := 0, slots := 0, locals := 400 } : Room)).room s m ([.ref p0] : List Value).toArray below meth c H locs 0 0 Q (F0 m 122 ls []) := by
    intro x1 z0_3 z0_5 z0_6 z0_10 ws H locs ls r_x1 r_z0_3 m_z0_3 r_z0_5 m_z0_5 r_z0_6 m_z0_6 r_z0_10 m_z0_10 hw hl
    refine lv_aload_n hx hb dX7_pass_122 rfl (lv_at hl 0 rfl) ?_
    refine tk_v (va_runV (As := []) (rest := []) ⟨hx, hb, hml, hown, hts⟩ (c_X7_readRun l D cy z H.size Ps ws hw.1 p0 h_p0) (cwV 0 hts (gV tw_431 tw_433 ts_0 tw_2 tw_434) rfl rfl rfl (by decide +kernel) ⟨Nat.le_of_ble_eq_true rfl, Nat.le_of_ble_eq_true rfl⟩) (tg_preV hw hK hSD hA (ci := 7) (q := (RX7, TX7, 12)) rfl h_p0 rfl) rfl rfl hl.1 rfl (lv_room (Nat.le_of_ble_eq_true rfl)) dX7_pass_123 ⟨Nat.le_of_ble_eq_true rfl, Nat.le_of_ble_eq_true rfl⟩) hw hA ⟨by decide, by decide⟩ (fun ws H locs hp_v_5 hw hF9 => ?_)
    have m_z0_3 := FLD.over hF9 m_z0_3 (by decide)
    have m_z0_5 := FLD.over hF9 m_z0_5 (by decide)
    have m_z0_10 := FLD.over hF9 m_z0_10 (by decide)
    refine lv_goto (tgt := 155) hx hb dX7_pass_126 (by decide) ?_
    subst hQ
    exact W.vret hx hb hr (fun t ht hW => ⟨⟨ws, rfl, ⟨⟨⟨_, m_z0_10, r_z0_10⟩, trivial⟩, hw.1, hw.2.2.2.2.1⟩, by rw [ht]; exact hw.2.1, va_K.moved hW.alike hK, hw.2.2.1⟩, hw.2.2.2.1.F ht⟩) hw.2.2.2.1.2.2 dX7_pass_155
  have B110 : ∀ (x1 : Int32) (z0_3 : Int32) (z0_5 : Int32) (z0_6 : Int32) (z0_10 : Int32) (ws : va_W) (H : Heap) (locs : List Loc) (ls : Array Slot), RI x1 (-128) 127 → RI z0_3 1 940 → FLD ws p0 7 3 (.int z0_3) → RI z0_5 0 939 → FLD ws p0 7 5 (.int z0_5) → RI z0_6 0 939 → FLD ws p0 7 6 (.int z0_6) → RI z0_10 0 0 → FLD ws p0 7 10 (.int z0_10) → WD D cy GG A s wr_X7_pass__3 wa_X7_pass__3 Ps w0 Ps ws H locs → lv_has ls 2 [(0, .ref p0), (1, .int x1)] → W p l e (headSpec (Cond.code yX7_pass cX7_pass 2 none :: gT) ({ frames := 2, cells := 0, slots := 0, locals := 400 } : Room)).room s m ([.ref p0] : List Value).toArray below meth c H locs 0 0 Q (F0 m 110 ls []) := by
    intro x1 z0_3 z0_5 z0_6 z0_10 ws H locs ls r_x1 r_z0_3 m_z0_3 r_z0_5 m_z0_5 r_z0_6 m_z0_6 r_z0_10 m_z0_10 hw hl
    refine lv_iload_n hx hb dX7_pass_110 rfl (lv_at hl 1 rfl) ?_
    refine lv_bipush (v := 48) hx hb dX7_pass_111 (by decide) ?_
    refine lv_icmp_lt (tgt := 129) hx hb dX7_pass_113 (by decide) (fun c_113 => ?_) (fun c_113 => ?_)
    · have r_x1 : RI x1 (-128) 47 := rc_lt1 r_x1 rl_48 (ti_lt c_113) (by decide)
      exact B129 x1 z0_3 z0_5 z0_6 z0_10 ws _ _ ls (r_x1.to (by decide)) r_z0_3 m_z0_3 r_z0_5 m_z0_5 r_z0_6 m_z0_6 r_z0_10 m_z0_10 hw hl
    · have r_x1 : RI x1 48 127 := rc_le2 rl_48 r_x1 (ti_nlt c_113) (by decide)
      refine lv_iload_n hx hb dX7_pass_116 rfl (lv_at hl 1 rfl) ?_
      refine lv_bipush (v := 57) hx hb dX7_pass_117 (by decide) ?_
      refine lv_icmp_gt (tgt := 129) hx hb dX7_pass_119 (by decide) (fun c_119 => ?_) (fun c_119 => ?_)
      · have r_x1 : RI x1 58 127 := rc_lt2 rl_57 r_x1 (ti_lt c_119) (by decide)
        exact B129 x1 z0_3 z0_5 z0_6 z0_10 ws _ _ ls (r_x1.to (by decide)) r_z0_3 m_z0_3 r_z0_5 m_z0_5 r_z0_6 m_z0_6 r_z0_10 m_z0_10 hw hl
      · have r_x1 : RI x1 48 57 := rc_le1 r_x1 rl_57 (ti_nlt c_119) (by decide)
        exact B122 x1 z0_3 z0_5 z0_6 z0_10 ws _ _ ls (r_x1.to (by decide)) r_z0_3 m_z0_3 r_z0_5 m_z0_5 r_z0_6 m_z0_6 r_z0_10 m_z0_10 hw hl
  have B55 : ∀ (z0_5 : Int32) (z0_10 : Int32) (ws : va_W) (H : Heap) (locs : List Loc) (ls : Array Slot), RI z0_5 0 940 → FLD ws p0 7 5 (.int z0_5) → RI z0_10 0 0 → FLD ws p0 7 10 (.int z0_10) → WD D cy GG A s wr_X7_pass__3 wa_X7_pass__3 Ps w0 Ps ws H locs → lv_has ls 2 [(0, .ref p0)] → W p l e (headSpec (Cond.code yX7_pass cX7_pass 2 none :: gT) ({ frames := 2, cells := 0, slots := 0, locals := 400 } : Room)).room s m ([.ref p0] : List Value).toArray below meth c H locs 0 0 Q (F0 m 55 ls []) := by
    intro z0_5 z0_10 ws H locs ls r_z0_5 m_z0_5 r_z0_10 m_z0_10 hw hl
    refine lv_aload_n hx hb dX7_pass_55 rfl (lv_at hl 0 rfl) ?_
    refine tg_mem (ci := 7) (C := RX7) (T := TX7) (N := 12) hx hb hts inX7 hown hK hw 5 m_z0_5 rfl (by decide) (hts _ tw_93) (fun _ h9 => h9) dX7_pass_56 ?_
    refine lv_aload_n hx hb dX7_pass_59 rfl (lv_at hl 0 rfl) ?_
    refine tg_get (ci := 7) (ts := ty_TAPE) (C := RX7) (T := TX7) (N := 12) hx hb hts inX7 hown hK hw h_p0 rfl rfl 3 (by decide) (hts _ tw_91) (fun _ h9 => h9) (ft := vI 0 940) rfl dX7_pass_60 (fun u_6 hv_u_6 m_u_6 => ?_)
    obtain ⟨vu_6, rfl, r_vu_6⟩ := hv_u_6
    refine lv_icmp_lt (tgt := 80) hx hb dX7_pass_63 (by decide) (fun c_63 => ?_) (fun c_63 => ?_)
    · have r_z0_5 : RI z0_5 0 939 := rc_lt1 r_z0_5 r_vu_6 (ti_lt c_63) (by decide)
      have r_vu_6 : RI vu_6 1 940 := rc_lt2 r_z0_5 r_vu_6 (ti_lt c_63) (by decide)
      refine lv_aload_n hx hb dX7_pass_80 rfl (lv_at hl 0 rfl) ?_
      refine tg_get (ci := 7) (ts := ty_TAPE) (C := RX7) (T := TX7) (N := 12) hx hb hts inX7 hown hK hw h_p0 rfl rfl 0 (by decide) (hts _ tw_87) (fun _ h9 => h9) (ft := vR 2) rfl dX7_pass_81 (fun u_7 hv_u_7 m_u_7 => ?_)
      obtain ⟨vu_7, rfl, h_vu_7⟩ := hv_u_7
      refine lv_aload_n hx hb dX7_pass_84 rfl (lv_at hl 0 rfl) ?_
      refine tg_mem (ci := 7) (C := RX7) (T := TX7) (N := 12) hx hb hts inX7 hown hK hw 5 m_z0_5 rfl (by decide) (hts _ tw_93) (fun _ h9 => h9) dX7_pass_85 ?_
      refine tg_bald (lo := (-128)) (hi := 127) hx hb hK hw h_vu_7 rfl 0 939 r_z0_5 (by decide) (by exact fun _ _ _ => ⟨Int.le_refl _, Int.le_refl _⟩) dX7_pass_88 (fun v_8 r_v_8 => ?_)
      refine lv_istore_n (lv' := [(1, .int v_8), (0, .ref p0)]) hx hb dX7_pass_89 rfl hl (by decide) rfl (fun ls hl => ?_)
      refine lv_aload_n hx hb dX7_pass_90 rfl (lv_at hl 1 rfl) ?_
      refine lv_aload_n hx hb dX7_pass_91 rfl (lv_at hl 1 rfl) ?_
      refine tg_mem (ci := 7) (C := RX7) (T := TX7) (N := 12) hx hb hts inX7 hown hK hw 5 m_z0_5 rfl (by decide) (hts _ tw_93) (fun _ h9 => h9) dX7_pass_92 ?_
      refine tg_put (ci := 7) (ts := ty_TAPE) (v := .int z0_5) (ty := .int) (C := RX7) (T := TX7) (N := 12) hx hb hts inX7 tyX7 tyX7_ok nmX7 hown hK hw h_p0 rfl rfl 6 (by decide) (hts _ tw_94) (fun _ h9 => h9) rfl (by decide +kernel) rfl rfl (ft := vI 0 940) rfl ⟨_, rfl, (r_z0_5.to (by decide))⟩ (by decide) dX7_pass_95 (fun ws H locs hw n_k_9 hF9 => ?_)
      have m_z0_5 := FLD.over hF9 m_z0_5 (by decide)
      have m_z0_10 := FLD.over hF9 m_z0_10 (by decide)
      have m_u_6 := FLD.over hF9 m_u_6 (by decide)
      refine lv_iload_n hx hb dX7_pass_98 rfl (lv_at hl 0 rfl) ?_
      refine lv_bipush (v := 97) hx hb dX7_pass_99 (by decide) ?_
      refine lv_icmp_lt (tgt := 110) hx hb dX7_pass_101 (by decide) (fun c_101 => ?_) (fun c_101 => ?_)
      · have r_v_8 : RI v_8 (-128) 96 := rc_lt1 r_v_8 rl_97 (ti_lt c_101) (by decide)
        exact B110 v_8 vu_6 z0_5 z0_5 z0_10 ws _ _ ls (r_v_8.to (by decide)) r_vu_6 m_u_6 r_z0_5 m_z0_5 r_z0_5 n_k_9 r_z0_10 m_z0_10 hw (lv_sub hl [1, 0] rfl)
      · have r_v_8 : RI v_8 97 127 := rc_le2 rl_97 r_v_8 (ti_nlt c_101) (by decide)
        refine lv_iload_n hx hb dX7_pass_104 rfl (lv_at hl 0 rfl) ?_
        refine lv_bipush (v := 122) hx hb dX7_pass_105 (by decide) ?_
        refine lv_icmp_le (tgt := 122) hx hb dX7_pass_107 (by decide) (fun c_107 => ?_) (fun c_107 => ?_)
        · have r_v_8 : RI v_8 97 122 := rc_le1 r_v_8 rl_122 (ti_le c_107) (by decide)
          exact B122 v_8 vu_6 z0_5 z0_5 z0_10 ws _ _ ls (r_v_8.to (by decide)) r_vu_6 m_u_6 r_z0_5 m_z0_5 r_z0_5 n_k_9 r_z0_10 m_z0_10 hw (lv_sub hl [1, 0] rfl)
        · have r_v_8 : RI v_8 123 127 := rc_lt2 rl_122 r_v_8 (ti_nle c_107) (by decide)
          exact B110 v_8 vu_6 z0_5 z0_5 z0_10 ws _ _ ls (r_v_8.to (by decide)) r_vu_6 m_u_6 r_z0_5 m_z0_5 r_z0_5 n_k_9 r_z0_10 m_z0_10 hw (lv_sub hl [1, 0] rfl)
    · refine lv_aload_n hx hb dX7_pass_66 rfl (lv_at hl 0 rfl) ?_
      refine lv_aload_n hx hb dX7_pass_67 rfl (lv_at hl 0 rfl) ?_
      refine tg_mem (ci := 7) (C := RX7) (T := TX7) (N := 12) hx hb hts inX7 hown hK hw 3 m_u_6 rfl (by decide) (hts _ tw_91) (fun _ h9 => h9) dX7_pass_68 ?_
      refine tg_put (ci := 7) (ts := ty_TAPE) (v := .int vu_6) (ty := .int) (C := RX7) (T := TX7) (N := 12) hx hb hts inX7 tyX7 tyX7_ok nmX7 hown hK hw h_p0 rfl rfl 5 (by decide) (hts _ tw_93) (fun _ h9 => h9) rfl (by decide +kernel) rfl rfl (ft := vI 0 940) rfl ⟨_, rfl, r_vu_6⟩ (by decide) dX7_pass_71 (fun ws H locs hw n_k_10 hF9 => ?_)
      have m_z0_10 := FLD.over hF9 m_z0_10 (by decide)
      have m_u_6 := FLD.over hF9 m_u_6 (by decide)
      refine lv_aload_n hx hb dX7_pass_74 rfl (lv_at hl 0 rfl) ?_
      refine lv_iconst (v := 0) hx hb dX7_pass_75 (by decide) ?_
      refine tg_put (ci := 7) (ts := ty_TAPE) (v := .int 0) (ty := .int) (C := RX7) (T := TX7) (N := 12) hx hb hts inX7 tyX7 tyX7_ok nmX7 hown hK hw h_p0 rfl rfl 7 (by decide) (hts _ tw_98) (fun _ h9 => h9) rfl (by decide +kernel) rfl rfl (ft := vI (-2147483648) 2147483647) rfl ⟨_, rfl, (rl_0.to (by decide))⟩ (by decide) dX7_pass_76 (fun ws H locs hw n_k_11 hF9 => ?_)
      have m_z0_10 := FLD.over hF9 m_z0_10 (by decide)
      have m_u_6 := FLD.over hF9 m_u_6 (by decide)
      have n_k_10 := FLD.over hF9 n_k_10 (by decide)
      subst hQ
      exact W.vret hx hb hr (fun t ht hW => ⟨⟨ws, rfl, ⟨⟨⟨_, m_z0_10, r_z0_10⟩, trivial⟩, hw.1, hw.2.2.2.2.1⟩, by rw [ht]; exact hw.2.1, va_K.moved hW.alike hK, hw.2.2.1⟩, hw.2.2.2.1.F ht⟩) hw.2.2.2.1.2.2 dX7_pass_79
  have B16 : ∀ (nf : Nat) (z0_5 : Int32) (z0_10 : Int32) (ws : va_W) (H : Heap) (locs : List Loc) (ls : Array Slot), 940 - z0_5.toInt < (nf : Int) → RI z0_5 0 940 → FLD ws p0 7 5 (.int z0_5) → RI z0_10 0 0 → FLD ws p0 7 10 (.int z0_10) → WD D cy GG A s wr_X7_pass__3 wa_X7_pass__3 Ps w0 Ps ws H locs → lv_has ls 2 [(0, .ref p0)] → W p l e (headSpec (Cond.code yX7_pass cX7_pass 2 none :: gT) ({ frames := 2, cells := 0, slots := 0, locals := 400 } : Room)).room s m ([.ref p0] : List Value).toArray below meth c H locs 0 0 Q (F0 m 16 ls []) := by
    intro nf16
    induction nf16 with
    | zero =>
      intro z0_5 z0_10 ws H locs ls hn16 r_z0_5 m_z0_5 r_z0_10 m_z0_10 hw hl
      exact absurd hn16 (by have q0 := r_z0_5.1; have u0 := r_z0_5.2; omega)
    | succ nf16 ih16 =>
      intro z0_5 z0_10 ws H locs ls hn16 r_z0_5 m_z0_5 r_z0_10 m_z0_10 hw hl
      refine lv_aload_n hx hb dX7_pass_16 rfl (lv_at hl 0 rfl) ?_
      refine tg_mem (ci := 7) (C := RX7) (T := TX7) (N := 12) hx hb hts inX7 hown hK hw 5 m_z0_5 rfl (by decide) (hts _ tw_93) (fun _ h9 => h9) dX7_pass_17 ?_
      refine lv_aload_n hx hb dX7_pass_20 rfl (lv_at hl 0 rfl) ?_
      refine tg_get (ci := 7) (ts := ty_TAPE) (C := RX7) (T := TX7) (N := 12) hx hb hts inX7 hown hK hw h_p0 rfl rfl 3 (by decide) (hts _ tw_91) (fun _ h9 => h9) (ft := vI 0 940) rfl dX7_pass_21 (fun u_12 hv_u_12 m_u_12 => ?_)
      obtain ⟨vu_12, rfl, r_vu_12⟩ := hv_u_12
      refine lv_icmp_ge (tgt := 55) hx hb dX7_pass_24 (by decide) (fun c_24 => ?_) (fun c_24 => ?_)
      · exact B55 z0_5 z0_10 ws _ _ ls r_z0_5 m_z0_5 r_z0_10 m_z0_10 hw hl
      · have r_z0_5 : RI z0_5 0 939 := rc_lt1 r_z0_5 r_vu_12 (ti_nle c_24) (by decide)
        have r_vu_12 : RI vu_12 1 940 := rc_lt2 r_z0_5 r_vu_12 (ti_nle c_24) (by decide)
        refine lv_aload_n hx hb dX7_pass_27 rfl (lv_at hl 0 rfl) ?_
        refine tg_get (ci := 7) (ts := ty_TAPE) (C := RX7) (T := TX7) (N := 12) hx hb hts inX7 hown hK hw h_p0 rfl rfl 0 (by decide) (hts _ tw_87) (fun _ h9 => h9) (ft := vR 2) rfl dX7_pass_28 (fun u_13 hv_u_13 m_u_13 => ?_)
        obtain ⟨vu_13, rfl, h_vu_13⟩ := hv_u_13
        refine lv_aload_n hx hb dX7_pass_31 rfl (lv_at hl 0 rfl) ?_
        refine tg_mem (ci := 7) (C := RX7) (T := TX7) (N := 12) hx hb hts inX7 hown hK hw 5 m_z0_5 rfl (by decide) (hts _ tw_93) (fun _ h9 => h9) dX7_pass_32 ?_
        refine tg_bald (lo := (-128)) (hi := 127) hx hb hK hw h_vu_13 rfl 0 939 r_z0_5 (by decide) (by exact fun _ _ _ => ⟨Int.le_refl _, Int.le_refl _⟩) dX7_pass_35 (fun v_14 r_v_14 => ?_)
        refine tk_ir (va_runS (As := [.int v_14]) (rest := []) ⟨hx, hb, hml, hown, hts⟩ (c_X7_isBlank l D cy z H.size Ps ws hw.1 v_14 (r_v_14.to (by decide))) (va_cwS 1 hts (gS tw_428 tw_429 tw_2 tw_430) rfl rfl rfl (by decide +kernel) ⟨Nat.le_of_ble_eq_true rfl, Nat.le_of_ble_eq_true rfl⟩) (tg_preS hw hK hSD hA) rfl rfl hl.1 rfl (lv_room (Nat.le_of_ble_eq_true rfl)) dX7_pass_36 ⟨Nat.le_of_ble_eq_true rfl, Nat.le_of_ble_eq_true rfl⟩) hw hA (fun v_15  H locs hp_v_15 hw => ?_)
        have r_v_15 : RI v_15 0 1 := hp_v_15.1
        refine lv_if_eq (tgt := 55) hx hb dX7_pass_39 (by decide) (fun c_39 => ?_) (fun c_39 => ?_)
        · have r_v_15 : RI v_15 0 0 := rc_eq1 r_v_15 rl_0 (ti_eq c_39) (by decide)
          exact B55 z0_5 z0_10 ws _ _ ls (r_z0_5.to (by decide)) m_z0_5 r_z0_10 m_z0_10 hw hl
        · have r_v_15 : RI v_15 1 1 := rc_neL r_v_15 rl_0 (ti_ne c_39) (by decide)
          have r_v_14 : RI v_14 10 32 := ((hp_v_15.2.2 c_39).1)
          refine lv_aload_n hx hb dX7_pass_42 rfl (lv_at hl 0 rfl) ?_
          refine lv_dup hx hb dX7_pass_43 rfl ?_
          refine tg_mem (ci := 7) (C := RX7) (T := TX7) (N := 12) hx hb hts inX7 hown hK hw 5 m_z0_5 rfl (by decide) (hts _ tw_93) (fun _ h9 => h9) dX7_pass_44 ?_
          refine lv_iconst (v := 1) hx hb dX7_pass_47 (by decide) ?_
          refine lv_iadd hx hb dX7_pass_48 (lv_topi (fun v_16 e_v_16 => ?_))
          obtain ⟨t_v_16, r_v_16⟩ := tq_add (lo := 1) (hi := 940) r_z0_5 rl_1 (by decide +kernel) e_v_16
          have t_v_16 : v_16.toInt = z0_5.toInt + 1 := t_v_16
          refine tg_put (ci := 7) (ts := ty_TAPE) (v := .int v_16) (ty := .int) (C := RX7) (T := TX7) (N := 12) hx hb hts inX7 tyX7 tyX7_ok nmX7 hown hK hw h_p0 rfl rfl 5 (by decide) (hts _ tw_93) (fun _ h9 => h9) rfl (by decide +kernel) rfl rfl (ft := vI 0 940) rfl ⟨_, rfl, (r_v_16.to (by decide))⟩ (by decide) dX7_pass_49 (fun ws H locs hw n_k_17 hF9 => ?_)
          have m_z0_10 := FLD.over hF9 m_z0_10 (by decide)
          have m_u_12 := FLD.over hF9 m_u_12 (by decide)
          refine lv_goto (tgt := 16) hx hb dX7_pass_52 (by decide) ?_
          exact ih16 v_16 z0_10 ws _ _ ls (by have q0 := r_v_16.1; have u0 := r_v_16.2; have o0 := r_z0_5.1; have p0 := r_z0_5.2; omega) (r_v_16.to (by decide)) n_k_17 r_z0_10 m_z0_10 hw hl
  refine lv_aload_n hx hb dX7_pass_0 rfl (lv_at hl 0 rfl) ?_
  refine tg_mem (ci := 7) (C := RX7) (T := TX7) (N := 12) hx hb hts inX7 hown hK hw 10 m_f0_10 rfl (by decide) (hts _ tw_104) (fun _ h9 => h9) dX7_pass_1 ?_
  refine lv_if_eq (tgt := 8) hx hb dX7_pass_4 (by decide) (fun c_4 => ?_) (fun c_4 => ?_)
  · refine lv_aload_n hx hb dX7_pass_8 rfl (lv_at hl 0 rfl) ?_
    refine lv_aload_n hx hb dX7_pass_9 rfl (lv_at hl 0 rfl) ?_
    refine tg_get (ci := 7) (ts := ty_TAPE) (C := RX7) (T := TX7) (N := 12) hx hb hts inX7 hown hK hw h_p0 rfl rfl 6 (by decide) (hts _ tw_94) (fun _ h9 => h9) (ft := vI 0 940) rfl dX7_pass_10 (fun u_18 hv_u_18 m_u_18 => ?_)
    obtain ⟨vu_18, rfl, r_vu_18⟩ := hv_u_18
    refine tg_put (ci := 7) (ts := ty_TAPE) (v := .int vu_18) (ty := .int) (C := RX7) (T := TX7) (N := 12) hx hb hts inX7 tyX7 tyX7_ok nmX7 hown hK hw h_p0 rfl rfl 5 (by decide) (hts _ tw_93) (fun _ h9 => h9) rfl (by decide +kernel) rfl rfl (ft := vI 0 940) rfl ⟨_, rfl, r_vu_18⟩ (by decide) dX7_pass_13 (fun ws H locs hw n_k_19 hF9 => ?_)
    have m_f0_10 := FLD.over hF9 m_f0_10 (by decide)
    have m_u_18 := FLD.over hF9 m_u_18 (by decide)
    exact B16 4294967298 vu_18 f0_10 ws _ _ ls (by have q0 := r_vu_18.1; have u0 := r_vu_18.2; omega) r_vu_18 n_k_19 r_f0_10 m_f0_10 hw hl
  · exact absurd (r_f0_10.eq.trans rl_0.eq.symm) ((ti_ne c_4))
abbrev wr_X0_beginsLine__5 : List (Nat × Nat) := [(7, 5), (7, 6), (7, 7), (7, 8), (7, 9), (7, 10), (7, 11)]
abbrev wa_X0_beginsLine__5 : List Nat := []
set_option maxHeartbeats 4000000 in
set_option maxRecDepth 100000 in
theorem c_X0_beginsLine__5 (l : Launch) (D : va_G) (cy : Nat → ClassId) (z : Nat → Nat) (sz : Nat) (Ps : PSI) (w0 : va_W) (hT : HT cy GG Ps w0) (p0 : Nat) (p1 : Nat) (p2 : Int32) (f1_10 : Int32) (h_p0 : (p0, 31) ∈ Ps) (h_p1 : (p1, 26) ∈ Ps) (r_p2 : RI p2 141 143) (r_f1_10 : RI f1_10 0 0) (m_f1_10 : FLD w0 p1 7 10 (.int f1_10)) : Met l yX0_beginsLine (Cond.code yX0_beginsLine cX0_beginsLine 3 (some .boolean) :: gT) ({ frames := 3, cells := 0, slots := 0, locals := 600 } : Room) (va_Pc [.ref p0, .ref p1, .int p2] (PRE D cy z w0 sz)) (va_Qi (fun (r : Int32) (u : va_W) => (RI r 0 1 ∧ (r = 0 → (∃ v9 : Int32, FLD u p0 0 3 (.int v9) ∧ RI v9 40 40) ∧ (∃ v9 : Int32, FLD u p1 7 10 (.int v9) ∧ RI v9 1 4) ∧ True) ∧ (¬ r = 0 → (∃ v9 : Int32, FLD u p1 7 10 (.int v9) ∧ RI v9 0 0) ∧ (∃ v9 : Int32, FLD u p0 0 3 (.int v9) ∧ RI v9 0 39) ∧ True)) ∧ HT cy GG Ps u ∧ FR wr_X0_beginsLine__5 wa_X0_beginsLine__5 Ps w0 u) (BB D cy (va_A w0 sz) (fun (u : va_W) => u)) (va_A w0 sz)) 0 0 (va_A w0 sz) := by
  refine Met.ofW (cc := cX0_beginsLine) (maxL := 3) (ret := (some .boolean)) (by decide) rfl ?_
  intro p e s m args below meth c s₁ B hml hv
  obtain ⟨rfl, hsz, hP, hK, hD0, hSD⟩ := hv
  have hx := B.exec
  have hb := B.bytes
  have hr := B.returns
  have hlocks := B.notSynchronized
  have hts : ∀ w ∈ gT, w.before _ s = true := fun w h => atoms_spec (ws := Cond.code yX0_beginsLine cX0_beginsLine 3 (some .boolean) :: gT) B.pre w (List.mem_cons_of_mem _ h)
  have hown : s.vm.findClass RX0 = some m.cls := findClass_of_methodNamed B.named
  subst hsz
  have hD := hD0.self (sz := s.heap.size)
  generalize hAe : va_A w0 s.heap.size = A at hD hSD ⊢
  have hA : ∀ q : Nat, s.heap.size ≤ q → A q := fun q h => by rw [← hAe]; exact Or.inr h
  have hl := lv_entry ([.ref p0, .ref p1, .int p2]) (n := 3) (Nat.le_of_ble_eq_true rfl)
  rw [lg_entry_eq]
  generalize (lg_sl ([.ref p0, .ref p1, .int p2]) ++ List.replicate (3 - (lg_sl ([.ref p0, .ref p1, .int p2])).length) Slot.unset).toArray = ls at hl ⊢
  have hl : lv_has ls 3 [(0, .ref p0), (1, .ref p1), (2, .int p2)] := hl
  refine nameQ (fun Q hQ => ?_)
  have hw : WD D cy GG A s wr_X0_beginsLine__5 wa_X0_beginsLine__5 Ps w0 Ps w0 s.heap [] := ⟨hT, hP, hD, va_S.rf, FR.rf, hT.1, [], (List.append_nil _).symm⟩
  refine lv_iload_n hx hb dX0_beginsLine_0 rfl (lv_at hl 2 rfl) ?_
  refine lv_iconst (v := 2) hx hb dX0_beginsLine_1 (by decide) ?_
  refine lv_icmp_eq (tgt := 27) hx hb dX0_beginsLine_2 (by decide) (fun c_2 => ?_) (fun c_2 => ?_)
  · have r_p2 : RI p2 141 2 := rc_eq1 r_p2 rl_2 (ti_eq c_2) (by decide)
    exact (r_p2.no (by decide)).elim
  · refine lv_iload_n hx hb dX0_beginsLine_5 rfl (lv_at hl 2 rfl) ?_
    refine lv_sipush (v := 141) hx hb dX0_beginsLine_6 (by decide) ?_
    refine lv_icmp_lt (tgt := 19) hx hb dX0_beginsLine_9 (by decide) (fun c_9 => ?_) (fun c_9 => ?_)
    · have r_p2 : RI p2 141 140 := rc_lt1 r_p2 rl_141 (ti_lt c_9) (by decide)
      exact (r_p2.no (by decide)).elim
    · refine lv_iload_n hx hb dX0_beginsLine_12 rfl (lv_at hl 2 rfl) ?_
      refine lv_sipush (v := 143) hx hb dX0_beginsLine_13 (by decide) ?_
      refine lv_icmp_le (tgt := 27) hx hb dX0_beginsLine_16 (by decide) (fun c_16 => ?_) (fun c_16 => ?_)
      · refine lv_aload_n hx hb dX0_beginsLine_27 rfl (lv_at hl 0 rfl) ?_
        refine tg_get (ci := 0) (ts := ty_BOOK) (C := RX0) (T := TX0) (N := 5) hx hb hts inX0 hown hK hw h_p0 rfl rfl 3 (by decide) (hts _ tw_145) (fun _ h9 => h9) (ft := vI 0 40) rfl dX0_beginsLine_28 (fun u_1 hv_u_1 m_u_1 => ?_)
        obtain ⟨vu_1, rfl, r_vu_1⟩ := hv_u_1
        refine lv_bipush (v := 40) hx hb dX0_beginsLine_31 (by decide) ?_
        refine lv_icmp_lt (tgt := 41) hx hb dX0_beginsLine_33 (by decide) (fun c_33 => ?_) (fun c_33 => ?_)
        · have r_vu_1 : RI vu_1 0 39 := rc_lt1 r_vu_1 rl_40 (ti_lt c_33) (by decide)
          refine lv_aload_n hx hb dX0_beginsLine_41 rfl (lv_at hl 1 rfl) ?_
          refine tk_v (va_runV (As := []) (rest := []) ⟨hx, hb, hml, hown, hts⟩ (c_X7_pass__3 l D cy z s.heap.size Ps w0 hw.1 p1 f1_10 h_p1 r_f1_10 m_f1_10) (cwV 0 hts (gV tw_898 tw_425 tw_426 tw_2 tw_427) rfl rfl rfl (by decide +kernel) ⟨Nat.le_of_ble_eq_true rfl, Nat.le_of_ble_eq_true rfl⟩) (tg_preV hw hK hSD hA (ci := 7) (q := (RX7, TX7, 12)) rfl h_p1 rfl) rfl rfl hl.1 rfl (lv_room (Nat.le_of_ble_eq_true rfl)) dX0_beginsLine_42 ⟨Nat.le_of_ble_eq_true rfl, Nat.le_of_ble_eq_true rfl⟩) hw hA ⟨by decide, by decide⟩ (fun ws H locs hp_v_2 hw hF9 => ?_)
          have m_f1_10 := FLD.over hF9 m_f1_10 (by decide)
          have m_u_1 := FLD.over hF9 m_u_1 (by decide)
          obtain ⟨v_3, m_v_3, r_v_3⟩ := (hp_v_2.1)
          refine lv_aload_n hx hb dX0_beginsLine_45 rfl (lv_at hl 1 rfl) ?_
          refine tg_memN (ci := 7) (C := RX7) (T := TX7) (N := 12) hx hb hts inX7 hown hK hw 10 m_v_3 rfl (by decide) (hSD.nest tn_102) (fun _ h9 => h9) dX0_beginsLine_46 ?_
          refine lv_if_ne (tgt := 56) hx hb dX0_beginsLine_49 (by decide) (fun c_49 => ?_) (fun c_49 => ?_)
          · exact absurd (r_v_3.eq.trans rl_0.eq.symm) ((ti_ne c_49))
          · refine lv_iconst (v := 1) hx hb dX0_beginsLine_52 (by decide) ?_
            refine lv_goto (tgt := 57) hx hb dX0_beginsLine_53 (by decide) ?_
            subst hQ
            exact W.zret (v := 1) hx hb hr (rfl) (fun t ht hW => ⟨⟨1, ws, rfl, ⟨⟨rl_1.to (by decide), (fun h0 => absurd h0 (by decide)), (fun h0 => ⟨⟨_, m_v_3, r_v_3⟩, ⟨_, m_u_1, r_vu_1⟩, trivial⟩)⟩, hw.1, hw.2.2.2.2.1⟩, by rw [ht]; exact hw.2.1, va_K.moved hW.alike hK, hw.2.2.1⟩, hw.2.2.2.1.F ht⟩) hw.2.2.2.1.2.2 dX0_beginsLine_57
        · have r_vu_1 : RI vu_1 40 40 := rc_le2 rl_40 r_vu_1 (ti_nlt c_33) (by decide)
          refine lv_aload_n hx hb dX0_beginsLine_36 rfl (lv_at hl 1 rfl) ?_
          refine lv_iconst (v := 4) hx hb dX0_beginsLine_37 (by decide) ?_
          refine tk_v (va_runV (As := [.int 4]) (rest := []) ⟨hx, hb, hml, hown, hts⟩ (c_X7_refuse__3 l D cy z s.heap.size Ps w0 hw.1 p1 4 f1_10 h_p1 (rl_4.to (by decide)) r_f1_10 m_f1_10) (cwV 1 hts (gV tw_897 tw_443 tw_444 tw_2 tw_445) rfl rfl rfl (by decide +kernel) ⟨Nat.le_of_ble_eq_true rfl, Nat.le_of_ble_eq_true rfl⟩) (tg_preV hw hK hSD hA (ci := 7) (q := (RX7, TX7, 12)) rfl h_p1 rfl) rfl rfl hl.1 rfl (lv_room (Nat.le_of_ble_eq_true rfl)) dX0_beginsLine_38 ⟨Nat.le_of_ble_eq_true rfl, Nat.le_of_ble_eq_true rfl⟩) hw hA ⟨by decide, by decide⟩ (fun ws H locs hp_v_4 hw hF9 => ?_)
          have m_u_1 := FLD.over hF9 m_u_1 (by decide)
          obtain ⟨v_5, m_v_5, r_v_5⟩ := (hp_v_4.1)
          refine lv_aload_n hx hb dX0_beginsLine_41 rfl (lv_at hl 1 rfl) ?_
          refine tk_vr (va_runV (As := []) (rest := []) ⟨hx, hb, hml, hown, hts⟩ (c_X7_pass__1 l D cy z H.size Ps ws hw.1 p1 v_5 h_p1 r_v_5 m_v_5) (cwV 0 hts (gV tw_898 tw_425 tw_426 tw_2 tw_427) rfl rfl rfl (by decide +kernel) ⟨Nat.le_of_ble_eq_true rfl, Nat.le_of_ble_eq_true rfl⟩) (tg_preV hw hK hSD hA (ci := 7) (q := (RX7, TX7, 12)) rfl h_p1 rfl) rfl rfl hl.1 rfl (lv_room (Nat.le_of_ble_eq_true rfl)) dX0_beginsLine_42 ⟨Nat.le_of_ble_eq_true rfl, Nat.le_of_ble_eq_true rfl⟩) hw hA (fun  H locs hp_v_6 hw => ?_)
          refine lv_aload_n hx hb dX0_beginsLine_45 rfl (lv_at hl 1 rfl) ?_
          refine tg_memN (ci := 7) (C := RX7) (T := TX7) (N := 12) hx hb hts inX7 hown hK hw 10 m_v_5 rfl (by decide) (hSD.nest tn_102) (fun _ h9 => h9) dX0_beginsLine_46 ?_
          refine lv_if_ne (tgt := 56) hx hb dX0_beginsLine_49 (by decide) (fun c_49 => ?_) (fun c_49 => ?_)
          · refine lv_iconst (v := 0) hx hb dX0_beginsLine_56 (by decide) ?_
            subst hQ
            exact W.zret (v := 0) hx hb hr (rfl) (fun t ht hW => ⟨⟨0, ws, rfl, ⟨⟨rl_0.to (by decide), (fun h0 => ⟨⟨_, m_u_1, r_vu_1⟩, ⟨_, m_v_5, r_v_5⟩, trivial⟩), (fun h0 => absurd rfl h0)⟩, hw.1, hw.2.2.2.2.1⟩, by rw [ht]; exact hw.2.1, va_K.moved hW.alike hK, hw.2.2.1⟩, hw.2.2.2.1.F ht⟩) hw.2.2.2.1.2.2 dX0_beginsLine_57
          · have r_v_5 : RI v_5 1 0 := rc_eq1 r_v_5 rl_0 (ti_eq c_49) (by decide)
            exact (r_v_5.no (by decide)).elim
      · have r_p2 : RI p2 144 143 := rc_lt2 rl_143 r_p2 (ti_nle c_16) (by decide)
        exact (r_p2.no (by decide)).elim
abbrev wr_X7_nameAhead__8 : List (Nat × Nat) := []
abbrev wa_X7_nameAhead__8 : List Nat := []
set_option maxHeartbeats 4000000 in
set_option maxRecDepth 100000 in
theorem c_X7_nameAhead__8 (l : Launch) (D : va_G) (cy : Nat → ClassId) (z : Nat → Nat) (sz : Nat) (Ps : PSI) (w0 : va_W) (hT : HT cy GG Ps w0) (p0 : Nat) (p1 : Nat) (p2 : Int32) (f0_10 : Int32) (h_p0 : (p0, 26) ∈ Ps) (h_p1 : (p1, 25) ∈ Ps) (r_p2 : RI p2 1 1) (r_f0_10 : RI f0_10 1 4) (m_f0_10 : FLD w0 p0 7 10 (.int f0_10)) : Met l yX7_nameAhead (Cond.code yX7_nameAhead cX7_nameAhead 4 (some .int) :: gT) ({ frames := 2, cells := 0, slots := 0, locals := 400 } : Room) (va_Pc [.ref p0, .ref p1, .int p2] (PRE D cy z w0 sz)) (va_Qi (fun (r : Int32) (u : Unit) => RI r (-1) (-1) ∧ (r = 0 → True) ∧ (¬ r = 0 → True) ∧ (True) ∧ (r.toInt < 0 → FLTp w0 p0 ∧ True) ∧ (0 ≤ r.toInt → True)) (BB D cy (va_A w0 sz) (fun (u : Unit) => w0)) (va_A w0 sz)) 0 0 (va_A w0 sz) := by
  refine Met.ofW (cc := cX7_nameAhead) (maxL := 4) (ret := (some .int)) (by decide) rfl ?_
  intro p e s m args below meth c s₁ B hml hv
  obtain ⟨rfl, hsz, hP, hK, hD0, hSD⟩ := hv
  have hx := B.exec
  have hb := B.bytes
  have hr := B.returns
  have hlocks := B.notSynchronized
  have hts : ∀ w ∈ gT, w.before _ s = true := fun w h => atoms_spec (ws := Cond.code yX7_nameAhead cX7_nameAhead 4 (some .int) :: gT) B.pre w (List.mem_cons_of_mem _ h)
  have hown : s.vm.findClass RX7 = some m.cls := findClass_of_methodNamed B.named
  subst hsz
  have hD := hD0.self (sz := s.heap.size)
  generalize hAe : va_A w0 s.heap.size = A at hD hSD ⊢
  have hA : ∀ q : Nat, s.heap.size ≤ q → A q := fun q h => by rw [← hAe]; exact Or.inr h
  have hl := lv_entry ([.ref p0, .ref p1, .int p2]) (n := 4) (Nat.le_of_ble_eq_true rfl)
  rw [lg_entry_eq]
  generalize (lg_sl ([.ref p0, .ref p1, .int p2]) ++ List.replicate (4 - (lg_sl ([.ref p0, .ref p1, .int p2])).length) Slot.unset).toArray = ls at hl ⊢
  have hl : lv_has ls 4 [(0, .ref p0), (1, .ref p1), (2, .int p2)] := hl
  refine nameQ (fun Q hQ => ?_)
  have hw : WD D cy GG A s wr_X7_nameAhead__8 wa_X7_nameAhead__8 Ps w0 Ps w0 s.heap [] := ⟨hT, hP, hD, va_S.rf, FR.rf, hT.1, [], (List.append_nil _).symm⟩
  refine lv_aload_n hx hb dX7_nameAhead_0 rfl (lv_at hl 0 rfl) ?_
  refine tg_get (ci := 7) (ts := ty_TAPE) (C := RX7) (T := TX7) (N := 12) hx hb hts inX7 hown hK hw h_p0 rfl rfl 7 (by decide) (hts _ tw_98) (fun _ h9 => h9) (ft := vI (-2147483648) 2147483647) rfl dX7_nameAhead_1 (fun u_1 hv_u_1 m_u_1 => ?_)
  obtain ⟨vu_1, rfl, r_vu_1⟩ := hv_u_1
  refine lv_iconst (v := 2) hx hb dX7_nameAhead_4 (by decide) ?_
  refine lv_icmp_eq (tgt := 15) hx hb dX7_nameAhead_5 (by decide) (fun c_5 => ?_) (fun c_5 => ?_)
  · have r_vu_1 : RI vu_1 2 2 := rc_eq1 r_vu_1 rl_2 (ti_eq c_5) (by decide)
    refine lv_aload_n hx hb dX7_nameAhead_15 rfl (lv_at hl 1 rfl) ?_
    refine lv_aload_n hx hb dX7_nameAhead_16 rfl (lv_at hl 0 rfl) ?_
    refine tg_get (ci := 7) (ts := ty_TAPE) (C := RX7) (T := TX7) (N := 12) hx hb hts inX7 hown hK hw h_p0 rfl rfl 8 (by decide) (hts _ tw_100) (fun _ h9 => h9) (ft := vJ (-9223372036854775808) 9223372036854775807) rfl dX7_nameAhead_17 (fun u_2 hv_u_2 m_u_2 => ?_)
    obtain ⟨vu_2, rfl, r_vu_2⟩ := hv_u_2
    refine lv_iload_n hx hb dX7_nameAhead_20 rfl (lv_at hl 2 rfl) ?_
    refine tk_ir (va_runV (As := [.long vu_2, .int p2]) (rest := []) ⟨hx, hb, hml, hown, hts⟩ (c_X3_numberOf__1 l D cy z s.heap.size Ps w0 hw.1 p1 vu_2 p2 h_p1 r_vu_2 r_p2) (cwV 2 hts (gV tw_460 tw_461 tw_462 tw_11 tw_463) rfl rfl rfl (by decide +kernel) ⟨Nat.le_of_ble_eq_true rfl, Nat.le_of_ble_eq_true rfl⟩) (tg_preV hw hK hSD hA (ci := 3) (q := (RX3, TX3, 9)) rfl h_p1 rfl) rfl rfl hl.1 rfl (lv_room (Nat.le_of_ble_eq_true rfl)) dX7_nameAhead_21 ⟨Nat.le_of_ble_eq_true rfl, Nat.le_of_ble_eq_true rfl⟩) hw hA (fun v_3  H locs hp_v_3 hw => ?_)
    have r_v_3 : RI v_3 (-1) 3 := hp_v_3.1
    refine lv_istore_n (lv' := [(3, .int v_3), (0, .ref p0), (1, .ref p1), (2, .int p2)]) hx hb dX7_nameAhead_24 rfl hl (by decide) rfl (fun ls hl => ?_)
    refine lv_iload_n hx hb dX7_nameAhead_25 rfl (lv_at hl 0 rfl) ?_
    refine lv_iconst (v := (-1)) hx hb dX7_nameAhead_26 (by decide) ?_
    refine lv_icmp_ne (tgt := 35) hx hb dX7_nameAhead_27 (by decide) (fun c_27 => ?_) (fun c_27 => ?_)
    · have r_v_3 : RI v_3 0 3 := rc_neL r_v_3 rl_m1 (ti_ne c_27) (by decide)
      refine lv_aload_n hx hb dX7_nameAhead_35 rfl (lv_at hl 1 rfl) ?_
      refine tg_mem (ci := 7) (C := RX7) (T := TX7) (N := 12) hx hb hts inX7 hown hK hw 10 m_f0_10 rfl (by decide) (hts _ tw_104) (fun _ h9 => h9) dX7_nameAhead_36 ?_
      refine lv_if_ne (tgt := 46) hx hb dX7_nameAhead_39 (by decide) (fun c_39 => ?_) (fun c_39 => ?_)
      · refine lv_iconst (v := (-1)) hx hb dX7_nameAhead_46 (by decide) ?_
        subst hQ
        have x_FLT_p0 : FLTp w0 p0 := ⟨_, m_f0_10, r_f0_10.to (by decide)⟩
        exact W.iret (v := (-1)) hx hb hr (fun t ht hW => ⟨⟨(-1), (), rfl, ⟨rl_m1.to (by decide), (fun _ => trivial), (fun h0 => trivial), trivial, (fun h0 => ⟨x_FLT_p0, trivial⟩), (fun _ => trivial)⟩, by rw [ht]; exact hw.2.1, va_K.moved hW.alike hK, hw.2.2.1⟩, hw.2.2.2.1.F ht⟩) hw.2.2.2.1.2.2 dX7_nameAhead_47
      · have r_f0_10 : RI f0_10 1 0 := rc_eq1 r_f0_10 rl_0 (ti_eq c_39) (by decide)
        exact (r_f0_10.no (by decide)).elim
    · have r_v_3 : RI v_3 (-1) (-1) := rc_eq1 r_v_3 rl_m1 (ti_eq c_27) (by decide)
      refine lv_aload_n hx hb dX7_nameAhead_30 rfl (lv_at hl 1 rfl) ?_
      refine lv_iconst (v := 3) hx hb dX7_nameAhead_31 (by decide) ?_
      refine tk_vr (va_runV (As := [.int 3]) (rest := []) ⟨hx, hb, hml, hown, hts⟩ (c_X7_refuse__1 l D cy z H.size Ps w0 hw.1 p0 3 f0_10 h_p0 (rl_3.to (by decide)) r_f0_10 m_f0_10) (cwV 1 hts (gV tw_442 tw_443 tw_444 tw_2 tw_445) rfl rfl rfl (by decide +kernel) ⟨Nat.le_of_ble_eq_true rfl, Nat.le_of_ble_eq_true rfl⟩) (tg_preV hw hK hSD hA (ci := 7) (q := (RX7, TX7, 12)) rfl h_p0 rfl) rfl rfl hl.1 rfl (lv_room (Nat.le_of_ble_eq_true rfl)) dX7_nameAhead_32 ⟨Nat.le_of_ble_eq_true rfl, Nat.le_of_ble_eq_true rfl⟩) hw hA (fun  H locs hp_v_4 hw => ?_)
      refine lv_aload_n hx hb dX7_nameAhead_35 rfl (lv_at hl 1 rfl) ?_
      refine tg_mem (ci := 7) (C := RX7) (T := TX7) (N := 12) hx hb hts inX7 hown hK hw 10 m_f0_10 rfl (by decide) (hts _ tw_104) (fun _ h9 => h9) dX7_nameAhead_36 ?_
      refine lv_if_ne (tgt := 46) hx hb dX7_nameAhead_39 (by decide) (fun c_39 => ?_) (fun c_39 => ?_)
      · refine lv_iconst (v := (-1)) hx hb dX7_nameAhead_46 (by decide) ?_
        subst hQ
        have x_FLT_p0 : FLTp w0 p0 := ⟨_, m_f0_10, r_f0_10.to (by decide)⟩
        exact W.iret (v := (-1)) hx hb hr (fun t ht hW => ⟨⟨(-1), (), rfl, ⟨rl_m1.to (by decide), (fun _ => trivial), (fun h0 => trivial), trivial, (fun h0 => ⟨x_FLT_p0, trivial⟩), (fun _ => trivial)⟩, by rw [ht]; exact hw.2.1, va_K.moved hW.alike hK, hw.2.2.1⟩, hw.2.2.2.1.F ht⟩) hw.2.2.2.1.2.2 dX7_nameAhead_47
      · have r_f0_10 : RI f0_10 1 0 := rc_eq1 r_f0_10 rl_0 (ti_eq c_39) (by decide)
        exact (r_f0_10.no (by decide)).elim
  · refine lv_aload_n hx hb dX7_nameAhead_8 rfl (lv_at hl 0 rfl) ?_
    refine lv_iconst (v := 1) hx hb dX7_nameAhead_9 (by decide) ?_
    refine tk_vr (va_runV (As := [.int 1]) (rest := []) ⟨hx, hb, hml, hown, hts⟩ (c_X7_refuse__1 l D cy z s.heap.size Ps w0 hw.1 p0 1 f0_10 h_p0 (rl_1.to (by decide)) r_f0_10 m_f0_10) (cwV 1 hts (gV tw_442 tw_443 tw_444 tw_2 tw_445) rfl rfl rfl (by decide +kernel) ⟨Nat.le_of_ble_eq_true rfl, Nat.le_of_ble_eq_true rfl⟩) (tg_preV hw hK hSD hA (ci := 7) (q := (RX7, TX7, 12)) rfl h_p0 rfl) rfl rfl hl.1 rfl (lv_room (Nat.le_of_ble_eq_true rfl)) dX7_nameAhead_10 ⟨Nat.le_of_ble_eq_true rfl, Nat.le_of_ble_eq_true rfl⟩) hw hA (fun  H locs hp_v_5 hw => ?_)
    refine lv_iconst (v := (-1)) hx hb dX7_nameAhead_13 (by decide) ?_
    subst hQ
    have x_FLT_p0 : FLTp w0 p0 := ⟨_, m_f0_10, r_f0_10.to (by decide)⟩
    exact W.iret (v := (-1)) hx hb hr (fun t ht hW => ⟨⟨(-1), (), rfl, ⟨rl_m1.to (by decide), (fun _ => trivial), (fun h0 => trivial), trivial, (fun h0 => ⟨x_FLT_p0, trivial⟩), (fun _ => trivial)⟩, by rw [ht]; exact hw.2.1, va_K.moved hW.alike hK, hw.2.2.1⟩, hw.2.2.2.1.F ht⟩) hw.2.2.2.1.2.2 dX7_nameAhead_14
abbrev wr_X7_takeName__7 : List (Nat × Nat) := []
abbrev wa_X7_takeName__7 : List Nat := []
set_option maxHeartbeats 4000000 in
set_option maxRecDepth 100000 in
theorem c_X7_takeName__7 (l : Launch) (D : va_G) (cy : Nat → ClassId) (z : Nat → Nat) (sz : Nat) (Ps : PSI) (w0 : va_W) (hT : HT cy GG Ps w0) (p0 : Nat) (p1 : Nat) (p2 : Int32) (f0_10 : Int32) (h_p0 : (p0, 26) ∈ Ps) (h_p1 : (p1, 25) ∈ Ps) (r_p2 : RI p2 1 1) (r_f0_10 : RI f0_10 1 4) (m_f0_10 : FLD w0 p0 7 10 (.int f0_10)) : Met l yX7_takeName (Cond.code yX7_takeName cX7_takeName 4 (some .int) :: gT) ({ frames := 3, cells := 0, slots := 0, locals := 600 } : Room) (va_Pc [.ref p0, .ref p1, .int p2] (PRE D cy z w0 sz)) (va_Qi (fun (r : Int32) (u : Unit) => RI r (-1) (-1) ∧ (r = 0 → True) ∧ (¬ r = 0 → True) ∧ (True) ∧ (r.toInt < 0 → FLTp w0 p0 ∧ True) ∧ (0 ≤ r.toInt → True)) (BB D cy (va_A w0 sz) (fun (u : Unit) => w0)) (va_A w0 sz)) 0 0 (va_A w0 sz) := by
  refine Met.ofW (cc := cX7_takeName) (maxL := 4) (ret := (some .int)) (by decide) rfl ?_
  intro p e s m args below meth c s₁ B hml hv
  obtain ⟨rfl, hsz, hP, hK, hD0, hSD⟩ := hv
  have hx := B.exec
  have hb := B.bytes
  have hr := B.returns
  have hlocks := B.notSynchronized
  have hts : ∀ w ∈ gT, w.before _ s = true := fun w h => atoms_spec (ws := Cond.code yX7_takeName cX7_takeName 4 (some .int) :: gT) B.pre w (List.mem_cons_of_mem _ h)
  have hown : s.vm.findClass RX7 = some m.cls := findClass_of_methodNamed B.named
  subst hsz
  have hD := hD0.self (sz := s.heap.size)
  generalize hAe : va_A w0 s.heap.size = A at hD hSD ⊢
  have hA : ∀ q : Nat, s.heap.size ≤ q → A q := fun q h => by rw [← hAe]; exact Or.inr h
  have hl := lv_entry ([.ref p0, .ref p1, .int p2]) (n := 4) (Nat.le_of_ble_eq_true rfl)
  rw [lg_entry_eq]
  generalize (lg_sl ([.ref p0, .ref p1, .int p2]) ++ List.replicate (4 - (lg_sl ([.ref p0, .ref p1, .int p2])).length) Slot.unset).toArray = ls at hl ⊢
  have hl : lv_has ls 4 [(0, .ref p0), (1, .ref p1), (2, .int p2)] := hl
  refine nameQ (fun Q hQ => ?_)
  have hw : WD D cy GG A s wr_X7_takeName__7 wa_X7_takeName__7 Ps w0 Ps w0 s.heap [] := ⟨hT, hP, hD, va_S.rf, FR.rf, hT.1, [], (List.append_nil _).symm⟩
  refine lv_aload_n hx hb dX7_takeName_0 rfl (lv_at hl 0 rfl) ?_
  refine lv_aload_n hx hb dX7_takeName_1 rfl (lv_at hl 1 rfl) ?_
  refine lv_iload_n hx hb dX7_takeName_2 rfl (lv_at hl 2 rfl) ?_
  refine tk_ir (va_runV (As := [.ref p1, .int p2]) (rest := []) ⟨hx, hb, hml, hown, hts⟩ (c_X7_nameAhead__8 l D cy z s.heap.size Ps w0 hw.1 p0 p1 p2 f0_10 h_p0 h_p1 r_p2 r_f0_10 m_f0_10) (cwV 2 hts (gV tw_468 tw_457 tw_458 tw_2 tw_459) rfl rfl rfl (by decide +kernel) ⟨Nat.le_of_ble_eq_true rfl, Nat.le_of_ble_eq_true rfl⟩) (tg_preV hw hK hSD hA (ci := 7) (q := (RX7, TX7, 12)) rfl h_p0 rfl) rfl rfl hl.1 rfl (lv_room (Nat.le_of_ble_eq_true rfl)) dX7_takeName_3 ⟨Nat.le_of_ble_eq_true rfl, Nat.le_of_ble_eq_true rfl⟩) hw hA (fun v_1  H locs hp_v_1 hw => ?_)
  have r_v_1 : RI v_1 (-1) (-1) := hp_v_1.1
  by_cases c9_v_1 : v_1.toInt < 0
  · have r_v_1 : RI v_1 (-1) (-1) := by unfold RI at r_v_1 ⊢; omega
    have x_FLT_p0 := (hp_v_1.2.2.2.2.1 (by omega)).1
    obtain ⟨v_2, m_v_2, r_v_2⟩ := id x_FLT_p0
    refine lv_istore_n (lv' := [(3, .int v_1), (0, .ref p0), (1, .ref p1), (2, .int p2)]) hx hb dX7_takeName_6 rfl hl (by decide) rfl (fun ls hl => ?_)
    refine lv_aload_n hx hb dX7_takeName_7 rfl (lv_at hl 1 rfl) ?_
    refine tk_vr (va_runV (As := []) (rest := []) ⟨hx, hb, hml, hown, hts⟩ (c_X7_pass__1 l D cy z H.size Ps w0 hw.1 p0 v_2 h_p0 r_v_2 m_v_2) (cwV 0 hts (gV tw_424 tw_425 tw_426 tw_2 tw_427) rfl rfl rfl (by decide +kernel) ⟨Nat.le_of_ble_eq_true rfl, Nat.le_of_ble_eq_true rfl⟩) (tg_preV hw hK hSD hA (ci := 7) (q := (RX7, TX7, 12)) rfl h_p0 rfl) rfl rfl hl.1 rfl (lv_room (Nat.le_of_ble_eq_true rfl)) dX7_takeName_8 ⟨Nat.le_of_ble_eq_true rfl, Nat.le_of_ble_eq_true rfl⟩) hw hA (fun  H locs hp_v_3 hw => ?_)
    refine lv_iload_n hx hb dX7_takeName_11 rfl (lv_at hl 0 rfl) ?_
    subst hQ
    exact W.iret (v := v_1) hx hb hr (fun t ht hW => ⟨⟨v_1, (), rfl, ⟨r_v_1.to (by decide), (fun _ => trivial), (fun h0 => trivial), trivial, (fun h0 => ⟨x_FLT_p0, trivial⟩), (fun _ => trivial)⟩, by rw [ht]; exact hw.2.1, va_K.moved hW.alike hK, hw.2.2.1⟩, hw.2.2.2.1.F ht⟩) hw.2.2.2.1.2.2 dX7_takeName_12
  · exact absurd c9_v_1 (by unfold RI at r_v_1; omega)
abbrev wr_X7_nameAhead__9 : List (Nat × Nat) := [(7, 10), (7, 11)]
abbrev wa_X7_nameAhead__9 : List Nat := []
set_option maxHeartbeats 4000000 in
set_option maxRecDepth 100000 in
theorem c_X7_nameAhead__9 (l : Launch) (D : va_G) (cy : Nat → ClassId) (z : Nat → Nat) (sz : Nat) (Ps : PSI) (w0 : va_W) (hT : HT cy GG Ps w0) (p0 : Nat) (p1 : Nat) (p2 : Int32) (h_p0 : (p0, 26) ∈ Ps) (h_p1 : (p1, 25) ∈ Ps) (r_p2 : RI p2 1 1) : Met l yX7_nameAhead (Cond.code yX7_nameAhead cX7_nameAhead 4 (some .int) :: gT) ({ frames := 2, cells := 0, slots := 0, locals := 400 } : Room) (va_Pc [.ref p0, .ref p1, .int p2] (PRE D cy z w0 sz)) (va_Qi (fun (r : Int32) (u : va_W) => (RI r (-1) 3 ∧ (r = 0 → True) ∧ (¬ r = 0 → True) ∧ (True) ∧ (r.toInt < 0 → FLTp u p0 ∧ True) ∧ (0 ≤ r.toInt → True)) ∧ HT cy GG Ps u ∧ FR wr_X7_nameAhead__9 wa_X7_nameAhead__9 Ps w0 u) (BB D cy (va_A w0 sz) (fun (u : va_W) => u)) (va_A w0 sz)) 0 0 (va_A w0 sz) := by
  refine Met.ofW (cc := cX7_nameAhead) (maxL := 4) (ret := (some .int)) (by decide) rfl ?_
  intro p e s m args below meth c s₁ B hml hv
  obtain ⟨rfl, hsz, hP, hK, hD0, hSD⟩ := hv
  have hx := B.exec
  have hb := B.bytes
  have hr := B.returns
  have hlocks := B.notSynchronized
  have hts : ∀ w ∈ gT, w.before _ s = true := fun w h => atoms_spec (ws := Cond.code yX7_nameAhead cX7_nameAhead 4 (some .int) :: gT) B.pre w (List.mem_cons_of_mem _ h)
  have hown : s.vm.findClass RX7 = some m.cls := findClass_of_methodNamed B.named
  subst hsz
  have hD := hD0.self (sz := s.heap.size)
  generalize hAe : va_A w0 s.heap.size = A at hD hSD ⊢
  have hA : ∀ q : Nat, s.heap.size ≤ q → A q := fun q h => by rw [← hAe]; exact Or.inr h
  have hl := lv_entry ([.ref p0, .ref p1, .int p2]) (n := 4) (Nat.le_of_ble_eq_true rfl)
  rw [lg_entry_eq]
  generalize (lg_sl ([.ref p0, .ref p1, .int p2]) ++ List.replicate (4 - (lg_sl ([.ref p0, .ref p1, .int p2])).length) Slot.unset).toArray = ls at hl ⊢
  have hl : lv_has ls 4 [(0, .ref p0), (1, .ref p1), (2, .int p2)] := hl
  refine nameQ (fun Q hQ => ?_)
  have hw : WD D cy GG A s wr_X7_nameAhead__9 wa_X7_nameAhead__9 Ps w0 Ps w0 s.heap [] := ⟨hT, hP, hD, va_S.rf, FR.rf, hT.1, [], (List.append_nil _).symm⟩
  refine lv_aload_n hx hb dX7_nameAhead_0 rfl (lv_at hl 0 rfl) ?_
  refine tg_get (ci := 7) (ts := ty_TAPE) (C := RX7) (T := TX7) (N := 12) hx hb hts inX7 hown hK hw h_p0 rfl rfl 7 (by decide) (hts _ tw_98) (fun _ h9 => h9) (ft := vI (-2147483648) 2147483647) rfl dX7_nameAhead_1 (fun u_1 hv_u_1 m_u_1 => ?_)
  obtain ⟨vu_1, rfl, r_vu_1⟩ := hv_u_1
  refine lv_iconst (v := 2) hx hb dX7_nameAhead_4 (by decide) ?_
  refine lv_icmp_eq (tgt := 15) hx hb dX7_nameAhead_5 (by decide) (fun c_5 => ?_) (fun c_5 => ?_)
  · have r_vu_1 : RI vu_1 2 2 := rc_eq1 r_vu_1 rl_2 (ti_eq c_5) (by decide)
    refine lv_aload_n hx hb dX7_nameAhead_15 rfl (lv_at hl 1 rfl) ?_
    refine lv_aload_n hx hb dX7_nameAhead_16 rfl (lv_at hl 0 rfl) ?_
    refine tg_get (ci := 7) (ts := ty_TAPE) (C := RX7) (T := TX7) (N := 12) hx hb hts inX7 hown hK hw h_p0 rfl rfl 8 (by decide) (hts _ tw_100) (fun _ h9 => h9) (ft := vJ (-9223372036854775808) 9223372036854775807) rfl dX7_nameAhead_17 (fun u_2 hv_u_2 m_u_2 => ?_)
    obtain ⟨vu_2, rfl, r_vu_2⟩ := hv_u_2
    refine lv_iload_n hx hb dX7_nameAhead_20 rfl (lv_at hl 2 rfl) ?_
    refine tk_ir (va_runV (As := [.long vu_2, .int p2]) (rest := []) ⟨hx, hb, hml, hown, hts⟩ (c_X3_numberOf__1 l D cy z s.heap.size Ps w0 hw.1 p1 vu_2 p2 h_p1 r_vu_2 r_p2) (cwV 2 hts (gV tw_460 tw_461 tw_462 tw_11 tw_463) rfl rfl rfl (by decide +kernel) ⟨Nat.le_of_ble_eq_true rfl, Nat.le_of_ble_eq_true rfl⟩) (tg_preV hw hK hSD hA (ci := 3) (q := (RX3, TX3, 9)) rfl h_p1 rfl) rfl rfl hl.1 rfl (lv_room (Nat.le_of_ble_eq_true rfl)) dX7_nameAhead_21 ⟨Nat.le_of_ble_eq_true rfl, Nat.le_of_ble_eq_true rfl⟩) hw hA (fun v_3  H locs hp_v_3 hw => ?_)
    have r_v_3 : RI v_3 (-1) 3 := hp_v_3.1
    refine lv_istore_n (lv' := [(3, .int v_3), (0, .ref p0), (1, .ref p1), (2, .int p2)]) hx hb dX7_nameAhead_24 rfl hl (by decide) rfl (fun ls hl => ?_)
    refine lv_iload_n hx hb dX7_nameAhead_25 rfl (lv_at hl 0 rfl) ?_
    refine lv_iconst (v := (-1)) hx hb dX7_nameAhead_26 (by decide) ?_
    refine lv_icmp_ne (tgt := 35) hx hb dX7_nameAhead_27 (by decide) (fun c_27 => ?_) (fun c_27 => ?_)
    · have r_v_3 : RI v_3 0 3 := rc_neL r_v_3 rl_m1 (ti_ne c_27) (by decide)
      refine lv_aload_n hx hb dX7_nameAhead_35 rfl (lv_at hl 1 rfl) ?_
      refine tg_get (ci := 7) (ts := ty_TAPE) (C := RX7) (T := TX7) (N := 12) hx hb hts inX7 hown hK hw h_p0 rfl rfl 10 (by decide) (hts _ tw_104) (fun _ h9 => h9) (ft := vI 0 4) rfl dX7_nameAhead_36 (fun u_4 hv_u_4 m_u_4 => ?_)
      obtain ⟨vu_4, rfl, r_vu_4⟩ := hv_u_4
      refine lv_if_ne (tgt := 46) hx hb dX7_nameAhead_39 (by decide) (fun c_39 => ?_) (fun c_39 => ?_)
      · have r_vu_4 : RI vu_4 1 4 := rc_neL r_vu_4 rl_0 (ti_ne c_39) (by decide)
        refine lv_iconst (v := (-1)) hx hb dX7_nameAhead_46 (by decide) ?_
        subst hQ
        have x_FLT_p0 : FLTp w0 p0 := ⟨_, m_u_4, r_vu_4.to (by decide)⟩
        exact W.iret (v := (-1)) hx hb hr (fun t ht hW => ⟨⟨(-1), w0, rfl, ⟨⟨rl_m1.to (by decide), (fun _ => trivial), (fun h0 => trivial), trivial, (fun h0 => ⟨x_FLT_p0, trivial⟩), (fun _ => trivial)⟩, hw.1, hw.2.2.2.2.1⟩, by rw [ht]; exact hw.2.1, va_K.moved hW.alike hK, hw.2.2.1⟩, hw.2.2.2.1.F ht⟩) hw.2.2.2.1.2.2 dX7_nameAhead_47
      · have r_vu_4 : RI vu_4 0 0 := rc_eq1 r_vu_4 rl_0 (ti_eq c_39) (by decide)
        refine lv_iload_n hx hb dX7_nameAhead_42 rfl (lv_at hl 0 rfl) ?_
        refine lv_goto (tgt := 47) hx hb dX7_nameAhead_43 (by decide) ?_
        subst hQ
        exact W.iret (v := v_3) hx hb hr (fun t ht hW => ⟨⟨v_3, w0, rfl, ⟨⟨r_v_3.to (by decide), (fun h0 => trivial), (fun h0 => trivial), trivial, (fun h0 => absurd h0 (by have h8 := r_v_3; unfold RI at h8; omega)), (fun _ => trivial)⟩, hw.1, hw.2.2.2.2.1⟩, by rw [ht]; exact hw.2.1, va_K.moved hW.alike hK, hw.2.2.1⟩, hw.2.2.2.1.F ht⟩) hw.2.2.2.1.2.2 dX7_nameAhead_47
    · have r_v_3 : RI v_3 (-1) (-1) := rc_eq1 r_v_3 rl_m1 (ti_eq c_27) (by decide)
      refine lv_aload_n hx hb dX7_nameAhead_30 rfl (lv_at hl 1 rfl) ?_
      refine lv_iconst (v := 3) hx hb dX7_nameAhead_31 (by decide) ?_
      refine tk_v (va_runV (As := [.int 3]) (rest := []) ⟨hx, hb, hml, hown, hts⟩ (c_X7_refuse__2 l D cy z H.size Ps w0 hw.1 p0 3 h_p0 (rl_3.to (by decide))) (cwV 1 hts (gV tw_442 tw_443 tw_444 tw_2 tw_445) rfl rfl rfl (by decide +kernel) ⟨Nat.le_of_ble_eq_true rfl, Nat.le_of_ble_eq_true rfl⟩) (tg_preV hw hK hSD hA (ci := 7) (q := (RX7, TX7, 12)) rfl h_p0 rfl) rfl rfl hl.1 rfl (lv_room (Nat.le_of_ble_eq_true rfl)) dX7_nameAhead_32 ⟨Nat.le_of_ble_eq_true rfl, Nat.le_of_ble_eq_true rfl⟩) hw hA ⟨by decide, by decide⟩ (fun ws H locs hp_v_5 hw hF9 => ?_)
      have m_u_1 := FLD.over hF9 m_u_1 (by decide)
      obtain ⟨v_6, m_v_6, r_v_6⟩ := (hp_v_5.1)
      refine lv_aload_n hx hb dX7_nameAhead_35 rfl (lv_at hl 1 rfl) ?_
      refine tg_mem (ci := 7) (C := RX7) (T := TX7) (N := 12) hx hb hts inX7 hown hK hw 10 m_v_6 rfl (by decide) (hts _ tw_104) (fun _ h9 => h9) dX7_nameAhead_36 ?_
      refine lv_if_ne (tgt := 46) hx hb dX7_nameAhead_39 (by decide) (fun c_39 => ?_) (fun c_39 => ?_)
      · refine lv_iconst (v := (-1)) hx hb dX7_nameAhead_46 (by decide) ?_
        subst hQ
        have x_FLT_p0 : FLTp ws p0 := ⟨_, m_v_6, r_v_6.to (by decide)⟩
        exact W.iret (v := (-1)) hx hb hr (fun t ht hW => ⟨⟨(-1), ws, rfl, ⟨⟨rl_m1.to (by decide), (fun _ => trivial), (fun h0 => trivial), trivial, (fun h0 => ⟨x_FLT_p0, trivial⟩), (fun _ => trivial)⟩, hw.1, hw.2.2.2.2.1⟩, by rw [ht]; exact hw.2.1, va_K.moved hW.alike hK, hw.2.2.1⟩, hw.2.2.2.1.F ht⟩) hw.2.2.2.1.2.2 dX7_nameAhead_47
      · have r_v_6 : RI v_6 1 0 := rc_eq1 r_v_6 rl_0 (ti_eq c_39) (by decide)
        exact (r_v_6.no (by decide)).elim
  · refine lv_aload_n hx hb dX7_nameAhead_8 rfl (lv_at hl 0 rfl) ?_
    refine lv_iconst (v := 1) hx hb dX7_nameAhead_9 (by decide) ?_
    refine tk_v (va_runV (As := [.int 1]) (rest := []) ⟨hx, hb, hml, hown, hts⟩ (c_X7_refuse__2 l D cy z s.heap.size Ps w0 hw.1 p0 1 h_p0 (rl_1.to (by decide))) (cwV 1 hts (gV tw_442 tw_443 tw_444 tw_2 tw_445) rfl rfl rfl (by decide +kernel) ⟨Nat.le_of_ble_eq_true rfl, Nat.le_of_ble_eq_true rfl⟩) (tg_preV hw hK hSD hA (ci := 7) (q := (RX7, TX7, 12)) rfl h_p0 rfl) rfl rfl hl.1 rfl (lv_room (Nat.le_of_ble_eq_true rfl)) dX7_nameAhead_10 ⟨Nat.le_of_ble_eq_true rfl, Nat.le_of_ble_eq_true rfl⟩) hw hA ⟨by decide, by decide⟩ (fun ws H locs hp_v_7 hw hF9 => ?_)
    have m_u_1 := FLD.over hF9 m_u_1 (by decide)
    obtain ⟨v_8, m_v_8, r_v_8⟩ := (hp_v_7.1)
    refine lv_iconst (v := (-1)) hx hb dX7_nameAhead_13 (by decide) ?_
    subst hQ
    have x_FLT_p0 : FLTp ws p0 := ⟨_, m_v_8, r_v_8.to (by decide)⟩
    exact W.iret (v := (-1)) hx hb hr (fun t ht hW => ⟨⟨(-1), ws, rfl, ⟨⟨rl_m1.to (by decide), (fun _ => trivial), (fun h0 => trivial), trivial, (fun h0 => ⟨x_FLT_p0, trivial⟩), (fun _ => trivial)⟩, hw.1, hw.2.2.2.2.1⟩, by rw [ht]; exact hw.2.1, va_K.moved hW.alike hK, hw.2.2.1⟩, hw.2.2.2.1.F ht⟩) hw.2.2.2.1.2.2 dX7_nameAhead_14
abbrev wr_X7_takeName__8 : List (Nat × Nat) := [(7, 5), (7, 6), (7, 7), (7, 8), (7, 9), (7, 10), (7, 11)]
abbrev wa_X7_takeName__8 : List Nat := []
set_option maxHeartbeats 4000000 in
set_option maxRecDepth 100000 in
theorem c_X7_takeName__8 (l : Launch) (D : va_G) (cy : Nat → ClassId) (z : Nat → Nat) (sz : Nat) (Ps : PSI) (w0 : va_W) (hT : HT cy GG Ps w0) (p0 : Nat) (p1 : Nat) (p2 : Int32) (h_p0 : (p0, 26) ∈ Ps) (h_p1 : (p1, 25) ∈ Ps) (r_p2 : RI p2 1 1) : Met l yX7_takeName (Cond.code yX7_takeName cX7_takeName 4 (some .int) :: gT) ({ frames := 3, cells := 0, slots := 0, locals := 600 } : Room) (va_Pc [.ref p0, .ref p1, .int p2] (PRE D cy z w0 sz)) (va_Qi (fun (r : Int32) (u : va_W) => (RI r (-1) 3 ∧ (r = 0 → True) ∧ (¬ r = 0 → True) ∧ (True) ∧ (r.toInt < 0 → FLTp u p0 ∧ True) ∧ (0 ≤ r.toInt → True)) ∧ HT cy GG Ps u ∧ FR wr_X7_takeName__8 wa_X7_takeName__8 Ps w0 u) (BB D cy (va_A w0 sz) (fun (u : va_W) => u)) (va_A w0 sz)) 0 0 (va_A w0 sz) := by
  refine Met.ofW (cc := cX7_takeName) (maxL := 4) (ret := (some .int)) (by decide) rfl ?_
  intro p e s m args below meth c s₁ B hml hv
  obtain ⟨rfl, hsz, hP, hK, hD0, hSD⟩ := hv
  have hx := B.exec
  have hb := B.bytes
  have hr := B.returns
  have hlocks := B.notSynchronized
  have hts : ∀ w ∈ gT, w.before _ s = true := fun w h => atoms_spec (ws := Cond.code yX7_takeName cX7_takeName 4 (some .int) :: gT) B.pre w (List.mem_cons_of_mem _ h)
  have hown : s.vm.findClass RX7 = some m.cls := findClass_of_methodNamed B.named
  subst hsz
  have hD := hD0.self (sz := s.heap.size)
  generalize hAe : va_A w0 s.heap.size = A at hD hSD ⊢
  have hA : ∀ q : Nat, s.heap.size ≤ q → A q := fun q h => by rw [← hAe]; exact Or.inr h
  have hl := lv_entry ([.ref p0, .ref p1, .int p2]) (n := 4) (Nat.le_of_ble_eq_true rfl)
  rw [lg_entry_eq]
  generalize (lg_sl ([.ref p0, .ref p1, .int p2]) ++ List.replicate (4 - (lg_sl ([.ref p0, .ref p1, .int p2])).length) Slot.unset).toArray = ls at hl ⊢
  have hl : lv_has ls 4 [(0, .ref p0), (1, .ref p1), (2, .int p2)] := hl
  refine nameQ (fun Q hQ => ?_)
  have hw : WD D cy GG A s wr_X7_takeName__8 wa_X7_takeName__8 Ps w0 Ps w0 s.heap [] := ⟨hT, hP, hD, va_S.rf, FR.rf, hT.1, [], (List.append_nil _).symm⟩
  refine lv_aload_n hx hb dX7_takeName_0 rfl (lv_at hl 0 rfl) ?_
  refine lv_aload_n hx hb dX7_takeName_1 rfl (lv_at hl 1 rfl) ?_
  refine lv_iload_n hx hb dX7_takeName_2 rfl (lv_at hl 2 rfl) ?_
  refine tk_i (va_runV (As := [.ref p1, .int p2]) (rest := []) ⟨hx, hb, hml, hown, hts⟩ (c_X7_nameAhead__9 l D cy z s.heap.size Ps w0 hw.1 p0 p1 p2 h_p0 h_p1 r_p2) (cwV 2 hts (gV tw_468 tw_457 tw_458 tw_2 tw_459) rfl rfl rfl (by decide +kernel) ⟨Nat.le_of_ble_eq_true rfl, Nat.le_of_ble_eq_true rfl⟩) (tg_preV hw hK hSD hA (ci := 7) (q := (RX7, TX7, 12)) rfl h_p0 rfl) rfl rfl hl.1 rfl (lv_room (Nat.le_of_ble_eq_true rfl)) dX7_takeName_3 ⟨Nat.le_of_ble_eq_true rfl, Nat.le_of_ble_eq_true rfl⟩) hw hA ⟨by decide, by decide⟩ (fun v_1 ws H locs hp_v_1 hw hF9 => ?_)
  have r_v_1 : RI v_1 (-1) 3 := hp_v_1.1
  by_cases c9_v_1 : v_1.toInt < 0
  · have r_v_1 : RI v_1 (-1) (-1) := by unfold RI at r_v_1 ⊢; omega
    have x_FLT_p0 := (hp_v_1.2.2.2.2.1 (by omega)).1
    obtain ⟨v_2, m_v_2, r_v_2⟩ := id x_FLT_p0
    refine lv_istore_n (lv' := [(3, .int v_1), (0, .ref p0), (1, .ref p1), (2, .int p2)]) hx hb dX7_takeName_6 rfl hl (by decide) rfl (fun ls hl => ?_)
    refine lv_aload_n hx hb dX7_takeName_7 rfl (lv_at hl 1 rfl) ?_
    refine tk_vr (va_runV (As := []) (rest := []) ⟨hx, hb, hml, hown, hts⟩ (c_X7_pass__1 l D cy z H.size Ps ws hw.1 p0 v_2 h_p0 r_v_2 m_v_2) (cwV 0 hts (gV tw_424 tw_425 tw_426 tw_2 tw_427) rfl rfl rfl (by decide +kernel) ⟨Nat.le_of_ble_eq_true rfl, Nat.le_of_ble_eq_true rfl⟩) (tg_preV hw hK hSD hA (ci := 7) (q := (RX7, TX7, 12)) rfl h_p0 rfl) rfl rfl hl.1 rfl (lv_room (Nat.le_of_ble_eq_true rfl)) dX7_takeName_8 ⟨Nat.le_of_ble_eq_true rfl, Nat.le_of_ble_eq_true rfl⟩) hw hA (fun  H locs hp_v_3 hw => ?_)
    refine lv_iload_n hx hb dX7_takeName_11 rfl (lv_at hl 0 rfl) ?_
    subst hQ
    exact W.iret (v := v_1) hx hb hr (fun t ht hW => ⟨⟨v_1, ws, rfl, ⟨⟨r_v_1.to (by decide), (fun _ => trivial), (fun h0 => trivial), trivial, (fun h0 => ⟨x_FLT_p0, trivial⟩), (fun _ => trivial)⟩, hw.1, hw.2.2.2.2.1⟩, by rw [ht]; exact hw.2.1, va_K.moved hW.alike hK, hw.2.2.1⟩, hw.2.2.2.1.F ht⟩) hw.2.2.2.1.2.2 dX7_takeName_12
  · have r_v_1 : RI v_1 0 3 := by unfold RI at r_v_1 ⊢; omega
    refine lv_istore_n (lv' := [(3, .int v_1), (0, .ref p0), (1, .ref p1), (2, .int p2)]) hx hb dX7_takeName_6 rfl hl (by decide) rfl (fun ls hl => ?_)
    refine lv_aload_n hx hb dX7_takeName_7 rfl (lv_at hl 1 rfl) ?_
    refine tk_v (va_runV (As := []) (rest := []) ⟨hx, hb, hml, hown, hts⟩ (c_X7_pass__2 l D cy z H.size Ps ws hw.1 p0 h_p0) (cwV 0 hts (gV tw_424 tw_425 tw_426 tw_2 tw_427) rfl rfl rfl (by decide +kernel) ⟨Nat.le_of_ble_eq_true rfl, Nat.le_of_ble_eq_true rfl⟩) (tg_preV hw hK hSD hA (ci := 7) (q := (RX7, TX7, 12)) rfl h_p0 rfl) rfl rfl hl.1 rfl (lv_room (Nat.le_of_ble_eq_true rfl)) dX7_takeName_8 ⟨Nat.le_of_ble_eq_true rfl, Nat.le_of_ble_eq_true rfl⟩) hw hA ⟨by decide, by decide⟩ (fun ws H locs hp_v_4 hw hF9 => ?_)
    refine lv_iload_n hx hb dX7_takeName_11 rfl (lv_at hl 0 rfl) ?_
    subst hQ
    exact W.iret (v := v_1) hx hb hr (fun t ht hW => ⟨⟨v_1, ws, rfl, ⟨⟨r_v_1.to (by decide), (fun h0 => trivial), (fun h0 => trivial), trivial, (fun h0 => absurd h0 (by have h8 := r_v_1; unfold RI at h8; omega)), (fun _ => trivial)⟩, hw.1, hw.2.2.2.2.1⟩, by rw [ht]; exact hw.2.1, va_K.moved hW.alike hK, hw.2.2.1⟩, hw.2.2.2.1.F ht⟩) hw.2.2.2.1.2.2 dX7_takeName_12
abbrev wr_X7_takeNumber__1 : List (Nat × Nat) := [(7, 5), (7, 6), (7, 7), (7, 8), (7, 9), (7, 10), (7, 11)]
abbrev wa_X7_takeNumber__1 : List Nat := []
set_option maxHeartbeats 4000000 in
set_option maxRecDepth 100000 in
theorem c_X7_takeNumber__1 (l : Launch) (D : va_G) (cy : Nat → ClassId) (z : Nat → Nat) (sz : Nat) (Ps : PSI) (w0 : va_W) (hT : HT cy GG Ps w0) (p0 : Nat) (p1 : Int32) (p2 : Int32) (h_p0 : (p0, 26) ∈ Ps) (r_p1 : RI p1 (-2147483648) 2147483647) (r_p2 : RI p2 (-2147483648) 2147483647) : Met l yX7_takeNumber (Cond.code yX7_takeNumber cX7_takeNumber 4 (some .int) :: gT) ({ frames := 3, cells := 0, slots := 0, locals := 600 } : Room) (va_Pc [.ref p0, .int p1, .int p2] (PRE D cy z w0 sz)) (va_Qi (fun (r : Int32) (u : va_W) => (RI r (-2147483648) 2147483647 ∧ (r = 0 → True) ∧ (¬ r = 0 → True)) ∧ HT cy GG Ps u ∧ FR wr_X7_takeNumber__1 wa_X7_takeNumber__1 Ps w0 u) (BB D cy (va_A w0 sz) (fun (u : va_W) => u)) (va_A w0 sz)) 0 0 (va_A w0 sz) := by
  refine Met.ofW (cc := cX7_takeNumber) (maxL := 4) (ret := (some .int)) (by decide) rfl ?_
  intro p e s m args below meth c s₁ B hml hv
  obtain ⟨rfl, hsz, hP, hK, hD0, hSD⟩ := hv
  have hx := B.exec
  have hb := B.bytes
  have hr := B.returns
  have hlocks := B.notSynchronized
  have hts : ∀ w ∈ gT, w.before _ s = true := fun w h => atoms_spec (ws := Cond.code yX7_takeNumber cX7_takeNumber 4 (some .int) :: gT) B.pre w (List.mem_cons_of_mem _ h)
  have hown : s.vm.findClass RX7 = some m.cls := findClass_of_methodNamed B.named
  subst hsz
  have hD := hD0.self (sz := s.heap.size)
  generalize hAe : va_A w0 s.heap.size = A at hD hSD ⊢
  have hA : ∀ q : Nat, s.heap.size ≤ q → A q := fun q h => by rw [← hAe]; exact Or.inr h
  have hl := lv_entry ([.ref p0, .int p1, .int p2]) (n := 4) (Nat.le_of_ble_eq_true rfl)
  rw [lg_entry_eq]
  generalize (lg_sl ([.ref p0, .int p1, .int p2]) ++ List.replicate (4 - (lg_sl ([.ref p0, .int p1, .int p2])).length) Slot.unset).toArray = ls at hl ⊢
  have hl : lv_has ls 4 [(0, .ref p0), (1, .int p1), (2, .int p2)] := hl
  refine nameQ (fun Q hQ => ?_)
  have hw : WD D cy GG A s wr_X7_takeNumber__1 wa_X7_takeNumber__1 Ps w0 Ps w0 s.heap [] := ⟨hT, hP, hD, va_S.rf, FR.rf, hT.1, [], (List.append_nil _).symm⟩
  have B36 : ∀ (x3 : Int32) (ws : va_W) (H : Heap) (locs : List Loc) (ls : Array Slot), RI p1 (-2147483648) 2147483647 → RI p2 (-2147483648) 2147483647 → RI x3 (-2147483648) 2147483647 → WD D cy GG A s wr_X7_takeNumber__1 wa_X7_takeNumber__1 Ps w0 Ps ws H locs → lv_has ls 4 [(0, .ref p0), (1, .int p1), (2, .int p2), (3, .int x3)] → W p l e (headSpec (Cond.code yX7_takeNumber cX7_takeNumber 4 (some .int) :: gT) ({ frames := 3, cells := 0, slots := 0, locals := 600 } : Room)).room s m ([.ref p0, .int p1, .int p2] : List Value).toArray below meth c H locs 0 0 Q (F0 m 36 ls []) := by
    intro x3 ws H locs ls r_p1 r_p2 r_x3 hw hl
    refine lv_aload_n hx hb dX7_takeNumber_36 rfl (lv_at hl 0 rfl) ?_
    refine tk_v (va_runV (As := []) (rest := []) ⟨hx, hb, hml, hown, hts⟩ (c_X7_pass__2 l D cy z H.size Ps ws hw.1 p0 h_p0) (cwV 0 hts (gV tw_424 tw_425 tw_426 tw_2 tw_427) rfl rfl rfl (by decide +kernel) ⟨Nat.le_of_ble_eq_true rfl, Nat.le_of_ble_eq_true rfl⟩) (tg_preV hw hK hSD hA (ci := 7) (q := (RX7, TX7, 12)) rfl h_p0 rfl) rfl rfl hl.1 rfl (lv_room (Nat.le_of_ble_eq_true rfl)) dX7_takeNumber_37 ⟨Nat.le_of_ble_eq_true rfl, Nat.le_of_ble_eq_true rfl⟩) hw hA ⟨by decide, by decide⟩ (fun ws H locs hp_v_1 hw hF9 => ?_)
    refine lv_iload_n hx hb dX7_takeNumber_40 rfl (lv_at hl 3 rfl) ?_
    subst hQ
    exact W.iret (v := x3) hx hb hr (fun t ht hW => ⟨⟨x3, ws, rfl, ⟨⟨r_x3.to (by decide), (fun h0 => trivial), (fun h0 => trivial)⟩, hw.1, hw.2.2.2.2.1⟩, by rw [ht]; exact hw.2.1, va_K.moved hW.alike hK, hw.2.2.1⟩, hw.2.2.2.1.F ht⟩) hw.2.2.2.1.2.2 dX7_takeNumber_41
  have B31 : ∀ (x3 : Int32) (z0_7 : Int32) (ws : va_W) (H : Heap) (locs : List Loc) (ls : Array Slot), RI p1 (-2147483648) 2147483647 → RI p2 (-2147483648) 2147483647 → RI x3 (-2147483648) 2147483647 → RI z0_7 3 3 → FLD ws p0 7 7 (.int z0_7) → WD D cy GG A s wr_X7_takeNumber__1 wa_X7_takeNumber__1 Ps w0 Ps ws H locs → lv_has ls 4 [(0, .ref p0), (1, .int p1), (2, .int p2), (3, .int x3)] → W p l e (headSpec (Cond.code yX7_takeNumber cX7_takeNumber 4 (some .int) :: gT) ({ frames := 3, cells := 0, slots := 0, locals := 600 } : Room)).room s m ([.ref p0, .int p1, .int p2] : List Value).toArray below meth c H locs 0 0 Q (F0 m 31 ls []) := by
    intro x3 z0_7 ws H locs ls r_p1 r_p2 r_x3 r_z0_7 m_z0_7 hw hl
    refine lv_aload_n hx hb dX7_takeNumber_31 rfl (lv_at hl 0 rfl) ?_
    refine lv_iconst (v := 2) hx hb dX7_takeNumber_32 (by decide) ?_
    refine tk_v (va_runV (As := [.int 2]) (rest := []) ⟨hx, hb, hml, hown, hts⟩ (c_X7_refuse__2 l D cy z H.size Ps ws hw.1 p0 2 h_p0 (rl_2.to (by decide))) (cwV 1 hts (gV tw_442 tw_443 tw_444 tw_2 tw_445) rfl rfl rfl (by decide +kernel) ⟨Nat.le_of_ble_eq_true rfl, Nat.le_of_ble_eq_true rfl⟩) (tg_preV hw hK hSD hA (ci := 7) (q := (RX7, TX7, 12)) rfl h_p0 rfl) rfl rfl hl.1 rfl (lv_room (Nat.le_of_ble_eq_true rfl)) dX7_takeNumber_33 ⟨Nat.le_of_ble_eq_true rfl, Nat.le_of_ble_eq_true rfl⟩) hw hA ⟨by decide, by decide⟩ (fun ws H locs hp_v_2 hw hF9 => ?_)
    have m_z0_7 := FLD.over hF9 m_z0_7 (by decide)
    obtain ⟨v_3, m_v_3, r_v_3⟩ := (hp_v_2.1)
    exact B36 x3 ws _ _ ls r_p1 r_p2 r_x3 hw hl
  refine lv_aload_n hx hb dX7_takeNumber_0 rfl (lv_at hl 0 rfl) ?_
  refine tg_get (ci := 7) (ts := ty_TAPE) (C := RX7) (T := TX7) (N := 12) hx hb hts inX7 hown hK hw h_p0 rfl rfl 9 (by decide) (hts _ tw_101) (fun _ h9 => h9) (ft := vI (-2147483648) 2147483647) rfl dX7_takeNumber_1 (fun u_4 hv_u_4 m_u_4 => ?_)
  obtain ⟨vu_4, rfl, r_vu_4⟩ := hv_u_4
  refine lv_istore_n (lv' := [(3, .int vu_4), (0, .ref p0), (1, .int p1), (2, .int p2)]) hx hb dX7_takeNumber_4 rfl hl (by decide) rfl (fun ls hl => ?_)
  refine lv_aload_n hx hb dX7_takeNumber_5 rfl (lv_at hl 1 rfl) ?_
  refine tg_get (ci := 7) (ts := ty_TAPE) (C := RX7) (T := TX7) (N := 12) hx hb hts inX7 hown hK hw h_p0 rfl rfl 7 (by decide) (hts _ tw_98) (fun _ h9 => h9) (ft := vI (-2147483648) 2147483647) rfl dX7_takeNumber_6 (fun u_5 hv_u_5 m_u_5 => ?_)
  obtain ⟨vu_5, rfl, r_vu_5⟩ := hv_u_5
  refine lv_iconst (v := 3) hx hb dX7_takeNumber_9 (by decide) ?_
  refine lv_icmp_eq (tgt := 21) hx hb dX7_takeNumber_10 (by decide) (fun c_10 => ?_) (fun c_10 => ?_)
  · have r_vu_5 : RI vu_5 3 3 := rc_eq1 r_vu_5 rl_3 (ti_eq c_10) (by decide)
    refine lv_iload_n hx hb dX7_takeNumber_21 rfl (lv_at hl 0 rfl) ?_
    refine lv_iload_n hx hb dX7_takeNumber_22 rfl (lv_at hl 2 rfl) ?_
    refine lv_icmp_lt (tgt := 31) hx hb dX7_takeNumber_23 (by decide) (fun c_23 => ?_) (fun c_23 => ?_)
    · have r_vu_4 : RI vu_4 (-2147483648) 2147483646 := rc_lt1 r_vu_4 r_p1 (ti_lt c_23) (by decide)
      have r_p1 : RI p1 (-2147483647) 2147483647 := rc_lt2 r_vu_4 r_p1 (ti_lt c_23) (by decide)
      exact B31 vu_4 vu_5 w0 _ _ ls (r_p1.to (by decide)) r_p2 (r_vu_4.to (by decide)) r_vu_5 m_u_5 hw (lv_sub hl [1, 2, 3, 0] rfl)
    · refine lv_iload_n hx hb dX7_takeNumber_26 rfl (lv_at hl 0 rfl) ?_
      refine lv_iload_n hx hb dX7_takeNumber_27 rfl (lv_at hl 3 rfl) ?_
      refine lv_icmp_le (tgt := 36) hx hb dX7_takeNumber_28 (by decide) (fun c_28 => ?_) (fun c_28 => ?_)
      · exact B36 vu_4 w0 _ _ ls r_p1 r_p2 r_vu_4 hw (lv_sub hl [1, 2, 3, 0] rfl)
      · have r_p2 : RI p2 (-2147483648) 2147483646 := rc_lt1 r_p2 r_vu_4 (ti_nle c_28) (by decide)
        have r_vu_4 : RI vu_4 (-2147483647) 2147483647 := rc_lt2 r_p2 r_vu_4 (ti_nle c_28) (by decide)
        exact B31 vu_4 vu_5 w0 _ _ ls r_p1 (r_p2.to (by decide)) (r_vu_4.to (by decide)) r_vu_5 m_u_5 hw (lv_sub hl [1, 2, 3, 0] rfl)
  · refine lv_aload_n hx hb dX7_takeNumber_13 rfl (lv_at hl 1 rfl) ?_
    refine lv_iconst (v := 1) hx hb dX7_takeNumber_14 (by decide) ?_
    refine tk_v (va_runV (As := [.int 1]) (rest := []) ⟨hx, hb, hml, hown, hts⟩ (c_X7_refuse__2 l D cy z s.heap.size Ps w0 hw.1 p0 1 h_p0 (rl_1.to (by decide))) (cwV 1 hts (gV tw_442 tw_443 tw_444 tw_2 tw_445) rfl rfl rfl (by decide +kernel) ⟨Nat.le_of_ble_eq_true rfl, Nat.le_of_ble_eq_true rfl⟩) (tg_preV hw hK hSD hA (ci := 7) (q := (RX7, TX7, 12)) rfl h_p0 rfl) rfl rfl hl.1 rfl (lv_room (Nat.le_of_ble_eq_true rfl)) dX7_takeNumber_15 ⟨Nat.le_of_ble_eq_true rfl, Nat.le_of_ble_eq_true rfl⟩) hw hA ⟨by decide, by decide⟩ (fun ws H locs hp_v_6 hw hF9 => ?_)
    have m_u_4 := FLD.over hF9 m_u_4 (by decide)
    have m_u_5 := FLD.over hF9 m_u_5 (by decide)
    obtain ⟨v_7, m_v_7, r_v_7⟩ := (hp_v_6.1)
    refine lv_goto (tgt := 36) hx hb dX7_takeNumber_18 (by decide) ?_
    exact B36 vu_4 ws _ _ ls r_p1 r_p2 r_vu_4 hw (lv_sub hl [1, 2, 3, 0] rfl)
abbrev wr_X0_readOther : List (Nat × Nat) := [(0, 3), (7, 5), (7, 6), (7, 7), (7, 8), (7, 9), (7, 10), (7, 11)]
abbrev wa_X0_readOther : List Nat := [18, 19, 20]
set_option maxHeartbeats 4000000 in
set_option maxRecDepth 100000 in
theorem c_X0_readOther (l : Launch) (D : va_G) (cy : Nat → ClassId) (z : Nat → Nat) (sz : Nat) (Ps : PSI) (w0 : va_W) (hT : HT cy GG Ps w0) (p0 : Nat) (p1 : Nat) (p2 : Nat) (p3 : Int32) (h_p0 : (p0, 31) ∈ Ps) (h_p1 : (p1, 26) ∈ Ps) (h_p2 : (p2, 25) ∈ Ps) (r_p3 : RI p3 141 143) (x_BG_p0 : BG Ps w0 p0) : Met l yX0_readOther (Cond.code yX0_readOther cX0_readOther 5 none :: gT) ({ frames := 4, cells := 0, slots := 0, locals := 800 } : Room) (va_Pc [.ref p0, .ref p1, .ref p2, .int p3] (PRE D cy z w0 sz)) (va_Qv (fun (u : va_W) => ((∃ v9 : Int32, FLD u p0 0 3 (.int v9) ∧ RI v9 1 40) ∧ JB Ps u p1 p0 ∧ True) ∧ HT cy GG Ps u ∧ FR wr_X0_readOther wa_X0_readOther Ps w0 u) (BB D cy (va_A w0 sz) (fun (u : va_W) => u)) (va_A w0 sz)) 0 0 (va_A w0 sz) := by
  refine Met.ofW (cc := cX0_readOther) (maxL := 5) (ret := none) (by decide) rfl ?_
  intro p e s m args below meth c s₁ B hml hv
  obtain ⟨rfl, hsz, hP, hK, hD0, hSD⟩ := hv
  have hx := B.exec
  have hb := B.bytes
  have hr := B.returns
  have hlocks := B.notSynchronized
  have hts : ∀ w ∈ gT, w.before _ s = true := fun w h => atoms_spec (ws := Cond.code yX0_readOther cX0_readOther 5 none :: gT) B.pre w (List.mem_cons_of_mem _ h)
  have hown : s.vm.findClass RX0 = some m.cls := findClass_of_methodNamed B.named
  subst hsz
  have hD := hD0.self (sz := s.heap.size)
  generalize hAe : va_A w0 s.heap.size = A at hD hSD ⊢
  have hA : ∀ q : Nat, s.heap.size ≤ q → A q := fun q h => by rw [← hAe]; exact Or.inr h
  have hl := lv_entry ([.ref p0, .ref p1, .ref p2, .int p3]) (n := 5) (Nat.le_of_ble_eq_true rfl)
  rw [lg_entry_eq]
  generalize (lg_sl ([.ref p0, .ref p1, .ref p2, .int p3]) ++ List.replicate (5 - (lg_sl ([.ref p0, .ref p1, .ref p2, .int p3])).length) Slot.unset).toArray = ls at hl ⊢
  have hl : lv_has ls 5 [(0, .ref p0), (1, .ref p1), (2, .ref p2), (3, .int p3)] := hl
  refine nameQ (fun Q hQ => ?_)
  have hw : WD D cy GG A s wr_X0_readOther wa_X0_readOther Ps w0 Ps w0 s.heap [] := ⟨hT, hP, hD, va_S.rf, FR.rf, hT.1, [], (List.append_nil _).symm⟩
  refine lv_iload_n hx hb dX0_readOther_0 rfl (lv_at hl 3 rfl) ?_
  refine lv_sipush (v := 143) hx hb dX0_readOther_1 (by decide) ?_
  refine lv_icmp_ne (tgt := 21) hx hb dX0_readOther_4 (by decide) (fun c_4 => ?_) (fun c_4 => ?_)
  · have r_p3 : RI p3 141 142 := rc_neU r_p3 rl_143 (ti_ne c_4) (by decide)
    refine lv_aload_n hx hb dX0_readOther_21 rfl (lv_at hl 1 rfl) ?_
    refine lv_aload_n hx hb dX0_readOther_22 rfl (lv_at hl 2 rfl) ?_
    refine lv_iconst (v := 2) hx hb dX0_readOther_23 (by decide) ?_
    refine tk_i (va_runV (As := [.ref p2, .int 2]) (rest := []) ⟨hx, hb, hml, hown, hts⟩ (c_X7_takeName__6 l D cy z s.heap.size Ps w0 hw.1 p1 p2 2 h_p1 h_p2 rl_2) (cwV 2 hts (gV tw_903 tw_465 tw_466 tw_2 tw_467) rfl rfl rfl (by decide +kernel) ⟨Nat.le_of_ble_eq_true rfl, Nat.le_of_ble_eq_true rfl⟩) (tg_preV hw hK hSD hA (ci := 7) (q := (RX7, TX7, 12)) rfl h_p1 rfl) rfl rfl hl.1 rfl (lv_room (Nat.le_of_ble_eq_true rfl)) dX0_readOther_24 ⟨Nat.le_of_ble_eq_true rfl, Nat.le_of_ble_eq_true rfl⟩) hw hA ⟨by decide, by decide⟩ (fun v_1 ws H locs hp_v_1 hw hF9 => ?_)
    have x_BG_p0 := B3.over hF9 x_BG_p0 (by decide)
    have r_v_1 : RI v_1 (-1) 5 := hp_v_1.1
    by_cases c9_v_1 : v_1.toInt < 0
    · have r_v_1 : RI v_1 (-1) (-1) := by unfold RI at r_v_1 ⊢; omega
      have x_FLT_p1 := (hp_v_1.2.2.2.2.1 (by omega)).1
      obtain ⟨v_2, m_v_2, r_v_2⟩ := id x_FLT_p1
      refine lv_istore (lv' := [(4, .int v_1), (0, .ref p0), (1, .ref p1), (2, .ref p2), (3, .int p3)]) hx hb dX0_readOther_27 hl (by decide) rfl (fun ls hl => ?_)
      refine lv_aload_n hx hb dX0_readOther_29 rfl (lv_at hl 1 rfl) ?_
      refine lv_iload_n hx hb dX0_readOther_30 rfl (lv_at hl 4 rfl) ?_
      refine lv_iload hx hb dX0_readOther_31 (lv_at hl 0 rfl) ?_
      refine lv_iload_n hx hb dX0_readOther_33 rfl (lv_at hl 4 rfl) ?_
      refine lv_sipush (v := 142) hx hb dX0_readOther_34 (by decide) ?_
      refine lv_icmp_ne (tgt := 49) hx hb dX0_readOther_37 (by decide) (fun c_37 => ?_) (fun c_37 => ?_)
      · have r_p3 : RI p3 141 141 := rc_neU r_p3 rl_142 (ti_ne c_37) (by decide)
        refine lv_iconst (v := (-1)) hx hb dX0_readOther_49 (by decide) ?_
        refine tk_v (va_runV (As := [.int p3, .int v_1, .int (-1)]) (rest := []) ⟨hx, hb, hml, hown, hts⟩ (c_X0_addLine__2 l D cy z H.size Ps ws hw.1 p0 p3 v_1 (-1) h_p0 (r_p3.to (by decide)) (r_v_1.to (by decide)) (rl_m1.to (by decide))) (cwV 3 hts (gV tw_904 tw_906 ts_28 tw_7 tw_907) rfl rfl rfl (by decide +kernel) ⟨Nat.le_of_ble_eq_true rfl, Nat.le_of_ble_eq_true rfl⟩) (tg_preV hw hK hSD hA (ci := 0) (q := (RX0, TX0, 5)) rfl h_p0 rfl) rfl rfl hl.1 rfl (lv_room (Nat.le_of_ble_eq_true rfl)) dX0_readOther_50 ⟨Nat.le_of_ble_eq_true rfl, Nat.le_of_ble_eq_true rfl⟩) hw hA ⟨by decide, by decide⟩ (fun ws H locs hp_v_3 hw hF9 => ?_)
        have m_v_2 := FLD.over hF9 m_v_2 (by decide)
        have x_FLT_p1 := FLTp.over hF9 x_FLT_p1 (by decide)
        obtain ⟨v_4, m_v_4, r_v_4⟩ := (hp_v_3.1)
        have x_JB_p1_p0 : JB Ps ws p1 p0 := Or.inl ⟨_, m_v_2, r_v_2.to (by decide)⟩
        subst hQ
        exact W.vret hx hb hr (fun t ht hW => ⟨⟨ws, rfl, ⟨⟨⟨_, m_v_4, r_v_4⟩, x_JB_p1_p0, trivial⟩, hw.1, hw.2.2.2.2.1⟩, by rw [ht]; exact hw.2.1, va_K.moved hW.alike hK, hw.2.2.1⟩, hw.2.2.2.1.F ht⟩) hw.2.2.2.1.2.2 dX0_readOther_53
      · have r_p3 : RI p3 142 142 := rc_eq1 r_p3 rl_142 (ti_eq c_37) (by decide)
        refine lv_aload_n hx hb dX0_readOther_40 rfl (lv_at hl 2 rfl) ?_
        refine lv_aload_n hx hb dX0_readOther_41 rfl (lv_at hl 3 rfl) ?_
        refine lv_iconst (v := 1) hx hb dX0_readOther_42 (by decide) ?_
        refine tk_ir (va_runV (As := [.ref p2, .int 1]) (rest := [.int v_1, .int p3, .ref p0]) ⟨hx, hb, hml, hown, hts⟩ (c_X7_takeName__7 l D cy z H.size Ps ws hw.1 p1 p2 1 v_2 h_p1 h_p2 rl_1 r_v_2 m_v_2) (cwV 2 hts (gV tw_903 tw_465 tw_466 tw_2 tw_467) rfl rfl rfl (by decide +kernel) ⟨Nat.le_of_ble_eq_true rfl, Nat.le_of_ble_eq_true rfl⟩) (tg_preV hw hK hSD hA (ci := 7) (q := (RX7, TX7, 12)) rfl h_p1 rfl) rfl rfl hl.1 rfl (lv_room (Nat.le_of_ble_eq_true rfl)) dX0_readOther_43 ⟨Nat.le_of_ble_eq_true rfl, Nat.le_of_ble_eq_true rfl⟩) hw hA (fun v_5  H locs hp_v_5 hw => ?_)
        have r_v_5 : RI v_5 (-1) (-1) := hp_v_5.1
        by_cases c9_v_5 : v_5.toInt < 0
        · have r_v_5 : RI v_5 (-1) (-1) := by unfold RI at r_v_5 ⊢; omega
          have x_FLT_p1 := (hp_v_5.2.2.2.2.1 (by omega)).1
          obtain ⟨v_6, m_v_6, r_v_6⟩ := id x_FLT_p1
          refine lv_goto (tgt := 50) hx hb dX0_readOther_46 (by decide) ?_
          refine tk_v (va_runV (As := [.int p3, .int v_1, .int v_5]) (rest := []) ⟨hx, hb, hml, hown, hts⟩ (c_X0_addLine__2 l D cy z H.size Ps ws hw.1 p0 p3 v_1 v_5 h_p0 (r_p3.to (by decide)) (r_v_1.to (by decide)) (r_v_5.to (by decide))) (cwV 3 hts (gV tw_904 tw_906 ts_28 tw_7 tw_907) rfl rfl rfl (by decide +kernel) ⟨Nat.le_of_ble_eq_true rfl, Nat.le_of_ble_eq_true rfl⟩) (tg_preV hw hK hSD hA (ci := 0) (q := (RX0, TX0, 5)) rfl h_p0 rfl) rfl rfl hl.1 rfl (lv_room (Nat.le_of_ble_eq_true rfl)) dX0_readOther_50 ⟨Nat.le_of_ble_eq_true rfl, Nat.le_of_ble_eq_true rfl⟩) hw hA ⟨by decide, by decide⟩ (fun ws H locs hp_v_7 hw hF9 => ?_)
          have m_v_6 := FLD.over hF9 m_v_6 (by decide)
          have x_FLT_p1 := FLTp.over hF9 x_FLT_p1 (by decide)
          obtain ⟨v_8, m_v_8, r_v_8⟩ := (hp_v_7.1)
          have x_JB_p1_p0 : JB Ps ws p1 p0 := Or.inl ⟨_, m_v_6, r_v_6.to (by decide)⟩
          subst hQ
          exact W.vret hx hb hr (fun t ht hW => ⟨⟨ws, rfl, ⟨⟨⟨_, m_v_8, r_v_8⟩, x_JB_p1_p0, trivial⟩, hw.1, hw.2.2.2.2.1⟩, by rw [ht]; exact hw.2.1, va_K.moved hW.alike hK, hw.2.2.1⟩, hw.2.2.2.1.F ht⟩) hw.2.2.2.1.2.2 dX0_readOther_53
        · exact absurd c9_v_5 (by unfold RI at r_v_5; omega)
    · have r_v_1 : RI v_1 0 5 := by unfold RI at r_v_1 ⊢; omega
      refine lv_istore (lv' := [(4, .int v_1), (0, .ref p0), (1, .ref p1), (2, .ref p2), (3, .int p3)]) hx hb dX0_readOther_27 hl (by decide) rfl (fun ls hl => ?_)
      refine lv_aload_n hx hb dX0_readOther_29 rfl (lv_at hl 1 rfl) ?_
      refine lv_iload_n hx hb dX0_readOther_30 rfl (lv_at hl 4 rfl) ?_
      refine lv_iload hx hb dX0_readOther_31 (lv_at hl 0 rfl) ?_
      refine lv_iload_n hx hb dX0_readOther_33 rfl (lv_at hl 4 rfl) ?_
      refine lv_sipush (v := 142) hx hb dX0_readOther_34 (by decide) ?_
      refine lv_icmp_ne (tgt := 49) hx hb dX0_readOther_37 (by decide) (fun c_37 => ?_) (fun c_37 => ?_)
      · have r_p3 : RI p3 141 141 := rc_neU r_p3 rl_142 (ti_ne c_37) (by decide)
        refine lv_iconst (v := (-1)) hx hb dX0_readOther_49 (by decide) ?_
        have x_GB_p3_v_1___1_ : gb p3 v_1 (-1) := by have k1 := r_p3; have k2 := r_v_1; have k3 := rl_m1; unfold RI at k1 k2 k3; unfold gb; omega
        refine tk_v (va_runV (As := [.int p3, .int v_1, .int (-1)]) (rest := []) ⟨hx, hb, hml, hown, hts⟩ (c_X0_addLine__1 l D cy z H.size Ps ws hw.1 p0 p3 v_1 (-1) h_p0 (r_p3.to (by decide)) (r_v_1.to (by decide)) (rl_m1.to (by decide)) x_BG_p0 x_GB_p3_v_1___1_) (cwV 3 hts (gV tw_904 tw_906 ts_28 tw_7 tw_907) rfl rfl rfl (by decide +kernel) ⟨Nat.le_of_ble_eq_true rfl, Nat.le_of_ble_eq_true rfl⟩) (tg_preV hw hK hSD hA (ci := 0) (q := (RX0, TX0, 5)) rfl h_p0 rfl) rfl rfl hl.1 rfl (lv_room (Nat.le_of_ble_eq_true rfl)) dX0_readOther_50 ⟨Nat.le_of_ble_eq_true rfl, Nat.le_of_ble_eq_true rfl⟩) hw hA ⟨by decide, by decide⟩ (fun ws H locs hp_v_9 hw hF9 => ?_)
        obtain ⟨v_10, m_v_10, r_v_10⟩ := (hp_v_9.1)
        have x_BG_p0 := (hp_v_9.2.1)
        have x_JB_p1_p0 : JB Ps ws p1 p0 := Or.inr x_BG_p0
        subst hQ
        exact W.vret hx hb hr (fun t ht hW => ⟨⟨ws, rfl, ⟨⟨⟨_, m_v_10, r_v_10⟩, x_JB_p1_p0, trivial⟩, hw.1, hw.2.2.2.2.1⟩, by rw [ht]; exact hw.2.1, va_K.moved hW.alike hK, hw.2.2.1⟩, hw.2.2.2.1.F ht⟩) hw.2.2.2.1.2.2 dX0_readOther_53
      · have r_p3 : RI p3 142 142 := rc_eq1 r_p3 rl_142 (ti_eq c_37) (by decide)
        refine lv_aload_n hx hb dX0_readOther_40 rfl (lv_at hl 2 rfl) ?_
        refine lv_aload_n hx hb dX0_readOther_41 rfl (lv_at hl 3 rfl) ?_
        refine lv_iconst (v := 1) hx hb dX0_readOther_42 (by decide) ?_
        refine tk_i (va_runV (As := [.ref p2, .int 1]) (rest := [.int v_1, .int p3, .ref p0]) ⟨hx, hb, hml, hown, hts⟩ (c_X7_takeName__8 l D cy z H.size Ps ws hw.1 p1 p2 1 h_p1 h_p2 rl_1) (cwV 2 hts (gV tw_903 tw_465 tw_466 tw_2 tw_467) rfl rfl rfl (by decide +kernel) ⟨Nat.le_of_ble_eq_true rfl, Nat.le_of_ble_eq_true rfl⟩) (tg_preV hw hK hSD hA (ci := 7) (q := (RX7, TX7, 12)) rfl h_p1 rfl) rfl rfl hl.1 rfl (lv_room (Nat.le_of_ble_eq_true rfl)) dX0_readOther_43 ⟨Nat.le_of_ble_eq_true rfl, Nat.le_of_ble_eq_true rfl⟩) hw hA ⟨by decide, by decide⟩ (fun v_11 ws H locs hp_v_11 hw hF9 => ?_)
        have x_BG_p0 := B3.over hF9 x_BG_p0 (by decide)
        have r_v_11 : RI v_11 (-1) 3 := hp_v_11.1
        by_cases c9_v_11 : v_11.toInt < 0
        · have r_v_11 : RI v_11 (-1) (-1) := by unfold RI at r_v_11 ⊢; omega
          have x_FLT_p1 := (hp_v_11.2.2.2.2.1 (by omega)).1
          obtain ⟨v_12, m_v_12, r_v_12⟩ := id x_FLT_p1
          refine lv_goto (tgt := 50) hx hb dX0_readOther_46 (by decide) ?_
          have x_GB_p3_v_1_v_11 : gb p3 v_1 v_11 := by have k1 := r_p3; have k2 := r_v_1; have k3 := r_v_11; unfold RI at k1 k2 k3; unfold gb; omega
          refine tk_v (va_runV (As := [.int p3, .int v_1, .int v_11]) (rest := []) ⟨hx, hb, hml, hown, hts⟩ (c_X0_addLine__1 l D cy z H.size Ps ws hw.1 p0 p3 v_1 v_11 h_p0 (r_p3.to (by decide)) (r_v_1.to (by decide)) (r_v_11.to (by decide)) x_BG_p0 x_GB_p3_v_1_v_11) (cwV 3 hts (gV tw_904 tw_906 ts_28 tw_7 tw_907) rfl rfl rfl (by decide +kernel) ⟨Nat.le_of_ble_eq_true rfl, Nat.le_of_ble_eq_true rfl⟩) (tg_preV hw hK hSD hA (ci := 0) (q := (RX0, TX0, 5)) rfl h_p0 rfl) rfl rfl hl.1 rfl (lv_room (Nat.le_of_ble_eq_true rfl)) dX0_readOther_50 ⟨Nat.le_of_ble_eq_true rfl, Nat.le_of_ble_eq_true rfl⟩) hw hA ⟨by decide, by decide⟩ (fun ws H locs hp_v_13 hw hF9 => ?_)
          have m_v_12 := FLD.over hF9 m_v_12 (by decide)
          have x_FLT_p1 := FLTp.over hF9 x_FLT_p1 (by decide)
          obtain ⟨v_14, m_v_14, r_v_14⟩ := (hp_v_13.1)
          have x_BG_p0 := (hp_v_13.2.1)
          have x_JB_p1_p0 : JB Ps ws p1 p0 := Or.inr x_BG_p0
          subst hQ
          exact W.vret hx hb hr (fun t ht hW => ⟨⟨ws, rfl, ⟨⟨⟨_, m_v_14, r_v_14⟩, x_JB_p1_p0, trivial⟩, hw.1, hw.2.2.2.2.1⟩, by rw [ht]; exact hw.2.1, va_K.moved hW.alike hK, hw.2.2.1⟩, hw.2.2.2.1.F ht⟩) hw.2.2.2.1.2.2 dX0_readOther_53
        · have r_v_11 : RI v_11 0 3 := by unfold RI at r_v_11 ⊢; omega
          refine lv_goto (tgt := 50) hx hb dX0_readOther_46 (by decide) ?_
          have x_GB_p3_v_1_v_11 : gb p3 v_1 v_11 := by have k1 := r_p3; have k2 := r_v_1; have k3 := r_v_11; unfold RI at k1 k2 k3; unfold gb; omega
          refine tk_v (va_runV (As := [.int p3, .int v_1, .int v_11]) (rest := []) ⟨hx, hb, hml, hown, hts⟩ (c_X0_addLine__1 l D cy z H.size Ps ws hw.1 p0 p3 v_1 v_11 h_p0 (r_p3.to (by decide)) (r_v_1.to (by decide)) (r_v_11.to (by decide)) x_BG_p0 x_GB_p3_v_1_v_11) (cwV 3 hts (gV tw_904 tw_906 ts_28 tw_7 tw_907) rfl rfl rfl (by decide +kernel) ⟨Nat.le_of_ble_eq_true rfl, Nat.le_of_ble_eq_true rfl⟩) (tg_preV hw hK hSD hA (ci := 0) (q := (RX0, TX0, 5)) rfl h_p0 rfl) rfl rfl hl.1 rfl (lv_room (Nat.le_of_ble_eq_true rfl)) dX0_readOther_50 ⟨Nat.le_of_ble_eq_true rfl, Nat.le_of_ble_eq_true rfl⟩) hw hA ⟨by decide, by decide⟩ (fun ws H locs hp_v_15 hw hF9 => ?_)
          obtain ⟨v_16, m_v_16, r_v_16⟩ := (hp_v_15.1)
          have x_BG_p0 := (hp_v_15.2.1)
          have x_JB_p1_p0 : JB Ps ws p1 p0 := Or.inr x_BG_p0
          subst hQ
          exact W.vret hx hb hr (fun t ht hW => ⟨⟨ws, rfl, ⟨⟨⟨_, m_v_16, r_v_16⟩, x_JB_p1_p0, trivial⟩, hw.1, hw.2.2.2.2.1⟩, by rw [ht]; exact hw.2.1, va_K.moved hW.alike hK, hw.2.2.1⟩, hw.2.2.2.1.F ht⟩) hw.2.2.2.1.2.2 dX0_readOther_53
  · have r_p3 : RI p3 143 143 := rc_eq1 r_p3 rl_143 (ti_eq c_4) (by decide)
    refine lv_aload_n hx hb dX0_readOther_7 rfl (lv_at hl 0 rfl) ?_
    refine lv_iload_n hx hb dX0_readOther_8 rfl (lv_at hl 3 rfl) ?_
    refine lv_aload_n hx hb dX0_readOther_9 rfl (lv_at hl 1 rfl) ?_
    refine lv_iconst (v := 1) hx hb dX0_readOther_10 (by decide) ?_
    refine lv_bipush (v := 60) hx hb dX0_readOther_11 (by decide) ?_
    refine tk_i (va_runV (As := [.int 1, .int 60]) (rest := [.int p3, .ref p0]) ⟨hx, hb, hml, hown, hts⟩ (c_X7_takeNumber__1 l D cy z s.heap.size Ps w0 hw.1 p1 1 60 h_p1 (rl_1.to (by decide)) (rl_60.to (by decide))) (cwV 2 hts (gV tw_912 tw_478 tw_479 tw_2 tw_480) rfl rfl rfl (by decide +kernel) ⟨Nat.le_of_ble_eq_true rfl, Nat.le_of_ble_eq_true rfl⟩) (tg_preV hw hK hSD hA (ci := 7) (q := (RX7, TX7, 12)) rfl h_p1 rfl) rfl rfl hl.1 rfl (lv_room (Nat.le_of_ble_eq_true rfl)) dX0_readOther_13 ⟨Nat.le_of_ble_eq_true rfl, Nat.le_of_ble_eq_true rfl⟩) hw hA ⟨by decide, by decide⟩ (fun v_17 ws H locs hp_v_17 hw hF9 => ?_)
    have x_BG_p0 := B3.over hF9 x_BG_p0 (by decide)
    have r_v_17 : RI v_17 (-2147483648) 2147483647 := hp_v_17.1
    refine lv_iconst (v := (-1)) hx hb dX0_readOther_16 (by decide) ?_
    have x_GB_p3_v_17___1_ : gb p3 v_17 (-1) := by have k1 := r_p3; have k2 := r_v_17; have k3 := rl_m1; unfold RI at k1 k2 k3; unfold gb; omega
    refine tk_v (va_runV (As := [.int p3, .int v_17, .int (-1)]) (rest := []) ⟨hx, hb, hml, hown, hts⟩ (c_X0_addLine__1 l D cy z H.size Ps ws hw.1 p0 p3 v_17 (-1) h_p0 (r_p3.to (by decide)) r_v_17 (rl_m1.to (by decide)) x_BG_p0 x_GB_p3_v_17___1_) (cwV 3 hts (gV tw_904 tw_906 ts_28 tw_7 tw_907) rfl rfl rfl (by decide +kernel) ⟨Nat.le_of_ble_eq_true rfl, Nat.le_of_ble_eq_true rfl⟩) (tg_preV hw hK hSD hA (ci := 0) (q := (RX0, TX0, 5)) rfl h_p0 rfl) rfl rfl hl.1 rfl (lv_room (Nat.le_of_ble_eq_true rfl)) dX0_readOther_17 ⟨Nat.le_of_ble_eq_true rfl, Nat.le_of_ble_eq_true rfl⟩) hw hA ⟨by decide, by decide⟩ (fun ws H locs hp_v_18 hw hF9 => ?_)
    obtain ⟨v_19, m_v_19, r_v_19⟩ := (hp_v_18.1)
    have x_BG_p0 := (hp_v_18.2.1)
    have x_JB_p1_p0 : JB Ps ws p1 p0 := Or.inr x_BG_p0
    subst hQ
    exact W.vret hx hb hr (fun t ht hW => ⟨⟨ws, rfl, ⟨⟨⟨_, m_v_19, r_v_19⟩, x_JB_p1_p0, trivial⟩, hw.1, hw.2.2.2.2.1⟩, by rw [ht]; exact hw.2.1, va_K.moved hW.alike hK, hw.2.2.1⟩, hw.2.2.2.1.F ht⟩) hw.2.2.2.1.2.2 dX0_readOther_20
abbrev wr_X0_beginsLine__6 : List (Nat × Nat) := [(7, 10), (7, 11)]
abbrev wa_X0_beginsLine__6 : List Nat := []
set_option maxHeartbeats 4000000 in
set_option maxRecDepth 100000 in
theorem c_X0_beginsLine__6 (l : Launch) (D : va_G) (cy : Nat → ClassId) (z : Nat → Nat) (sz : Nat) (Ps : PSI) (w0 : va_W) (hT : HT cy GG Ps w0) (p0 : Nat) (p1 : Nat) (p2 : Int32) (f1_10 : Int32) (h_p0 : (p0, 31) ∈ Ps) (h_p1 : (p1, 26) ∈ Ps) (r_p2 : RI p2 144 2147483647) (r_f1_10 : RI f1_10 0 0) (m_f1_10 : FLD w0 p1 7 10 (.int f1_10)) : Met l yX0_beginsLine (Cond.code yX0_beginsLine cX0_beginsLine 3 (some .boolean) :: gT) ({ frames := 2, cells := 0, slots := 0, locals := 400 } : Room) (va_Pc [.ref p0, .ref p1, .int p2] (PRE D cy z w0 sz)) (va_Qi (fun (r : Int32) (u : va_W) => (RI r 0 0 ∧ (r = 0 → (∃ v9 : Int32, FLD u p1 7 10 (.int v9) ∧ RI v9 1 4) ∧ True) ∧ (¬ r = 0 → True)) ∧ HT cy GG Ps u ∧ FR wr_X0_beginsLine__6 wa_X0_beginsLine__6 Ps w0 u) (BB D cy (va_A w0 sz) (fun (u : va_W) => u)) (va_A w0 sz)) 0 0 (va_A w0 sz) := by
  refine Met.ofW (cc := cX0_beginsLine) (maxL := 3) (ret := (some .boolean)) (by decide) rfl ?_
  intro p e s m args below meth c s₁ B hml hv
  obtain ⟨rfl, hsz, hP, hK, hD0, hSD⟩ := hv
  have hx := B.exec
  have hb := B.bytes
  have hr := B.returns
  have hlocks := B.notSynchronized
  have hts : ∀ w ∈ gT, w.before _ s = true := fun w h => atoms_spec (ws := Cond.code yX0_beginsLine cX0_beginsLine 3 (some .boolean) :: gT) B.pre w (List.mem_cons_of_mem _ h)
  have hown : s.vm.findClass RX0 = some m.cls := findClass_of_methodNamed B.named
  subst hsz
  have hD := hD0.self (sz := s.heap.size)
  generalize hAe : va_A w0 s.heap.size = A at hD hSD ⊢
  have hA : ∀ q : Nat, s.heap.size ≤ q → A q := fun q h => by rw [← hAe]; exact Or.inr h
  have hl := lv_entry ([.ref p0, .ref p1, .int p2]) (n := 3) (Nat.le_of_ble_eq_true rfl)
  rw [lg_entry_eq]
  generalize (lg_sl ([.ref p0, .ref p1, .int p2]) ++ List.replicate (3 - (lg_sl ([.ref p0, .ref p1, .int p2])).length) Slot.unset).toArray = ls at hl ⊢
  have hl : lv_has ls 3 [(0, .ref p0), (1, .ref p1), (2, .int p2)] := hl
  refine nameQ (fun Q hQ => ?_)
  have hw : WD D cy GG A s wr_X0_beginsLine__6 wa_X0_beginsLine__6 Ps w0 Ps w0 s.heap [] := ⟨hT, hP, hD, va_S.rf, FR.rf, hT.1, [], (List.append_nil _).symm⟩
  refine lv_iload_n hx hb dX0_beginsLine_0 rfl (lv_at hl 2 rfl) ?_
  refine lv_iconst (v := 2) hx hb dX0_beginsLine_1 (by decide) ?_
  refine lv_icmp_eq (tgt := 27) hx hb dX0_beginsLine_2 (by decide) (fun c_2 => ?_) (fun c_2 => ?_)
  · have r_p2 : RI p2 144 2 := rc_eq1 r_p2 rl_2 (ti_eq c_2) (by decide)
    exact (r_p2.no (by decide)).elim
  · refine lv_iload_n hx hb dX0_beginsLine_5 rfl (lv_at hl 2 rfl) ?_
    refine lv_sipush (v := 141) hx hb dX0_beginsLine_6 (by decide) ?_
    refine lv_icmp_lt (tgt := 19) hx hb dX0_beginsLine_9 (by decide) (fun c_9 => ?_) (fun c_9 => ?_)
    · have r_p2 : RI p2 144 140 := rc_lt1 r_p2 rl_141 (ti_lt c_9) (by decide)
      exact (r_p2.no (by decide)).elim
    · refine lv_iload_n hx hb dX0_beginsLine_12 rfl (lv_at hl 2 rfl) ?_
      refine lv_sipush (v := 143) hx hb dX0_beginsLine_13 (by decide) ?_
      refine lv_icmp_le (tgt := 27) hx hb dX0_beginsLine_16 (by decide) (fun c_16 => ?_) (fun c_16 => ?_)
      · have r_p2 : RI p2 144 143 := rc_le1 r_p2 rl_143 (ti_le c_16) (by decide)
        exact (r_p2.no (by decide)).elim
      · refine lv_aload_n hx hb dX0_beginsLine_19 rfl (lv_at hl 1 rfl) ?_
        refine lv_iconst (v := 1) hx hb dX0_beginsLine_20 (by decide) ?_
        refine tk_v (va_runV (As := [.int 1]) (rest := []) ⟨hx, hb, hml, hown, hts⟩ (c_X7_refuse__3 l D cy z s.heap.size Ps w0 hw.1 p1 1 f1_10 h_p1 (rl_1.to (by decide)) r_f1_10 m_f1_10) (cwV 1 hts (gV tw_897 tw_443 tw_444 tw_2 tw_445) rfl rfl rfl (by decide +kernel) ⟨Nat.le_of_ble_eq_true rfl, Nat.le_of_ble_eq_true rfl⟩) (tg_preV hw hK hSD hA (ci := 7) (q := (RX7, TX7, 12)) rfl h_p1 rfl) rfl rfl hl.1 rfl (lv_room (Nat.le_of_ble_eq_true rfl)) dX0_beginsLine_21 ⟨Nat.le_of_ble_eq_true rfl, Nat.le_of_ble_eq_true rfl⟩) hw hA ⟨by decide, by decide⟩ (fun ws H locs hp_v_1 hw hF9 => ?_)
        obtain ⟨v_2, m_v_2, r_v_2⟩ := (hp_v_1.1)
        refine lv_goto (tgt := 41) hx hb dX0_beginsLine_24 (by decide) ?_
        refine lv_aload_n hx hb dX0_beginsLine_41 rfl (lv_at hl 1 rfl) ?_
        refine tk_vr (va_runV (As := []) (rest := []) ⟨hx, hb, hml, hown, hts⟩ (c_X7_pass__1 l D cy z H.size Ps ws hw.1 p1 v_2 h_p1 r_v_2 m_v_2) (cwV 0 hts (gV tw_898 tw_425 tw_426 tw_2 tw_427) rfl rfl rfl (by decide +kernel) ⟨Nat.le_of_ble_eq_true rfl, Nat.le_of_ble_eq_true rfl⟩) (tg_preV hw hK hSD hA (ci := 7) (q := (RX7, TX7, 12)) rfl h_p1 rfl) rfl rfl hl.1 rfl (lv_room (Nat.le_of_ble_eq_true rfl)) dX0_beginsLine_42 ⟨Nat.le_of_ble_eq_true rfl, Nat.le_of_ble_eq_true rfl⟩) hw hA (fun  H locs hp_v_3 hw => ?_)
        refine lv_aload_n hx hb dX0_beginsLine_45 rfl (lv_at hl 1 rfl) ?_
        refine tg_memN (ci := 7) (C := RX7) (T := TX7) (N := 12) hx hb hts inX7 hown hK hw 10 m_v_2 rfl (by decide) (hSD.nest tn_102) (fun _ h9 => h9) dX0_beginsLine_46 ?_
        refine lv_if_ne (tgt := 56) hx hb dX0_beginsLine_49 (by decide) (fun c_49 => ?_) (fun c_49 => ?_)
        · refine lv_iconst (v := 0) hx hb dX0_beginsLine_56 (by decide) ?_
          subst hQ
          exact W.zret (v := 0) hx hb hr (rfl) (fun t ht hW => ⟨⟨0, ws, rfl, ⟨⟨rl_0.to (by decide), (fun h0 => ⟨⟨_, m_v_2, r_v_2⟩, trivial⟩), (fun _ => trivial)⟩, hw.1, hw.2.2.2.2.1⟩, by rw [ht]; exact hw.2.1, va_K.moved hW.alike hK, hw.2.2.1⟩, hw.2.2.2.1.F ht⟩) hw.2.2.2.1.2.2 dX0_beginsLine_57
        · have r_v_2 : RI v_2 1 0 := rc_eq1 r_v_2 rl_0 (ti_eq c_49) (by decide)
          exact (r_v_2.no (by decide)).elim
abbrev wr_X0_read : List (Nat × Nat) := [(0, 3), (7, 3), (7, 4), (7, 5), (7, 6), (7, 7), (7, 8), (7, 9), (7, 10), (7, 11)]
abbrev wa_X0_read : List Nat := [18, 19, 20]
set_option maxHeartbeats 4000000 in
set_option maxRecDepth 100000 in
theorem c_X0_read (l : Launch) (D : va_G) (cy : Nat → ClassId) (z : Nat → Nat) (sz : Nat) (Ps : PSI) (w0 : va_W) (hT : HT cy GG Ps w0) (p0 : Nat) (p1 : Nat) (p2 : Nat) (h_p0 : (p0, 31) ∈ Ps) (h_p1 : (p1, 26) ∈ Ps) (h_p2 : (p2, 25) ∈ Ps) : Met l yX0_read (Cond.code yX0_read cX0_read 6 none :: gT) ({ frames := 5, cells := 0, slots := 0, locals := 1000 } : Room) (va_Pc [.ref p0, .ref p1, .ref p2] (PRE D cy z w0 sz)) (va_Qv (fun (u : va_W) => (JB Ps u p1 p0 ∧ True) ∧ HT cy GG Ps u ∧ FR wr_X0_read wa_X0_read Ps w0 u) (BB D cy (va_A w0 sz) (fun (u : va_W) => u)) (va_A w0 sz)) 0 0 (va_A w0 sz) := by
  refine Met.ofW (cc := cX0_read) (maxL := 6) (ret := none) (by decide) rfl ?_
  intro p e s m args below meth c s₁ B hml hv
  obtain ⟨rfl, hsz, hP, hK, hD0, hSD⟩ := hv
  have hx := B.exec
  have hb := B.bytes
  have hr := B.returns
  have hlocks := B.notSynchronized
  have hts : ∀ w ∈ gT, w.before _ s = true := fun w h => atoms_spec (ws := Cond.code yX0_read cX0_read 6 none :: gT) B.pre w (List.mem_cons_of_mem _ h)
  have hown : s.vm.findClass RX0 = some m.cls := findClass_of_methodNamed B.named
  subst hsz
  have hD := hD0.self (sz := s.heap.size)
  generalize hAe : va_A w0 s.heap.size = A at hD hSD ⊢
  have hA : ∀ q : Nat, s.heap.size ≤ q → A q := fun q h => by rw [← hAe]; exact Or.inr h
  have hl := lv_entry ([.ref p0, .ref p1, .ref p2]) (n := 6) (Nat.le_of_ble_eq_true rfl)
  rw [lg_entry_eq]
  generalize (lg_sl ([.ref p0, .ref p1, .ref p2]) ++ List.replicate (6 - (lg_sl ([.ref p0, .ref p1, .ref p2])).length) Slot.unset).toArray = ls at hl ⊢
  have hl : lv_has ls 6 [(0, .ref p0), (1, .ref p1), (2, .ref p2)] := hl
  refine nameQ (fun Q hQ => ?_)
  have hw : WD D cy GG A s wr_X0_read wa_X0_read Ps w0 Ps w0 s.heap [] := ⟨hT, hP, hD, va_S.rf, FR.rf, hT.1, [], (List.append_nil _).symm⟩
  have B14 : ∀ (nf : Nat) (x3 : Int32) (ws : va_W) (H : Heap) (locs : List Loc) (ls : Array Slot), 41 - x3.toInt < (nf : Int) → RI x3 0 41 → JB Ps ws p1 p0 → WD D cy GG A s wr_X0_read wa_X0_read Ps w0 Ps ws H locs → lv_has ls 6 [(0, .ref p0), (1, .ref p1), (2, .ref p2), (3, .int x3)] → W p l e (headSpec (Cond.code yX0_read cX0_read 6 none :: gT) ({ frames := 5, cells := 0, slots := 0, locals := 1000 } : Room)).room s m ([.ref p0, .ref p1, .ref p2] : List Value).toArray below meth c H locs 0 0 Q (F0 m 14 ls []) := by
    intro nf14
    induction nf14 with
    | zero =>
      intro x3 ws H locs ls hn14 r_x3 x_JB_p1_p0 hw hl
      exact absurd hn14 (by have q0 := r_x3.1; have u0 := r_x3.2; omega)
    | succ nf14 ih14 =>
      intro x3 ws H locs ls hn14 r_x3 x_JB_p1_p0 hw hl
      refine lv_iload_n hx hb dX0_read_14 rfl (lv_at hl 3 rfl) ?_
      refine lv_bipush (v := 40) hx hb dX0_read_15 (by decide) ?_
      refine lv_icmp_gt (tgt := 99) hx hb dX0_read_17 (by decide) (fun c_17 => ?_) (fun c_17 => ?_)
      · have r_x3 : RI x3 41 41 := rc_lt2 rl_40 r_x3 (ti_lt c_17) (by decide)
        subst hQ
        exact W.vret hx hb hr (fun t ht hW => ⟨⟨ws, rfl, ⟨⟨x_JB_p1_p0, trivial⟩, hw.1, hw.2.2.2.2.1⟩, by rw [ht]; exact hw.2.1, va_K.moved hW.alike hK, hw.2.2.1⟩, hw.2.2.2.1.F ht⟩) hw.2.2.2.1.2.2 dX0_read_99
      · have r_x3 : RI x3 0 40 := rc_le1 r_x3 rl_40 (ti_nlt c_17) (by decide)
        refine lv_aload_n hx hb dX0_read_20 rfl (lv_at hl 1 rfl) ?_
        rcases x_JB_p1_p0 with x_FLT_p1 | x_BG_p0
        · obtain ⟨v_1, m_v_1, r_v_1⟩ := id x_FLT_p1
          refine tk_ir (va_runV (As := []) (rest := []) ⟨hx, hb, hml, hown, hts⟩ (c_X7_goesOn__1 l D cy z H.size Ps ws hw.1 p1 v_1 h_p1 r_v_1 m_v_1) (cwV 0 hts (gV tw_891 tw_439 tw_440 tw_2 tw_441) rfl rfl rfl (by decide +kernel) ⟨Nat.le_of_ble_eq_true rfl, Nat.le_of_ble_eq_true rfl⟩) (tg_preV hw hK hSD hA (ci := 7) (q := (RX7, TX7, 12)) rfl h_p1 rfl) rfl rfl hl.1 rfl (lv_room (Nat.le_of_ble_eq_true rfl)) dX0_read_21 ⟨Nat.le_of_ble_eq_true rfl, Nat.le_of_ble_eq_true rfl⟩) hw hA (fun v_2  H locs hp_v_2 hw => ?_)
          have r_v_2 : RI v_2 0 0 := hp_v_2.1
          refine lv_if_eq (tgt := 99) hx hb dX0_read_24 (by decide) (fun c_24 => ?_) (fun c_24 => ?_)
          · have x_JB_p1_p0 : JB Ps ws p1 p0 := Or.inl ⟨_, m_v_1, r_v_1.to (by decide)⟩
            subst hQ
            exact W.vret hx hb hr (fun t ht hW => ⟨⟨ws, rfl, ⟨⟨x_JB_p1_p0, trivial⟩, hw.1, hw.2.2.2.2.1⟩, by rw [ht]; exact hw.2.1, va_K.moved hW.alike hK, hw.2.2.1⟩, hw.2.2.2.1.F ht⟩) hw.2.2.2.1.2.2 dX0_read_99
          · exact absurd (r_v_2.eq.trans rl_0.eq.symm) ((ti_ne c_24))
        · refine tk_i (va_runV (As := []) (rest := []) ⟨hx, hb, hml, hown, hts⟩ (c_X7_goesOn__2 l D cy z H.size Ps ws hw.1 p1 h_p1) (cwV 0 hts (gV tw_891 tw_439 tw_440 tw_2 tw_441) rfl rfl rfl (by decide +kernel) ⟨Nat.le_of_ble_eq_true rfl, Nat.le_of_ble_eq_true rfl⟩) (tg_preV hw hK hSD hA (ci := 7) (q := (RX7, TX7, 12)) rfl h_p1 rfl) rfl rfl hl.1 rfl (lv_room (Nat.le_of_ble_eq_true rfl)) dX0_read_21 ⟨Nat.le_of_ble_eq_true rfl, Nat.le_of_ble_eq_true rfl⟩) hw hA ⟨by decide, by decide⟩ (fun v_3 ws H locs hp_v_3 hw hF9 => ?_)
          have x_BG_p0 := B3.over hF9 x_BG_p0 (by decide)
          have r_v_3 : RI v_3 0 1 := hp_v_3.1
          by_cases c9_v_3 : v_3 = 0
          · have r_v_3 : RI v_3 0 0 := by rw [c9_v_3]; exact rl_0
            refine lv_if_eq (tgt := 99) hx hb dX0_read_24 (by decide) (fun c_24 => ?_) (fun c_24 => ?_)
            · have x_JB_p1_p0 : JB Ps ws p1 p0 := Or.inr x_BG_p0
              subst hQ
              exact W.vret hx hb hr (fun t ht hW => ⟨⟨ws, rfl, ⟨⟨x_JB_p1_p0, trivial⟩, hw.1, hw.2.2.2.2.1⟩, by rw [ht]; exact hw.2.1, va_K.moved hW.alike hK, hw.2.2.1⟩, hw.2.2.2.1.F ht⟩) hw.2.2.2.1.2.2 dX0_read_99
            · exact absurd (r_v_3.eq.trans rl_0.eq.symm) ((ti_ne c_24))
          · have r_v_3 : RI v_3 1 1 := rc_neL r_v_3 rl_0 (ti_ne c9_v_3) (by decide)
            obtain ⟨v_4, m_v_4, r_v_4⟩ := ((hp_v_3.2.2 c9_v_3).1)
            refine lv_if_eq (tgt := 99) hx hb dX0_read_24 (by decide) (fun c_24 => ?_) (fun c_24 => ?_)
            · have r_v_3 : RI v_3 1 0 := rc_eq1 r_v_3 rl_0 (ti_eq c_24) (by decide)
              exact (r_v_3.no (by decide)).elim
            · refine lv_aload_n hx hb dX0_read_27 rfl (lv_at hl 1 rfl) ?_
              refine tg_getN (ci := 7) (ts := ty_TAPE) (C := RX7) (T := TX7) (N := 12) hx hb hts inX7 hown hK hw h_p1 rfl rfl 7 (by decide) (hSD.nest tn_95) (fun _ h9 => h9) (ft := vI (-2147483648) 2147483647) rfl dX0_read_28 (fun u_5 hv_u_5 m_u_5 => ?_)
              obtain ⟨vu_5, rfl, r_vu_5⟩ := hv_u_5
              refine lv_istore (lv' := [(4, .int vu_5), (0, .ref p0), (1, .ref p1), (2, .ref p2), (3, .int x3)]) hx hb dX0_read_31 hl (by decide) rfl (fun ls hl => ?_)
              rcases (show ((-2147483648) ≤ vu_5.toInt ∧ vu_5.toInt ≤ 1) ∨ (2 ≤ vu_5.toInt ∧ vu_5.toInt ≤ 2) ∨ (3 ≤ vu_5.toInt ∧ vu_5.toInt ≤ 140) ∨ (141 ≤ vu_5.toInt ∧ vu_5.toInt ≤ 143) ∨ (144 ≤ vu_5.toInt ∧ vu_5.toInt ≤ 2147483647) by have k1 := r_vu_5.1; have k2 := r_vu_5.2; omega) with h_9 | h_9 | h_9 | h_9 | h_9
              · have r_vu_5 : RI vu_5 (-2147483648) 1 := h_9
                refine lv_iload hx hb dX0_read_33 (lv_at hl 0 rfl) ?_
                refine lv_iconst (v := 2) hx hb dX0_read_35 (by decide) ?_
                refine lv_icmp_ne (tgt := 48) hx hb dX0_read_36 (by decide) (fun c_36 => ?_) (fun c_36 => ?_)
                · refine lv_iconst (v := (-1)) hx hb dX0_read_48 (by decide) ?_
                  refine lv_istore (lv' := [(5, .int (-1)), (4, .int vu_5), (0, .ref p0), (1, .ref p1), (2, .ref p2), (3, .int x3)]) hx hb dX0_read_49 hl (by decide) rfl (fun ls hl => ?_)
                  refine lv_aload_n hx hb dX0_read_51 rfl (lv_at hl 2 rfl) ?_
                  refine lv_aload_n hx hb dX0_read_52 rfl (lv_at hl 3 rfl) ?_
                  refine lv_iload hx hb dX0_read_53 (lv_at hl 1 rfl) ?_
                  refine tk_i (va_runV (As := [.ref p1, .int vu_5]) (rest := []) ⟨hx, hb, hml, hown, hts⟩ (c_X0_beginsLine__1 l D cy z H.size Ps ws hw.1 p0 p1 vu_5 v_4 h_p0 h_p1 r_vu_5 r_v_4 m_v_4) (cwV 2 hts (gV tw_893 tw_895 ts_26 tw_7 tw_896) rfl rfl rfl (by decide +kernel) ⟨Nat.le_of_ble_eq_true rfl, Nat.le_of_ble_eq_true rfl⟩) (tg_preV hw hK hSD hA (ci := 0) (q := (RX0, TX0, 5)) rfl h_p0 rfl) rfl rfl hl.1 rfl (lv_room (Nat.le_of_ble_eq_true rfl)) dX0_read_55 ⟨Nat.le_of_ble_eq_true rfl, Nat.le_of_ble_eq_true rfl⟩) hw hA ⟨by decide, by decide⟩ (fun v_6 ws H locs hp_v_6 hw hF9 => ?_)
                  have m_u_5 := FLD.over hF9 m_u_5 (by decide)
                  have x_BG_p0 := B3.over hF9 x_BG_p0 (by decide)
                  have r_v_6 : RI v_6 0 0 := hp_v_6.1
                  by_cases c9_v_6 : v_6 = 0
                  · have r_v_6 : RI v_6 0 0 := by rw [c9_v_6]; exact rl_0
                    obtain ⟨v_7, m_v_7, r_v_7⟩ := ((hp_v_6.2.1 c9_v_6).1)
                    refine lv_if_ne (tgt := 62) hx hb dX0_read_58 (by decide) (fun c_58 => ?_) (fun c_58 => ?_)
                    · exact absurd (r_v_6.eq.trans rl_0.eq.symm) ((ti_ne c_58))
                    · have x_JB_p1_p0 : JB Ps ws p1 p0 := Or.inr x_BG_p0
                      subst hQ
                      exact W.vret hx hb hr (fun t ht hW => ⟨⟨ws, rfl, ⟨⟨x_JB_p1_p0, trivial⟩, hw.1, hw.2.2.2.2.1⟩, by rw [ht]; exact hw.2.1, va_K.moved hW.alike hK, hw.2.2.1⟩, hw.2.2.2.1.F ht⟩) hw.2.2.2.1.2.2 dX0_read_61
                  · exact absurd (Int32.toInt_inj.mp (by rw [Int32.toInt_zero]; unfold RI at r_v_6; omega)) c9_v_6
                · have r_vu_5 : RI vu_5 2 1 := rc_eq1 r_vu_5 rl_2 (ti_eq c_36) (by decide)
                  exact (r_vu_5.no (by decide)).elim
              · have r_vu_5 : RI vu_5 2 2 := h_9
                refine lv_iload hx hb dX0_read_33 (lv_at hl 0 rfl) ?_
                refine lv_iconst (v := 2) hx hb dX0_read_35 (by decide) ?_
                refine lv_icmp_ne (tgt := 48) hx hb dX0_read_36 (by decide) (fun c_36 => ?_) (fun c_36 => ?_)
                · exact absurd (r_vu_5.eq.trans rl_2.eq.symm) ((ti_ne c_36))
                · refine lv_aload_n hx hb dX0_read_39 rfl (lv_at hl 2 rfl) ?_
                  refine lv_aload_n hx hb dX0_read_40 rfl (lv_at hl 3 rfl) ?_
                  refine lv_iconst (v := 3) hx hb dX0_read_41 (by decide) ?_
                  refine tk_i (va_runV (As := [.ref p2, .int 3]) (rest := []) ⟨hx, hb, hml, hown, hts⟩ (c_X7_nameAhead__4 l D cy z H.size Ps ws hw.1 p1 p2 3 v_4 h_p1 h_p2 rl_3 r_v_4 m_v_4) (cwV 2 hts (gV tw_892 tw_457 tw_458 tw_2 tw_459) rfl rfl rfl (by decide +kernel) ⟨Nat.le_of_ble_eq_true rfl, Nat.le_of_ble_eq_true rfl⟩) (tg_preV hw hK hSD hA (ci := 7) (q := (RX7, TX7, 12)) rfl h_p1 rfl) rfl rfl hl.1 rfl (lv_room (Nat.le_of_ble_eq_true rfl)) dX0_read_42 ⟨Nat.le_of_ble_eq_true rfl, Nat.le_of_ble_eq_true rfl⟩) hw hA ⟨by decide, by decide⟩ (fun v_8 ws H locs hp_v_8 hw hF9 => ?_)
                  have m_u_5 := FLD.over hF9 m_u_5 (by decide)
                  have x_BG_p0 := B3.over hF9 x_BG_p0 (by decide)
                  have r_v_8 : RI v_8 (-1) 7 := hp_v_8.1
                  by_cases c9_v_8 : v_8.toInt < 0
                  · have r_v_8 : RI v_8 (-1) (-1) := by unfold RI at r_v_8 ⊢; omega
                    have x_FLT_p1 := (hp_v_8.2.2.2.2.1 (by omega)).1
                    obtain ⟨v_9, m_v_9, r_v_9⟩ := id x_FLT_p1
                    refine lv_goto (tgt := 49) hx hb dX0_read_45 (by decide) ?_
                    refine lv_istore (lv' := [(5, .int v_8), (4, .int vu_5), (0, .ref p0), (1, .ref p1), (2, .ref p2), (3, .int x3)]) hx hb dX0_read_49 hl (by decide) rfl (fun ls hl => ?_)
                    refine lv_aload_n hx hb dX0_read_51 rfl (lv_at hl 2 rfl) ?_
                    refine lv_aload_n hx hb dX0_read_52 rfl (lv_at hl 3 rfl) ?_
                    refine lv_iload hx hb dX0_read_53 (lv_at hl 1 rfl) ?_
                    refine tk_ir (va_runV (As := [.ref p1, .int vu_5]) (rest := []) ⟨hx, hb, hml, hown, hts⟩ (c_X0_beginsLine__2 l D cy z H.size Ps ws hw.1 p0 p1 vu_5 v_9 h_p0 h_p1 r_vu_5 r_v_9 m_v_9) (cwV 2 hts (gV tw_893 tw_895 ts_26 tw_7 tw_896) rfl rfl rfl (by decide +kernel) ⟨Nat.le_of_ble_eq_true rfl, Nat.le_of_ble_eq_true rfl⟩) (tg_preV hw hK hSD hA (ci := 0) (q := (RX0, TX0, 5)) rfl h_p0 rfl) rfl rfl hl.1 rfl (lv_room (Nat.le_of_ble_eq_true rfl)) dX0_read_55 ⟨Nat.le_of_ble_eq_true rfl, Nat.le_of_ble_eq_true rfl⟩) hw hA (fun v_10  H locs hp_v_10 hw => ?_)
                    have r_v_10 : RI v_10 0 0 := hp_v_10.1
                    refine lv_if_ne (tgt := 62) hx hb dX0_read_58 (by decide) (fun c_58 => ?_) (fun c_58 => ?_)
                    · exact absurd (r_v_10.eq.trans rl_0.eq.symm) ((ti_ne c_58))
                    · have x_JB_p1_p0 : JB Ps ws p1 p0 := Or.inr x_BG_p0
                      subst hQ
                      exact W.vret hx hb hr (fun t ht hW => ⟨⟨ws, rfl, ⟨⟨x_JB_p1_p0, trivial⟩, hw.1, hw.2.2.2.2.1⟩, by rw [ht]; exact hw.2.1, va_K.moved hW.alike hK, hw.2.2.1⟩, hw.2.2.2.1.F ht⟩) hw.2.2.2.1.2.2 dX0_read_61
                  · have r_v_8 : RI v_8 0 7 := by unfold RI at r_v_8 ⊢; omega
                    refine lv_goto (tgt := 49) hx hb dX0_read_45 (by decide) ?_
                    refine lv_istore (lv' := [(5, .int v_8), (4, .int vu_5), (0, .ref p0), (1, .ref p1), (2, .ref p2), (3, .int x3)]) hx hb dX0_read_49 hl (by decide) rfl (fun ls hl => ?_)
                    refine lv_aload_n hx hb dX0_read_51 rfl (lv_at hl 2 rfl) ?_
                    refine lv_aload_n hx hb dX0_read_52 rfl (lv_at hl 3 rfl) ?_
                    refine lv_iload hx hb dX0_read_53 (lv_at hl 1 rfl) ?_
                    refine tk_i (va_runV (As := [.ref p1, .int vu_5]) (rest := []) ⟨hx, hb, hml, hown, hts⟩ (c_X0_beginsLine__3 l D cy z H.size Ps ws hw.1 p0 p1 vu_5 h_p0 h_p1 r_vu_5) (cwV 2 hts (gV tw_893 tw_895 ts_26 tw_7 tw_896) rfl rfl rfl (by decide +kernel) ⟨Nat.le_of_ble_eq_true rfl, Nat.le_of_ble_eq_true rfl⟩) (tg_preV hw hK hSD hA (ci := 0) (q := (RX0, TX0, 5)) rfl h_p0 rfl) rfl rfl hl.1 rfl (lv_room (Nat.le_of_ble_eq_true rfl)) dX0_read_55 ⟨Nat.le_of_ble_eq_true rfl, Nat.le_of_ble_eq_true rfl⟩) hw hA ⟨by decide, by decide⟩ (fun v_11 ws H locs hp_v_11 hw hF9 => ?_)
                    have x_BG_p0 := B3.over hF9 x_BG_p0 (by decide)
                    have r_v_11 : RI v_11 0 1 := hp_v_11.1
                    by_cases c9_v_11 : v_11 = 0
                    · have r_v_11 : RI v_11 0 0 := by rw [c9_v_11]; exact rl_0
                      obtain ⟨v_12, m_v_12, r_v_12⟩ := ((hp_v_11.2.1 c9_v_11).1)
                      refine lv_if_ne (tgt := 62) hx hb dX0_read_58 (by decide) (fun c_58 => ?_) (fun c_58 => ?_)
                      · exact absurd (r_v_11.eq.trans rl_0.eq.symm) ((ti_ne c_58))
                      · have x_JB_p1_p0 : JB Ps ws p1 p0 := Or.inr x_BG_p0
                        subst hQ
                        exact W.vret hx hb hr (fun t ht hW => ⟨⟨ws, rfl, ⟨⟨x_JB_p1_p0, trivial⟩, hw.1, hw.2.2.2.2.1⟩, by rw [ht]; exact hw.2.1, va_K.moved hW.alike hK, hw.2.2.1⟩, hw.2.2.2.1.F ht⟩) hw.2.2.2.1.2.2 dX0_read_61
                    · have r_v_11 : RI v_11 1 1 := rc_neL r_v_11 rl_0 (ti_ne c9_v_11) (by decide)
                      obtain ⟨v_13, m_v_13, r_v_13⟩ := ((hp_v_11.2.2 c9_v_11).1)
                      obtain ⟨v_14, m_v_14, r_v_14⟩ := ((hp_v_11.2.2 c9_v_11).2.1)
                      refine lv_if_ne (tgt := 62) hx hb dX0_read_58 (by decide) (fun c_58 => ?_) (fun c_58 => ?_)
                      · refine lv_iload hx hb dX0_read_62 (lv_at hl 0 rfl) ?_
                        refine lv_iconst (v := (-1)) hx hb dX0_read_64 (by decide) ?_
                        refine lv_icmp_eq (tgt := 79) hx hb dX0_read_65 (by decide) (fun c_65 => ?_) (fun c_65 => ?_)
                        · have r_v_8 : RI v_8 0 (-1) := rc_eq1 r_v_8 rl_m1 (ti_eq c_65) (by decide)
                          exact (r_v_8.no (by decide)).elim
                        · refine lv_aload_n hx hb dX0_read_68 rfl (lv_at hl 2 rfl) ?_
                          refine lv_aload_n hx hb dX0_read_69 rfl (lv_at hl 3 rfl) ?_
                          refine lv_aload_n hx hb dX0_read_70 rfl (lv_at hl 4 rfl) ?_
                          refine lv_iload hx hb dX0_read_71 (lv_at hl 0 rfl) ?_
                          refine tk_v (va_runV (As := [.ref p1, .ref p2, .int v_8]) (rest := []) ⟨hx, hb, hml, hown, hts⟩ (c_X0_readVerb l D cy z H.size Ps ws hw.1 p0 p1 p2 v_8 h_p0 h_p1 h_p2 r_v_8 x_BG_p0) (cwV 3 hts (gV tw_899 tw_901 ts_27 tw_7 tw_902) rfl rfl rfl (by decide +kernel) ⟨Nat.le_of_ble_eq_true rfl, Nat.le_of_ble_eq_true rfl⟩) (tg_preV hw hK hSD hA (ci := 0) (q := (RX0, TX0, 5)) rfl h_p0 rfl) rfl rfl hl.1 rfl (lv_room (Nat.le_of_ble_eq_true rfl)) dX0_read_73 ⟨Nat.le_of_ble_eq_true rfl, Nat.le_of_ble_eq_true rfl⟩) hw hA ⟨by decide, by decide⟩ (fun ws H locs hp_v_15 hw hF9 => ?_)
                          obtain ⟨v_16, m_v_16, r_v_16⟩ := (hp_v_15.1)
                          have x_JB_p1_p0 := (hp_v_15.2.1)
                          refine lv_goto (tgt := 87) hx hb dX0_read_76 (by decide) ?_
                          rcases x_JB_p1_p0 with x_FLT_p1 | x_BG_p0
                          · obtain ⟨v_17, m_v_17, r_v_17⟩ := id x_FLT_p1
                            refine lv_aload_n hx hb dX0_read_87 rfl (lv_at hl 3 rfl) ?_
                            refine lv_bipush (v := 59) hx hb dX0_read_88 (by decide) ?_
                            refine tk_vr (va_runV (As := [.int 59]) (rest := []) ⟨hx, hb, hml, hown, hts⟩ (c_X7_passOnly__1 l D cy z H.size Ps ws hw.1 p1 59 v_17 h_p1 (rl_59.to (by decide)) r_v_17 m_v_17) (cwV 1 hts (gV tw_913 tw_514 tw_515 tw_2 tw_516) rfl rfl rfl (by decide +kernel) ⟨Nat.le_of_ble_eq_true rfl, Nat.le_of_ble_eq_true rfl⟩) (tg_preV hw hK hSD hA (ci := 7) (q := (RX7, TX7, 12)) rfl h_p1 rfl) rfl rfl hl.1 rfl (lv_room (Nat.le_of_ble_eq_true rfl)) dX0_read_90 ⟨Nat.le_of_ble_eq_true rfl, Nat.le_of_ble_eq_true rfl⟩) hw hA (fun  H locs hp_v_18 hw => ?_)
                            obtain ⟨v_19, e_v_19⟩ : ∃ q9 : Int32, q9 = x3 + Int32.ofInt 1 := ⟨_, rfl⟩
                            obtain ⟨t_v_19, r_v_19⟩ := tq_add (lo := 1) (hi := 41) r_x3 (show RI (Int32.ofInt 1) 1 1 by unfold RI; decide +kernel) (by decide +kernel) e_v_19
                            have t_v_19 : v_19.toInt = x3.toInt + 1 := t_v_19
                            refine lv_iinc (v := v_19) (lv' := [(3, .int v_19), (5, .int v_8), (4, .int vu_5), (0, .ref p0), (1, .ref p1), (2, .ref p2)]) hx hb dX0_read_93 hl (k := 5) rfl e_v_19.symm (by decide) rfl (fun ls hl => ?_)
                            refine lv_goto (tgt := 14) hx hb dX0_read_96 (by decide) ?_
                            have x_JB_p1_p0 : JB Ps ws p1 p0 := Or.inl ⟨_, m_v_17, r_v_17.to (by decide)⟩
                            exact ih14 v_19 ws _ _ ls (by have q0 := r_v_19.1; have u0 := r_v_19.2; have o0 := r_x3.1; have p0 := r_x3.2; omega) (r_v_19.to (by decide)) x_JB_p1_p0 hw (lv_sub hl [3, 4, 5, 0] rfl)
                          · refine lv_aload_n hx hb dX0_read_87 rfl (lv_at hl 3 rfl) ?_
                            refine lv_bipush (v := 59) hx hb dX0_read_88 (by decide) ?_
                            refine tk_v (va_runV (As := [.int 59]) (rest := []) ⟨hx, hb, hml, hown, hts⟩ (c_X7_passOnly__2 l D cy z H.size Ps ws hw.1 p1 59 h_p1 (rl_59.to (by decide))) (cwV 1 hts (gV tw_913 tw_514 tw_515 tw_2 tw_516) rfl rfl rfl (by decide +kernel) ⟨Nat.le_of_ble_eq_true rfl, Nat.le_of_ble_eq_true rfl⟩) (tg_preV hw hK hSD hA (ci := 7) (q := (RX7, TX7, 12)) rfl h_p1 rfl) rfl rfl hl.1 rfl (lv_room (Nat.le_of_ble_eq_true rfl)) dX0_read_90 ⟨Nat.le_of_ble_eq_true rfl, Nat.le_of_ble_eq_true rfl⟩) hw hA ⟨by decide, by decide⟩ (fun ws H locs hp_v_20 hw hF9 => ?_)
                            have m_v_16 := FLD.over hF9 m_v_16 (by decide)
                            have x_BG_p0 := B3.over hF9 x_BG_p0 (by decide)
                            obtain ⟨v_21, e_v_21⟩ : ∃ q9 : Int32, q9 = x3 + Int32.ofInt 1 := ⟨_, rfl⟩
                            obtain ⟨t_v_21, r_v_21⟩ := tq_add (lo := 1) (hi := 41) r_x3 (show RI (Int32.ofInt 1) 1 1 by unfold RI; decide +kernel) (by decide +kernel) e_v_21
                            have t_v_21 : v_21.toInt = x3.toInt + 1 := t_v_21
                            refine lv_iinc (v := v_21) (lv' := [(3, .int v_21), (5, .int v_8), (4, .int vu_5), (0, .ref p0), (1, .ref p1), (2, .ref p2)]) hx hb dX0_read_93 hl (k := 5) rfl e_v_21.symm (by decide) rfl (fun ls hl => ?_)
                            refine lv_goto (tgt := 14) hx hb dX0_read_96 (by decide) ?_
                            have x_JB_p1_p0 : JB Ps ws p1 p0 := Or.inr x_BG_p0
                            exact ih14 v_21 ws _ _ ls (by have q0 := r_v_21.1; have u0 := r_v_21.2; have o0 := r_x3.1; have p0 := r_x3.2; omega) (r_v_21.to (by decide)) x_JB_p1_p0 hw (lv_sub hl [3, 4, 5, 0] rfl)
                      · have r_v_11 : RI v_11 1 0 := rc_eq1 r_v_11 rl_0 (ti_eq c_58) (by decide)
                        exact (r_v_11.no (by decide)).elim
              · have r_vu_5 : RI vu_5 3 140 := h_9
                refine lv_iload hx hb dX0_read_33 (lv_at hl 0 rfl) ?_
                refine lv_iconst (v := 2) hx hb dX0_read_35 (by decide) ?_
                refine lv_icmp_ne (tgt := 48) hx hb dX0_read_36 (by decide) (fun c_36 => ?_) (fun c_36 => ?_)
                · refine lv_iconst (v := (-1)) hx hb dX0_read_48 (by decide) ?_
                  refine lv_istore (lv' := [(5, .int (-1)), (4, .int vu_5), (0, .ref p0), (1, .ref p1), (2, .ref p2), (3, .int x3)]) hx hb dX0_read_49 hl (by decide) rfl (fun ls hl => ?_)
                  refine lv_aload_n hx hb dX0_read_51 rfl (lv_at hl 2 rfl) ?_
                  refine lv_aload_n hx hb dX0_read_52 rfl (lv_at hl 3 rfl) ?_
                  refine lv_iload hx hb dX0_read_53 (lv_at hl 1 rfl) ?_
                  refine tk_i (va_runV (As := [.ref p1, .int vu_5]) (rest := []) ⟨hx, hb, hml, hown, hts⟩ (c_X0_beginsLine__4 l D cy z H.size Ps ws hw.1 p0 p1 vu_5 v_4 h_p0 h_p1 r_vu_5 r_v_4 m_v_4) (cwV 2 hts (gV tw_893 tw_895 ts_26 tw_7 tw_896) rfl rfl rfl (by decide +kernel) ⟨Nat.le_of_ble_eq_true rfl, Nat.le_of_ble_eq_true rfl⟩) (tg_preV hw hK hSD hA (ci := 0) (q := (RX0, TX0, 5)) rfl h_p0 rfl) rfl rfl hl.1 rfl (lv_room (Nat.le_of_ble_eq_true rfl)) dX0_read_55 ⟨Nat.le_of_ble_eq_true rfl, Nat.le_of_ble_eq_true rfl⟩) hw hA ⟨by decide, by decide⟩ (fun v_22 ws H locs hp_v_22 hw hF9 => ?_)
                  have m_u_5 := FLD.over hF9 m_u_5 (by decide)
                  have x_BG_p0 := B3.over hF9 x_BG_p0 (by decide)
                  have r_v_22 : RI v_22 0 0 := hp_v_22.1
                  by_cases c9_v_22 : v_22 = 0
                  · have r_v_22 : RI v_22 0 0 := by rw [c9_v_22]; exact rl_0
                    obtain ⟨v_23, m_v_23, r_v_23⟩ := ((hp_v_22.2.1 c9_v_22).1)
                    refine lv_if_ne (tgt := 62) hx hb dX0_read_58 (by decide) (fun c_58 => ?_) (fun c_58 => ?_)
                    · exact absurd (r_v_22.eq.trans rl_0.eq.symm) ((ti_ne c_58))
                    · have x_JB_p1_p0 : JB Ps ws p1 p0 := Or.inr x_BG_p0
                      subst hQ
                      exact W.vret hx hb hr (fun t ht hW => ⟨⟨ws, rfl, ⟨⟨x_JB_p1_p0, trivial⟩, hw.1, hw.2.2.2.2.1⟩, by rw [ht]; exact hw.2.1, va_K.moved hW.alike hK, hw.2.2.1⟩, hw.2.2.2.1.F ht⟩) hw.2.2.2.1.2.2 dX0_read_61
                  · exact absurd (Int32.toInt_inj.mp (by rw [Int32.toInt_zero]; unfold RI at r_v_22; omega)) c9_v_22
                · have r_vu_5 : RI vu_5 3 2 := rc_eq1 r_vu_5 rl_2 (ti_eq c_36) (by decide)
                  exact (r_vu_5.no (by decide)).elim
              · have r_vu_5 : RI vu_5 141 143 := h_9
                refine lv_iload hx hb dX0_read_33 (lv_at hl 0 rfl) ?_
                refine lv_iconst (v := 2) hx hb dX0_read_35 (by decide) ?_
                refine lv_icmp_ne (tgt := 48) hx hb dX0_read_36 (by decide) (fun c_36 => ?_) (fun c_36 => ?_)
                · refine lv_iconst (v := (-1)) hx hb dX0_read_48 (by decide) ?_
                  refine lv_istore (lv' := [(5, .int (-1)), (4, .int vu_5), (0, .ref p0), (1, .ref p1), (2, .ref p2), (3, .int x3)]) hx hb dX0_read_49 hl (by decide) rfl (fun ls hl => ?_)
                  refine lv_aload_n hx hb dX0_read_51 rfl (lv_at hl 2 rfl) ?_
                  refine lv_aload_n hx hb dX0_read_52 rfl (lv_at hl 3 rfl) ?_
                  refine lv_iload hx hb dX0_read_53 (lv_at hl 1 rfl) ?_
                  refine tk_i (va_runV (As := [.ref p1, .int vu_5]) (rest := []) ⟨hx, hb, hml, hown, hts⟩ (c_X0_beginsLine__5 l D cy z H.size Ps ws hw.1 p0 p1 vu_5 v_4 h_p0 h_p1 r_vu_5 r_v_4 m_v_4) (cwV 2 hts (gV tw_893 tw_895 ts_26 tw_7 tw_896) rfl rfl rfl (by decide +kernel) ⟨Nat.le_of_ble_eq_true rfl, Nat.le_of_ble_eq_true rfl⟩) (tg_preV hw hK hSD hA (ci := 0) (q := (RX0, TX0, 5)) rfl h_p0 rfl) rfl rfl hl.1 rfl (lv_room (Nat.le_of_ble_eq_true rfl)) dX0_read_55 ⟨Nat.le_of_ble_eq_true rfl, Nat.le_of_ble_eq_true rfl⟩) hw hA ⟨by decide, by decide⟩ (fun v_24 ws H locs hp_v_24 hw hF9 => ?_)
                  have x_BG_p0 := B3.over hF9 x_BG_p0 (by decide)
                  have r_v_24 : RI v_24 0 1 := hp_v_24.1
                  by_cases c9_v_24 : v_24 = 0
                  · have r_v_24 : RI v_24 0 0 := by rw [c9_v_24]; exact rl_0
                    obtain ⟨v_25, m_v_25, r_v_25⟩ := ((hp_v_24.2.1 c9_v_24).1)
                    obtain ⟨v_26, m_v_26, r_v_26⟩ := ((hp_v_24.2.1 c9_v_24).2.1)
                    refine lv_if_ne (tgt := 62) hx hb dX0_read_58 (by decide) (fun c_58 => ?_) (fun c_58 => ?_)
                    · exact absurd (r_v_24.eq.trans rl_0.eq.symm) ((ti_ne c_58))
                    · have x_JB_p1_p0 : JB Ps ws p1 p0 := Or.inr x_BG_p0
                      subst hQ
                      exact W.vret hx hb hr (fun t ht hW => ⟨⟨ws, rfl, ⟨⟨x_JB_p1_p0, trivial⟩, hw.1, hw.2.2.2.2.1⟩, by rw [ht]; exact hw.2.1, va_K.moved hW.alike hK, hw.2.2.1⟩, hw.2.2.2.1.F ht⟩) hw.2.2.2.1.2.2 dX0_read_61
                  · have r_v_24 : RI v_24 1 1 := rc_neL r_v_24 rl_0 (ti_ne c9_v_24) (by decide)
                    obtain ⟨v_27, m_v_27, r_v_27⟩ := ((hp_v_24.2.2 c9_v_24).1)
                    obtain ⟨v_28, m_v_28, r_v_28⟩ := ((hp_v_24.2.2 c9_v_24).2.1)
                    refine lv_if_ne (tgt := 62) hx hb dX0_read_58 (by decide) (fun c_58 => ?_) (fun c_58 => ?_)
                    · refine lv_iload hx hb dX0_read_62 (lv_at hl 0 rfl) ?_
                      refine lv_iconst (v := (-1)) hx hb dX0_read_64 (by decide) ?_
                      refine lv_icmp_eq (tgt := 79) hx hb dX0_read_65 (by decide) (fun _ => ?_) (fun c9 => absurd (by decide) c9)
                      refine lv_aload_n hx hb dX0_read_79 rfl (lv_at hl 2 rfl) ?_
                      refine lv_aload_n hx hb dX0_read_80 rfl (lv_at hl 3 rfl) ?_
                      refine lv_aload_n hx hb dX0_read_81 rfl (lv_at hl 4 rfl) ?_
                      refine lv_iload hx hb dX0_read_82 (lv_at hl 1 rfl) ?_
                      refine tk_v (va_runV (As := [.ref p1, .ref p2, .int vu_5]) (rest := []) ⟨hx, hb, hml, hown, hts⟩ (c_X0_readOther l D cy z H.size Ps ws hw.1 p0 p1 p2 vu_5 h_p0 h_p1 h_p2 r_vu_5 x_BG_p0) (cwV 3 hts (gV tw_908 tw_910 ts_29 tw_7 tw_911) rfl rfl rfl (by decide +kernel) ⟨Nat.le_of_ble_eq_true rfl, Nat.le_of_ble_eq_true rfl⟩) (tg_preV hw hK hSD hA (ci := 0) (q := (RX0, TX0, 5)) rfl h_p0 rfl) rfl rfl hl.1 rfl (lv_room (Nat.le_of_ble_eq_true rfl)) dX0_read_84 ⟨Nat.le_of_ble_eq_true rfl, Nat.le_of_ble_eq_true rfl⟩) hw hA ⟨by decide, by decide⟩ (fun ws H locs hp_v_29 hw hF9 => ?_)
                      obtain ⟨v_30, m_v_30, r_v_30⟩ := (hp_v_29.1)
                      have x_JB_p1_p0 := (hp_v_29.2.1)
                      rcases x_JB_p1_p0 with x_FLT_p1 | x_BG_p0
                      · obtain ⟨v_31, m_v_31, r_v_31⟩ := id x_FLT_p1
                        refine lv_aload_n hx hb dX0_read_87 rfl (lv_at hl 3 rfl) ?_
                        refine lv_bipush (v := 59) hx hb dX0_read_88 (by decide) ?_
                        refine tk_vr (va_runV (As := [.int 59]) (rest := []) ⟨hx, hb, hml, hown, hts⟩ (c_X7_passOnly__1 l D cy z H.size Ps ws hw.1 p1 59 v_31 h_p1 (rl_59.to (by decide)) r_v_31 m_v_31) (cwV 1 hts (gV tw_913 tw_514 tw_515 tw_2 tw_516) rfl rfl rfl (by decide +kernel) ⟨Nat.le_of_ble_eq_true rfl, Nat.le_of_ble_eq_true rfl⟩) (tg_preV hw hK hSD hA (ci := 7) (q := (RX7, TX7, 12)) rfl h_p1 rfl) rfl rfl hl.1 rfl (lv_room (Nat.le_of_ble_eq_true rfl)) dX0_read_90 ⟨Nat.le_of_ble_eq_true rfl, Nat.le_of_ble_eq_true rfl⟩) hw hA (fun  H locs hp_v_32 hw => ?_)
                        obtain ⟨v_33, e_v_33⟩ : ∃ q9 : Int32, q9 = x3 + Int32.ofInt 1 := ⟨_, rfl⟩
                        obtain ⟨t_v_33, r_v_33⟩ := tq_add (lo := 1) (hi := 41) r_x3 (show RI (Int32.ofInt 1) 1 1 by unfold RI; decide +kernel) (by decide +kernel) e_v_33
                        have t_v_33 : v_33.toInt = x3.toInt + 1 := t_v_33
                        refine lv_iinc (v := v_33) (lv' := [(3, .int v_33), (5, .int (-1)), (4, .int vu_5), (0, .ref p0), (1, .ref p1), (2, .ref p2)]) hx hb dX0_read_93 hl (k := 5) rfl e_v_33.symm (by decide) rfl (fun ls hl => ?_)
                        refine lv_goto (tgt := 14) hx hb dX0_read_96 (by decide) ?_
                        have x_JB_p1_p0 : JB Ps ws p1 p0 := Or.inl ⟨_, m_v_31, r_v_31.to (by decide)⟩
                        exact ih14 v_33 ws _ _ ls (by have q0 := r_v_33.1; have u0 := r_v_33.2; have o0 := r_x3.1; have p0 := r_x3.2; omega) (r_v_33.to (by decide)) x_JB_p1_p0 hw (lv_sub hl [3, 4, 5, 0] rfl)
                      · refine lv_aload_n hx hb dX0_read_87 rfl (lv_at hl 3 rfl) ?_
                        refine lv_bipush (v := 59) hx hb dX0_read_88 (by decide) ?_
                        refine tk_v (va_runV (As := [.int 59]) (rest := []) ⟨hx, hb, hml, hown, hts⟩ (c_X7_passOnly__2 l D cy z H.size Ps ws hw.1 p1 59 h_p1 (rl_59.to (by decide))) (cwV 1 hts (gV tw_913 tw_514 tw_515 tw_2 tw_516) rfl rfl rfl (by decide +kernel) ⟨Nat.le_of_ble_eq_true rfl, Nat.le_of_ble_eq_true rfl⟩) (tg_preV hw hK hSD hA (ci := 7) (q := (RX7, TX7, 12)) rfl h_p1 rfl) rfl rfl hl.1 rfl (lv_room (Nat.le_of_ble_eq_true rfl)) dX0_read_90 ⟨Nat.le_of_ble_eq_true rfl, Nat.le_of_ble_eq_true rfl⟩) hw hA ⟨by decide, by decide⟩ (fun ws H locs hp_v_34 hw hF9 => ?_)
                        have m_v_30 := FLD.over hF9 m_v_30 (by decide)
                        have x_BG_p0 := B3.over hF9 x_BG_p0 (by decide)
                        obtain ⟨v_35, e_v_35⟩ : ∃ q9 : Int32, q9 = x3 + Int32.ofInt 1 := ⟨_, rfl⟩
                        obtain ⟨t_v_35, r_v_35⟩ := tq_add (lo := 1) (hi := 41) r_x3 (show RI (Int32.ofInt 1) 1 1 by unfold RI; decide +kernel) (by decide +kernel) e_v_35
                        have t_v_35 : v_35.toInt = x3.toInt + 1 := t_v_35
                        refine lv_iinc (v := v_35) (lv' := [(3, .int v_35), (5, .int (-1)), (4, .int vu_5), (0, .ref p0), (1, .ref p1), (2, .ref p2)]) hx hb dX0_read_93 hl (k := 5) rfl e_v_35.symm (by decide) rfl (fun ls hl => ?_)
                        refine lv_goto (tgt := 14) hx hb dX0_read_96 (by decide) ?_
                        have x_JB_p1_p0 : JB Ps ws p1 p0 := Or.inr x_BG_p0
                        exact ih14 v_35 ws _ _ ls (by have q0 := r_v_35.1; have u0 := r_v_35.2; have o0 := r_x3.1; have p0 := r_x3.2; omega) (r_v_35.to (by decide)) x_JB_p1_p0 hw (lv_sub hl [3, 4, 5, 0] rfl)
                    · have r_v_24 : RI v_24 1 0 := rc_eq1 r_v_24 rl_0 (ti_eq c_58) (by decide)
                      exact (r_v_24.no (by decide)).elim
                · have r_vu_5 : RI vu_5 141 2 := rc_eq1 r_vu_5 rl_2 (ti_eq c_36) (by decide)
                  exact (r_vu_5.no (by decide)).elim
              · have r_vu_5 : RI vu_5 144 2147483647 := h_9
                refine lv_iload hx hb dX0_read_33 (lv_at hl 0 rfl) ?_
                refine lv_iconst (v := 2) hx hb dX0_read_35 (by decide) ?_
                refine lv_icmp_ne (tgt := 48) hx hb dX0_read_36 (by decide) (fun c_36 => ?_) (fun c_36 => ?_)
                · refine lv_iconst (v := (-1)) hx hb dX0_read_48 (by decide) ?_
                  refine lv_istore (lv' := [(5, .int (-1)), (4, .int vu_5), (0, .ref p0), (1, .ref p1), (2, .ref p2), (3, .int x3)]) hx hb dX0_read_49 hl (by decide) rfl (fun ls hl => ?_)
                  refine lv_aload_n hx hb dX0_read_51 rfl (lv_at hl 2 rfl) ?_
                  refine lv_aload_n hx hb dX0_read_52 rfl (lv_at hl 3 rfl) ?_
                  refine lv_iload hx hb dX0_read_53 (lv_at hl 1 rfl) ?_
                  refine tk_i (va_runV (As := [.ref p1, .int vu_5]) (rest := []) ⟨hx, hb, hml, hown, hts⟩ (c_X0_beginsLine__6 l D cy z H.size Ps ws hw.1 p0 p1 vu_5 v_4 h_p0 h_p1 r_vu_5 r_v_4 m_v_4) (cwV 2 hts (gV tw_893 tw_895 ts_26 tw_7 tw_896) rfl rfl rfl (by decide +kernel) ⟨Nat.le_of_ble_eq_true rfl, Nat.le_of_ble_eq_true rfl⟩) (tg_preV hw hK hSD hA (ci := 0) (q := (RX0, TX0, 5)) rfl h_p0 rfl) rfl rfl hl.1 rfl (lv_room (Nat.le_of_ble_eq_true rfl)) dX0_read_55 ⟨Nat.le_of_ble_eq_true rfl, Nat.le_of_ble_eq_true rfl⟩) hw hA ⟨by decide, by decide⟩ (fun v_36 ws H locs hp_v_36 hw hF9 => ?_)
                  have m_u_5 := FLD.over hF9 m_u_5 (by decide)
                  have x_BG_p0 := B3.over hF9 x_BG_p0 (by decide)
                  have r_v_36 : RI v_36 0 0 := hp_v_36.1
                  by_cases c9_v_36 : v_36 = 0
                  · have r_v_36 : RI v_36 0 0 := by rw [c9_v_36]; exact rl_0
                    obtain ⟨v_37, m_v_37, r_v_37⟩ := ((hp_v_36.2.1 c9_v_36).1)
                    refine lv_if_ne (tgt := 62) hx hb dX0_read_58 (by decide) (fun c_58 => ?_) (fun c_58 => ?_)
                    · exact absurd (r_v_36.eq.trans rl_0.eq.symm) ((ti_ne c_58))
                    · have x_JB_p1_p0 : JB Ps ws p1 p0 := Or.inr x_BG_p0
                      subst hQ
                      exact W.vret hx hb hr (fun t ht hW => ⟨⟨ws, rfl, ⟨⟨x_JB_p1_p0, trivial⟩, hw.1, hw.2.2.2.2.1⟩, by rw [ht]; exact hw.2.1, va_K.moved hW.alike hK, hw.2.2.1⟩, hw.2.2.2.1.F ht⟩) hw.2.2.2.1.2.2 dX0_read_61
                  · exact absurd (Int32.toInt_inj.mp (by rw [Int32.toInt_zero]; unfold RI at r_v_36; omega)) c9_v_36
                · have r_vu_5 : RI vu_5 144 2 := rc_eq1 r_vu_5 rl_2 (ti_eq c_36) (by decide)
                  exact (r_vu_5.no (by decide)).elim
  refine lv_aload_n hx hb dX0_read_0 rfl (lv_at hl 1 rfl) ?_
  refine lv_sipush (v := 400) hx hb dX0_read_1 (by decide) ?_
  refine tk_v (va_runV (As := [.int 400]) (rest := []) ⟨hx, hb, hml, hown, hts⟩ (c_X7_startText__1 l D cy z s.heap.size Ps w0 hw.1 p1 400 h_p1 rl_400) (cwV 1 hts (gV tw_890 tw_421 tw_422 tw_2 tw_423) rfl rfl rfl (by decide +kernel) ⟨Nat.le_of_ble_eq_true rfl, Nat.le_of_ble_eq_true rfl⟩) (tg_preV hw hK hSD hA (ci := 7) (q := (RX7, TX7, 12)) rfl h_p1 rfl) rfl rfl hl.1 rfl (lv_room (Nat.le_of_ble_eq_true rfl)) dX0_read_4 ⟨Nat.le_of_ble_eq_true rfl, Nat.le_of_ble_eq_true rfl⟩) hw hA ⟨by decide, by decide⟩ (fun ws H locs hp_v_38 hw hF9 => ?_)
  obtain ⟨v_39, m_v_39, r_v_39⟩ := (hp_v_38.1)
  refine lv_aload_n hx hb dX0_read_7 rfl (lv_at hl 0 rfl) ?_
  refine lv_iconst (v := 0) hx hb dX0_read_8 (by decide) ?_
  refine tg_put (ci := 0) (ts := ty_BOOK) (v := .int 0) (ty := .int) (C := RX0) (T := TX0) (N := 5) hx hb hts inX0 tyX0 tyX0_ok nmX0 hown hK hw h_p0 rfl rfl 3 (by decide) (hts _ tw_145) (fun _ h9 => h9) rfl (by decide +kernel) rfl rfl (ft := vI 0 40) rfl ⟨_, rfl, (rl_0.to (by decide))⟩ (by decide) dX0_read_9 (fun ws H locs hw n_k_40 hF9 => ?_)
  have m_v_39 := FLD.over hF9 m_v_39 (by decide)
  refine lv_iconst (v := 0) hx hb dX0_read_12 (by decide) ?_
  refine lv_istore_n (lv' := [(3, .int 0), (0, .ref p0), (1, .ref p1), (2, .ref p2)]) hx hb dX0_read_13 rfl hl (by decide) rfl (fun ls hl => ?_)
  have x_JB_p1_p0 : JB Ps ws p1 p0 := Or.inr (BG.zero hw h_p0 n_k_40)
  exact B14 4294967298 0 ws _ _ ls (by have q0 := rl_0.1; have u0 := rl_0.2; omega) (rl_0.to (by decide)) x_JB_p1_p0 hw (lv_sub hl [1, 2, 3, 0] rfl)
abbrev wr_X9_noteFault__1 : List (Nat × Nat) := [(7, 2), (9, 11)]
abbrev wa_X9_noteFault__1 : List Nat := []
set_option maxHeartbeats 4000000 in
set_option maxRecDepth 100000 in
theorem c_X9_noteFault__1 (l : Launch) (D : va_G) (cy : Nat → ClassId) (z : Nat → Nat) (sz : Nat) (Ps : PSI) (w0 : va_W) (hT : HT cy GG Ps w0) (p0 : Nat) (h_p0 : (p0, 33) ∈ Ps) : Met l yX9_noteFault (Cond.code yX9_noteFault cX9_noteFault 1 none :: gT) ({ frames := 0, cells := 0, slots := 0, locals := 200 } : Room) (va_Pc [.ref p0] (PRE D cy z w0 sz)) (va_Qv (fun (u : va_W) => (EQF u p0 ∧ True) ∧ HT cy GG Ps u ∧ FR wr_X9_noteFault__1 wa_X9_noteFault__1 Ps w0 u) (BB D cy (va_A w0 sz) (fun (u : va_W) => u)) (va_A w0 sz)) 0 0 (va_A w0 sz) := by
  refine Met.ofW (cc := cX9_noteFault) (maxL := 1) (ret := none) (by decide) rfl ?_
  intro p e s m args below meth c s₁ B hml hv
  obtain ⟨rfl, hsz, hP, hK, hD0, hSD⟩ := hv
  have hx := B.exec
  have hb := B.bytes
  have hr := B.returns
  have hlocks := B.notSynchronized
  have hts : ∀ w ∈ gT, w.before _ s = true := fun w h => atoms_spec (ws := Cond.code yX9_noteFault cX9_noteFault 1 none :: gT) B.pre w (List.mem_cons_of_mem _ h)
  have hown : s.vm.findClass RX9 = some m.cls := findClass_of_methodNamed B.named
  subst hsz
  have hD := hD0.self (sz := s.heap.size)
  generalize hAe : va_A w0 s.heap.size = A at hD hSD ⊢
  have hA : ∀ q : Nat, s.heap.size ≤ q → A q := fun q h => by rw [← hAe]; exact Or.inr h
  have hl := lv_entry ([.ref p0]) (n := 1) (Nat.le_of_ble_eq_true rfl)
  rw [lg_entry_eq]
  generalize (lg_sl ([.ref p0]) ++ List.replicate (1 - (lg_sl ([.ref p0])).length) Slot.unset).toArray = ls at hl ⊢
  have hl : lv_has ls 1 [(0, .ref p0)] := hl
  refine nameQ (fun Q hQ => ?_)
  have hw : WD D cy GG A s wr_X9_noteFault__1 wa_X9_noteFault__1 Ps w0 Ps w0 s.heap [] := ⟨hT, hP, hD, va_S.rf, FR.rf, hT.1, [], (List.append_nil _).symm⟩
  refine lv_aload_n hx hb dX9_noteFault_0 rfl (lv_at hl 0 rfl) ?_
  refine lv_aload_n hx hb dX9_noteFault_1 rfl (lv_at hl 0 rfl) ?_
  refine tg_get (ci := 9) (ts := ty_WP) (C := RX9) (T := TX9) (N := 15) hx hb hts inX9 hown hK hw h_p0 rfl rfl 0 (by decide) (hts _ tw_346) (fun _ h9 => h9) (ft := vR 26) rfl dX9_noteFault_2 (fun u_1 hv_u_1 m_u_1 => ?_)
  obtain ⟨vu_1, rfl, h_vu_1⟩ := hv_u_1
  refine tg_getN (ci := 7) (ts := ty_TAPE) (C := RX7) (T := TX7) (N := 12) hx hb hts inX7 hown hK hw h_vu_1 rfl rfl 10 (by decide) (hSD.nest tn_106) (fun _ h9 => h9) (ft := vI 0 4) rfl dX9_noteFault_5 (fun u_2 hv_u_2 m_u_2 => ?_)
  obtain ⟨vu_2, rfl, r_vu_2⟩ := hv_u_2
  refine tg_put (ci := 9) (ts := ty_WP) (v := .int vu_2) (ty := .int) (C := RX9) (T := TX9) (N := 15) hx hb hts inX9 tyX9 tyX9_ok nmX9 hown hK hw h_p0 rfl rfl 11 (by decide) (hts _ tw_357) (fun _ h9 => h9) rfl (by decide +kernel) rfl rfl (ft := vI (-2147483648) 2147483647) rfl ⟨_, rfl, (r_vu_2.to (by decide))⟩ (by decide) dX9_noteFault_8 (fun ws H locs hw n_k_3 hF9 => ?_)
  have m_u_1 := FLD.over hF9 m_u_1 (by decide)
  have m_u_2 := FLD.over hF9 m_u_2 (by decide)
  have x_EQF_p0 : EQF ws p0 := ⟨_, _, m_u_1, n_k_3, m_u_2⟩
  refine lv_aload_n hx hb dX9_noteFault_11 rfl (lv_at hl 0 rfl) ?_
  refine tg_mem (ci := 9) (C := RX9) (T := TX9) (N := 15) hx hb hts inX9 hown hK hw 0 m_u_1 rfl (by decide) (hts _ tw_346) (fun _ h9 => h9) dX9_noteFault_12 ?_
  refine lv_iconst (v := 0) hx hb dX9_noteFault_15 (by decide) ?_
  refine tg_putN (ci := 7) (ts := ty_TAPE) (v := .int 0) (ty := .int) (C := RX7) (T := TX7) (N := 12) hx hb hts inX7 tyX7 tyX7_ok nmX7 hown hK hw h_vu_1 rfl rfl 2 (by decide) (hSD.nest tn_90) (fun _ h9 => h9) rfl (by decide +kernel) rfl rfl (ft := vI 0 940) rfl ⟨_, rfl, (rl_0.to (by decide))⟩ (by decide) dX9_noteFault_16 (fun ws H locs hw n_k_4 hF9 => ?_)
  have m_u_1 := FLD.over hF9 m_u_1 (by decide)
  have m_u_2 := FLD.over hF9 m_u_2 (by decide)
  have n_k_3 := FLD.over hF9 n_k_3 (by decide)
  have x_EQF_p0 := EQF.over hF9 x_EQF_p0 (by decide)
  subst hQ
  exact W.vret hx hb hr (fun t ht hW => ⟨⟨ws, rfl, ⟨⟨x_EQF_p0, trivial⟩, hw.1, hw.2.2.2.2.1⟩, by rw [ht]; exact hw.2.1, va_K.moved hW.alike hK, hw.2.2.1⟩, hw.2.2.2.1.F ht⟩) hw.2.2.2.1.2.2 dX9_noteFault_19
abbrev wr_X0_because : List (Nat × Nat) := []
abbrev wa_X0_because : List Nat := []
set_option maxHeartbeats 4000000 in
set_option maxRecDepth 100000 in
theorem c_X0_because (l : Launch) (D : va_G) (cy : Nat → ClassId) (z : Nat → Nat) (sz : Nat) (Ps : PSI) (w0 : va_W) (hT : HT cy GG Ps w0) (p0 : Int32) (p1 : Int32) (r_p0 : RI p0 (-2147483648) 2147483647) (r_p1 : RI p1 (-2147483648) 2147483647) : Met l yX0_because (Cond.code yX0_because cX0_because 2 (some .int) :: gT) ({ frames := 0, cells := 0, slots := 0, locals := 200 } : Room) (va_Pc [.int p0, .int p1] (PRE D cy z w0 sz)) (va_Qi (fun (r : Int32) (u : Unit) => RI r (-2147483648) 2147483647 ∧ (r = 0 → True) ∧ (¬ r = 0 → True)) (BB D cy (va_A w0 sz) (fun (u : Unit) => w0)) (va_A w0 sz)) 0 0 (va_A w0 sz) := by
  refine Met.ofW (cc := cX0_because) (maxL := 2) (ret := (some .int)) (by decide) rfl ?_
  intro p e s m args below meth c s₁ B hml hv
  obtain ⟨rfl, hsz, hP, hK, hD0, hSD⟩ := hv
  have hx := B.exec
  have hb := B.bytes
  have hr := B.returns
  have hlocks := B.notSynchronized
  have hts : ∀ w ∈ gT, w.before _ s = true := fun w h => atoms_spec (ws := Cond.code yX0_because cX0_because 2 (some .int) :: gT) B.pre w (List.mem_cons_of_mem _ h)
  have hown : s.vm.findClass RX0 = some m.cls := findClass_of_methodNamed B.named
  subst hsz
  have hD := hD0.self (sz := s.heap.size)
  generalize hAe : va_A w0 s.heap.size = A at hD hSD ⊢
  have hA : ∀ q : Nat, s.heap.size ≤ q → A q := fun q h => by rw [← hAe]; exact Or.inr h
  have hl := lv_entry ([.int p0, .int p1]) (n := 2) (Nat.le_of_ble_eq_true rfl)
  rw [lg_entry_eq]
  generalize (lg_sl ([.int p0, .int p1]) ++ List.replicate (2 - (lg_sl ([.int p0, .int p1])).length) Slot.unset).toArray = ls at hl ⊢
  have hl : lv_has ls 2 [(0, .int p0), (1, .int p1)] := hl
  refine nameQ (fun Q hQ => ?_)
  have hw : WD D cy GG A s wr_X0_because wa_X0_because Ps w0 Ps w0 s.heap [] := ⟨hT, hP, hD, va_S.rf, FR.rf, hT.1, [], (List.append_nil _).symm⟩
  refine lv_iload_n hx hb dX0_because_0 rfl (lv_at hl 1 rfl) ?_
  refine lv_if_ne (tgt := 8) hx hb dX0_because_1 (by decide) (fun c_1 => ?_) (fun c_1 => ?_)
  · refine lv_iload_n hx hb dX0_because_8 rfl (lv_at hl 0 rfl) ?_
    refine lv_iload_n hx hb dX0_because_9 rfl (lv_at hl 1 rfl) ?_
    refine lv_iadd hx hb dX0_because_10 (lv_topi (fun v_1 e_v_1 => ?_))
    have r_v_1 := ri_any v_1
    subst hQ
    exact W.iret (v := v_1) hx hb hr (fun t ht hW => ⟨⟨v_1, (), rfl, ⟨r_v_1.to (by decide), (fun h0 => trivial), (fun h0 => trivial)⟩, by rw [ht]; exact hw.2.1, va_K.moved hW.alike hK, hw.2.2.1⟩, hw.2.2.2.1.F ht⟩) hw.2.2.2.1.2.2 dX0_because_11
  · have r_p1 : RI p1 0 0 := rc_eq1 r_p1 rl_0 (ti_eq c_1) (by decide)
    refine lv_iconst (v := 0) hx hb dX0_because_4 (by decide) ?_
    refine lv_goto (tgt := 11) hx hb dX0_because_5 (by decide) ?_
    subst hQ
    exact W.iret (v := 0) hx hb hr (fun t ht hW => ⟨⟨0, (), rfl, ⟨rl_0.to (by decide), (fun h0 => trivial), (fun _ => trivial)⟩, by rw [ht]; exact hw.2.1, va_K.moved hW.alike hK, hw.2.2.1⟩, hw.2.2.2.1.F ht⟩) hw.2.2.2.1.2.2 dX0_because_11
abbrev wr_X0_liveLine : List (Nat × Nat) := [(8, 1)]
abbrev wa_X0_liveLine : List Nat := [8, 9, 10, 11, 12, 13, 14]
set_option maxHeartbeats 4000000 in
set_option maxRecDepth 100000 in
theorem c_X0_liveLine (l : Launch) (D : va_G) (cy : Nat → ClassId) (z : Nat → Nat) (sz : Nat) (Ps : PSI) (w0 : va_W) (hT : HT cy GG Ps w0) (p0 : Nat) (p1 : Nat) (p2 : Int32) (h_p0 : (p0, 31) ∈ Ps) (h_p1 : (p1, 24) ∈ Ps) (r_p2 : RI p2 0 39) (x_BG_p0 : BG Ps w0 p0) (x_LTL_p0_p2 : LTL w0 p0 p2) : Met l yX0_liveLine (Cond.code yX0_liveLine cX0_liveLine 5 (some .int) :: gT) ({ frames := 6, cells := 0, slots := 0, locals := 1200 } : Room) (va_Pc [.ref p0, .ref p1, .int p2] (PRE D cy z w0 sz)) (va_Qi (fun (r : Int32) (u : va_W) => (RI r (-2147483648) 2147483647 ∧ (r = 0 → True) ∧ (¬ r = 0 → True)) ∧ HT cy GG Ps u ∧ FR wr_X0_liveLine wa_X0_liveLine Ps w0 u) (BB D cy (va_A w0 sz) (fun (u : va_W) => u)) (va_A w0 sz)) 0 0 (va_A w0 sz) := by
  refine Met.ofW (cc := cX0_liveLine) (maxL := 5) (ret := (some .int)) (by decide) rfl ?_
  intro p e s m args below meth c s₁ B hml hv
  obtain ⟨rfl, hsz, hP, hK, hD0, hSD⟩ := hv
  have hx := B.exec
  have hb := B.bytes
  have hr := B.returns
  have hlocks := B.notSynchronized
  have hts : ∀ w ∈ gT, w.before _ s = true := fun w h => atoms_spec (ws := Cond.code yX0_liveLine cX0_liveLine 5 (some .int) :: gT) B.pre w (List.mem_cons_of_mem _ h)
  have hown : s.vm.findClass RX0 = some m.cls := findClass_of_methodNamed B.named
  subst hsz
  have hD := hD0.self (sz := s.heap.size)
  generalize hAe : va_A w0 s.heap.size = A at hD hSD ⊢
  have hA : ∀ q : Nat, s.heap.size ≤ q → A q := fun q h => by rw [← hAe]; exact Or.inr h
  have hl := lv_entry ([.ref p0, .ref p1, .int p2]) (n := 5) (Nat.le_of_ble_eq_true rfl)
  rw [lg_entry_eq]
  generalize (lg_sl ([.ref p0, .ref p1, .int p2]) ++ List.replicate (5 - (lg_sl ([.ref p0, .ref p1, .int p2])).length) Slot.unset).toArray = ls at hl ⊢
  have hl : lv_has ls 5 [(0, .ref p0), (1, .ref p1), (2, .int p2)] := hl
  refine nameQ (fun Q hQ => ?_)
  have hw : WD D cy GG A s wr_X0_liveLine wa_X0_liveLine Ps w0 Ps w0 s.heap [] := ⟨hT, hP, hD, va_S.rf, FR.rf, hT.1, [], (List.append_nil _).symm⟩
  refine lv_aload_n hx hb dX0_liveLine_0 rfl (lv_at hl 0 rfl) ?_
  refine tg_get (ci := 0) (ts := ty_BOOK) (C := RX0) (T := TX0) (N := 5) hx hb hts inX0 hown hK hw h_p0 rfl rfl 1 (by decide) (hts _ tw_143) (fun _ h9 => h9) (ft := vR 19) rfl dX0_liveLine_1 (fun u_1 hv_u_1 m_u_1 => ?_)
  obtain ⟨vu_1, rfl, h_vu_1⟩ := hv_u_1
  refine lv_iload_n hx hb dX0_liveLine_4 rfl (lv_at hl 2 rfl) ?_
  refine tg_iald (lo := (-2147483648)) (hi := 2147483647) hx hb hK hw h_vu_1 rfl 0 39 r_p2 (by decide) (by exact fun _ _ _ => ⟨Int.le_refl _, Int.le_refl _⟩) dX0_liveLine_5 (fun v_2 r_v_2 m_v_2 o_v_2 => ?_)
  refine lv_istore_n (lv' := [(3, .int v_2), (0, .ref p0), (1, .ref p1), (2, .int p2)]) hx hb dX0_liveLine_6 rfl hl (by decide) rfl (fun ls hl => ?_)
  refine lv_aload_n hx hb dX0_liveLine_7 rfl (lv_at hl 1 rfl) ?_
  refine tg_get (ci := 0) (ts := ty_BOOK) (C := RX0) (T := TX0) (N := 5) hx hb hts inX0 hown hK hw h_p0 rfl rfl 2 (by decide) (hts _ tw_144) (fun _ h9 => h9) (ft := vR 20) rfl dX0_liveLine_8 (fun u_3 hv_u_3 m_u_3 => ?_)
  obtain ⟨vu_3, rfl, h_vu_3⟩ := hv_u_3
  refine lv_iload_n hx hb dX0_liveLine_11 rfl (lv_at hl 3 rfl) ?_
  refine tg_iald (lo := (-2147483648)) (hi := 2147483647) hx hb hK hw h_vu_3 rfl 0 39 r_p2 (by decide) (by exact fun _ _ _ => ⟨Int.le_refl _, Int.le_refl _⟩) dX0_liveLine_12 (fun v_4 r_v_4 m_v_4 o_v_4 => ?_)
  refine lv_istore (lv' := [(4, .int v_4), (3, .int v_2), (0, .ref p0), (1, .ref p1), (2, .int p2)]) hx hb dX0_liveLine_13 hl (by decide) rfl (fun ls hl => ?_)
  refine lv_aload_n hx hb dX0_liveLine_15 rfl (lv_at hl 2 rfl) ?_
  refine tg_get (ci := 0) (ts := ty_BOOK) (C := RX0) (T := TX0) (N := 5) hx hb hts inX0 hown hK hw h_p0 rfl rfl 0 (by decide) (hts _ tw_142) (fun _ h9 => h9) (ft := vR 18) rfl dX0_liveLine_16 (fun u_5 hv_u_5 m_u_5 => ?_)
  obtain ⟨vu_5, rfl, h_vu_5⟩ := hv_u_5
  refine lv_iload_n hx hb dX0_liveLine_19 rfl (lv_at hl 4 rfl) ?_
  refine tg_iald (lo := (-2147483648)) (hi := 2147483647) hx hb hK hw h_vu_5 rfl 0 39 r_p2 (by decide) (by exact fun _ _ _ => ⟨Int.le_refl _, Int.le_refl _⟩) dX0_liveLine_20 (fun v_6 r_v_6 m_v_6 o_v_6 => ?_)
  refine lv_sipush (v := 143) hx hb dX0_liveLine_21 (by decide) ?_
  refine lv_icmp_ne (tgt := 38) hx hb dX0_liveLine_24 (by decide) (fun c_24 => ?_) (fun c_24 => ?_)
  · refine lv_aload_n hx hb dX0_liveLine_38 rfl (lv_at hl 2 rfl) ?_
    refine tg_mem (ci := 0) (C := RX0) (T := TX0) (N := 5) hx hb hts inX0 hown hK hw 0 m_u_5 rfl (by decide) (hts _ tw_142) (fun _ h9 => h9) dX0_liveLine_39 ?_
    refine lv_iload_n hx hb dX0_liveLine_42 rfl (lv_at hl 4 rfl) ?_
    refine tg_imem hx hb hK hw h_vu_5 rfl r_p2 (by decide) m_v_6 dX0_liveLine_43 ?_
    have g_b : gb v_6 v_2 v_4 := BG.get hw x_BG_p0 x_LTL_p0_p2 r_p2.1 m_u_5 m_v_6 m_u_1 m_v_2 m_u_3 m_v_4
    unfold gb at g_b
    have w_44 := r_v_6
    by_cases cl_44 : v_6.toInt < 137 ∨ 142 < v_6.toInt
    · refine lv_tableOut (tgt := 157) hx hb dX0_liveLine_44 cl_44 (by decide) ?_
      refine lv_aload_n hx hb dX0_liveLine_157 rfl (lv_at hl 3 rfl) ?_
      refine lv_iload_n hx hb dX0_liveLine_158 rfl (lv_at hl 1 rfl) ?_
      have hw8 := hw
      refine tk_i (va_runV (As := [.int v_2]) (rest := []) ⟨hx, hb, hml, hown, hts⟩ (c_X8_goDays l D cy z s.heap.size Ps w0 hw.1 p1 v_2 h_p1 r_v_2) (cwV 1 hts (gV tw_936 tw_678 tw_679 tw_12 tw_680) rfl rfl rfl (by decide +kernel) ⟨Nat.le_of_ble_eq_true rfl, Nat.le_of_ble_eq_true rfl⟩) (tg_preV hw hK hSD hA (ci := 8) (q := (RX8, TX8, 13)) rfl h_p1 rfl) rfl rfl hl.1 rfl (lv_room (Nat.le_of_ble_eq_true rfl)) dX0_liveLine_159 ⟨Nat.le_of_ble_eq_true rfl, Nat.le_of_ble_eq_true rfl⟩) hw hA ⟨by decide, by decide⟩ (fun v_8 ws H locs hp_v_8 hw hF9 => ?_)
      have m_v_2 := AEL.over hw8 hF9 h_vu_1 m_v_2 (by decide)
      have m_v_4 := AEL.over hw8 hF9 h_vu_3 m_v_4 (by decide)
      have m_v_6 := AEL.over hw8 hF9 h_vu_5 m_v_6 (by decide)
      have m_u_1 := FLD.over hF9 m_u_1 (by decide)
      have m_u_3 := FLD.over hF9 m_u_3 (by decide)
      have m_u_5 := FLD.over hF9 m_u_5 (by decide)
      have x_BG_p0 := B3.over hF9 x_BG_p0 (by decide)
      have x_LTL_p0_p2 := LTL.over hF9 x_LTL_p0_p2 (by decide)
      have r_v_8 : RI v_8 (-2147483648) 2147483647 := hp_v_8.1
      refine lv_pop hx hb dX0_liveLine_162 rfl ?_
      refine lv_iconst (v := 0) hx hb dX0_liveLine_163 (by decide) ?_
      subst hQ
      exact W.iret (v := 0) hx hb hr (fun t ht hW => ⟨⟨0, ws, rfl, ⟨⟨rl_0.to (by decide), (fun h0 => trivial), (fun _ => trivial)⟩, hw.1, hw.2.2.2.2.1⟩, by rw [ht]; exact hw.2.1, va_K.moved hW.alike hK, hw.2.2.1⟩, hw.2.2.2.1.F ht⟩) hw.2.2.2.1.2.2 dX0_liveLine_164
    · have e_44 : v_6.toInt = 137 ∨ v_6.toInt = 138 ∨ v_6.toInt = 139 ∨ v_6.toInt = 140 ∨ v_6.toInt = 141 ∨ v_6.toInt = 142 := by omega
      rcases e_44 with h_44 | h_44 | h_44 | h_44 | h_44 | h_44
      · refine lv_tableIn (tgt := 84) (off := 40) hx hb dX0_liveLine_44 (by omega) (by omega) (by rw [h_44]; rfl) (by decide) ?_
        have r_v_6 : RI v_6 137 137 := ⟨by omega, by omega⟩
        have r_v_2 : RI v_2 0 7 := by have k1 := r_v_6; unfold RI at k1 ⊢; omega
        have r_v_4 : RI v_4 (-1) 5 := by have k1 := r_v_6; unfold RI at k1 ⊢; omega
        refine lv_iconst (v := 0) hx hb dX0_liveLine_84 (by decide) ?_
        refine lv_aload_n hx hb dX0_liveLine_85 rfl (lv_at hl 3 rfl) ?_
        refine lv_iload_n hx hb dX0_liveLine_86 rfl (lv_at hl 1 rfl) ?_
        refine lv_iload hx hb dX0_liveLine_87 (lv_at hl 0 rfl) ?_
        have hw8 := hw
        refine tk_i (va_runV (As := [.int v_2, .int v_4]) (rest := [.int 0]) ⟨hx, hb, hml, hown, hts⟩ (c_X8_sitDown l D cy z s.heap.size Ps w0 hw.1 p1 v_2 v_4 h_p1 r_v_2 r_v_4) (cwV 2 hts (gV tw_923 tw_612 tw_613 tw_12 tw_614) rfl rfl rfl (by decide +kernel) ⟨Nat.le_of_ble_eq_true rfl, Nat.le_of_ble_eq_true rfl⟩) (tg_preV hw hK hSD hA (ci := 8) (q := (RX8, TX8, 13)) rfl h_p1 rfl) rfl rfl hl.1 rfl (lv_room (Nat.le_of_ble_eq_true rfl)) dX0_liveLine_89 ⟨Nat.le_of_ble_eq_true rfl, Nat.le_of_ble_eq_true rfl⟩) hw hA ⟨by decide, by decide⟩ (fun v_9 ws H locs hp_v_9 hw hF9 => ?_)
        have m_v_2 := AEL.over hw8 hF9 h_vu_1 m_v_2 (by decide)
        have m_v_4 := AEL.over hw8 hF9 h_vu_3 m_v_4 (by decide)
        have m_v_6 := AEL.over hw8 hF9 h_vu_5 m_v_6 (by decide)
        have m_u_1 := FLD.over hF9 m_u_1 (by decide)
        have m_u_3 := FLD.over hF9 m_u_3 (by decide)
        have m_u_5 := FLD.over hF9 m_u_5 (by decide)
        have x_BG_p0 := B3.over hF9 x_BG_p0 (by decide)
        have x_LTL_p0_p2 := LTL.over hF9 x_LTL_p0_p2 (by decide)
        have r_v_9 : RI v_9 0 1 := hp_v_9.1
        refine tk_ir (va_runS (As := [.int 0, .int v_9]) (rest := []) ⟨hx, hb, hml, hown, hts⟩ (c_X0_because l D cy z H.size Ps ws hw.1 0 v_9 (rl_0.to (by decide)) (r_v_9.to (by decide))) (va_cwS 2 hts (gS tw_924 tw_925 tw_7 tw_926) rfl rfl rfl (by decide +kernel) ⟨Nat.le_of_ble_eq_true rfl, Nat.le_of_ble_eq_true rfl⟩) (tg_preS hw hK hSD hA) rfl rfl hl.1 rfl (lv_room (Nat.le_of_ble_eq_true rfl)) dX0_liveLine_92 ⟨Nat.le_of_ble_eq_true rfl, Nat.le_of_ble_eq_true rfl⟩) hw hA (fun v_10  H locs hp_v_10 hw => ?_)
        have r_v_10 : RI v_10 (-2147483648) 2147483647 := hp_v_10.1
        subst hQ
        exact W.iret (v := v_10) hx hb hr (fun t ht hW => ⟨⟨v_10, ws, rfl, ⟨⟨r_v_10.to (by decide), (fun h0 => trivial), (fun h0 => trivial)⟩, hw.1, hw.2.2.2.2.1⟩, by rw [ht]; exact hw.2.1, va_K.moved hW.alike hK, hw.2.2.1⟩, hw.2.2.2.1.F ht⟩) hw.2.2.2.1.2.2 dX0_liveLine_95
      · refine lv_tableIn (tgt := 96) (off := 52) hx hb dX0_liveLine_44 (by omega) (by omega) (by rw [h_44]; rfl) (by decide) ?_
        have r_v_6 : RI v_6 138 138 := ⟨by omega, by omega⟩
        have r_v_2 : RI v_2 0 7 := by have k1 := r_v_6; unfold RI at k1 ⊢; omega
        refine lv_bipush (v := 10) hx hb dX0_liveLine_96 (by decide) ?_
        refine lv_aload_n hx hb dX0_liveLine_98 rfl (lv_at hl 3 rfl) ?_
        refine lv_iload_n hx hb dX0_liveLine_99 rfl (lv_at hl 1 rfl) ?_
        have hw8 := hw
        refine tk_i (va_runV (As := [.int v_2]) (rest := [.int 10]) ⟨hx, hb, hml, hown, hts⟩ (c_X8_standUp l D cy z s.heap.size Ps w0 hw.1 p1 v_2 h_p1 r_v_2) (cwV 1 hts (gV tw_927 tw_629 tw_630 tw_12 tw_631) rfl rfl rfl (by decide +kernel) ⟨Nat.le_of_ble_eq_true rfl, Nat.le_of_ble_eq_true rfl⟩) (tg_preV hw hK hSD hA (ci := 8) (q := (RX8, TX8, 13)) rfl h_p1 rfl) rfl rfl hl.1 rfl (lv_room (Nat.le_of_ble_eq_true rfl)) dX0_liveLine_100 ⟨Nat.le_of_ble_eq_true rfl, Nat.le_of_ble_eq_true rfl⟩) hw hA ⟨by decide, by decide⟩ (fun v_11 ws H locs hp_v_11 hw hF9 => ?_)
        have m_v_2 := AEL.over hw8 hF9 h_vu_1 m_v_2 (by decide)
        have m_v_4 := AEL.over hw8 hF9 h_vu_3 m_v_4 (by decide)
        have m_v_6 := AEL.over hw8 hF9 h_vu_5 m_v_6 (by decide)
        have m_u_1 := FLD.over hF9 m_u_1 (by decide)
        have m_u_3 := FLD.over hF9 m_u_3 (by decide)
        have m_u_5 := FLD.over hF9 m_u_5 (by decide)
        have x_BG_p0 := B3.over hF9 x_BG_p0 (by decide)
        have x_LTL_p0_p2 := LTL.over hF9 x_LTL_p0_p2 (by decide)
        have r_v_11 : RI v_11 0 1 := hp_v_11.1
        refine tk_ir (va_runS (As := [.int 10, .int v_11]) (rest := []) ⟨hx, hb, hml, hown, hts⟩ (c_X0_because l D cy z H.size Ps ws hw.1 10 v_11 (rl_10.to (by decide)) (r_v_11.to (by decide))) (va_cwS 2 hts (gS tw_924 tw_925 tw_7 tw_926) rfl rfl rfl (by decide +kernel) ⟨Nat.le_of_ble_eq_true rfl, Nat.le_of_ble_eq_true rfl⟩) (tg_preS hw hK hSD hA) rfl rfl hl.1 rfl (lv_room (Nat.le_of_ble_eq_true rfl)) dX0_liveLine_103 ⟨Nat.le_of_ble_eq_true rfl, Nat.le_of_ble_eq_true rfl⟩) hw hA (fun v_12  H locs hp_v_12 hw => ?_)
        have r_v_12 : RI v_12 (-2147483648) 2147483647 := hp_v_12.1
        subst hQ
        exact W.iret (v := v_12) hx hb hr (fun t ht hW => ⟨⟨v_12, ws, rfl, ⟨⟨r_v_12.to (by decide), (fun h0 => trivial), (fun h0 => trivial)⟩, hw.1, hw.2.2.2.2.1⟩, by rw [ht]; exact hw.2.1, va_K.moved hW.alike hK, hw.2.2.1⟩, hw.2.2.2.1.F ht⟩) hw.2.2.2.1.2.2 dX0_liveLine_106
      · refine lv_tableIn (tgt := 107) (off := 63) hx hb dX0_liveLine_44 (by omega) (by omega) (by rw [h_44]; rfl) (by decide) ?_
        have r_v_6 : RI v_6 139 139 := ⟨by omega, by omega⟩
        have r_v_2 : RI v_2 0 7 := by have k1 := r_v_6; unfold RI at k1 ⊢; omega
        have r_v_4 : RI v_4 0 5 := by have k1 := r_v_6; unfold RI at k1 ⊢; omega
        refine lv_bipush (v := 20) hx hb dX0_liveLine_107 (by decide) ?_
        refine lv_aload_n hx hb dX0_liveLine_109 rfl (lv_at hl 3 rfl) ?_
        refine lv_iload_n hx hb dX0_liveLine_110 rfl (lv_at hl 1 rfl) ?_
        refine lv_iload hx hb dX0_liveLine_111 (lv_at hl 0 rfl) ?_
        have hw8 := hw
        refine tk_i (va_runV (As := [.int v_2, .int v_4]) (rest := [.int 20]) ⟨hx, hb, hml, hown, hts⟩ (c_X8_wishFor l D cy z s.heap.size Ps w0 hw.1 p1 v_2 v_4 h_p1 r_v_2 r_v_4) (cwV 2 hts (gV tw_928 tw_637 tw_638 tw_12 tw_639) rfl rfl rfl (by decide +kernel) ⟨Nat.le_of_ble_eq_true rfl, Nat.le_of_ble_eq_true rfl⟩) (tg_preV hw hK hSD hA (ci := 8) (q := (RX8, TX8, 13)) rfl h_p1 rfl) rfl rfl hl.1 rfl (lv_room (Nat.le_of_ble_eq_true rfl)) dX0_liveLine_113 ⟨Nat.le_of_ble_eq_true rfl, Nat.le_of_ble_eq_true rfl⟩) hw hA ⟨by decide, by decide⟩ (fun v_13 ws H locs hp_v_13 hw hF9 => ?_)
        have m_v_2 := AEL.over hw8 hF9 h_vu_1 m_v_2 (by decide)
        have m_v_4 := AEL.over hw8 hF9 h_vu_3 m_v_4 (by decide)
        have m_v_6 := AEL.over hw8 hF9 h_vu_5 m_v_6 (by decide)
        have m_u_1 := FLD.over hF9 m_u_1 (by decide)
        have m_u_3 := FLD.over hF9 m_u_3 (by decide)
        have m_u_5 := FLD.over hF9 m_u_5 (by decide)
        have x_BG_p0 := B3.over hF9 x_BG_p0 (by decide)
        have x_LTL_p0_p2 := LTL.over hF9 x_LTL_p0_p2 (by decide)
        have r_v_13 : RI v_13 0 1 := hp_v_13.1
        refine tk_ir (va_runS (As := [.int 20, .int v_13]) (rest := []) ⟨hx, hb, hml, hown, hts⟩ (c_X0_because l D cy z H.size Ps ws hw.1 20 v_13 (rl_20.to (by decide)) (r_v_13.to (by decide))) (va_cwS 2 hts (gS tw_924 tw_925 tw_7 tw_926) rfl rfl rfl (by decide +kernel) ⟨Nat.le_of_ble_eq_true rfl, Nat.le_of_ble_eq_true rfl⟩) (tg_preS hw hK hSD hA) rfl rfl hl.1 rfl (lv_room (Nat.le_of_ble_eq_true rfl)) dX0_liveLine_116 ⟨Nat.le_of_ble_eq_true rfl, Nat.le_of_ble_eq_true rfl⟩) hw hA (fun v_14  H locs hp_v_14 hw => ?_)
        have r_v_14 : RI v_14 (-2147483648) 2147483647 := hp_v_14.1
        subst hQ
        exact W.iret (v := v_14) hx hb hr (fun t ht hW => ⟨⟨v_14, ws, rfl, ⟨⟨r_v_14.to (by decide), (fun h0 => trivial), (fun h0 => trivial)⟩, hw.1, hw.2.2.2.2.1⟩, by rw [ht]; exact hw.2.1, va_K.moved hW.alike hK, hw.2.2.1⟩, hw.2.2.2.1.F ht⟩) hw.2.2.2.1.2.2 dX0_liveLine_119
      · refine lv_tableIn (tgt := 120) (off := 76) hx hb dX0_liveLine_44 (by omega) (by omega) (by rw [h_44]; rfl) (by decide) ?_
        have r_v_6 : RI v_6 140 140 := ⟨by omega, by omega⟩
        have r_v_2 : RI v_2 0 7 := by have k1 := r_v_6; unfold RI at k1 ⊢; omega
        have r_v_4 : RI v_4 0 5 := by have k1 := r_v_6; unfold RI at k1 ⊢; omega
        refine lv_bipush (v := 30) hx hb dX0_liveLine_120 (by decide) ?_
        refine lv_aload_n hx hb dX0_liveLine_122 rfl (lv_at hl 3 rfl) ?_
        refine lv_iload_n hx hb dX0_liveLine_123 rfl (lv_at hl 1 rfl) ?_
        refine lv_iload hx hb dX0_liveLine_124 (lv_at hl 0 rfl) ?_
        have hw8 := hw
        refine tk_i (va_runS (As := [.ref p1, .int v_2, .int v_4]) (rest := [.int 30]) ⟨hx, hb, hml, hown, hts⟩ (c_X0_guessIn l D cy z s.heap.size Ps w0 hw.1 p1 v_2 v_4 h_p1 r_v_2 r_v_4) (va_cwS 3 hts (gS tw_929 tw_930 tw_7 tw_931) rfl rfl rfl (by decide +kernel) ⟨Nat.le_of_ble_eq_true rfl, Nat.le_of_ble_eq_true rfl⟩) (tg_preS hw hK hSD hA) rfl rfl hl.1 rfl (lv_room (Nat.le_of_ble_eq_true rfl)) dX0_liveLine_126 ⟨Nat.le_of_ble_eq_true rfl, Nat.le_of_ble_eq_true rfl⟩) hw hA ⟨by decide, by decide⟩ (fun v_15 ws H locs hp_v_15 hw hF9 => ?_)
        have m_v_2 := AEL.over hw8 hF9 h_vu_1 m_v_2 (by decide)
        have m_v_4 := AEL.over hw8 hF9 h_vu_3 m_v_4 (by decide)
        have m_v_6 := AEL.over hw8 hF9 h_vu_5 m_v_6 (by decide)
        have m_u_1 := FLD.over hF9 m_u_1 (by decide)
        have m_u_3 := FLD.over hF9 m_u_3 (by decide)
        have m_u_5 := FLD.over hF9 m_u_5 (by decide)
        have x_BG_p0 := B3.over hF9 x_BG_p0 (by decide)
        have x_LTL_p0_p2 := LTL.over hF9 x_LTL_p0_p2 (by decide)
        have r_v_15 : RI v_15 0 2 := hp_v_15.1
        refine tk_ir (va_runS (As := [.int 30, .int v_15]) (rest := []) ⟨hx, hb, hml, hown, hts⟩ (c_X0_because l D cy z H.size Ps ws hw.1 30 v_15 (rl_30.to (by decide)) (r_v_15.to (by decide))) (va_cwS 2 hts (gS tw_924 tw_925 tw_7 tw_926) rfl rfl rfl (by decide +kernel) ⟨Nat.le_of_ble_eq_true rfl, Nat.le_of_ble_eq_true rfl⟩) (tg_preS hw hK hSD hA) rfl rfl hl.1 rfl (lv_room (Nat.le_of_ble_eq_true rfl)) dX0_liveLine_129 ⟨Nat.le_of_ble_eq_true rfl, Nat.le_of_ble_eq_true rfl⟩) hw hA (fun v_16  H locs hp_v_16 hw => ?_)
        have r_v_16 : RI v_16 (-2147483648) 2147483647 := hp_v_16.1
        subst hQ
        exact W.iret (v := v_16) hx hb hr (fun t ht hW => ⟨⟨v_16, ws, rfl, ⟨⟨r_v_16.to (by decide), (fun h0 => trivial), (fun h0 => trivial)⟩, hw.1, hw.2.2.2.2.1⟩, by rw [ht]; exact hw.2.1, va_K.moved hW.alike hK, hw.2.2.1⟩, hw.2.2.2.1.F ht⟩) hw.2.2.2.1.2.2 dX0_liveLine_132
      · refine lv_tableIn (tgt := 133) (off := 89) hx hb dX0_liveLine_44 (by omega) (by omega) (by rw [h_44]; rfl) (by decide) ?_
        have r_v_6 : RI v_6 141 141 := ⟨by omega, by omega⟩
        have r_v_2 : RI v_2 0 5 := by have k1 := r_v_6; unfold RI at k1 ⊢; omega
        refine lv_bipush (v := 40) hx hb dX0_liveLine_133 (by decide) ?_
        refine lv_aload_n hx hb dX0_liveLine_135 rfl (lv_at hl 3 rfl) ?_
        refine lv_iload_n hx hb dX0_liveLine_136 rfl (lv_at hl 1 rfl) ?_
        have hw8 := hw
        refine tk_i (va_runV (As := [.int v_2]) (rest := [.int 40]) ⟨hx, hb, hml, hown, hts⟩ (c_X8_openUp l D cy z s.heap.size Ps w0 hw.1 p1 v_2 h_p1 r_v_2) (cwV 1 hts (gV tw_934 tw_662 tw_663 tw_12 tw_664) rfl rfl rfl (by decide +kernel) ⟨Nat.le_of_ble_eq_true rfl, Nat.le_of_ble_eq_true rfl⟩) (tg_preV hw hK hSD hA (ci := 8) (q := (RX8, TX8, 13)) rfl h_p1 rfl) rfl rfl hl.1 rfl (lv_room (Nat.le_of_ble_eq_true rfl)) dX0_liveLine_137 ⟨Nat.le_of_ble_eq_true rfl, Nat.le_of_ble_eq_true rfl⟩) hw hA ⟨by decide, by decide⟩ (fun v_17 ws H locs hp_v_17 hw hF9 => ?_)
        have m_v_2 := AEL.over hw8 hF9 h_vu_1 m_v_2 (by decide)
        have m_v_4 := AEL.over hw8 hF9 h_vu_3 m_v_4 (by decide)
        have m_v_6 := AEL.over hw8 hF9 h_vu_5 m_v_6 (by decide)
        have m_u_1 := FLD.over hF9 m_u_1 (by decide)
        have m_u_3 := FLD.over hF9 m_u_3 (by decide)
        have m_u_5 := FLD.over hF9 m_u_5 (by decide)
        have x_BG_p0 := B3.over hF9 x_BG_p0 (by decide)
        have x_LTL_p0_p2 := LTL.over hF9 x_LTL_p0_p2 (by decide)
        have r_v_17 : RI v_17 0 1 := hp_v_17.1
        refine tk_ir (va_runS (As := [.int 40, .int v_17]) (rest := []) ⟨hx, hb, hml, hown, hts⟩ (c_X0_because l D cy z H.size Ps ws hw.1 40 v_17 (rl_40.to (by decide)) (r_v_17.to (by decide))) (va_cwS 2 hts (gS tw_924 tw_925 tw_7 tw_926) rfl rfl rfl (by decide +kernel) ⟨Nat.le_of_ble_eq_true rfl, Nat.le_of_ble_eq_true rfl⟩) (tg_preS hw hK hSD hA) rfl rfl hl.1 rfl (lv_room (Nat.le_of_ble_eq_true rfl)) dX0_liveLine_140 ⟨Nat.le_of_ble_eq_true rfl, Nat.le_of_ble_eq_true rfl⟩) hw hA (fun v_18  H locs hp_v_18 hw => ?_)
        have r_v_18 : RI v_18 (-2147483648) 2147483647 := hp_v_18.1
        subst hQ
        exact W.iret (v := v_18) hx hb hr (fun t ht hW => ⟨⟨v_18, ws, rfl, ⟨⟨r_v_18.to (by decide), (fun h0 => trivial), (fun h0 => trivial)⟩, hw.1, hw.2.2.2.2.1⟩, by rw [ht]; exact hw.2.1, va_K.moved hW.alike hK, hw.2.2.1⟩, hw.2.2.2.1.F ht⟩) hw.2.2.2.1.2.2 dX0_liveLine_143
      · refine lv_tableIn (tgt := 144) (off := 100) hx hb dX0_liveLine_44 (by omega) (by omega) (by rw [h_44]; rfl) (by decide) ?_
        have r_v_6 : RI v_6 142 142 := ⟨by omega, by omega⟩
        have r_v_2 : RI v_2 0 5 := by have k1 := r_v_6; unfold RI at k1 ⊢; omega
        refine lv_bipush (v := 50) hx hb dX0_liveLine_144 (by decide) ?_
        refine lv_aload_n hx hb dX0_liveLine_146 rfl (lv_at hl 3 rfl) ?_
        refine lv_iload_n hx hb dX0_liveLine_147 rfl (lv_at hl 1 rfl) ?_
        refine lv_iload hx hb dX0_liveLine_148 (lv_at hl 0 rfl) ?_
        have hw8 := hw
        refine tk_i (va_runV (As := [.int v_2, .int v_4]) (rest := [.int 50]) ⟨hx, hb, hml, hown, hts⟩ (c_X8_carryTo l D cy z s.heap.size Ps w0 hw.1 p1 v_2 v_4 h_p1 r_v_2 r_v_4) (cwV 2 hts (gV tw_935 tw_670 tw_671 tw_12 tw_672) rfl rfl rfl (by decide +kernel) ⟨Nat.le_of_ble_eq_true rfl, Nat.le_of_ble_eq_true rfl⟩) (tg_preV hw hK hSD hA (ci := 8) (q := (RX8, TX8, 13)) rfl h_p1 rfl) rfl rfl hl.1 rfl (lv_room (Nat.le_of_ble_eq_true rfl)) dX0_liveLine_150 ⟨Nat.le_of_ble_eq_true rfl, Nat.le_of_ble_eq_true rfl⟩) hw hA ⟨by decide, by decide⟩ (fun v_19 ws H locs hp_v_19 hw hF9 => ?_)
        have m_v_2 := AEL.over hw8 hF9 h_vu_1 m_v_2 (by decide)
        have m_v_4 := AEL.over hw8 hF9 h_vu_3 m_v_4 (by decide)
        have m_v_6 := AEL.over hw8 hF9 h_vu_5 m_v_6 (by decide)
        have m_u_1 := FLD.over hF9 m_u_1 (by decide)
        have m_u_3 := FLD.over hF9 m_u_3 (by decide)
        have m_u_5 := FLD.over hF9 m_u_5 (by decide)
        have x_BG_p0 := B3.over hF9 x_BG_p0 (by decide)
        have x_LTL_p0_p2 := LTL.over hF9 x_LTL_p0_p2 (by decide)
        have r_v_19 : RI v_19 0 2 := hp_v_19.1
        refine tk_ir (va_runS (As := [.int 50, .int v_19]) (rest := []) ⟨hx, hb, hml, hown, hts⟩ (c_X0_because l D cy z H.size Ps ws hw.1 50 v_19 (rl_50.to (by decide)) (r_v_19.to (by decide))) (va_cwS 2 hts (gS tw_924 tw_925 tw_7 tw_926) rfl rfl rfl (by decide +kernel) ⟨Nat.le_of_ble_eq_true rfl, Nat.le_of_ble_eq_true rfl⟩) (tg_preS hw hK hSD hA) rfl rfl hl.1 rfl (lv_room (Nat.le_of_ble_eq_true rfl)) dX0_liveLine_153 ⟨Nat.le_of_ble_eq_true rfl, Nat.le_of_ble_eq_true rfl⟩) hw hA (fun v_20  H locs hp_v_20 hw => ?_)
        have r_v_20 : RI v_20 (-2147483648) 2147483647 := hp_v_20.1
        subst hQ
        exact W.iret (v := v_20) hx hb hr (fun t ht hW => ⟨⟨v_20, ws, rfl, ⟨⟨r_v_20.to (by decide), (fun h0 => trivial), (fun h0 => trivial)⟩, hw.1, hw.2.2.2.2.1⟩, by rw [ht]; exact hw.2.1, va_K.moved hW.alike hK, hw.2.2.1⟩, hw.2.2.2.1.F ht⟩) hw.2.2.2.1.2.2 dX0_liveLine_156
  · have r_v_6 : RI v_6 143 143 := rc_eq1 r_v_6 rl_143 (ti_eq c_24) (by decide)
    refine lv_iload_n hx hb dX0_liveLine_27 rfl (lv_at hl 1 rfl) ?_
    refine lv_aload_n hx hb dX0_liveLine_28 rfl (lv_at hl 3 rfl) ?_
    refine tk_ir (va_runV (As := []) (rest := [.int v_2]) ⟨hx, hb, hml, hown, hts⟩ (c_X8_daysLeft l D cy z s.heap.size Ps w0 hw.1 p1 h_p1) (cwV 0 hts (gV tw_922 tw_682 tw_683 tw_12 tw_684) rfl rfl rfl (by decide +kernel) ⟨Nat.le_of_ble_eq_true rfl, Nat.le_of_ble_eq_true rfl⟩) (tg_preV hw hK hSD hA (ci := 8) (q := (RX8, TX8, 13)) rfl h_p1 rfl) rfl rfl hl.1 rfl (lv_room (Nat.le_of_ble_eq_true rfl)) dX0_liveLine_29 ⟨Nat.le_of_ble_eq_true rfl, Nat.le_of_ble_eq_true rfl⟩) hw hA (fun v_21  H locs hp_v_21 hw => ?_)
    have r_v_21 : RI v_21 0 2147483647 := hp_v_21.1
    refine lv_icmp_le (tgt := 38) hx hb dX0_liveLine_32 (by decide) (fun c_32 => ?_) (fun c_32 => ?_)
    · refine lv_aload_n hx hb dX0_liveLine_38 rfl (lv_at hl 2 rfl) ?_
      refine tg_mem (ci := 0) (C := RX0) (T := TX0) (N := 5) hx hb hts inX0 hown hK hw 0 m_u_5 rfl (by decide) (hts _ tw_142) (fun _ h9 => h9) dX0_liveLine_39 ?_
      refine lv_iload_n hx hb dX0_liveLine_42 rfl (lv_at hl 4 rfl) ?_
      refine tg_imem hx hb hK hw h_vu_5 rfl r_p2 (by decide) m_v_6 dX0_liveLine_43 ?_
      have g_b : gb v_6 v_2 v_4 := BG.get hw x_BG_p0 x_LTL_p0_p2 r_p2.1 m_u_5 m_v_6 m_u_1 m_v_2 m_u_3 m_v_4
      unfold gb at g_b
      have w_44 := r_v_6
      by_cases cl_44 : v_6.toInt < 137 ∨ 142 < v_6.toInt
      · refine lv_tableOut (tgt := 157) hx hb dX0_liveLine_44 cl_44 (by decide) ?_
        refine lv_aload_n hx hb dX0_liveLine_157 rfl (lv_at hl 3 rfl) ?_
        refine lv_iload_n hx hb dX0_liveLine_158 rfl (lv_at hl 1 rfl) ?_
        have hw8 := hw
        refine tk_i (va_runV (As := [.int v_2]) (rest := []) ⟨hx, hb, hml, hown, hts⟩ (c_X8_goDays l D cy z H.size Ps w0 hw.1 p1 v_2 h_p1 r_v_2) (cwV 1 hts (gV tw_936 tw_678 tw_679 tw_12 tw_680) rfl rfl rfl (by decide +kernel) ⟨Nat.le_of_ble_eq_true rfl, Nat.le_of_ble_eq_true rfl⟩) (tg_preV hw hK hSD hA (ci := 8) (q := (RX8, TX8, 13)) rfl h_p1 rfl) rfl rfl hl.1 rfl (lv_room (Nat.le_of_ble_eq_true rfl)) dX0_liveLine_159 ⟨Nat.le_of_ble_eq_true rfl, Nat.le_of_ble_eq_true rfl⟩) hw hA ⟨by decide, by decide⟩ (fun v_23 ws H locs hp_v_23 hw hF9 => ?_)
        have m_v_2 := AEL.over hw8 hF9 h_vu_1 m_v_2 (by decide)
        have m_v_4 := AEL.over hw8 hF9 h_vu_3 m_v_4 (by decide)
        have m_v_6 := AEL.over hw8 hF9 h_vu_5 m_v_6 (by decide)
        have m_u_1 := FLD.over hF9 m_u_1 (by decide)
        have m_u_3 := FLD.over hF9 m_u_3 (by decide)
        have m_u_5 := FLD.over hF9 m_u_5 (by decide)
        have x_BG_p0 := B3.over hF9 x_BG_p0 (by decide)
        have x_LTL_p0_p2 := LTL.over hF9 x_LTL_p0_p2 (by decide)
        have r_v_23 : RI v_23 (-2147483648) 2147483647 := hp_v_23.1
        refine lv_pop hx hb dX0_liveLine_162 rfl ?_
        refine lv_iconst (v := 0) hx hb dX0_liveLine_163 (by decide) ?_
        subst hQ
        exact W.iret (v := 0) hx hb hr (fun t ht hW => ⟨⟨0, ws, rfl, ⟨⟨rl_0.to (by decide), (fun h0 => trivial), (fun _ => trivial)⟩, hw.1, hw.2.2.2.2.1⟩, by rw [ht]; exact hw.2.1, va_K.moved hW.alike hK, hw.2.2.1⟩, hw.2.2.2.1.F ht⟩) hw.2.2.2.1.2.2 dX0_liveLine_164
      · have e_44 : v_6.toInt = 137 ∨ v_6.toInt = 138 ∨ v_6.toInt = 139 ∨ v_6.toInt = 140 ∨ v_6.toInt = 141 ∨ v_6.toInt = 142 := by omega
        rcases e_44 with h_44 | h_44 | h_44 | h_44 | h_44 | h_44
        · exact absurd h_44 (by unfold RI at w_44; omega)
        · exact absurd h_44 (by unfold RI at w_44; omega)
        · exact absurd h_44 (by unfold RI at w_44; omega)
        · exact absurd h_44 (by unfold RI at w_44; omega)
        · exact absurd h_44 (by unfold RI at w_44; omega)
        · exact absurd h_44 (by unfold RI at w_44; omega)
    · have r_v_21 : RI v_21 0 2147483646 := rc_lt1 r_v_21 r_v_2 (ti_nle c_32) (by decide)
      have r_v_2 : RI v_2 1 2147483647 := rc_lt2 r_v_21 r_v_2 (ti_nle c_32) (by decide)
      refine lv_bipush (v := 61) hx hb dX0_liveLine_35 (by decide) ?_
      subst hQ
      exact W.iret (v := 61) hx hb hr (fun t ht hW => ⟨⟨61, w0, rfl, ⟨⟨rl_61.to (by decide), (fun _ => trivial), (fun h0 => trivial)⟩, hw.1, hw.2.2.2.2.1⟩, by rw [ht]; exact hw.2.1, va_K.moved hW.alike hK, hw.2.2.1⟩, hw.2.2.2.1.F ht⟩) hw.2.2.2.1.2.2 dX0_liveLine_37
abbrev wr_X0_liveIn : List (Nat × Nat) := [(0, 4), (8, 1)]
abbrev wa_X0_liveIn : List Nat := [8, 9, 10, 11, 12, 13, 14]
set_option maxHeartbeats 4000000 in
set_option maxRecDepth 100000 in
theorem c_X0_liveIn (l : Launch) (D : va_G) (cy : Nat → ClassId) (z : Nat → Nat) (sz : Nat) (Ps : PSI) (w0 : va_W) (hT : HT cy GG Ps w0) (p0 : Nat) (p1 : Nat) (h_p0 : (p0, 31) ∈ Ps) (h_p1 : (p1, 24) ∈ Ps) (x_BG_p0 : BG Ps w0 p0) : Met l yX0_liveIn (Cond.code yX0_liveIn cX0_liveIn 4 (some .int) :: gT) ({ frames := 7, cells := 0, slots := 0, locals := 1400 } : Room) (va_Pc [.ref p0, .ref p1] (PRE D cy z w0 sz)) (va_Qi (fun (r : Int32) (u : va_W) => (RI r (-2147483648) 2147483647 ∧ (r = 0 → True) ∧ (¬ r = 0 → (∃ v9 : Int32, FLD u p0 0 3 (.int v9) ∧ RI v9 1 40) ∧ True)) ∧ HT cy GG Ps u ∧ FR wr_X0_liveIn wa_X0_liveIn Ps w0 u) (BB D cy (va_A w0 sz) (fun (u : va_W) => u)) (va_A w0 sz)) 0 0 (va_A w0 sz) := by
  refine Met.ofW (cc := cX0_liveIn) (maxL := 4) (ret := (some .int)) (by decide) rfl ?_
  intro p e s m args below meth c s₁ B hml hv
  obtain ⟨rfl, hsz, hP, hK, hD0, hSD⟩ := hv
  have hx := B.exec
  have hb := B.bytes
  have hr := B.returns
  have hlocks := B.notSynchronized
  have hts : ∀ w ∈ gT, w.before _ s = true := fun w h => atoms_spec (ws := Cond.code yX0_liveIn cX0_liveIn 4 (some .int) :: gT) B.pre w (List.mem_cons_of_mem _ h)
  have hown : s.vm.findClass RX0 = some m.cls := findClass_of_methodNamed B.named
  subst hsz
  have hD := hD0.self (sz := s.heap.size)
  generalize hAe : va_A w0 s.heap.size = A at hD hSD ⊢
  have hA : ∀ q : Nat, s.heap.size ≤ q → A q := fun q h => by rw [← hAe]; exact Or.inr h
  have hl := lv_entry ([.ref p0, .ref p1]) (n := 4) (Nat.le_of_ble_eq_true rfl)
  rw [lg_entry_eq]
  generalize (lg_sl ([.ref p0, .ref p1]) ++ List.replicate (4 - (lg_sl ([.ref p0, .ref p1])).length) Slot.unset).toArray = ls at hl ⊢
  have hl : lv_has ls 4 [(0, .ref p0), (1, .ref p1)] := hl
  refine nameQ (fun Q hQ => ?_)
  have hw : WD D cy GG A s wr_X0_liveIn wa_X0_liveIn Ps w0 Ps w0 s.heap [] := ⟨hT, hP, hD, va_S.rf, FR.rf, hT.1, [], (List.append_nil _).symm⟩
  have B7 : ∀ (nf : Nat) (x2 : Int32) (ws : va_W) (H : Heap) (locs : List Loc) (ls : Array Slot), 40 - x2.toInt < (nf : Int) → RI x2 0 40 → BG Ps ws p0 → WD D cy GG A s wr_X0_liveIn wa_X0_liveIn Ps w0 Ps ws H locs → lv_has ls 4 [(0, .ref p0), (1, .ref p1), (2, .int x2)] → W p l e (headSpec (Cond.code yX0_liveIn cX0_liveIn 4 (some .int) :: gT) ({ frames := 7, cells := 0, slots := 0, locals := 1400 } : Room)).room s m ([.ref p0, .ref p1] : List Value).toArray below meth c H locs 0 0 Q (F0 m 7 ls []) := by
    intro nf7
    induction nf7 with
    | zero =>
      intro x2 ws H locs ls hn7 r_x2 x_BG_p0 hw hl
      exact absurd hn7 (by have q0 := r_x2.1; have u0 := r_x2.2; omega)
    | succ nf7 ih7 =>
      intro x2 ws H locs ls hn7 r_x2 x_BG_p0 hw hl
      refine lv_iload_n hx hb dX0_liveIn_7 rfl (lv_at hl 2 rfl) ?_
      refine lv_aload_n hx hb dX0_liveIn_8 rfl (lv_at hl 0 rfl) ?_
      refine tg_get (ci := 0) (ts := ty_BOOK) (C := RX0) (T := TX0) (N := 5) hx hb hts inX0 hown hK hw h_p0 rfl rfl 3 (by decide) (hts _ tw_145) (fun _ h9 => h9) (ft := vI 0 40) rfl dX0_liveIn_9 (fun u_1 hv_u_1 m_u_1 => ?_)
      obtain ⟨vu_1, rfl, r_vu_1⟩ := hv_u_1
      refine lv_icmp_ge (tgt := 44) hx hb dX0_liveIn_12 (by decide) (fun c_12 => ?_) (fun c_12 => ?_)
      · refine lv_iconst (v := 0) hx hb dX0_liveIn_44 (by decide) ?_
        subst hQ
        exact W.iret (v := 0) hx hb hr (fun t ht hW => ⟨⟨0, ws, rfl, ⟨⟨rl_0.to (by decide), (fun h0 => trivial), (fun h0 => absurd rfl h0)⟩, hw.1, hw.2.2.2.2.1⟩, by rw [ht]; exact hw.2.1, va_K.moved hW.alike hK, hw.2.2.1⟩, hw.2.2.2.1.F ht⟩) hw.2.2.2.1.2.2 dX0_liveIn_45
      · have r_x2 : RI x2 0 39 := rc_lt1 r_x2 r_vu_1 (ti_nle c_12) (by decide)
        have r_vu_1 : RI vu_1 1 40 := rc_lt2 r_x2 r_vu_1 (ti_nle c_12) (by decide)
        refine lv_aload_n hx hb dX0_liveIn_15 rfl (lv_at hl 0 rfl) ?_
        refine lv_aload_n hx hb dX0_liveIn_16 rfl (lv_at hl 1 rfl) ?_
        refine lv_iload_n hx hb dX0_liveIn_17 rfl (lv_at hl 2 rfl) ?_
        have x_LTL_p0_x2 : LTL ws p0 x2 := ⟨_, m_u_1, ti_nle c_12⟩
        refine tk_i (va_runV (As := [.ref p1, .int x2]) (rest := []) ⟨hx, hb, hml, hown, hts⟩ (c_X0_liveLine l D cy z H.size Ps ws hw.1 p0 p1 x2 h_p0 h_p1 r_x2 x_BG_p0 x_LTL_p0_x2) (cwV 2 hts (gV tw_918 tw_920 ts_30 tw_7 tw_921) rfl rfl rfl (by decide +kernel) ⟨Nat.le_of_ble_eq_true rfl, Nat.le_of_ble_eq_true rfl⟩) (tg_preV hw hK hSD hA (ci := 0) (q := (RX0, TX0, 5)) rfl h_p0 rfl) rfl rfl hl.1 rfl (lv_room (Nat.le_of_ble_eq_true rfl)) dX0_liveIn_18 ⟨Nat.le_of_ble_eq_true rfl, Nat.le_of_ble_eq_true rfl⟩) hw hA ⟨by decide, by decide⟩ (fun v_2 ws H locs hp_v_2 hw hF9 => ?_)
        have m_u_1 := FLD.over hF9 m_u_1 (by decide)
        have x_BG_p0 := B3.over hF9 x_BG_p0 (by decide)
        have x_LTL_p0_x2 := LTL.over hF9 x_LTL_p0_x2 (by decide)
        have r_v_2 : RI v_2 (-2147483648) 2147483647 := hp_v_2.1
        refine lv_istore_n (lv' := [(3, .int v_2), (0, .ref p0), (1, .ref p1), (2, .int x2)]) hx hb dX0_liveIn_21 rfl hl (by decide) rfl (fun ls hl => ?_)
        refine lv_iload_n hx hb dX0_liveIn_22 rfl (lv_at hl 0 rfl) ?_
        refine lv_if_eq (tgt := 28) hx hb dX0_liveIn_23 (by decide) (fun c_23 => ?_) (fun c_23 => ?_)
        · have r_v_2 : RI v_2 0 0 := rc_eq1 r_v_2 rl_0 (ti_eq c_23) (by decide)
          refine lv_aload_n hx hb dX0_liveIn_28 rfl (lv_at hl 1 rfl) ?_
          refine lv_dup hx hb dX0_liveIn_29 rfl ?_
          refine tg_get (ci := 0) (ts := ty_BOOK) (C := RX0) (T := TX0) (N := 5) hx hb hts inX0 hown hK hw h_p0 rfl rfl 4 (by decide) (hts _ tw_146) (fun _ h9 => h9) (ft := vI (-2147483648) 2147483647) rfl dX0_liveIn_30 (fun u_3 hv_u_3 m_u_3 => ?_)
          obtain ⟨vu_3, rfl, r_vu_3⟩ := hv_u_3
          refine lv_iconst (v := 1) hx hb dX0_liveIn_33 (by decide) ?_
          refine lv_iadd hx hb dX0_liveIn_34 (lv_topi (fun v_4 e_v_4 => ?_))
          have r_v_4 := ri_any v_4
          refine tg_put (ci := 0) (ts := ty_BOOK) (v := .int v_4) (ty := .int) (C := RX0) (T := TX0) (N := 5) hx hb hts inX0 tyX0 tyX0_ok nmX0 hown hK hw h_p0 rfl rfl 4 (by decide) (hts _ tw_146) (fun _ h9 => h9) rfl (by decide +kernel) rfl rfl (ft := vI (-2147483648) 2147483647) rfl ⟨_, rfl, r_v_4⟩ (by decide) dX0_liveIn_35 (fun ws H locs hw n_k_5 hF9 => ?_)
          have m_u_1 := FLD.over hF9 m_u_1 (by decide)
          have x_BG_p0 := B3.over hF9 x_BG_p0 (by decide)
          have x_LTL_p0_x2 := LTL.over hF9 x_LTL_p0_x2 (by decide)
          obtain ⟨v_6, e_v_6⟩ : ∃ q9 : Int32, q9 = x2 + Int32.ofInt 1 := ⟨_, rfl⟩
          obtain ⟨t_v_6, r_v_6⟩ := tq_add (lo := 1) (hi := 40) r_x2 (show RI (Int32.ofInt 1) 1 1 by unfold RI; decide +kernel) (by decide +kernel) e_v_6
          have t_v_6 : v_6.toInt = x2.toInt + 1 := t_v_6
          refine lv_iinc (v := v_6) (lv' := [(2, .int v_6), (3, .int v_2), (0, .ref p0), (1, .ref p1)]) hx hb dX0_liveIn_38 hl (k := 3) rfl e_v_6.symm (by decide) rfl (fun ls hl => ?_)
          refine lv_goto (tgt := 7) hx hb dX0_liveIn_41 (by decide) ?_
          exact ih7 v_6 ws _ _ ls (by have q0 := r_v_6.1; have u0 := r_v_6.2; have o0 := r_x2.1; have p0 := r_x2.2; omega) (r_v_6.to (by decide)) x_BG_p0 hw (lv_sub hl [2, 3, 0] rfl)
        · refine lv_iload_n hx hb dX0_liveIn_26 rfl (lv_at hl 0 rfl) ?_
          subst hQ
          exact W.iret (v := v_2) hx hb hr (fun t ht hW => ⟨⟨v_2, ws, rfl, ⟨⟨r_v_2.to (by decide), (fun h0 => trivial), (fun h0 => ⟨⟨_, m_u_1, r_vu_1⟩, trivial⟩)⟩, hw.1, hw.2.2.2.2.1⟩, by rw [ht]; exact hw.2.1, va_K.moved hW.alike hK, hw.2.2.1⟩, hw.2.2.2.1.F ht⟩) hw.2.2.2.1.2.2 dX0_liveIn_27
  refine lv_aload_n hx hb dX0_liveIn_0 rfl (lv_at hl 0 rfl) ?_
  refine lv_iconst (v := 0) hx hb dX0_liveIn_1 (by decide) ?_
  refine tg_put (ci := 0) (ts := ty_BOOK) (v := .int 0) (ty := .int) (C := RX0) (T := TX0) (N := 5) hx hb hts inX0 tyX0 tyX0_ok nmX0 hown hK hw h_p0 rfl rfl 4 (by decide) (hts _ tw_146) (fun _ h9 => h9) rfl (by decide +kernel) rfl rfl (ft := vI (-2147483648) 2147483647) rfl ⟨_, rfl, (rl_0.to (by decide))⟩ (by decide) dX0_liveIn_2 (fun ws H locs hw n_k_7 hF9 => ?_)
  have x_BG_p0 := B3.over hF9 x_BG_p0 (by decide)
  refine lv_iconst (v := 0) hx hb dX0_liveIn_5 (by decide) ?_
  refine lv_istore_n (lv' := [(2, .int 0), (0, .ref p0), (1, .ref p1)]) hx hb dX0_liveIn_6 rfl hl (by decide) rfl (fun ls hl => ?_)
  exact B7 4294967298 0 ws _ _ ls (by have q0 := rl_0.1; have u0 := rl_0.2; omega) (rl_0.to (by decide)) x_BG_p0 hw (lv_sub hl [1, 2, 0] rfl)
abbrev wr_X9_book : List (Nat × Nat) := [(0, 3), (0, 4), (1, 1), (1, 2), (7, 2), (7, 3), (7, 4), (7, 5), (7, 6), (7, 7), (7, 8), (7, 9), (7, 10), (7, 11), (8, 0), (8, 1), (9, 11)]
abbrev wa_X9_book : List Nat := [8, 9, 10, 11, 12, 13, 14, 15, 18, 19, 20]
set_option maxHeartbeats 4000000 in
set_option maxRecDepth 100000 in
theorem c_X9_book (l : Launch) (D : va_G) (cy : Nat → ClassId) (z : Nat → Nat) (sz : Nat) (Ps : PSI) (w0 : va_W) (hT : HT cy GG Ps w0) (p0 : Nat) (p1 : Int32) (h_p0 : (p0, 33) ∈ Ps) (r_p1 : RI p1 (-2147483648) 2147483647) : Met l yX9_book (Cond.code yX9_book cX9_book 3 (some .int) :: gT) ({ frames := 8, cells := 0, slots := 0, locals := 1600 } : Room) (va_Pc [.ref p0, .int p1] (PRE D cy z w0 sz)) (va_Qi (fun (r : Int32) (u : va_W) => (RI r (-2147483648) 2147483647 ∧ (r = 0 → True) ∧ (¬ r = 0 → True)) ∧ HT cy GG Ps u ∧ FR wr_X9_book wa_X9_book Ps w0 u) (BB D cy (va_A w0 sz) (fun (u : va_W) => u)) (va_A w0 sz)) 0 0 (va_A w0 sz) := by
  refine Met.ofW (cc := cX9_book) (maxL := 3) (ret := (some .int)) (by decide) rfl ?_
  intro p e s m args below meth c s₁ B hml hv
  obtain ⟨rfl, hsz, hP, hK, hD0, hSD⟩ := hv
  have hx := B.exec
  have hb := B.bytes
  have hr := B.returns
  have hlocks := B.notSynchronized
  have hts : ∀ w ∈ gT, w.before _ s = true := fun w h => atoms_spec (ws := Cond.code yX9_book cX9_book 3 (some .int) :: gT) B.pre w (List.mem_cons_of_mem _ h)
  have hown : s.vm.findClass RX9 = some m.cls := findClass_of_methodNamed B.named
  subst hsz
  have hD := hD0.self (sz := s.heap.size)
  generalize hAe : va_A w0 s.heap.size = A at hD hSD ⊢
  have hA : ∀ q : Nat, s.heap.size ≤ q → A q := fun q h => by rw [← hAe]; exact Or.inr h
  have hl := lv_entry ([.ref p0, .int p1]) (n := 3) (Nat.le_of_ble_eq_true rfl)
  rw [lg_entry_eq]
  generalize (lg_sl ([.ref p0, .int p1]) ++ List.replicate (3 - (lg_sl ([.ref p0, .int p1])).length) Slot.unset).toArray = ls at hl ⊢
  have hl : lv_has ls 3 [(0, .ref p0), (1, .int p1)] := hl
  refine nameQ (fun Q hQ => ?_)
  have hw : WD D cy GG A s wr_X9_book wa_X9_book Ps w0 Ps w0 s.heap [] := ⟨hT, hP, hD, va_S.rf, FR.rf, hT.1, [], (List.append_nil _).symm⟩
  have B156 : ∀ (x2 : Int32) (z0_11 : Int32) (ws : va_W) (H : Heap) (locs : List Loc) (ls : Array Slot), RI p1 0 1 → RI x2 (-2147483648) 2147483647 → RI z0_11 0 0 → FLD ws p0 9 11 (.int z0_11) → EQF ws p0 → WD D cy GG A s wr_X9_book wa_X9_book Ps w0 Ps ws H locs → lv_has ls 3 [(0, .ref p0), (1, .int p1), (2, .int x2)] → W p l e (headSpec (Cond.code yX9_book cX9_book 3 (some .int) :: gT) ({ frames := 8, cells := 0, slots := 0, locals := 1600 } : Room)).room s m ([.ref p0, .int p1] : List Value).toArray below meth c H locs 0 0 Q (F0 m 156 ls []) := by
    intro x2 z0_11 ws H locs ls r_p1 r_x2 r_z0_11 m_z0_11 x_EQF_p0 hw hl
    refine lv_iload_n hx hb dX9_book_156 rfl (lv_at hl 2 rfl) ?_
    refine lv_if_ne (tgt := 164) hx hb dX9_book_157 (by decide) (fun c_157 => ?_) (fun c_157 => ?_)
    · refine lv_aload_n hx hb dX9_book_164 rfl (lv_at hl 0 rfl) ?_
      refine tg_get (ci := 9) (ts := ty_WP) (C := RX9) (T := TX9) (N := 15) hx hb hts inX9 hown hK hw h_p0 rfl rfl 6 (by decide) (hts _ tw_352) (fun _ h9 => h9) (ft := vR 31) rfl dX9_book_165 (fun u_1 hv_u_1 m_u_1 => ?_)
      obtain ⟨vu_1, rfl, h_vu_1⟩ := hv_u_1
      refine tg_getN (ci := 0) (ts := ty_BOOK) (C := RX0) (T := TX0) (N := 5) hx hb hts inX0 hown hK hw h_vu_1 rfl rfl 4 (by decide) (hSD.nest tn_147) (fun _ h9 => h9) (ft := vI (-2147483648) 2147483647) rfl dX9_book_168 (fun u_2 hv_u_2 m_u_2 => ?_)
      obtain ⟨vu_2, rfl, r_vu_2⟩ := hv_u_2
      subst hQ
      exact W.iret (v := vu_2) hx hb hr (fun t ht hW => ⟨⟨vu_2, ws, rfl, ⟨⟨r_vu_2.to (by decide), (fun h0 => trivial), (fun h0 => trivial)⟩, hw.1, hw.2.2.2.2.1⟩, by rw [ht]; exact hw.2.1, va_K.moved hW.alike hK, hw.2.2.1⟩, hw.2.2.2.1.F ht⟩) hw.2.2.2.1.2.2 dX9_book_171
    · have r_x2 : RI x2 0 0 := rc_eq1 r_x2 rl_0 (ti_eq c_157) (by decide)
      refine lv_iconst (v := (-1)) hx hb dX9_book_160 (by decide) ?_
      refine lv_goto (tgt := 171) hx hb dX9_book_161 (by decide) ?_
      subst hQ
      exact W.iret (v := (-1)) hx hb hr (fun t ht hW => ⟨⟨(-1), ws, rfl, ⟨⟨rl_m1.to (by decide), (fun _ => trivial), (fun h0 => trivial)⟩, hw.1, hw.2.2.2.2.1⟩, by rw [ht]; exact hw.2.1, va_K.moved hW.alike hK, hw.2.2.1⟩, hw.2.2.2.1.F ht⟩) hw.2.2.2.1.2.2 dX9_book_171
  refine lv_iload_n hx hb dX9_book_0 rfl (lv_at hl 1 rfl) ?_
  refine lv_if_eq (tgt := 13) hx hb dX9_book_1 (by decide) (fun c_1 => ?_) (fun c_1 => ?_)
  · have r_p1 : RI p1 0 0 := rc_eq1 r_p1 rl_0 (ti_eq c_1) (by decide)
    refine lv_aload_n hx hb dX9_book_13 rfl (lv_at hl 0 rfl) ?_
    refine tg_get (ci := 9) (ts := ty_WP) (C := RX9) (T := TX9) (N := 15) hx hb hts inX9 hown hK hw h_p0 rfl rfl 6 (by decide) (hts _ tw_352) (fun _ h9 => h9) (ft := vR 31) rfl dX9_book_14 (fun u_3 hv_u_3 m_u_3 => ?_)
    obtain ⟨vu_3, rfl, h_vu_3⟩ := hv_u_3
    refine lv_aload_n hx hb dX9_book_17 rfl (lv_at hl 0 rfl) ?_
    refine tg_get (ci := 9) (ts := ty_WP) (C := RX9) (T := TX9) (N := 15) hx hb hts inX9 hown hK hw h_p0 rfl rfl 0 (by decide) (hts _ tw_346) (fun _ h9 => h9) (ft := vR 26) rfl dX9_book_18 (fun u_4 hv_u_4 m_u_4 => ?_)
    obtain ⟨vu_4, rfl, h_vu_4⟩ := hv_u_4
    refine lv_aload_n hx hb dX9_book_21 rfl (lv_at hl 0 rfl) ?_
    refine tg_get (ci := 9) (ts := ty_WP) (C := RX9) (T := TX9) (N := 15) hx hb hts inX9 hown hK hw h_p0 rfl rfl 1 (by decide) (hts _ tw_347) (fun _ h9 => h9) (ft := vR 24) rfl dX9_book_22 (fun u_5 hv_u_5 m_u_5 => ?_)
    obtain ⟨vu_5, rfl, h_vu_5⟩ := hv_u_5
    refine tg_getN (ci := 8) (ts := ty_WORLD) (C := RX8) (T := TX8) (N := 13) hx hb hts inX8 hown hK hw h_vu_5 rfl rfl 0 (by decide) (hSD.nest tn_249) (fun _ h9 => h9) (ft := vR 25) rfl dX9_book_25 (fun u_6 hv_u_6 m_u_6 => ?_)
    obtain ⟨vu_6, rfl, h_vu_6⟩ := hv_u_6
    refine tk_v (va_runV (As := [.ref vu_4, .ref vu_6]) (rest := []) ⟨hx, hb, hml, hown, hts⟩ (c_X0_read l D cy z s.heap.size Ps w0 hw.1 vu_3 vu_4 vu_6 h_vu_3 h_vu_4 h_vu_6) (cwV 2 hts (gV tw_886 tw_887 tw_888 tw_7 tw_889) rfl rfl rfl (by decide +kernel) ⟨Nat.le_of_ble_eq_true rfl, Nat.le_of_ble_eq_true rfl⟩) (tg_preV hw hK hSD hA (ci := 0) (q := (RX0, TX0, 5)) rfl h_vu_3 rfl) rfl rfl hl.1 rfl (lv_room (Nat.le_of_ble_eq_true rfl)) dX9_book_28 ⟨Nat.le_of_ble_eq_true rfl, Nat.le_of_ble_eq_true rfl⟩) hw hA ⟨by decide, by decide⟩ (fun ws H locs hp_v_7 hw hF9 => ?_)
    have m_u_3 := FLD.over hF9 m_u_3 (by decide)
    have m_u_4 := FLD.over hF9 m_u_4 (by decide)
    have m_u_5 := FLD.over hF9 m_u_5 (by decide)
    have m_u_6 := FLD.over hF9 m_u_6 (by decide)
    have x_JB_vu_4_vu_3 := (hp_v_7.1)
    refine lv_aload_n hx hb dX9_book_31 rfl (lv_at hl 0 rfl) ?_
    refine tk_v (va_runV (As := []) (rest := []) ⟨hx, hb, hml, hown, hts⟩ (c_X9_noteFault__1 l D cy z H.size Ps ws hw.1 p0 h_p0) (cwV 0 hts (gV tw_517 tw_519 ts_9 tw_1 tw_520) rfl rfl rfl (by decide +kernel) ⟨Nat.le_of_ble_eq_true rfl, Nat.le_of_ble_eq_true rfl⟩) (tg_preV hw hK hSD hA (ci := 9) (q := (RX9, TX9, 15)) rfl h_p0 rfl) rfl rfl hl.1 rfl (lv_room (Nat.le_of_ble_eq_true rfl)) dX9_book_32 ⟨Nat.le_of_ble_eq_true rfl, Nat.le_of_ble_eq_true rfl⟩) hw hA ⟨by decide, by decide⟩ (fun ws H locs hp_v_8 hw hF9 => ?_)
    have m_u_3 := FLD.over hF9 m_u_3 (by decide)
    have m_u_4 := FLD.over hF9 m_u_4 (by decide)
    have m_u_5 := FLD.over hF9 m_u_5 (by decide)
    have m_u_6 := FLD.over hF9 m_u_6 (by decide)
    have x_JB_vu_4_vu_3 := JB.over hF9 x_JB_vu_4_vu_3 (by decide)
    have x_EQF_p0 := (hp_v_8.1)
    refine lv_aload_n hx hb dX9_book_35 rfl (lv_at hl 0 rfl) ?_
    refine tg_get (ci := 9) (ts := ty_WP) (C := RX9) (T := TX9) (N := 15) hx hb hts inX9 hown hK hw h_p0 rfl rfl 11 (by decide) (hts _ tw_357) (fun _ h9 => h9) (ft := vI (-2147483648) 2147483647) rfl dX9_book_36 (fun u_9 hv_u_9 m_u_9 => ?_)
    obtain ⟨vu_9, rfl, r_vu_9⟩ := hv_u_9
    refine lv_if_eq (tgt := 53) hx hb dX9_book_39 (by decide) (fun c_39 => ?_) (fun c_39 => ?_)
    · have r_vu_9 : RI vu_9 0 0 := rc_eq1 r_vu_9 rl_0 (ti_eq c_39) (by decide)
      have x_BG_vu_3 : BG Ps ws vu_3 := JB.bg hw x_JB_vu_4_vu_3 x_EQF_p0 m_u_4 m_u_9 r_vu_9
      refine lv_aload_n hx hb dX9_book_53 rfl (lv_at hl 0 rfl) ?_
      refine tg_get (ci := 9) (ts := ty_WP) (C := RX9) (T := TX9) (N := 15) hx hb hts inX9 hown hK hw h_p0 rfl rfl 2 (by decide) (hts _ tw_348) (fun _ h9 => h9) (ft := vR 24) rfl dX9_book_54 (fun u_10 hv_u_10 m_u_10 => ?_)
      obtain ⟨vu_10, rfl, h_vu_10⟩ := hv_u_10
      refine lv_aload_n hx hb dX9_book_57 rfl (lv_at hl 0 rfl) ?_
      refine tg_mem (ci := 9) (C := RX9) (T := TX9) (N := 15) hx hb hts inX9 hown hK hw 1 m_u_5 rfl (by decide) (hts _ tw_347) (fun _ h9 => h9) dX9_book_58 ?_
      refine tk_v (va_runV (As := [.ref vu_5]) (rest := []) ⟨hx, hb, hml, hown, hts⟩ (c_X8_takeFrom l D cy z H.size Ps ws hw.1 vu_10 vu_5 h_vu_10 h_vu_5) (cwV 1 hts (gV tw_521 tw_522 tw_523 tw_12 tw_524) rfl rfl rfl (by decide +kernel) ⟨Nat.le_of_ble_eq_true rfl, Nat.le_of_ble_eq_true rfl⟩) (tg_preV hw hK hSD hA (ci := 8) (q := (RX8, TX8, 13)) rfl h_vu_10 rfl) rfl rfl hl.1 rfl (lv_room (Nat.le_of_ble_eq_true rfl)) dX9_book_61 ⟨Nat.le_of_ble_eq_true rfl, Nat.le_of_ble_eq_true rfl⟩) hw hA ⟨by decide, by decide⟩ (fun ws H locs hp_v_11 hw hF9 => ?_)
      have m_u_3 := FLD.over hF9 m_u_3 (by decide)
      have m_u_4 := FLD.over hF9 m_u_4 (by decide)
      have m_u_5 := FLD.over hF9 m_u_5 (by decide)
      have m_u_9 := FLD.over hF9 m_u_9 (by decide)
      have m_u_10 := FLD.over hF9 m_u_10 (by decide)
      have x_JB_vu_4_vu_3 := JB.over hF9 x_JB_vu_4_vu_3 (by decide)
      have x_EQF_p0 := EQF.over hF9 x_EQF_p0 (by decide)
      have x_BG_vu_3 := B3.over hF9 x_BG_vu_3 (by decide)
      refine lv_aload_n hx hb dX9_book_64 rfl (lv_at hl 0 rfl) ?_
      refine tg_mem (ci := 9) (C := RX9) (T := TX9) (N := 15) hx hb hts inX9 hown hK hw 6 m_u_3 rfl (by decide) (hts _ tw_352) (fun _ h9 => h9) dX9_book_65 ?_
      refine lv_aload_n hx hb dX9_book_68 rfl (lv_at hl 0 rfl) ?_
      refine tg_mem (ci := 9) (C := RX9) (T := TX9) (N := 15) hx hb hts inX9 hown hK hw 2 m_u_10 rfl (by decide) (hts _ tw_348) (fun _ h9 => h9) dX9_book_69 ?_
      refine tk_i (va_runV (As := [.ref vu_10]) (rest := []) ⟨hx, hb, hml, hown, hts⟩ (c_X0_liveIn l D cy z H.size Ps ws hw.1 vu_3 vu_10 h_vu_3 h_vu_10 x_BG_vu_3) (cwV 1 hts (gV tw_914 tw_915 tw_916 tw_7 tw_917) rfl rfl rfl (by decide +kernel) ⟨Nat.le_of_ble_eq_true rfl, Nat.le_of_ble_eq_true rfl⟩) (tg_preV hw hK hSD hA (ci := 0) (q := (RX0, TX0, 5)) rfl h_vu_3 rfl) rfl rfl hl.1 rfl (lv_room (Nat.le_of_ble_eq_true rfl)) dX9_book_72 ⟨Nat.le_of_ble_eq_true rfl, Nat.le_of_ble_eq_true rfl⟩) hw hA ⟨by decide, by decide⟩ (fun v_12 ws H locs hp_v_12 hw hF9 => ?_)
      have m_u_3 := FLD.over hF9 m_u_3 (by decide)
      have m_u_4 := FLD.over hF9 m_u_4 (by decide)
      have m_u_5 := FLD.over hF9 m_u_5 (by decide)
      have m_u_9 := FLD.over hF9 m_u_9 (by decide)
      have m_u_10 := FLD.over hF9 m_u_10 (by decide)
      have x_JB_vu_4_vu_3 := JB.over hF9 x_JB_vu_4_vu_3 (by decide)
      have x_EQF_p0 := EQF.over hF9 x_EQF_p0 (by decide)
      have x_BG_vu_3 := B3.over hF9 x_BG_vu_3 (by decide)
      have r_v_12 : RI v_12 (-2147483648) 2147483647 := hp_v_12.1
      by_cases c9_v_12 : v_12 = 0
      · have r_v_12 : RI v_12 0 0 := by rw [c9_v_12]; exact rl_0
        refine lv_istore_n (lv' := [(2, .int v_12), (0, .ref p0), (1, .int p1)]) hx hb dX9_book_75 rfl hl (by decide) rfl (fun ls hl => ?_)
        refine lv_aload_n hx hb dX9_book_76 rfl (lv_at hl 1 rfl) ?_
        refine tg_get (ci := 9) (ts := ty_WP) (C := RX9) (T := TX9) (N := 15) hx hb hts inX9 hown hK hw h_p0 rfl rfl 7 (by decide) (hts _ tw_353) (fun _ h9 => h9) (ft := vR 15) rfl dX9_book_77 (fun u_13 hv_u_13 m_u_13 => ?_)
        obtain ⟨vu_13, rfl, h_vu_13⟩ := hv_u_13
        refine lv_iconst (v := 0) hx hb dX9_book_80 (by decide) ?_
        refine lv_iload_n hx hb dX9_book_81 rfl (lv_at hl 0 rfl) ?_
        refine tg_iast hx hb hK hw h_vu_13 rfl 0 0 rl_0 (by decide) r_v_12 (by exact fun _ _ _ => by decide) (fun _ _ _ _ _ => trivial) (by decide) dX9_book_82 (fun ws H locs hw hF9 hU9 => ?_)
        have x_JB_vu_4_vu_3 := JB.over hF9 x_JB_vu_4_vu_3 (by decide)
        have x_EQF_p0 := EQF.over hF9 x_EQF_p0 (by decide)
        have x_BG_vu_3 := B3.over hF9 x_BG_vu_3 (by decide)
        have m_u_3 := FLD.over hF9 m_u_3 (by decide)
        have m_u_4 := FLD.over hF9 m_u_4 (by decide)
        have m_u_5 := FLD.over hF9 m_u_5 (by decide)
        have m_u_9 := FLD.over hF9 m_u_9 (by decide)
        have m_u_10 := FLD.over hF9 m_u_10 (by decide)
        have m_u_13 := FLD.over hF9 m_u_13 (by decide)
        refine lv_aload_n hx hb dX9_book_83 rfl (lv_at hl 1 rfl) ?_
        refine tg_mem (ci := 9) (C := RX9) (T := TX9) (N := 15) hx hb hts inX9 hown hK hw 7 m_u_13 rfl (by decide) (hts _ tw_353) (fun _ h9 => h9) dX9_book_84 ?_
        refine lv_iconst (v := 1) hx hb dX9_book_87 (by decide) ?_
        refine lv_aload_n hx hb dX9_book_88 rfl (lv_at hl 1 rfl) ?_
        refine tg_mem (ci := 9) (C := RX9) (T := TX9) (N := 15) hx hb hts inX9 hown hK hw 6 m_u_3 rfl (by decide) (hts _ tw_352) (fun _ h9 => h9) dX9_book_89 ?_
        refine tg_getN (ci := 0) (ts := ty_BOOK) (C := RX0) (T := TX0) (N := 5) hx hb hts inX0 hown hK hw h_vu_3 rfl rfl 4 (by decide) (hSD.nest tn_147) (fun _ h9 => h9) (ft := vI (-2147483648) 2147483647) rfl dX9_book_92 (fun u_14 hv_u_14 m_u_14 => ?_)
        obtain ⟨vu_14, rfl, r_vu_14⟩ := hv_u_14
        refine tg_iast hx hb hK hw h_vu_13 rfl 1 1 rl_1 (by decide) r_vu_14 (by exact fun _ _ _ => by decide) (fun _ _ _ _ _ => trivial) (by decide) dX9_book_95 (fun ws H locs hw hF9 hU9 => ?_)
        have x_JB_vu_4_vu_3 := JB.over hF9 x_JB_vu_4_vu_3 (by decide)
        have x_EQF_p0 := EQF.over hF9 x_EQF_p0 (by decide)
        have x_BG_vu_3 := B3.over hF9 x_BG_vu_3 (by decide)
        have m_u_3 := FLD.over hF9 m_u_3 (by decide)
        have m_u_4 := FLD.over hF9 m_u_4 (by decide)
        have m_u_5 := FLD.over hF9 m_u_5 (by decide)
        have m_u_9 := FLD.over hF9 m_u_9 (by decide)
        have m_u_10 := FLD.over hF9 m_u_10 (by decide)
        have m_u_13 := FLD.over hF9 m_u_13 (by decide)
        have m_u_14 := FLD.over hF9 m_u_14 (by decide)
        refine lv_aload_n hx hb dX9_book_96 rfl (lv_at hl 1 rfl) ?_
        refine tg_mem (ci := 9) (C := RX9) (T := TX9) (N := 15) hx hb hts inX9 hown hK hw 7 m_u_13 rfl (by decide) (hts _ tw_353) (fun _ h9 => h9) dX9_book_97 ?_
        refine lv_iconst (v := 2) hx hb dX9_book_100 (by decide) ?_
        refine lv_aload_n hx hb dX9_book_101 rfl (lv_at hl 1 rfl) ?_
        refine tg_mem (ci := 9) (C := RX9) (T := TX9) (N := 15) hx hb hts inX9 hown hK hw 2 m_u_10 rfl (by decide) (hts _ tw_348) (fun _ h9 => h9) dX9_book_102 ?_
        refine tg_getN (ci := 8) (ts := ty_WORLD) (C := RX8) (T := TX8) (N := 13) hx hb hts inX8 hown hK hw h_vu_10 rfl rfl 1 (by decide) (hSD.nest tn_251) (fun _ h9 => h9) (ft := vI (-2147483648) 2147483647) rfl dX9_book_105 (fun u_15 hv_u_15 m_u_15 => ?_)
        obtain ⟨vu_15, rfl, r_vu_15⟩ := hv_u_15
        refine tg_iast hx hb hK hw h_vu_13 rfl 2 2 rl_2 (by decide) r_vu_15 (by exact fun _ _ _ => by decide) (fun _ _ _ _ _ => trivial) (by decide) dX9_book_108 (fun ws H locs hw hF9 hU9 => ?_)
        have x_JB_vu_4_vu_3 := JB.over hF9 x_JB_vu_4_vu_3 (by decide)
        have x_EQF_p0 := EQF.over hF9 x_EQF_p0 (by decide)
        have x_BG_vu_3 := B3.over hF9 x_BG_vu_3 (by decide)
        have m_u_3 := FLD.over hF9 m_u_3 (by decide)
        have m_u_4 := FLD.over hF9 m_u_4 (by decide)
        have m_u_5 := FLD.over hF9 m_u_5 (by decide)
        have m_u_9 := FLD.over hF9 m_u_9 (by decide)
        have m_u_10 := FLD.over hF9 m_u_10 (by decide)
        have m_u_13 := FLD.over hF9 m_u_13 (by decide)
        have m_u_14 := FLD.over hF9 m_u_14 (by decide)
        have m_u_15 := FLD.over hF9 m_u_15 (by decide)
        refine lv_aload_n hx hb dX9_book_109 rfl (lv_at hl 1 rfl) ?_
        refine tg_mem (ci := 9) (C := RX9) (T := TX9) (N := 15) hx hb hts inX9 hown hK hw 7 m_u_13 rfl (by decide) (hts _ tw_353) (fun _ h9 => h9) dX9_book_110 ?_
        refine lv_iconst (v := 3) hx hb dX9_book_113 (by decide) ?_
        refine lv_aload_n hx hb dX9_book_114 rfl (lv_at hl 1 rfl) ?_
        refine tg_mem (ci := 9) (C := RX9) (T := TX9) (N := 15) hx hb hts inX9 hown hK hw 2 m_u_10 rfl (by decide) (hts _ tw_348) (fun _ h9 => h9) dX9_book_115 ?_
        refine tk_ir (va_runV (As := []) (rest := [.int 3, .ref vu_13]) ⟨hx, hb, hml, hown, hts⟩ (c_X8_whichAreNothing l D cy z H.size Ps ws hw.1 vu_10 h_vu_10) (cwV 0 hts (gV tw_565 tw_566 tw_567 tw_12 tw_568) rfl rfl rfl (by decide +kernel) ⟨Nat.le_of_ble_eq_true rfl, Nat.le_of_ble_eq_true rfl⟩) (tg_preV hw hK hSD hA (ci := 8) (q := (RX8, TX8, 13)) rfl h_vu_10 rfl) rfl rfl hl.1 rfl (lv_room (Nat.le_of_ble_eq_true rfl)) dX9_book_118 ⟨Nat.le_of_ble_eq_true rfl, Nat.le_of_ble_eq_true rfl⟩) hw hA (fun v_16  H locs hp_v_16 hw => ?_)
        have r_v_16 : RI v_16 (-2147483648) 2147483647 := hp_v_16.1
        refine tg_iast hx hb hK hw h_vu_13 rfl 3 3 rl_3 (by decide) r_v_16 (by exact fun _ _ _ => by decide) (fun _ _ _ _ _ => trivial) (by decide) dX9_book_121 (fun ws H locs hw hF9 hU9 => ?_)
        have x_JB_vu_4_vu_3 := JB.over hF9 x_JB_vu_4_vu_3 (by decide)
        have x_EQF_p0 := EQF.over hF9 x_EQF_p0 (by decide)
        have x_BG_vu_3 := B3.over hF9 x_BG_vu_3 (by decide)
        have m_u_3 := FLD.over hF9 m_u_3 (by decide)
        have m_u_4 := FLD.over hF9 m_u_4 (by decide)
        have m_u_5 := FLD.over hF9 m_u_5 (by decide)
        have m_u_9 := FLD.over hF9 m_u_9 (by decide)
        have m_u_10 := FLD.over hF9 m_u_10 (by decide)
        have m_u_13 := FLD.over hF9 m_u_13 (by decide)
        have m_u_14 := FLD.over hF9 m_u_14 (by decide)
        have m_u_15 := FLD.over hF9 m_u_15 (by decide)
        refine lv_iload_n hx hb dX9_book_122 rfl (lv_at hl 2 rfl) ?_
        refine lv_iconst (v := 1) hx hb dX9_book_123 (by decide) ?_
        refine lv_icmp_ne (tgt := 156) hx hb dX9_book_124 (by decide) (fun c_124 => ?_) (fun c_124 => ?_)
        · exact B156 v_12 vu_9 ws _ _ ls (r_p1.to (by decide)) (r_v_12.to (by decide)) r_vu_9 m_u_9 x_EQF_p0 hw (lv_sub hl [1, 2, 0] rfl)
        · have r_p1 : RI p1 1 0 := rc_eq1 r_p1 rl_1 (ti_eq c_124) (by decide)
          exact (r_p1.no (by decide)).elim
      · obtain ⟨v_17, m_v_17, r_v_17⟩ := ((hp_v_12.2.2 c9_v_12).1)
        refine lv_istore_n (lv' := [(2, .int v_12), (0, .ref p0), (1, .int p1)]) hx hb dX9_book_75 rfl hl (by decide) rfl (fun ls hl => ?_)
        refine lv_aload_n hx hb dX9_book_76 rfl (lv_at hl 1 rfl) ?_
        refine tg_get (ci := 9) (ts := ty_WP) (C := RX9) (T := TX9) (N := 15) hx hb hts inX9 hown hK hw h_p0 rfl rfl 7 (by decide) (hts _ tw_353) (fun _ h9 => h9) (ft := vR 15) rfl dX9_book_77 (fun u_18 hv_u_18 m_u_18 => ?_)
        obtain ⟨vu_18, rfl, h_vu_18⟩ := hv_u_18
        refine lv_iconst (v := 0) hx hb dX9_book_80 (by decide) ?_
        refine lv_iload_n hx hb dX9_book_81 rfl (lv_at hl 0 rfl) ?_
        refine tg_iast hx hb hK hw h_vu_18 rfl 0 0 rl_0 (by decide) r_v_12 (by exact fun _ _ _ => by decide) (fun _ _ _ _ _ => trivial) (by decide) dX9_book_82 (fun ws H locs hw hF9 hU9 => ?_)
        have x_JB_vu_4_vu_3 := JB.over hF9 x_JB_vu_4_vu_3 (by decide)
        have x_EQF_p0 := EQF.over hF9 x_EQF_p0 (by decide)
        have x_BG_vu_3 := B3.over hF9 x_BG_vu_3 (by decide)
        have m_u_3 := FLD.over hF9 m_u_3 (by decide)
        have m_u_4 := FLD.over hF9 m_u_4 (by decide)
        have m_u_5 := FLD.over hF9 m_u_5 (by decide)
        have m_u_9 := FLD.over hF9 m_u_9 (by decide)
        have m_u_10 := FLD.over hF9 m_u_10 (by decide)
        have m_v_17 := FLD.over hF9 m_v_17 (by decide)
        have m_u_18 := FLD.over hF9 m_u_18 (by decide)
        refine lv_aload_n hx hb dX9_book_83 rfl (lv_at hl 1 rfl) ?_
        refine tg_mem (ci := 9) (C := RX9) (T := TX9) (N := 15) hx hb hts inX9 hown hK hw 7 m_u_18 rfl (by decide) (hts _ tw_353) (fun _ h9 => h9) dX9_book_84 ?_
        refine lv_iconst (v := 1) hx hb dX9_book_87 (by decide) ?_
        refine lv_aload_n hx hb dX9_book_88 rfl (lv_at hl 1 rfl) ?_
        refine tg_mem (ci := 9) (C := RX9) (T := TX9) (N := 15) hx hb hts inX9 hown hK hw 6 m_u_3 rfl (by decide) (hts _ tw_352) (fun _ h9 => h9) dX9_book_89 ?_
        refine tg_getN (ci := 0) (ts := ty_BOOK) (C := RX0) (T := TX0) (N := 5) hx hb hts inX0 hown hK hw h_vu_3 rfl rfl 4 (by decide) (hSD.nest tn_147) (fun _ h9 => h9) (ft := vI (-2147483648) 2147483647) rfl dX9_book_92 (fun u_19 hv_u_19 m_u_19 => ?_)
        obtain ⟨vu_19, rfl, r_vu_19⟩ := hv_u_19
        refine tg_iast hx hb hK hw h_vu_18 rfl 1 1 rl_1 (by decide) r_vu_19 (by exact fun _ _ _ => by decide) (fun _ _ _ _ _ => trivial) (by decide) dX9_book_95 (fun ws H locs hw hF9 hU9 => ?_)
        have x_JB_vu_4_vu_3 := JB.over hF9 x_JB_vu_4_vu_3 (by decide)
        have x_EQF_p0 := EQF.over hF9 x_EQF_p0 (by decide)
        have x_BG_vu_3 := B3.over hF9 x_BG_vu_3 (by decide)
        have m_u_3 := FLD.over hF9 m_u_3 (by decide)
        have m_u_4 := FLD.over hF9 m_u_4 (by decide)
        have m_u_5 := FLD.over hF9 m_u_5 (by decide)
        have m_u_9 := FLD.over hF9 m_u_9 (by decide)
        have m_u_10 := FLD.over hF9 m_u_10 (by decide)
        have m_v_17 := FLD.over hF9 m_v_17 (by decide)
        have m_u_18 := FLD.over hF9 m_u_18 (by decide)
        have m_u_19 := FLD.over hF9 m_u_19 (by decide)
        refine lv_aload_n hx hb dX9_book_96 rfl (lv_at hl 1 rfl) ?_
        refine tg_mem (ci := 9) (C := RX9) (T := TX9) (N := 15) hx hb hts inX9 hown hK hw 7 m_u_18 rfl (by decide) (hts _ tw_353) (fun _ h9 => h9) dX9_book_97 ?_
        refine lv_iconst (v := 2) hx hb dX9_book_100 (by decide) ?_
        refine lv_aload_n hx hb dX9_book_101 rfl (lv_at hl 1 rfl) ?_
        refine tg_mem (ci := 9) (C := RX9) (T := TX9) (N := 15) hx hb hts inX9 hown hK hw 2 m_u_10 rfl (by decide) (hts _ tw_348) (fun _ h9 => h9) dX9_book_102 ?_
        refine tg_getN (ci := 8) (ts := ty_WORLD) (C := RX8) (T := TX8) (N := 13) hx hb hts inX8 hown hK hw h_vu_10 rfl rfl 1 (by decide) (hSD.nest tn_251) (fun _ h9 => h9) (ft := vI (-2147483648) 2147483647) rfl dX9_book_105 (fun u_20 hv_u_20 m_u_20 => ?_)
        obtain ⟨vu_20, rfl, r_vu_20⟩ := hv_u_20
        refine tg_iast hx hb hK hw h_vu_18 rfl 2 2 rl_2 (by decide) r_vu_20 (by exact fun _ _ _ => by decide) (fun _ _ _ _ _ => trivial) (by decide) dX9_book_108 (fun ws H locs hw hF9 hU9 => ?_)
        have x_JB_vu_4_vu_3 := JB.over hF9 x_JB_vu_4_vu_3 (by decide)
        have x_EQF_p0 := EQF.over hF9 x_EQF_p0 (by decide)
        have x_BG_vu_3 := B3.over hF9 x_BG_vu_3 (by decide)
        have m_u_3 := FLD.over hF9 m_u_3 (by decide)
        have m_u_4 := FLD.over hF9 m_u_4 (by decide)
        have m_u_5 := FLD.over hF9 m_u_5 (by decide)
        have m_u_9 := FLD.over hF9 m_u_9 (by decide)
        have m_u_10 := FLD.over hF9 m_u_10 (by decide)
        have m_v_17 := FLD.over hF9 m_v_17 (by decide)
        have m_u_18 := FLD.over hF9 m_u_18 (by decide)
        have m_u_19 := FLD.over hF9 m_u_19 (by decide)
        have m_u_20 := FLD.over hF9 m_u_20 (by decide)
        refine lv_aload_n hx hb dX9_book_109 rfl (lv_at hl 1 rfl) ?_
        refine tg_mem (ci := 9) (C := RX9) (T := TX9) (N := 15) hx hb hts inX9 hown hK hw 7 m_u_18 rfl (by decide) (hts _ tw_353) (fun _ h9 => h9) dX9_book_110 ?_
        refine lv_iconst (v := 3) hx hb dX9_book_113 (by decide) ?_
        refine lv_aload_n hx hb dX9_book_114 rfl (lv_at hl 1 rfl) ?_
        refine tg_mem (ci := 9) (C := RX9) (T := TX9) (N := 15) hx hb hts inX9 hown hK hw 2 m_u_10 rfl (by decide) (hts _ tw_348) (fun _ h9 => h9) dX9_book_115 ?_
        refine tk_ir (va_runV (As := []) (rest := [.int 3, .ref vu_18]) ⟨hx, hb, hml, hown, hts⟩ (c_X8_whichAreNothing l D cy z H.size Ps ws hw.1 vu_10 h_vu_10) (cwV 0 hts (gV tw_565 tw_566 tw_567 tw_12 tw_568) rfl rfl rfl (by decide +kernel) ⟨Nat.le_of_ble_eq_true rfl, Nat.le_of_ble_eq_true rfl⟩) (tg_preV hw hK hSD hA (ci := 8) (q := (RX8, TX8, 13)) rfl h_vu_10 rfl) rfl rfl hl.1 rfl (lv_room (Nat.le_of_ble_eq_true rfl)) dX9_book_118 ⟨Nat.le_of_ble_eq_true rfl, Nat.le_of_ble_eq_true rfl⟩) hw hA (fun v_21  H locs hp_v_21 hw => ?_)
        have r_v_21 : RI v_21 (-2147483648) 2147483647 := hp_v_21.1
        refine tg_iast hx hb hK hw h_vu_18 rfl 3 3 rl_3 (by decide) r_v_21 (by exact fun _ _ _ => by decide) (fun _ _ _ _ _ => trivial) (by decide) dX9_book_121 (fun ws H locs hw hF9 hU9 => ?_)
        have x_JB_vu_4_vu_3 := JB.over hF9 x_JB_vu_4_vu_3 (by decide)
        have x_EQF_p0 := EQF.over hF9 x_EQF_p0 (by decide)
        have x_BG_vu_3 := B3.over hF9 x_BG_vu_3 (by decide)
        have m_u_3 := FLD.over hF9 m_u_3 (by decide)
        have m_u_4 := FLD.over hF9 m_u_4 (by decide)
        have m_u_5 := FLD.over hF9 m_u_5 (by decide)
        have m_u_9 := FLD.over hF9 m_u_9 (by decide)
        have m_u_10 := FLD.over hF9 m_u_10 (by decide)
        have m_v_17 := FLD.over hF9 m_v_17 (by decide)
        have m_u_18 := FLD.over hF9 m_u_18 (by decide)
        have m_u_19 := FLD.over hF9 m_u_19 (by decide)
        have m_u_20 := FLD.over hF9 m_u_20 (by decide)
        refine lv_iload_n hx hb dX9_book_122 rfl (lv_at hl 2 rfl) ?_
        refine lv_iconst (v := 1) hx hb dX9_book_123 (by decide) ?_
        refine lv_icmp_ne (tgt := 156) hx hb dX9_book_124 (by decide) (fun c_124 => ?_) (fun c_124 => ?_)
        · exact B156 v_12 vu_9 ws _ _ ls (r_p1.to (by decide)) r_v_12 r_vu_9 m_u_9 x_EQF_p0 hw (lv_sub hl [1, 2, 0] rfl)
        · have r_p1 : RI p1 1 0 := rc_eq1 r_p1 rl_1 (ti_eq c_124) (by decide)
          exact (r_p1.no (by decide)).elim
    · refine lv_bipush (v := (-2)) hx hb dX9_book_42 (by decide) ?_
      refine lv_aload_n hx hb dX9_book_44 rfl (lv_at hl 0 rfl) ?_
      refine tg_mem (ci := 9) (C := RX9) (T := TX9) (N := 15) hx hb hts inX9 hown hK hw 0 m_u_4 rfl (by decide) (hts _ tw_346) (fun _ h9 => h9) dX9_book_45 ?_
      refine tg_getN (ci := 7) (ts := ty_TAPE) (C := RX7) (T := TX7) (N := 12) hx hb hts inX7 hown hK hw h_vu_4 rfl rfl 11 (by decide) (hSD.nest tn_107) (fun _ h9 => h9) (ft := vI (-2147483648) 2147483647) rfl dX9_book_48 (fun u_22 hv_u_22 m_u_22 => ?_)
      obtain ⟨vu_22, rfl, r_vu_22⟩ := hv_u_22
      refine lv_isub hx hb dX9_book_51 (lv_topi (fun v_23 e_v_23 => ?_))
      have r_v_23 := ri_any v_23
      subst hQ
      exact W.iret (v := v_23) hx hb hr (fun t ht hW => ⟨⟨v_23, ws, rfl, ⟨⟨r_v_23.to (by decide), (fun h0 => trivial), (fun h0 => trivial)⟩, hw.1, hw.2.2.2.2.1⟩, by rw [ht]; exact hw.2.1, va_K.moved hW.alike hK, hw.2.2.1⟩, hw.2.2.2.1.F ht⟩) hw.2.2.2.1.2.2 dX9_book_52
  · refine lv_iload_n hx hb dX9_book_4 rfl (lv_at hl 1 rfl) ?_
    refine lv_iconst (v := 1) hx hb dX9_book_5 (by decide) ?_
    refine lv_icmp_eq (tgt := 13) hx hb dX9_book_6 (by decide) (fun c_6 => ?_) (fun c_6 => ?_)
    · have r_p1 : RI p1 1 1 := rc_eq1 r_p1 rl_1 (ti_eq c_6) (by decide)
      refine lv_aload_n hx hb dX9_book_13 rfl (lv_at hl 0 rfl) ?_
      refine tg_get (ci := 9) (ts := ty_WP) (C := RX9) (T := TX9) (N := 15) hx hb hts inX9 hown hK hw h_p0 rfl rfl 6 (by decide) (hts _ tw_352) (fun _ h9 => h9) (ft := vR 31) rfl dX9_book_14 (fun u_24 hv_u_24 m_u_24 => ?_)
      obtain ⟨vu_24, rfl, h_vu_24⟩ := hv_u_24
      refine lv_aload_n hx hb dX9_book_17 rfl (lv_at hl 0 rfl) ?_
      refine tg_get (ci := 9) (ts := ty_WP) (C := RX9) (T := TX9) (N := 15) hx hb hts inX9 hown hK hw h_p0 rfl rfl 0 (by decide) (hts _ tw_346) (fun _ h9 => h9) (ft := vR 26) rfl dX9_book_18 (fun u_25 hv_u_25 m_u_25 => ?_)
      obtain ⟨vu_25, rfl, h_vu_25⟩ := hv_u_25
      refine lv_aload_n hx hb dX9_book_21 rfl (lv_at hl 0 rfl) ?_
      refine tg_get (ci := 9) (ts := ty_WP) (C := RX9) (T := TX9) (N := 15) hx hb hts inX9 hown hK hw h_p0 rfl rfl 1 (by decide) (hts _ tw_347) (fun _ h9 => h9) (ft := vR 24) rfl dX9_book_22 (fun u_26 hv_u_26 m_u_26 => ?_)
      obtain ⟨vu_26, rfl, h_vu_26⟩ := hv_u_26
      refine tg_getN (ci := 8) (ts := ty_WORLD) (C := RX8) (T := TX8) (N := 13) hx hb hts inX8 hown hK hw h_vu_26 rfl rfl 0 (by decide) (hSD.nest tn_249) (fun _ h9 => h9) (ft := vR 25) rfl dX9_book_25 (fun u_27 hv_u_27 m_u_27 => ?_)
      obtain ⟨vu_27, rfl, h_vu_27⟩ := hv_u_27
      refine tk_v (va_runV (As := [.ref vu_25, .ref vu_27]) (rest := []) ⟨hx, hb, hml, hown, hts⟩ (c_X0_read l D cy z s.heap.size Ps w0 hw.1 vu_24 vu_25 vu_27 h_vu_24 h_vu_25 h_vu_27) (cwV 2 hts (gV tw_886 tw_887 tw_888 tw_7 tw_889) rfl rfl rfl (by decide +kernel) ⟨Nat.le_of_ble_eq_true rfl, Nat.le_of_ble_eq_true rfl⟩) (tg_preV hw hK hSD hA (ci := 0) (q := (RX0, TX0, 5)) rfl h_vu_24 rfl) rfl rfl hl.1 rfl (lv_room (Nat.le_of_ble_eq_true rfl)) dX9_book_28 ⟨Nat.le_of_ble_eq_true rfl, Nat.le_of_ble_eq_true rfl⟩) hw hA ⟨by decide, by decide⟩ (fun ws H locs hp_v_28 hw hF9 => ?_)
      have m_u_24 := FLD.over hF9 m_u_24 (by decide)
      have m_u_25 := FLD.over hF9 m_u_25 (by decide)
      have m_u_26 := FLD.over hF9 m_u_26 (by decide)
      have m_u_27 := FLD.over hF9 m_u_27 (by decide)
      have x_JB_vu_25_vu_24 := (hp_v_28.1)
      refine lv_aload_n hx hb dX9_book_31 rfl (lv_at hl 0 rfl) ?_
      refine tk_v (va_runV (As := []) (rest := []) ⟨hx, hb, hml, hown, hts⟩ (c_X9_noteFault__1 l D cy z H.size Ps ws hw.1 p0 h_p0) (cwV 0 hts (gV tw_517 tw_519 ts_9 tw_1 tw_520) rfl rfl rfl (by decide +kernel) ⟨Nat.le_of_ble_eq_true rfl, Nat.le_of_ble_eq_true rfl⟩) (tg_preV hw hK hSD hA (ci := 9) (q := (RX9, TX9, 15)) rfl h_p0 rfl) rfl rfl hl.1 rfl (lv_room (Nat.le_of_ble_eq_true rfl)) dX9_book_32 ⟨Nat.le_of_ble_eq_true rfl, Nat.le_of_ble_eq_true rfl⟩) hw hA ⟨by decide, by decide⟩ (fun ws H locs hp_v_29 hw hF9 => ?_)
      have m_u_24 := FLD.over hF9 m_u_24 (by decide)
      have m_u_25 := FLD.over hF9 m_u_25 (by decide)
      have m_u_26 := FLD.over hF9 m_u_26 (by decide)
      have m_u_27 := FLD.over hF9 m_u_27 (by decide)
      have x_JB_vu_25_vu_24 := JB.over hF9 x_JB_vu_25_vu_24 (by decide)
      have x_EQF_p0 := (hp_v_29.1)
      refine lv_aload_n hx hb dX9_book_35 rfl (lv_at hl 0 rfl) ?_
      refine tg_get (ci := 9) (ts := ty_WP) (C := RX9) (T := TX9) (N := 15) hx hb hts inX9 hown hK hw h_p0 rfl rfl 11 (by decide) (hts _ tw_357) (fun _ h9 => h9) (ft := vI (-2147483648) 2147483647) rfl dX9_book_36 (fun u_30 hv_u_30 m_u_30 => ?_)
      obtain ⟨vu_30, rfl, r_vu_30⟩ := hv_u_30
      refine lv_if_eq (tgt := 53) hx hb dX9_book_39 (by decide) (fun c_39 => ?_) (fun c_39 => ?_)
      · have r_vu_30 : RI vu_30 0 0 := rc_eq1 r_vu_30 rl_0 (ti_eq c_39) (by decide)
        have x_BG_vu_24 : BG Ps ws vu_24 := JB.bg hw x_JB_vu_25_vu_24 x_EQF_p0 m_u_25 m_u_30 r_vu_30
        refine lv_aload_n hx hb dX9_book_53 rfl (lv_at hl 0 rfl) ?_
        refine tg_get (ci := 9) (ts := ty_WP) (C := RX9) (T := TX9) (N := 15) hx hb hts inX9 hown hK hw h_p0 rfl rfl 2 (by decide) (hts _ tw_348) (fun _ h9 => h9) (ft := vR 24) rfl dX9_book_54 (fun u_31 hv_u_31 m_u_31 => ?_)
        obtain ⟨vu_31, rfl, h_vu_31⟩ := hv_u_31
        refine lv_aload_n hx hb dX9_book_57 rfl (lv_at hl 0 rfl) ?_
        refine tg_mem (ci := 9) (C := RX9) (T := TX9) (N := 15) hx hb hts inX9 hown hK hw 1 m_u_26 rfl (by decide) (hts _ tw_347) (fun _ h9 => h9) dX9_book_58 ?_
        refine tk_v (va_runV (As := [.ref vu_26]) (rest := []) ⟨hx, hb, hml, hown, hts⟩ (c_X8_takeFrom l D cy z H.size Ps ws hw.1 vu_31 vu_26 h_vu_31 h_vu_26) (cwV 1 hts (gV tw_521 tw_522 tw_523 tw_12 tw_524) rfl rfl rfl (by decide +kernel) ⟨Nat.le_of_ble_eq_true rfl, Nat.le_of_ble_eq_true rfl⟩) (tg_preV hw hK hSD hA (ci := 8) (q := (RX8, TX8, 13)) rfl h_vu_31 rfl) rfl rfl hl.1 rfl (lv_room (Nat.le_of_ble_eq_true rfl)) dX9_book_61 ⟨Nat.le_of_ble_eq_true rfl, Nat.le_of_ble_eq_true rfl⟩) hw hA ⟨by decide, by decide⟩ (fun ws H locs hp_v_32 hw hF9 => ?_)
        have m_u_24 := FLD.over hF9 m_u_24 (by decide)
        have m_u_25 := FLD.over hF9 m_u_25 (by decide)
        have m_u_26 := FLD.over hF9 m_u_26 (by decide)
        have m_u_30 := FLD.over hF9 m_u_30 (by decide)
        have m_u_31 := FLD.over hF9 m_u_31 (by decide)
        have x_JB_vu_25_vu_24 := JB.over hF9 x_JB_vu_25_vu_24 (by decide)
        have x_EQF_p0 := EQF.over hF9 x_EQF_p0 (by decide)
        have x_BG_vu_24 := B3.over hF9 x_BG_vu_24 (by decide)
        refine lv_aload_n hx hb dX9_book_64 rfl (lv_at hl 0 rfl) ?_
        refine tg_mem (ci := 9) (C := RX9) (T := TX9) (N := 15) hx hb hts inX9 hown hK hw 6 m_u_24 rfl (by decide) (hts _ tw_352) (fun _ h9 => h9) dX9_book_65 ?_
        refine lv_aload_n hx hb dX9_book_68 rfl (lv_at hl 0 rfl) ?_
        refine tg_mem (ci := 9) (C := RX9) (T := TX9) (N := 15) hx hb hts inX9 hown hK hw 2 m_u_31 rfl (by decide) (hts _ tw_348) (fun _ h9 => h9) dX9_book_69 ?_
        refine tk_i (va_runV (As := [.ref vu_31]) (rest := []) ⟨hx, hb, hml, hown, hts⟩ (c_X0_liveIn l D cy z H.size Ps ws hw.1 vu_24 vu_31 h_vu_24 h_vu_31 x_BG_vu_24) (cwV 1 hts (gV tw_914 tw_915 tw_916 tw_7 tw_917) rfl rfl rfl (by decide +kernel) ⟨Nat.le_of_ble_eq_true rfl, Nat.le_of_ble_eq_true rfl⟩) (tg_preV hw hK hSD hA (ci := 0) (q := (RX0, TX0, 5)) rfl h_vu_24 rfl) rfl rfl hl.1 rfl (lv_room (Nat.le_of_ble_eq_true rfl)) dX9_book_72 ⟨Nat.le_of_ble_eq_true rfl, Nat.le_of_ble_eq_true rfl⟩) hw hA ⟨by decide, by decide⟩ (fun v_33 ws H locs hp_v_33 hw hF9 => ?_)
        have m_u_24 := FLD.over hF9 m_u_24 (by decide)
        have m_u_25 := FLD.over hF9 m_u_25 (by decide)
        have m_u_26 := FLD.over hF9 m_u_26 (by decide)
        have m_u_30 := FLD.over hF9 m_u_30 (by decide)
        have m_u_31 := FLD.over hF9 m_u_31 (by decide)
        have x_JB_vu_25_vu_24 := JB.over hF9 x_JB_vu_25_vu_24 (by decide)
        have x_EQF_p0 := EQF.over hF9 x_EQF_p0 (by decide)
        have x_BG_vu_24 := B3.over hF9 x_BG_vu_24 (by decide)
        have r_v_33 : RI v_33 (-2147483648) 2147483647 := hp_v_33.1
        by_cases c9_v_33 : v_33 = 0
        · have r_v_33 : RI v_33 0 0 := by rw [c9_v_33]; exact rl_0
          refine lv_istore_n (lv' := [(2, .int v_33), (0, .ref p0), (1, .int p1)]) hx hb dX9_book_75 rfl hl (by decide) rfl (fun ls hl => ?_)
          refine lv_aload_n hx hb dX9_book_76 rfl (lv_at hl 1 rfl) ?_
          refine tg_get (ci := 9) (ts := ty_WP) (C := RX9) (T := TX9) (N := 15) hx hb hts inX9 hown hK hw h_p0 rfl rfl 7 (by decide) (hts _ tw_353) (fun _ h9 => h9) (ft := vR 15) rfl dX9_book_77 (fun u_34 hv_u_34 m_u_34 => ?_)
          obtain ⟨vu_34, rfl, h_vu_34⟩ := hv_u_34
          refine lv_iconst (v := 0) hx hb dX9_book_80 (by decide) ?_
          refine lv_iload_n hx hb dX9_book_81 rfl (lv_at hl 0 rfl) ?_
          refine tg_iast hx hb hK hw h_vu_34 rfl 0 0 rl_0 (by decide) r_v_33 (by exact fun _ _ _ => by decide) (fun _ _ _ _ _ => trivial) (by decide) dX9_book_82 (fun ws H locs hw hF9 hU9 => ?_)
          have x_JB_vu_25_vu_24 := JB.over hF9 x_JB_vu_25_vu_24 (by decide)
          have x_EQF_p0 := EQF.over hF9 x_EQF_p0 (by decide)
          have x_BG_vu_24 := B3.over hF9 x_BG_vu_24 (by decide)
          have m_u_24 := FLD.over hF9 m_u_24 (by decide)
          have m_u_25 := FLD.over hF9 m_u_25 (by decide)
          have m_u_26 := FLD.over hF9 m_u_26 (by decide)
          have m_u_30 := FLD.over hF9 m_u_30 (by decide)
          have m_u_31 := FLD.over hF9 m_u_31 (by decide)
          have m_u_34 := FLD.over hF9 m_u_34 (by decide)
          refine lv_aload_n hx hb dX9_book_83 rfl (lv_at hl 1 rfl) ?_
          refine tg_mem (ci := 9) (C := RX9) (T := TX9) (N := 15) hx hb hts inX9 hown hK hw 7 m_u_34 rfl (by decide) (hts _ tw_353) (fun _ h9 => h9) dX9_book_84 ?_
          refine lv_iconst (v := 1) hx hb dX9_book_87 (by decide) ?_
          refine lv_aload_n hx hb dX9_book_88 rfl (lv_at hl 1 rfl) ?_
          refine tg_mem (ci := 9) (C := RX9) (T := TX9) (N := 15) hx hb hts inX9 hown hK hw 6 m_u_24 rfl (by decide) (hts _ tw_352) (fun _ h9 => h9) dX9_book_89 ?_
          refine tg_getN (ci := 0) (ts := ty_BOOK) (C := RX0) (T := TX0) (N := 5) hx hb hts inX0 hown hK hw h_vu_24 rfl rfl 4 (by decide) (hSD.nest tn_147) (fun _ h9 => h9) (ft := vI (-2147483648) 2147483647) rfl dX9_book_92 (fun u_35 hv_u_35 m_u_35 => ?_)
          obtain ⟨vu_35, rfl, r_vu_35⟩ := hv_u_35
          refine tg_iast hx hb hK hw h_vu_34 rfl 1 1 rl_1 (by decide) r_vu_35 (by exact fun _ _ _ => by decide) (fun _ _ _ _ _ => trivial) (by decide) dX9_book_95 (fun ws H locs hw hF9 hU9 => ?_)
          have x_JB_vu_25_vu_24 := JB.over hF9 x_JB_vu_25_vu_24 (by decide)
          have x_EQF_p0 := EQF.over hF9 x_EQF_p0 (by decide)
          have x_BG_vu_24 := B3.over hF9 x_BG_vu_24 (by decide)
          have m_u_24 := FLD.over hF9 m_u_24 (by decide)
          have m_u_25 := FLD.over hF9 m_u_25 (by decide)
          have m_u_26 := FLD.over hF9 m_u_26 (by decide)
          have m_u_30 := FLD.over hF9 m_u_30 (by decide)
          have m_u_31 := FLD.over hF9 m_u_31 (by decide)
          have m_u_34 := FLD.over hF9 m_u_34 (by decide)
          have m_u_35 := FLD.over hF9 m_u_35 (by decide)
          refine lv_aload_n hx hb dX9_book_96 rfl (lv_at hl 1 rfl) ?_
          refine tg_mem (ci := 9) (C := RX9) (T := TX9) (N := 15) hx hb hts inX9 hown hK hw 7 m_u_34 rfl (by decide) (hts _ tw_353) (fun _ h9 => h9) dX9_book_97 ?_
          refine lv_iconst (v := 2) hx hb dX9_book_100 (by decide) ?_
          refine lv_aload_n hx hb dX9_book_101 rfl (lv_at hl 1 rfl) ?_
          refine tg_mem (ci := 9) (C := RX9) (T := TX9) (N := 15) hx hb hts inX9 hown hK hw 2 m_u_31 rfl (by decide) (hts _ tw_348) (fun _ h9 => h9) dX9_book_102 ?_
          refine tg_getN (ci := 8) (ts := ty_WORLD) (C := RX8) (T := TX8) (N := 13) hx hb hts inX8 hown hK hw h_vu_31 rfl rfl 1 (by decide) (hSD.nest tn_251) (fun _ h9 => h9) (ft := vI (-2147483648) 2147483647) rfl dX9_book_105 (fun u_36 hv_u_36 m_u_36 => ?_)
          obtain ⟨vu_36, rfl, r_vu_36⟩ := hv_u_36
          refine tg_iast hx hb hK hw h_vu_34 rfl 2 2 rl_2 (by decide) r_vu_36 (by exact fun _ _ _ => by decide) (fun _ _ _ _ _ => trivial) (by decide) dX9_book_108 (fun ws H locs hw hF9 hU9 => ?_)
          have x_JB_vu_25_vu_24 := JB.over hF9 x_JB_vu_25_vu_24 (by decide)
          have x_EQF_p0 := EQF.over hF9 x_EQF_p0 (by decide)
          have x_BG_vu_24 := B3.over hF9 x_BG_vu_24 (by decide)
          have m_u_24 := FLD.over hF9 m_u_24 (by decide)
          have m_u_25 := FLD.over hF9 m_u_25 (by decide)
          have m_u_26 := FLD.over hF9 m_u_26 (by decide)
          have m_u_30 := FLD.over hF9 m_u_30 (by decide)
          have m_u_31 := FLD.over hF9 m_u_31 (by decide)
          have m_u_34 := FLD.over hF9 m_u_34 (by decide)
          have m_u_35 := FLD.over hF9 m_u_35 (by decide)
          have m_u_36 := FLD.over hF9 m_u_36 (by decide)
          refine lv_aload_n hx hb dX9_book_109 rfl (lv_at hl 1 rfl) ?_
          refine tg_mem (ci := 9) (C := RX9) (T := TX9) (N := 15) hx hb hts inX9 hown hK hw 7 m_u_34 rfl (by decide) (hts _ tw_353) (fun _ h9 => h9) dX9_book_110 ?_
          refine lv_iconst (v := 3) hx hb dX9_book_113 (by decide) ?_
          refine lv_aload_n hx hb dX9_book_114 rfl (lv_at hl 1 rfl) ?_
          refine tg_mem (ci := 9) (C := RX9) (T := TX9) (N := 15) hx hb hts inX9 hown hK hw 2 m_u_31 rfl (by decide) (hts _ tw_348) (fun _ h9 => h9) dX9_book_115 ?_
          refine tk_ir (va_runV (As := []) (rest := [.int 3, .ref vu_34]) ⟨hx, hb, hml, hown, hts⟩ (c_X8_whichAreNothing l D cy z H.size Ps ws hw.1 vu_31 h_vu_31) (cwV 0 hts (gV tw_565 tw_566 tw_567 tw_12 tw_568) rfl rfl rfl (by decide +kernel) ⟨Nat.le_of_ble_eq_true rfl, Nat.le_of_ble_eq_true rfl⟩) (tg_preV hw hK hSD hA (ci := 8) (q := (RX8, TX8, 13)) rfl h_vu_31 rfl) rfl rfl hl.1 rfl (lv_room (Nat.le_of_ble_eq_true rfl)) dX9_book_118 ⟨Nat.le_of_ble_eq_true rfl, Nat.le_of_ble_eq_true rfl⟩) hw hA (fun v_37  H locs hp_v_37 hw => ?_)
          have r_v_37 : RI v_37 (-2147483648) 2147483647 := hp_v_37.1
          refine tg_iast hx hb hK hw h_vu_34 rfl 3 3 rl_3 (by decide) r_v_37 (by exact fun _ _ _ => by decide) (fun _ _ _ _ _ => trivial) (by decide) dX9_book_121 (fun ws H locs hw hF9 hU9 => ?_)
          have x_JB_vu_25_vu_24 := JB.over hF9 x_JB_vu_25_vu_24 (by decide)
          have x_EQF_p0 := EQF.over hF9 x_EQF_p0 (by decide)
          have x_BG_vu_24 := B3.over hF9 x_BG_vu_24 (by decide)
          have m_u_24 := FLD.over hF9 m_u_24 (by decide)
          have m_u_25 := FLD.over hF9 m_u_25 (by decide)
          have m_u_26 := FLD.over hF9 m_u_26 (by decide)
          have m_u_30 := FLD.over hF9 m_u_30 (by decide)
          have m_u_31 := FLD.over hF9 m_u_31 (by decide)
          have m_u_34 := FLD.over hF9 m_u_34 (by decide)
          have m_u_35 := FLD.over hF9 m_u_35 (by decide)
          have m_u_36 := FLD.over hF9 m_u_36 (by decide)
          refine lv_iload_n hx hb dX9_book_122 rfl (lv_at hl 2 rfl) ?_
          refine lv_iconst (v := 1) hx hb dX9_book_123 (by decide) ?_
          refine lv_icmp_ne (tgt := 156) hx hb dX9_book_124 (by decide) (fun c_124 => ?_) (fun c_124 => ?_)
          · exact absurd (r_p1.eq.trans rl_1.eq.symm) ((ti_ne c_124))
          · refine lv_aload_n hx hb dX9_book_127 rfl (lv_at hl 1 rfl) ?_
            refine tg_get (ci := 9) (ts := ty_WP) (C := RX9) (T := TX9) (N := 15) hx hb hts inX9 hown hK hw h_p0 rfl rfl 3 (by decide) (hts _ tw_349) (fun _ h9 => h9) (ft := vR 27) rfl dX9_book_128 (fun u_38 hv_u_38 m_u_38 => ?_)
            obtain ⟨vu_38, rfl, h_vu_38⟩ := hv_u_38
            refine lv_aload_n hx hb dX9_book_131 rfl (lv_at hl 1 rfl) ?_
            refine tg_mem (ci := 9) (C := RX9) (T := TX9) (N := 15) hx hb hts inX9 hown hK hw 1 m_u_26 rfl (by decide) (hts _ tw_347) (fun _ h9 => h9) dX9_book_132 ?_
            refine tk_v (va_runV (As := [.ref vu_26]) (rest := []) ⟨hx, hb, hml, hown, hts⟩ (c_X1_prepare l D cy z H.size Ps ws hw.1 vu_38 vu_26 h_vu_38 h_vu_26) (cwV 1 hts (gV tw_606 tw_607 tw_608 tw_13 tw_609) rfl rfl rfl (by decide +kernel) ⟨Nat.le_of_ble_eq_true rfl, Nat.le_of_ble_eq_true rfl⟩) (tg_preV hw hK hSD hA (ci := 1) (q := (RX1, TX1, 3)) rfl h_vu_38 rfl) rfl rfl hl.1 rfl (lv_room (Nat.le_of_ble_eq_true rfl)) dX9_book_135 ⟨Nat.le_of_ble_eq_true rfl, Nat.le_of_ble_eq_true rfl⟩) hw hA ⟨by decide, by decide⟩ (fun ws H locs hp_v_39 hw hF9 => ?_)
            have m_u_24 := FLD.over hF9 m_u_24 (by decide)
            have m_u_25 := FLD.over hF9 m_u_25 (by decide)
            have m_u_26 := FLD.over hF9 m_u_26 (by decide)
            have m_u_30 := FLD.over hF9 m_u_30 (by decide)
            have m_u_31 := FLD.over hF9 m_u_31 (by decide)
            have m_u_34 := FLD.over hF9 m_u_34 (by decide)
            have m_u_35 := FLD.over hF9 m_u_35 (by decide)
            have m_u_38 := FLD.over hF9 m_u_38 (by decide)
            have x_JB_vu_25_vu_24 := JB.over hF9 x_JB_vu_25_vu_24 (by decide)
            have x_EQF_p0 := EQF.over hF9 x_EQF_p0 (by decide)
            have x_BG_vu_24 := B3.over hF9 x_BG_vu_24 (by decide)
            refine lv_aload_n hx hb dX9_book_138 rfl (lv_at hl 1 rfl) ?_
            refine tg_mem (ci := 9) (C := RX9) (T := TX9) (N := 15) hx hb hts inX9 hown hK hw 3 m_u_38 rfl (by decide) (hts _ tw_349) (fun _ h9 => h9) dX9_book_139 ?_
            refine tk_v (va_runV (As := []) (rest := []) ⟨hx, hb, hml, hown, hts⟩ (c_X1_keep l D cy z H.size Ps ws hw.1 vu_38 h_vu_38) (cwV 0 hts (gV tw_619 tw_620 tw_621 tw_13 tw_622) rfl rfl rfl (by decide +kernel) ⟨Nat.le_of_ble_eq_true rfl, Nat.le_of_ble_eq_true rfl⟩) (tg_preV hw hK hSD hA (ci := 1) (q := (RX1, TX1, 3)) rfl h_vu_38 rfl) rfl rfl hl.1 rfl (lv_room (Nat.le_of_ble_eq_true rfl)) dX9_book_142 ⟨Nat.le_of_ble_eq_true rfl, Nat.le_of_ble_eq_true rfl⟩) hw hA ⟨by decide, by decide⟩ (fun ws H locs hp_v_40 hw hF9 => ?_)
            have m_u_24 := FLD.over hF9 m_u_24 (by decide)
            have m_u_25 := FLD.over hF9 m_u_25 (by decide)
            have m_u_26 := FLD.over hF9 m_u_26 (by decide)
            have m_u_30 := FLD.over hF9 m_u_30 (by decide)
            have m_u_31 := FLD.over hF9 m_u_31 (by decide)
            have m_u_34 := FLD.over hF9 m_u_34 (by decide)
            have m_u_35 := FLD.over hF9 m_u_35 (by decide)
            have m_u_38 := FLD.over hF9 m_u_38 (by decide)
            have x_JB_vu_25_vu_24 := JB.over hF9 x_JB_vu_25_vu_24 (by decide)
            have x_EQF_p0 := EQF.over hF9 x_EQF_p0 (by decide)
            have x_BG_vu_24 := B3.over hF9 x_BG_vu_24 (by decide)
            refine lv_aload_n hx hb dX9_book_145 rfl (lv_at hl 1 rfl) ?_
            refine tg_mem (ci := 9) (C := RX9) (T := TX9) (N := 15) hx hb hts inX9 hown hK hw 1 m_u_26 rfl (by decide) (hts _ tw_347) (fun _ h9 => h9) dX9_book_146 ?_
            refine lv_aload_n hx hb dX9_book_149 rfl (lv_at hl 1 rfl) ?_
            refine tg_mem (ci := 9) (C := RX9) (T := TX9) (N := 15) hx hb hts inX9 hown hK hw 2 m_u_31 rfl (by decide) (hts _ tw_348) (fun _ h9 => h9) dX9_book_150 ?_
            refine tk_v (va_runV (As := [.ref vu_31]) (rest := []) ⟨hx, hb, hml, hown, hts⟩ (c_X8_takeFrom l D cy z H.size Ps ws hw.1 vu_26 vu_31 h_vu_26 h_vu_31) (cwV 1 hts (gV tw_521 tw_522 tw_523 tw_12 tw_524) rfl rfl rfl (by decide +kernel) ⟨Nat.le_of_ble_eq_true rfl, Nat.le_of_ble_eq_true rfl⟩) (tg_preV hw hK hSD hA (ci := 8) (q := (RX8, TX8, 13)) rfl h_vu_26 rfl) rfl rfl hl.1 rfl (lv_room (Nat.le_of_ble_eq_true rfl)) dX9_book_153 ⟨Nat.le_of_ble_eq_true rfl, Nat.le_of_ble_eq_true rfl⟩) hw hA ⟨by decide, by decide⟩ (fun ws H locs hp_v_41 hw hF9 => ?_)
            have m_u_24 := FLD.over hF9 m_u_24 (by decide)
            have m_u_25 := FLD.over hF9 m_u_25 (by decide)
            have m_u_26 := FLD.over hF9 m_u_26 (by decide)
            have m_u_30 := FLD.over hF9 m_u_30 (by decide)
            have m_u_31 := FLD.over hF9 m_u_31 (by decide)
            have m_u_34 := FLD.over hF9 m_u_34 (by decide)
            have m_u_35 := FLD.over hF9 m_u_35 (by decide)
            have m_u_38 := FLD.over hF9 m_u_38 (by decide)
            have x_JB_vu_25_vu_24 := JB.over hF9 x_JB_vu_25_vu_24 (by decide)
            have x_EQF_p0 := EQF.over hF9 x_EQF_p0 (by decide)
            have x_BG_vu_24 := B3.over hF9 x_BG_vu_24 (by decide)
            exact B156 v_33 vu_30 ws _ _ ls (r_p1.to (by decide)) (r_v_33.to (by decide)) r_vu_30 m_u_30 x_EQF_p0 hw (lv_sub hl [1, 2, 0] rfl)
        · obtain ⟨v_42, m_v_42, r_v_42⟩ := ((hp_v_33.2.2 c9_v_33).1)
          refine lv_istore_n (lv' := [(2, .int v_33), (0, .ref p0), (1, .int p1)]) hx hb dX9_book_75 rfl hl (by decide) rfl (fun ls hl => ?_)
          refine lv_aload_n hx hb dX9_book_76 rfl (lv_at hl 1 rfl) ?_
          refine tg_get (ci := 9) (ts := ty_WP) (C := RX9) (T := TX9) (N := 15) hx hb hts inX9 hown hK hw h_p0 rfl rfl 7 (by decide) (hts _ tw_353) (fun _ h9 => h9) (ft := vR 15) rfl dX9_book_77 (fun u_43 hv_u_43 m_u_43 => ?_)
          obtain ⟨vu_43, rfl, h_vu_43⟩ := hv_u_43
          refine lv_iconst (v := 0) hx hb dX9_book_80 (by decide) ?_
          refine lv_iload_n hx hb dX9_book_81 rfl (lv_at hl 0 rfl) ?_
          refine tg_iast hx hb hK hw h_vu_43 rfl 0 0 rl_0 (by decide) r_v_33 (by exact fun _ _ _ => by decide) (fun _ _ _ _ _ => trivial) (by decide) dX9_book_82 (fun ws H locs hw hF9 hU9 => ?_)
          have x_JB_vu_25_vu_24 := JB.over hF9 x_JB_vu_25_vu_24 (by decide)
          have x_EQF_p0 := EQF.over hF9 x_EQF_p0 (by decide)
          have x_BG_vu_24 := B3.over hF9 x_BG_vu_24 (by decide)
          have m_u_24 := FLD.over hF9 m_u_24 (by decide)
          have m_u_25 := FLD.over hF9 m_u_25 (by decide)
          have m_u_26 := FLD.over hF9 m_u_26 (by decide)
          have m_u_30 := FLD.over hF9 m_u_30 (by decide)
          have m_u_31 := FLD.over hF9 m_u_31 (by decide)
          have m_v_42 := FLD.over hF9 m_v_42 (by decide)
          have m_u_43 := FLD.over hF9 m_u_43 (by decide)
          refine lv_aload_n hx hb dX9_book_83 rfl (lv_at hl 1 rfl) ?_
          refine tg_mem (ci := 9) (C := RX9) (T := TX9) (N := 15) hx hb hts inX9 hown hK hw 7 m_u_43 rfl (by decide) (hts _ tw_353) (fun _ h9 => h9) dX9_book_84 ?_
          refine lv_iconst (v := 1) hx hb dX9_book_87 (by decide) ?_
          refine lv_aload_n hx hb dX9_book_88 rfl (lv_at hl 1 rfl) ?_
          refine tg_mem (ci := 9) (C := RX9) (T := TX9) (N := 15) hx hb hts inX9 hown hK hw 6 m_u_24 rfl (by decide) (hts _ tw_352) (fun _ h9 => h9) dX9_book_89 ?_
          refine tg_getN (ci := 0) (ts := ty_BOOK) (C := RX0) (T := TX0) (N := 5) hx hb hts inX0 hown hK hw h_vu_24 rfl rfl 4 (by decide) (hSD.nest tn_147) (fun _ h9 => h9) (ft := vI (-2147483648) 2147483647) rfl dX9_book_92 (fun u_44 hv_u_44 m_u_44 => ?_)
          obtain ⟨vu_44, rfl, r_vu_44⟩ := hv_u_44
          refine tg_iast hx hb hK hw h_vu_43 rfl 1 1 rl_1 (by decide) r_vu_44 (by exact fun _ _ _ => by decide) (fun _ _ _ _ _ => trivial) (by decide) dX9_book_95 (fun ws H locs hw hF9 hU9 => ?_)
          have x_JB_vu_25_vu_24 := JB.over hF9 x_JB_vu_25_vu_24 (by decide)
          have x_EQF_p0 := EQF.over hF9 x_EQF_p0 (by decide)
          have x_BG_vu_24 := B3.over hF9 x_BG_vu_24 (by decide)
          have m_u_24 := FLD.over hF9 m_u_24 (by decide)
          have m_u_25 := FLD.over hF9 m_u_25 (by decide)
          have m_u_26 := FLD.over hF9 m_u_26 (by decide)
          have m_u_30 := FLD.over hF9 m_u_30 (by decide)
          have m_u_31 := FLD.over hF9 m_u_31 (by decide)
          have m_v_42 := FLD.over hF9 m_v_42 (by decide)
          have m_u_43 := FLD.over hF9 m_u_43 (by decide)
          have m_u_44 := FLD.over hF9 m_u_44 (by decide)
          refine lv_aload_n hx hb dX9_book_96 rfl (lv_at hl 1 rfl) ?_
          refine tg_mem (ci := 9) (C := RX9) (T := TX9) (N := 15) hx hb hts inX9 hown hK hw 7 m_u_43 rfl (by decide) (hts _ tw_353) (fun _ h9 => h9) dX9_book_97 ?_
          refine lv_iconst (v := 2) hx hb dX9_book_100 (by decide) ?_
          refine lv_aload_n hx hb dX9_book_101 rfl (lv_at hl 1 rfl) ?_
          refine tg_mem (ci := 9) (C := RX9) (T := TX9) (N := 15) hx hb hts inX9 hown hK hw 2 m_u_31 rfl (by decide) (hts _ tw_348) (fun _ h9 => h9) dX9_book_102 ?_
          refine tg_getN (ci := 8) (ts := ty_WORLD) (C := RX8) (T := TX8) (N := 13) hx hb hts inX8 hown hK hw h_vu_31 rfl rfl 1 (by decide) (hSD.nest tn_251) (fun _ h9 => h9) (ft := vI (-2147483648) 2147483647) rfl dX9_book_105 (fun u_45 hv_u_45 m_u_45 => ?_)
          obtain ⟨vu_45, rfl, r_vu_45⟩ := hv_u_45
          refine tg_iast hx hb hK hw h_vu_43 rfl 2 2 rl_2 (by decide) r_vu_45 (by exact fun _ _ _ => by decide) (fun _ _ _ _ _ => trivial) (by decide) dX9_book_108 (fun ws H locs hw hF9 hU9 => ?_)
          have x_JB_vu_25_vu_24 := JB.over hF9 x_JB_vu_25_vu_24 (by decide)
          have x_EQF_p0 := EQF.over hF9 x_EQF_p0 (by decide)
          have x_BG_vu_24 := B3.over hF9 x_BG_vu_24 (by decide)
          have m_u_24 := FLD.over hF9 m_u_24 (by decide)
          have m_u_25 := FLD.over hF9 m_u_25 (by decide)
          have m_u_26 := FLD.over hF9 m_u_26 (by decide)
          have m_u_30 := FLD.over hF9 m_u_30 (by decide)
          have m_u_31 := FLD.over hF9 m_u_31 (by decide)
          have m_v_42 := FLD.over hF9 m_v_42 (by decide)
          have m_u_43 := FLD.over hF9 m_u_43 (by decide)
          have m_u_44 := FLD.over hF9 m_u_44 (by decide)
          have m_u_45 := FLD.over hF9 m_u_45 (by decide)
          refine lv_aload_n hx hb dX9_book_109 rfl (lv_at hl 1 rfl) ?_
          refine tg_mem (ci := 9) (C := RX9) (T := TX9) (N := 15) hx hb hts inX9 hown hK hw 7 m_u_43 rfl (by decide) (hts _ tw_353) (fun _ h9 => h9) dX9_book_110 ?_
          refine lv_iconst (v := 3) hx hb dX9_book_113 (by decide) ?_
          refine lv_aload_n hx hb dX9_book_114 rfl (lv_at hl 1 rfl) ?_
          refine tg_mem (ci := 9) (C := RX9) (T := TX9) (N := 15) hx hb hts inX9 hown hK hw 2 m_u_31 rfl (by decide) (hts _ tw_348) (fun _ h9 => h9) dX9_book_115 ?_
          refine tk_ir (va_runV (As := []) (rest := [.int 3, .ref vu_43]) ⟨hx, hb, hml, hown, hts⟩ (c_X8_whichAreNothing l D cy z H.size Ps ws hw.1 vu_31 h_vu_31) (cwV 0 hts (gV tw_565 tw_566 tw_567 tw_12 tw_568) rfl rfl rfl (by decide +kernel) ⟨Nat.le_of_ble_eq_true rfl, Nat.le_of_ble_eq_true rfl⟩) (tg_preV hw hK hSD hA (ci := 8) (q := (RX8, TX8, 13)) rfl h_vu_31 rfl) rfl rfl hl.1 rfl (lv_room (Nat.le_of_ble_eq_true rfl)) dX9_book_118 ⟨Nat.le_of_ble_eq_true rfl, Nat.le_of_ble_eq_true rfl⟩) hw hA (fun v_46  H locs hp_v_46 hw => ?_)
          have r_v_46 : RI v_46 (-2147483648) 2147483647 := hp_v_46.1
          refine tg_iast hx hb hK hw h_vu_43 rfl 3 3 rl_3 (by decide) r_v_46 (by exact fun _ _ _ => by decide) (fun _ _ _ _ _ => trivial) (by decide) dX9_book_121 (fun ws H locs hw hF9 hU9 => ?_)
          have x_JB_vu_25_vu_24 := JB.over hF9 x_JB_vu_25_vu_24 (by decide)
          have x_EQF_p0 := EQF.over hF9 x_EQF_p0 (by decide)
          have x_BG_vu_24 := B3.over hF9 x_BG_vu_24 (by decide)
          have m_u_24 := FLD.over hF9 m_u_24 (by decide)
          have m_u_25 := FLD.over hF9 m_u_25 (by decide)
          have m_u_26 := FLD.over hF9 m_u_26 (by decide)
          have m_u_30 := FLD.over hF9 m_u_30 (by decide)
          have m_u_31 := FLD.over hF9 m_u_31 (by decide)
          have m_v_42 := FLD.over hF9 m_v_42 (by decide)
          have m_u_43 := FLD.over hF9 m_u_43 (by decide)
          have m_u_44 := FLD.over hF9 m_u_44 (by decide)
          have m_u_45 := FLD.over hF9 m_u_45 (by decide)
          refine lv_iload_n hx hb dX9_book_122 rfl (lv_at hl 2 rfl) ?_
          refine lv_iconst (v := 1) hx hb dX9_book_123 (by decide) ?_
          refine lv_icmp_ne (tgt := 156) hx hb dX9_book_124 (by decide) (fun c_124 => ?_) (fun c_124 => ?_)
          · exact absurd (r_p1.eq.trans rl_1.eq.symm) ((ti_ne c_124))
          · refine lv_aload_n hx hb dX9_book_127 rfl (lv_at hl 1 rfl) ?_
            refine tg_get (ci := 9) (ts := ty_WP) (C := RX9) (T := TX9) (N := 15) hx hb hts inX9 hown hK hw h_p0 rfl rfl 3 (by decide) (hts _ tw_349) (fun _ h9 => h9) (ft := vR 27) rfl dX9_book_128 (fun u_47 hv_u_47 m_u_47 => ?_)
            obtain ⟨vu_47, rfl, h_vu_47⟩ := hv_u_47
            refine lv_aload_n hx hb dX9_book_131 rfl (lv_at hl 1 rfl) ?_
            refine tg_mem (ci := 9) (C := RX9) (T := TX9) (N := 15) hx hb hts inX9 hown hK hw 1 m_u_26 rfl (by decide) (hts _ tw_347) (fun _ h9 => h9) dX9_book_132 ?_
            refine tk_v (va_runV (As := [.ref vu_26]) (rest := []) ⟨hx, hb, hml, hown, hts⟩ (c_X1_prepare l D cy z H.size Ps ws hw.1 vu_47 vu_26 h_vu_47 h_vu_26) (cwV 1 hts (gV tw_606 tw_607 tw_608 tw_13 tw_609) rfl rfl rfl (by decide +kernel) ⟨Nat.le_of_ble_eq_true rfl, Nat.le_of_ble_eq_true rfl⟩) (tg_preV hw hK hSD hA (ci := 1) (q := (RX1, TX1, 3)) rfl h_vu_47 rfl) rfl rfl hl.1 rfl (lv_room (Nat.le_of_ble_eq_true rfl)) dX9_book_135 ⟨Nat.le_of_ble_eq_true rfl, Nat.le_of_ble_eq_true rfl⟩) hw hA ⟨by decide, by decide⟩ (fun ws H locs hp_v_48 hw hF9 => ?_)
            have m_u_24 := FLD.over hF9 m_u_24 (by decide)
            have m_u_25 := FLD.over hF9 m_u_25 (by decide)
            have m_u_26 := FLD.over hF9 m_u_26 (by decide)
            have m_u_30 := FLD.over hF9 m_u_30 (by decide)
            have m_u_31 := FLD.over hF9 m_u_31 (by decide)
            have m_v_42 := FLD.over hF9 m_v_42 (by decide)
            have m_u_43 := FLD.over hF9 m_u_43 (by decide)
            have m_u_44 := FLD.over hF9 m_u_44 (by decide)
            have m_u_47 := FLD.over hF9 m_u_47 (by decide)
            have x_JB_vu_25_vu_24 := JB.over hF9 x_JB_vu_25_vu_24 (by decide)
            have x_EQF_p0 := EQF.over hF9 x_EQF_p0 (by decide)
            have x_BG_vu_24 := B3.over hF9 x_BG_vu_24 (by decide)
            refine lv_aload_n hx hb dX9_book_138 rfl (lv_at hl 1 rfl) ?_
            refine tg_mem (ci := 9) (C := RX9) (T := TX9) (N := 15) hx hb hts inX9 hown hK hw 3 m_u_47 rfl (by decide) (hts _ tw_349) (fun _ h9 => h9) dX9_book_139 ?_
            refine tk_v (va_runV (As := []) (rest := []) ⟨hx, hb, hml, hown, hts⟩ (c_X1_keep l D cy z H.size Ps ws hw.1 vu_47 h_vu_47) (cwV 0 hts (gV tw_619 tw_620 tw_621 tw_13 tw_622) rfl rfl rfl (by decide +kernel) ⟨Nat.le_of_ble_eq_true rfl, Nat.le_of_ble_eq_true rfl⟩) (tg_preV hw hK hSD hA (ci := 1) (q := (RX1, TX1, 3)) rfl h_vu_47 rfl) rfl rfl hl.1 rfl (lv_room (Nat.le_of_ble_eq_true rfl)) dX9_book_142 ⟨Nat.le_of_ble_eq_true rfl, Nat.le_of_ble_eq_true rfl⟩) hw hA ⟨by decide, by decide⟩ (fun ws H locs hp_v_49 hw hF9 => ?_)
            have m_u_24 := FLD.over hF9 m_u_24 (by decide)
            have m_u_25 := FLD.over hF9 m_u_25 (by decide)
            have m_u_26 := FLD.over hF9 m_u_26 (by decide)
            have m_u_30 := FLD.over hF9 m_u_30 (by decide)
            have m_u_31 := FLD.over hF9 m_u_31 (by decide)
            have m_v_42 := FLD.over hF9 m_v_42 (by decide)
            have m_u_43 := FLD.over hF9 m_u_43 (by decide)
            have m_u_44 := FLD.over hF9 m_u_44 (by decide)
            have m_u_47 := FLD.over hF9 m_u_47 (by decide)
            have x_JB_vu_25_vu_24 := JB.over hF9 x_JB_vu_25_vu_24 (by decide)
            have x_EQF_p0 := EQF.over hF9 x_EQF_p0 (by decide)
            have x_BG_vu_24 := B3.over hF9 x_BG_vu_24 (by decide)
            refine lv_aload_n hx hb dX9_book_145 rfl (lv_at hl 1 rfl) ?_
            refine tg_mem (ci := 9) (C := RX9) (T := TX9) (N := 15) hx hb hts inX9 hown hK hw 1 m_u_26 rfl (by decide) (hts _ tw_347) (fun _ h9 => h9) dX9_book_146 ?_
            refine lv_aload_n hx hb dX9_book_149 rfl (lv_at hl 1 rfl) ?_
            refine tg_mem (ci := 9) (C := RX9) (T := TX9) (N := 15) hx hb hts inX9 hown hK hw 2 m_u_31 rfl (by decide) (hts _ tw_348) (fun _ h9 => h9) dX9_book_150 ?_
            refine tk_v (va_runV (As := [.ref vu_31]) (rest := []) ⟨hx, hb, hml, hown, hts⟩ (c_X8_takeFrom l D cy z H.size Ps ws hw.1 vu_26 vu_31 h_vu_26 h_vu_31) (cwV 1 hts (gV tw_521 tw_522 tw_523 tw_12 tw_524) rfl rfl rfl (by decide +kernel) ⟨Nat.le_of_ble_eq_true rfl, Nat.le_of_ble_eq_true rfl⟩) (tg_preV hw hK hSD hA (ci := 8) (q := (RX8, TX8, 13)) rfl h_vu_26 rfl) rfl rfl hl.1 rfl (lv_room (Nat.le_of_ble_eq_true rfl)) dX9_book_153 ⟨Nat.le_of_ble_eq_true rfl, Nat.le_of_ble_eq_true rfl⟩) hw hA ⟨by decide, by decide⟩ (fun ws H locs hp_v_50 hw hF9 => ?_)
            have m_u_24 := FLD.over hF9 m_u_24 (by decide)
            have m_u_25 := FLD.over hF9 m_u_25 (by decide)
            have m_u_26 := FLD.over hF9 m_u_26 (by decide)
            have m_u_30 := FLD.over hF9 m_u_30 (by decide)
            have m_u_31 := FLD.over hF9 m_u_31 (by decide)
            have m_v_42 := FLD.over hF9 m_v_42 (by decide)
            have m_u_43 := FLD.over hF9 m_u_43 (by decide)
            have m_u_44 := FLD.over hF9 m_u_44 (by decide)
            have m_u_47 := FLD.over hF9 m_u_47 (by decide)
            have x_JB_vu_25_vu_24 := JB.over hF9 x_JB_vu_25_vu_24 (by decide)
            have x_EQF_p0 := EQF.over hF9 x_EQF_p0 (by decide)
            have x_BG_vu_24 := B3.over hF9 x_BG_vu_24 (by decide)
            exact B156 v_33 vu_30 ws _ _ ls (r_p1.to (by decide)) r_v_33 r_vu_30 m_u_30 x_EQF_p0 hw (lv_sub hl [1, 2, 0] rfl)
      · refine lv_bipush (v := (-2)) hx hb dX9_book_42 (by decide) ?_
        refine lv_aload_n hx hb dX9_book_44 rfl (lv_at hl 0 rfl) ?_
        refine tg_mem (ci := 9) (C := RX9) (T := TX9) (N := 15) hx hb hts inX9 hown hK hw 0 m_u_25 rfl (by decide) (hts _ tw_346) (fun _ h9 => h9) dX9_book_45 ?_
        refine tg_getN (ci := 7) (ts := ty_TAPE) (C := RX7) (T := TX7) (N := 12) hx hb hts inX7 hown hK hw h_vu_25 rfl rfl 11 (by decide) (hSD.nest tn_107) (fun _ h9 => h9) (ft := vI (-2147483648) 2147483647) rfl dX9_book_48 (fun u_51 hv_u_51 m_u_51 => ?_)
        obtain ⟨vu_51, rfl, r_vu_51⟩ := hv_u_51
        refine lv_isub hx hb dX9_book_51 (lv_topi (fun v_52 e_v_52 => ?_))
        have r_v_52 := ri_any v_52
        subst hQ
        exact W.iret (v := v_52) hx hb hr (fun t ht hW => ⟨⟨v_52, ws, rfl, ⟨⟨r_v_52.to (by decide), (fun h0 => trivial), (fun h0 => trivial)⟩, hw.1, hw.2.2.2.2.1⟩, by rw [ht]; exact hw.2.1, va_K.moved hW.alike hK, hw.2.2.1⟩, hw.2.2.2.1.F ht⟩) hw.2.2.2.1.2.2 dX9_book_52
    · refine lv_sipush (v := (-1000)) hx hb dX9_book_9 (by decide) ?_
      subst hQ
      exact W.iret (v := (-1000)) hx hb hr (fun t ht hW => ⟨⟨(-1000), w0, rfl, ⟨⟨rl_m1000.to (by decide), (fun _ => trivial), (fun h0 => trivial)⟩, hw.1, hw.2.2.2.2.1⟩, by rw [ht]; exact hw.2.1, va_K.moved hW.alike hK, hw.2.2.1⟩, hw.2.2.2.1.F ht⟩) hw.2.2.2.1.2.2 dX9_book_12
abbrev wr_X3_beginsLine__1 : List (Nat × Nat) := [(7, 10), (7, 11)]
abbrev wa_X3_beginsLine__1 : List Nat := []
set_option maxHeartbeats 4000000 in
set_option maxRecDepth 100000 in
theorem c_X3_beginsLine__1 (l : Launch) (D : va_G) (cy : Nat → ClassId) (z : Nat → Nat) (sz : Nat) (Ps : PSI) (w0 : va_W) (hT : HT cy GG Ps w0) (p0 : Nat) (p1 : Nat) (p2 : Int32) (f1_10 : Int32) (h_p0 : (p0, 25) ∈ Ps) (h_p1 : (p1, 26) ∈ Ps) (r_p2 : RI p2 (-2147483648) 127) (r_f1_10 : RI f1_10 0 0) (m_f1_10 : FLD w0 p1 7 10 (.int f1_10)) : Met l yX3_beginsLine (Cond.code yX3_beginsLine cX3_beginsLine 3 (some .boolean) :: gT) ({ frames := 2, cells := 0, slots := 0, locals := 400 } : Room) (va_Pc [.ref p0, .ref p1, .int p2] (PRE D cy z w0 sz)) (va_Qi (fun (r : Int32) (u : va_W) => (RI r 0 0 ∧ (r = 0 → (∃ v9 : Int32, FLD u p1 7 10 (.int v9) ∧ RI v9 1 4) ∧ True) ∧ (¬ r = 0 → True)) ∧ HT cy GG Ps u ∧ FR wr_X3_beginsLine__1 wa_X3_beginsLine__1 Ps w0 u) (BB D cy (va_A w0 sz) (fun (u : va_W) => u)) (va_A w0 sz)) 0 0 (va_A w0 sz) := by
  refine Met.ofW (cc := cX3_beginsLine) (maxL := 3) (ret := (some .boolean)) (by decide) rfl ?_
  intro p e s m args below meth c s₁ B hml hv
  obtain ⟨rfl, hsz, hP, hK, hD0, hSD⟩ := hv
  have hx := B.exec
  have hb := B.bytes
  have hr := B.returns
  have hlocks := B.notSynchronized
  have hts : ∀ w ∈ gT, w.before _ s = true := fun w h => atoms_spec (ws := Cond.code yX3_beginsLine cX3_beginsLine 3 (some .boolean) :: gT) B.pre w (List.mem_cons_of_mem _ h)
  have hown : s.vm.findClass RX3 = some m.cls := findClass_of_methodNamed B.named
  subst hsz
  have hD := hD0.self (sz := s.heap.size)
  generalize hAe : va_A w0 s.heap.size = A at hD hSD ⊢
  have hA : ∀ q : Nat, s.heap.size ≤ q → A q := fun q h => by rw [← hAe]; exact Or.inr h
  have hl := lv_entry ([.ref p0, .ref p1, .int p2]) (n := 3) (Nat.le_of_ble_eq_true rfl)
  rw [lg_entry_eq]
  generalize (lg_sl ([.ref p0, .ref p1, .int p2]) ++ List.replicate (3 - (lg_sl ([.ref p0, .ref p1, .int p2])).length) Slot.unset).toArray = ls at hl ⊢
  have hl : lv_has ls 3 [(0, .ref p0), (1, .ref p1), (2, .int p2)] := hl
  refine nameQ (fun Q hQ => ?_)
  have hw : WD D cy GG A s wr_X3_beginsLine__1 wa_X3_beginsLine__1 Ps w0 Ps w0 s.heap [] := ⟨hT, hP, hD, va_S.rf, FR.rf, hT.1, [], (List.append_nil _).symm⟩
  refine lv_iload_n hx hb dX3_beginsLine_0 rfl (lv_at hl 2 rfl) ?_
  refine lv_sipush (v := 128) hx hb dX3_beginsLine_1 (by decide) ?_
  refine lv_icmp_lt (tgt := 14) hx hb dX3_beginsLine_4 (by decide) (fun c_4 => ?_) (fun c_4 => ?_)
  · refine lv_aload_n hx hb dX3_beginsLine_14 rfl (lv_at hl 1 rfl) ?_
    refine lv_iconst (v := 1) hx hb dX3_beginsLine_15 (by decide) ?_
    refine tk_v (va_runV (As := [.int 1]) (rest := []) ⟨hx, hb, hml, hown, hts⟩ (c_X7_refuse__3 l D cy z s.heap.size Ps w0 hw.1 p1 1 f1_10 h_p1 (rl_1.to (by decide)) r_f1_10 m_f1_10) (cwV 1 hts (gV tw_450 tw_443 tw_444 tw_2 tw_445) rfl rfl rfl (by decide +kernel) ⟨Nat.le_of_ble_eq_true rfl, Nat.le_of_ble_eq_true rfl⟩) (tg_preV hw hK hSD hA (ci := 7) (q := (RX7, TX7, 12)) rfl h_p1 rfl) rfl rfl hl.1 rfl (lv_room (Nat.le_of_ble_eq_true rfl)) dX3_beginsLine_16 ⟨Nat.le_of_ble_eq_true rfl, Nat.le_of_ble_eq_true rfl⟩) hw hA ⟨by decide, by decide⟩ (fun ws H locs hp_v_1 hw hF9 => ?_)
    obtain ⟨v_2, m_v_2, r_v_2⟩ := (hp_v_1.1)
    refine lv_goto (tgt := 92) hx hb dX3_beginsLine_19 (by decide) ?_
    refine lv_aload_n hx hb dX3_beginsLine_92 rfl (lv_at hl 1 rfl) ?_
    refine tk_vr (va_runV (As := []) (rest := []) ⟨hx, hb, hml, hown, hts⟩ (c_X7_pass__1 l D cy z H.size Ps ws hw.1 p1 v_2 h_p1 r_v_2 m_v_2) (cwV 0 hts (gV tw_451 tw_425 tw_426 tw_2 tw_427) rfl rfl rfl (by decide +kernel) ⟨Nat.le_of_ble_eq_true rfl, Nat.le_of_ble_eq_true rfl⟩) (tg_preV hw hK hSD hA (ci := 7) (q := (RX7, TX7, 12)) rfl h_p1 rfl) rfl rfl hl.1 rfl (lv_room (Nat.le_of_ble_eq_true rfl)) dX3_beginsLine_93 ⟨Nat.le_of_ble_eq_true rfl, Nat.le_of_ble_eq_true rfl⟩) hw hA (fun  H locs hp_v_3 hw => ?_)
    refine lv_aload_n hx hb dX3_beginsLine_96 rfl (lv_at hl 1 rfl) ?_
    refine tg_memN (ci := 7) (C := RX7) (T := TX7) (N := 12) hx hb hts inX7 hown hK hw 10 m_v_2 rfl (by decide) (hSD.nest tn_105) (fun _ h9 => h9) dX3_beginsLine_97 ?_
    refine lv_if_ne (tgt := 107) hx hb dX3_beginsLine_100 (by decide) (fun c_100 => ?_) (fun c_100 => ?_)
    · refine lv_iconst (v := 0) hx hb dX3_beginsLine_107 (by decide) ?_
      subst hQ
      exact W.zret (v := 0) hx hb hr (rfl) (fun t ht hW => ⟨⟨0, ws, rfl, ⟨⟨rl_0.to (by decide), (fun h0 => ⟨⟨_, m_v_2, r_v_2⟩, trivial⟩), (fun _ => trivial)⟩, hw.1, hw.2.2.2.2.1⟩, by rw [ht]; exact hw.2.1, va_K.moved hW.alike hK, hw.2.2.1⟩, hw.2.2.2.1.F ht⟩) hw.2.2.2.1.2.2 dX3_beginsLine_108
    · have r_v_2 : RI v_2 1 0 := rc_eq1 r_v_2 rl_0 (ti_eq c_100) (by decide)
      exact (r_v_2.no (by decide)).elim
  · have r_p2 : RI p2 128 127 := rc_le2 rl_128 r_p2 (ti_nlt c_4) (by decide)
    exact (r_p2.no (by decide)).elim
abbrev wr_X3_beginsLine__2 : List (Nat × Nat) := [(7, 5), (7, 6), (7, 7), (7, 8), (7, 9), (7, 10), (7, 11)]
abbrev wa_X3_beginsLine__2 : List Nat := []
set_option maxHeartbeats 4000000 in
set_option maxRecDepth 100000 in
theorem c_X3_beginsLine__2 (l : Launch) (D : va_G) (cy : Nat → ClassId) (z : Nat → Nat) (sz : Nat) (Ps : PSI) (w0 : va_W) (hT : HT cy GG Ps w0) (p0 : Nat) (p1 : Nat) (p2 : Int32) (f1_10 : Int32) (h_p0 : (p0, 25) ∈ Ps) (h_p1 : (p1, 26) ∈ Ps) (r_p2 : RI p2 128 128) (r_f1_10 : RI f1_10 0 0) (m_f1_10 : FLD w0 p1 7 10 (.int f1_10)) : Met l yX3_beginsLine (Cond.code yX3_beginsLine cX3_beginsLine 3 (some .boolean) :: gT) ({ frames := 3, cells := 0, slots := 0, locals := 600 } : Room) (va_Pc [.ref p0, .ref p1, .int p2] (PRE D cy z w0 sz)) (va_Qi (fun (r : Int32) (u : va_W) => (RI r 0 1 ∧ (r = 0 → (∃ v9 : Int32, FLD u p1 7 10 (.int v9) ∧ RI v9 1 4) ∧ True) ∧ (¬ r = 0 → (∃ v9 : Int32, FLD u p1 7 10 (.int v9) ∧ RI v9 0 0) ∧ AXC 3 1 4 (fun f => (f 0).toInt < 6) Ps u p0 ∧ True)) ∧ HT cy GG Ps u ∧ FR wr_X3_beginsLine__2 wa_X3_beginsLine__2 Ps w0 u) (BB D cy (va_A w0 sz) (fun (u : va_W) => u)) (va_A w0 sz)) 0 0 (va_A w0 sz) := by
  refine Met.ofW (cc := cX3_beginsLine) (maxL := 3) (ret := (some .boolean)) (by decide) rfl ?_
  intro p e s m args below meth c s₁ B hml hv
  obtain ⟨rfl, hsz, hP, hK, hD0, hSD⟩ := hv
  have hx := B.exec
  have hb := B.bytes
  have hr := B.returns
  have hlocks := B.notSynchronized
  have hts : ∀ w ∈ gT, w.before _ s = true := fun w h => atoms_spec (ws := Cond.code yX3_beginsLine cX3_beginsLine 3 (some .boolean) :: gT) B.pre w (List.mem_cons_of_mem _ h)
  have hown : s.vm.findClass RX3 = some m.cls := findClass_of_methodNamed B.named
  subst hsz
  have hD := hD0.self (sz := s.heap.size)
  generalize hAe : va_A w0 s.heap.size = A at hD hSD ⊢
  have hA : ∀ q : Nat, s.heap.size ≤ q → A q := fun q h => by rw [← hAe]; exact Or.inr h
  have hl := lv_entry ([.ref p0, .ref p1, .int p2]) (n := 3) (Nat.le_of_ble_eq_true rfl)
  rw [lg_entry_eq]
  generalize (lg_sl ([.ref p0, .ref p1, .int p2]) ++ List.replicate (3 - (lg_sl ([.ref p0, .ref p1, .int p2])).length) Slot.unset).toArray = ls at hl ⊢
  have hl : lv_has ls 3 [(0, .ref p0), (1, .ref p1), (2, .int p2)] := hl
  refine nameQ (fun Q hQ => ?_)
  have hw : WD D cy GG A s wr_X3_beginsLine__2 wa_X3_beginsLine__2 Ps w0 Ps w0 s.heap [] := ⟨hT, hP, hD, va_S.rf, FR.rf, hT.1, [], (List.append_nil _).symm⟩
  refine lv_iload_n hx hb dX3_beginsLine_0 rfl (lv_at hl 2 rfl) ?_
  refine lv_sipush (v := 128) hx hb dX3_beginsLine_1 (by decide) ?_
  refine lv_icmp_lt (tgt := 14) hx hb dX3_beginsLine_4 (by decide) (fun c_4 => ?_) (fun c_4 => ?_)
  · have r_p2 : RI p2 128 127 := rc_lt1 r_p2 rl_128 (ti_lt c_4) (by decide)
    exact (r_p2.no (by decide)).elim
  · refine lv_iload_n hx hb dX3_beginsLine_7 rfl (lv_at hl 2 rfl) ?_
    refine lv_sipush (v := 136) hx hb dX3_beginsLine_8 (by decide) ?_
    refine lv_icmp_le (tgt := 22) hx hb dX3_beginsLine_11 (by decide) (fun c_11 => ?_) (fun c_11 => ?_)
    · refine lv_iload_n hx hb dX3_beginsLine_22 rfl (lv_at hl 2 rfl) ?_
      refine lv_sipush (v := 131) hx hb dX3_beginsLine_23 (by decide) ?_
      refine lv_icmp_gt (tgt := 59) hx hb dX3_beginsLine_26 (by decide) (fun c_26 => ?_) (fun c_26 => ?_)
      · have r_p2 : RI p2 132 128 := rc_lt2 rl_131 r_p2 (ti_lt c_26) (by decide)
        exact (r_p2.no (by decide)).elim
      · refine lv_aload_n hx hb dX3_beginsLine_29 rfl (lv_at hl 0 rfl) ?_
        refine tg_get (ci := 3) (ts := ty_POST) (C := RX3) (T := TX3) (N := 9) hx hb hts inX3 hown hK hw h_p0 rfl rfl 1 (by decide) (hts _ tw_201) (fun _ h9 => h9) (ft := vR 4) rfl dX3_beginsLine_30 (fun u_1 hv_u_1 m_u_1 => ?_)
        obtain ⟨vu_1, rfl, h_vu_1⟩ := hv_u_1
        refine lv_iload_n hx hb dX3_beginsLine_33 rfl (lv_at hl 2 rfl) ?_
        refine lv_sipush (v := 128) hx hb dX3_beginsLine_34 (by decide) ?_
        refine lv_isub hx hb dX3_beginsLine_37 (lv_topi (fun v_2 e_v_2 => ?_))
        obtain ⟨t_v_2, r_v_2⟩ := tq_sub (lo := 0) (hi := 0) r_p2 rl_128 (by decide +kernel) e_v_2
        have t_v_2 : v_2.toInt = p2.toInt - 128 := t_v_2
        refine tg_iald (lo := 0) (hi := 6) hx hb hK hw h_vu_1 rfl 0 0 r_v_2 (by decide) (by decide +kernel) dX3_beginsLine_38 (fun v_3 r_v_3 m_v_3 o_v_3 => ?_)
        refine va_gets (v := .ref (z 0)) hx hb hSD.2.2.2.1 hw.2.2.2.1 hown (hts _ tw_198) (fun _ h9 => h9) dX3_beginsLine_39 ?_
        refine lv_iload_n hx hb dX3_beginsLine_42 rfl (lv_at hl 2 rfl) ?_
        refine lv_sipush (v := 128) hx hb dX3_beginsLine_43 (by decide) ?_
        refine lv_isub hx hb dX3_beginsLine_46 (lv_topi (fun v_4 e_v_4 => ?_))
        obtain ⟨t_v_4, r_v_4⟩ := tq_sub (lo := 0) (hi := 0) r_p2 rl_128 (by decide +kernel) e_v_4
        have t_v_4 : v_4.toInt = p2.toInt - 128 := t_v_4
        refine tz_mk 0 6 hx hb hSD.2.2.2.2.1 hw.2.2.2.1 r_v_4 (by decide) rfl dX3_beginsLine_47 (fun v_5 e_v_5 => ?_)
        have r_v_5 : RI v_5 6 6 := by rw [e_v_5]; exact rl_6
        refine lv_icmp_lt (tgt := 59) hx hb dX3_beginsLine_48 (by decide) (fun c_48 => ?_) (fun c_48 => ?_)
        · have r_v_3 : RI v_3 0 5 := rc_lt1 r_v_3 r_v_5 (ti_lt c_48) (by decide)
          have x_MLT_p0_0 : AXC 3 1 4 (fun f => (f 0).toInt < 6) Ps w0 p0 := AXC.mk hw h_vu_1 rfl m_u_1 (fun f9 g9 => by have e9 := g9 _ _ m_v_3; have j9 : Int32.toNatClampNeg v_2 = 0 := (by have k1 := r_v_2.cl (by decide); have k2 := r_v_2.eq; omega); rw [j9] at e9; show _ < _; rw [e9]; have k3 := r_v_3.2; omega)
          refine lv_iload_n hx hb dX3_beginsLine_59 rfl (lv_at hl 2 rfl) ?_
          refine lv_sipush (v := 135) hx hb dX3_beginsLine_60 (by decide) ?_
          refine lv_icmp_ne (tgt := 73) hx hb dX3_beginsLine_63 (by decide) (fun c_63 => ?_) (fun c_63 => ?_)
          · refine lv_iload_n hx hb dX3_beginsLine_73 rfl (lv_at hl 2 rfl) ?_
            refine lv_sipush (v := 136) hx hb dX3_beginsLine_74 (by decide) ?_
            refine lv_icmp_ne (tgt := 92) hx hb dX3_beginsLine_77 (by decide) (fun c_77 => ?_) (fun c_77 => ?_)
            · refine lv_aload_n hx hb dX3_beginsLine_92 rfl (lv_at hl 1 rfl) ?_
              have hw8 := hw
              refine tk_v (va_runV (As := []) (rest := []) ⟨hx, hb, hml, hown, hts⟩ (c_X7_pass__3 l D cy z s.heap.size Ps w0 hw.1 p1 f1_10 h_p1 r_f1_10 m_f1_10) (cwV 0 hts (gV tw_451 tw_425 tw_426 tw_2 tw_427) rfl rfl rfl (by decide +kernel) ⟨Nat.le_of_ble_eq_true rfl, Nat.le_of_ble_eq_true rfl⟩) (tg_preV hw hK hSD hA (ci := 7) (q := (RX7, TX7, 12)) rfl h_p1 rfl) rfl rfl hl.1 rfl (lv_room (Nat.le_of_ble_eq_true rfl)) dX3_beginsLine_93 ⟨Nat.le_of_ble_eq_true rfl, Nat.le_of_ble_eq_true rfl⟩) hw hA ⟨by decide, by decide⟩ (fun ws H locs hp_v_6 hw hF9 => ?_)
              have m_v_3 := AEL.over hw8 hF9 h_vu_1 m_v_3 (by decide)
              have m_f1_10 := FLD.over hF9 m_f1_10 (by decide)
              have m_u_1 := FLD.over hF9 m_u_1 (by decide)
              have x_MLT_p0_0 := AXC.over hF9 x_MLT_p0_0 (by decide)
              obtain ⟨v_7, m_v_7, r_v_7⟩ := (hp_v_6.1)
              refine lv_aload_n hx hb dX3_beginsLine_96 rfl (lv_at hl 1 rfl) ?_
              refine tg_memN (ci := 7) (C := RX7) (T := TX7) (N := 12) hx hb hts inX7 hown hK hw 10 m_v_7 rfl (by decide) (hSD.nest tn_105) (fun _ h9 => h9) dX3_beginsLine_97 ?_
              refine lv_if_ne (tgt := 107) hx hb dX3_beginsLine_100 (by decide) (fun c_100 => ?_) (fun c_100 => ?_)
              · exact absurd (r_v_7.eq.trans rl_0.eq.symm) ((ti_ne c_100))
              · refine lv_iconst (v := 1) hx hb dX3_beginsLine_103 (by decide) ?_
                refine lv_goto (tgt := 108) hx hb dX3_beginsLine_104 (by decide) ?_
                subst hQ
                exact W.zret (v := 1) hx hb hr (rfl) (fun t ht hW => ⟨⟨1, ws, rfl, ⟨⟨rl_1.to (by decide), (fun h0 => absurd h0 (by decide)), (fun h0 => ⟨⟨_, m_v_7, r_v_7⟩, x_MLT_p0_0, trivial⟩)⟩, hw.1, hw.2.2.2.2.1⟩, by rw [ht]; exact hw.2.1, va_K.moved hW.alike hK, hw.2.2.1⟩, hw.2.2.2.1.F ht⟩) hw.2.2.2.1.2.2 dX3_beginsLine_108
            · have r_p2 : RI p2 136 128 := rc_eq1 r_p2 rl_136 (ti_eq c_77) (by decide)
              exact (r_p2.no (by decide)).elim
          · have r_p2 : RI p2 135 128 := rc_eq1 r_p2 rl_135 (ti_eq c_63) (by decide)
            exact (r_p2.no (by decide)).elim
        · have r_v_3 : RI v_3 6 6 := rc_le2 r_v_5 r_v_3 (ti_nlt c_48) (by decide)
          refine lv_aload_n hx hb dX3_beginsLine_51 rfl (lv_at hl 1 rfl) ?_
          refine lv_iconst (v := 4) hx hb dX3_beginsLine_52 (by decide) ?_
          have hw8 := hw
          refine tk_v (va_runV (As := [.int 4]) (rest := []) ⟨hx, hb, hml, hown, hts⟩ (c_X7_refuse__3 l D cy z s.heap.size Ps w0 hw.1 p1 4 f1_10 h_p1 (rl_4.to (by decide)) r_f1_10 m_f1_10) (cwV 1 hts (gV tw_450 tw_443 tw_444 tw_2 tw_445) rfl rfl rfl (by decide +kernel) ⟨Nat.le_of_ble_eq_true rfl, Nat.le_of_ble_eq_true rfl⟩) (tg_preV hw hK hSD hA (ci := 7) (q := (RX7, TX7, 12)) rfl h_p1 rfl) rfl rfl hl.1 rfl (lv_room (Nat.le_of_ble_eq_true rfl)) dX3_beginsLine_53 ⟨Nat.le_of_ble_eq_true rfl, Nat.le_of_ble_eq_true rfl⟩) hw hA ⟨by decide, by decide⟩ (fun ws H locs hp_v_8 hw hF9 => ?_)
          have m_v_3 := AEL.over hw8 hF9 h_vu_1 m_v_3 (by decide)
          have m_u_1 := FLD.over hF9 m_u_1 (by decide)
          obtain ⟨v_9, m_v_9, r_v_9⟩ := (hp_v_8.1)
          refine lv_goto (tgt := 92) hx hb dX3_beginsLine_56 (by decide) ?_
          refine lv_aload_n hx hb dX3_beginsLine_92 rfl (lv_at hl 1 rfl) ?_
          refine tk_vr (va_runV (As := []) (rest := []) ⟨hx, hb, hml, hown, hts⟩ (c_X7_pass__1 l D cy z H.size Ps ws hw.1 p1 v_9 h_p1 r_v_9 m_v_9) (cwV 0 hts (gV tw_451 tw_425 tw_426 tw_2 tw_427) rfl rfl rfl (by decide +kernel) ⟨Nat.le_of_ble_eq_true rfl, Nat.le_of_ble_eq_true rfl⟩) (tg_preV hw hK hSD hA (ci := 7) (q := (RX7, TX7, 12)) rfl h_p1 rfl) rfl rfl hl.1 rfl (lv_room (Nat.le_of_ble_eq_true rfl)) dX3_beginsLine_93 ⟨Nat.le_of_ble_eq_true rfl, Nat.le_of_ble_eq_true rfl⟩) hw hA (fun  H locs hp_v_10 hw => ?_)
          refine lv_aload_n hx hb dX3_beginsLine_96 rfl (lv_at hl 1 rfl) ?_
          refine tg_memN (ci := 7) (C := RX7) (T := TX7) (N := 12) hx hb hts inX7 hown hK hw 10 m_v_9 rfl (by decide) (hSD.nest tn_105) (fun _ h9 => h9) dX3_beginsLine_97 ?_
          refine lv_if_ne (tgt := 107) hx hb dX3_beginsLine_100 (by decide) (fun c_100 => ?_) (fun c_100 => ?_)
          · refine lv_iconst (v := 0) hx hb dX3_beginsLine_107 (by decide) ?_
            subst hQ
            exact W.zret (v := 0) hx hb hr (rfl) (fun t ht hW => ⟨⟨0, ws, rfl, ⟨⟨rl_0.to (by decide), (fun h0 => ⟨⟨_, m_v_9, r_v_9⟩, trivial⟩), (fun h0 => absurd rfl h0)⟩, hw.1, hw.2.2.2.2.1⟩, by rw [ht]; exact hw.2.1, va_K.moved hW.alike hK, hw.2.2.1⟩, hw.2.2.2.1.F ht⟩) hw.2.2.2.1.2.2 dX3_beginsLine_108
          · have r_v_9 : RI v_9 1 0 := rc_eq1 r_v_9 rl_0 (ti_eq c_100) (by decide)
            exact (r_v_9.no (by decide)).elim
    · have r_p2 : RI p2 137 128 := rc_lt2 rl_136 r_p2 (ti_nle c_11) (by decide)
      exact (r_p2.no (by decide)).elim
abbrev wr_X3_tellName : List (Nat × Nat) := [(7, 5), (7, 6), (7, 7), (7, 8), (7, 9), (7, 10), (7, 11)]
abbrev wa_X3_tellName : List Nat := [1, 4]
set_option maxHeartbeats 4000000 in
set_option maxRecDepth 100000 in
theorem c_X3_tellName (l : Launch) (D : va_G) (cy : Nat → ClassId) (z : Nat → Nat) (sz : Nat) (Ps : PSI) (w0 : va_W) (hT : HT cy GG Ps w0) (p0 : Nat) (p1 : Nat) (p2 : Int32) (h_p0 : (p0, 25) ∈ Ps) (h_p1 : (p1, 26) ∈ Ps) (r_p2 : RI p2 0 0) (x_MLT_p0_0 : AXC 3 1 4 (fun f => (f 0).toInt < 6) Ps w0 p0) : Met l yX3_tellName (Cond.code yX3_tellName cX3_tellName 4 (some .int) :: gT) ({ frames := 3, cells := 0, slots := 0, locals := 600 } : Room) (va_Pc [.ref p0, .ref p1, .int p2] (PRE D cy z w0 sz)) (va_Qi (fun (r : Int32) (u : va_W) => (RI r (-1) 5 ∧ (r = 0 → (∃ v9 : Int32, FLD u p1 7 10 (.int v9) ∧ RI v9 0 0) ∧ True) ∧ (¬ r = 0 → True)) ∧ HT cy GG Ps u ∧ FR wr_X3_tellName wa_X3_tellName Ps w0 u) (BB D cy (va_A w0 sz) (fun (u : va_W) => u)) (va_A w0 sz)) 0 0 (va_A w0 sz) := by
  refine Met.ofW (cc := cX3_tellName) (maxL := 4) (ret := (some .int)) (by decide) rfl ?_
  intro p e s m args below meth c s₁ B hml hv
  obtain ⟨rfl, hsz, hP, hK, hD0, hSD⟩ := hv
  have hx := B.exec
  have hb := B.bytes
  have hr := B.returns
  have hlocks := B.notSynchronized
  have hts : ∀ w ∈ gT, w.before _ s = true := fun w h => atoms_spec (ws := Cond.code yX3_tellName cX3_tellName 4 (some .int) :: gT) B.pre w (List.mem_cons_of_mem _ h)
  have hown : s.vm.findClass RX3 = some m.cls := findClass_of_methodNamed B.named
  subst hsz
  have hD := hD0.self (sz := s.heap.size)
  generalize hAe : va_A w0 s.heap.size = A at hD hSD ⊢
  have hA : ∀ q : Nat, s.heap.size ≤ q → A q := fun q h => by rw [← hAe]; exact Or.inr h
  have hl := lv_entry ([.ref p0, .ref p1, .int p2]) (n := 4) (Nat.le_of_ble_eq_true rfl)
  rw [lg_entry_eq]
  generalize (lg_sl ([.ref p0, .ref p1, .int p2]) ++ List.replicate (4 - (lg_sl ([.ref p0, .ref p1, .int p2])).length) Slot.unset).toArray = ls at hl ⊢
  have hl : lv_has ls 4 [(0, .ref p0), (1, .ref p1), (2, .int p2)] := hl
  refine nameQ (fun Q hQ => ?_)
  have hw : WD D cy GG A s wr_X3_tellName wa_X3_tellName Ps w0 Ps w0 s.heap [] := ⟨hT, hP, hD, va_S.rf, FR.rf, hT.1, [], (List.append_nil _).symm⟩
  have B32 : ∀ (ws : va_W) (H : Heap) (locs : List Loc) (ls : Array Slot), RI p2 0 0 → AXC 3 1 4 (fun f => (f 0).toInt < 6) Ps ws p0 → WD D cy GG A s wr_X3_tellName wa_X3_tellName Ps w0 Ps ws H locs → lv_has ls 4 [(0, .ref p0), (1, .ref p1), (2, .int p2)] → W p l e (headSpec (Cond.code yX3_tellName cX3_tellName 4 (some .int) :: gT) ({ frames := 3, cells := 0, slots := 0, locals := 600 } : Room)).room s m ([.ref p0, .ref p1, .int p2] : List Value).toArray below meth c H locs 0 0 Q (F0 m 32 ls []) := by
    intro  ws H locs ls r_p2 x_MLT_p0_0 hw hl
    refine lv_aload_n hx hb dX3_tellName_32 rfl (lv_at hl 1 rfl) ?_
    refine tg_getN (ci := 7) (ts := ty_TAPE) (C := RX7) (T := TX7) (N := 12) hx hb hts inX7 hown hK hw h_p1 rfl rfl 10 (by decide) (hSD.nest tn_105) (fun _ h9 => h9) (ft := vI 0 4) rfl dX3_tellName_33 (fun u_1 hv_u_1 m_u_1 => ?_)
    obtain ⟨vu_1, rfl, r_vu_1⟩ := hv_u_1
    refine lv_if_eq (tgt := 41) hx hb dX3_tellName_36 (by decide) (fun c_36 => ?_) (fun c_36 => ?_)
    · have r_vu_1 : RI vu_1 0 0 := rc_eq1 r_vu_1 rl_0 (ti_eq c_36) (by decide)
      refine lv_aload_n hx hb dX3_tellName_41 rfl (lv_at hl 0 rfl) ?_
      refine tg_get (ci := 3) (ts := ty_POST) (C := RX3) (T := TX3) (N := 9) hx hb hts inX3 hown hK hw h_p0 rfl rfl 1 (by decide) (hts _ tw_201) (fun _ h9 => h9) (ft := vR 4) rfl dX3_tellName_42 (fun u_2 hv_u_2 m_u_2 => ?_)
      obtain ⟨vu_2, rfl, h_vu_2⟩ := hv_u_2
      refine lv_iload_n hx hb dX3_tellName_45 rfl (lv_at hl 2 rfl) ?_
      refine tg_iald (lo := 0) (hi := 6) hx hb hK hw h_vu_2 rfl 0 0 r_p2 (by decide) (by decide +kernel) dX3_tellName_46 (fun v_3 r_v_3 m_v_3 o_v_3 => ?_)
      have r_v_3 : RI v_3 0 5 := ⟨r_v_3.1, by obtain ⟨f9, q9, e9⟩ := AXC.use hw x_MLT_p0_0 m_u_2 m_v_3; have j9 : Int32.toNatClampNeg p2 = 0 := (by have k1 := r_p2.cl (by decide); have k2 := r_p2.eq; omega); rw [j9] at e9; have q8 : (f9 0).toInt < 6 := q9; rw [e9] at q8; omega⟩
      refine lv_istore_n (lv' := [(3, .int v_3), (0, .ref p0), (1, .ref p1), (2, .int p2)]) hx hb dX3_tellName_47 rfl hl (by decide) rfl (fun ls hl => ?_)
      refine lv_aload_n hx hb dX3_tellName_48 rfl (lv_at hl 1 rfl) ?_
      refine tg_get (ci := 3) (ts := ty_POST) (C := RX3) (T := TX3) (N := 9) hx hb hts inX3 hown hK hw h_p0 rfl rfl 0 (by decide) (hts _ tw_200) (fun _ h9 => h9) (ft := vR 1) rfl dX3_tellName_49 (fun u_4 hv_u_4 m_u_4 => ?_)
      obtain ⟨vu_4, rfl, h_vu_4⟩ := hv_u_4
      refine lv_iload_n hx hb dX3_tellName_52 rfl (lv_at hl 3 rfl) ?_
      refine lv_bipush (v := 8) hx hb dX3_tellName_53 (by decide) ?_
      refine lv_imul hx hb dX3_tellName_55 (lv_topi (fun v_5 e_v_5 => ?_))
      obtain ⟨t_v_5, r_v_5⟩ := tq_mul (lo := 0) (hi := 0) r_p2 rl_8 (by decide +kernel) e_v_5
      have t_v_5 : v_5.toInt = p2.toInt * 8 := t_v_5
      refine lv_iload_n hx hb dX3_tellName_56 rfl (lv_at hl 0 rfl) ?_
      refine lv_iadd hx hb dX3_tellName_57 (lv_topi (fun v_6 e_v_6 => ?_))
      obtain ⟨t_v_6, r_v_6⟩ := tq_add (lo := 0) (hi := 5) r_v_5 r_v_3 (by decide +kernel) e_v_6
      refine lv_aload_n hx hb dX3_tellName_58 rfl (lv_at hl 2 rfl) ?_
      refine tg_getN (ci := 7) (ts := ty_TAPE) (C := RX7) (T := TX7) (N := 12) hx hb hts inX7 hown hK hw h_p1 rfl rfl 8 (by decide) (hSD.nest tn_99) (fun _ h9 => h9) (ft := vJ (-9223372036854775808) 9223372036854775807) rfl dX3_tellName_59 (fun u_7 hv_u_7 m_u_7 => ?_)
      obtain ⟨vu_7, rfl, r_vu_7⟩ := hv_u_7
      refine tg_last hx hb hK hw h_vu_4 rfl r_v_6 (by decide) r_vu_7 (by decide) (by decide) dX3_tellName_62 (fun ws H locs hw hF9 => ?_)
      have x_MLT_p0_0 := AXC.over hF9 x_MLT_p0_0 (by decide)
      have m_u_1 := FLD.over hF9 m_u_1 (by decide)
      have m_u_2 := FLD.over hF9 m_u_2 (by decide)
      have m_u_4 := FLD.over hF9 m_u_4 (by decide)
      have m_u_7 := FLD.over hF9 m_u_7 (by decide)
      refine lv_aload_n hx hb dX3_tellName_63 rfl (lv_at hl 1 rfl) ?_
      refine tg_mem (ci := 3) (C := RX3) (T := TX3) (N := 9) hx hb hts inX3 hown hK hw 1 m_u_2 rfl (by decide) (hts _ tw_201) (fun _ h9 => h9) dX3_tellName_64 ?_
      refine lv_iload_n hx hb dX3_tellName_67 rfl (lv_at hl 3 rfl) ?_
      refine lv_iload_n hx hb dX3_tellName_68 rfl (lv_at hl 0 rfl) ?_
      refine lv_iconst (v := 1) hx hb dX3_tellName_69 (by decide) ?_
      refine lv_iadd hx hb dX3_tellName_70 (lv_topi (fun v_8 e_v_8 => ?_))
      obtain ⟨t_v_8, r_v_8⟩ := tq_add (lo := 1) (hi := 6) r_v_3 rl_1 (by decide +kernel) e_v_8
      have t_v_8 : v_8.toInt = v_3.toInt + 1 := t_v_8
      refine tg_iast hx hb hK hw h_vu_2 rfl 0 0 r_p2 (by decide) r_v_8 (by decide +kernel) (fun _ _ _ _ _ => trivial) (by decide) dX3_tellName_71 (fun ws H locs hw hF9 hU9 => ?_)
      have m_u_1 := FLD.over hF9 m_u_1 (by decide)
      have m_u_2 := FLD.over hF9 m_u_2 (by decide)
      have m_u_4 := FLD.over hF9 m_u_4 (by decide)
      have m_u_7 := FLD.over hF9 m_u_7 (by decide)
      refine lv_aload_n hx hb dX3_tellName_72 rfl (lv_at hl 2 rfl) ?_
      refine tk_v (va_runV (As := []) (rest := []) ⟨hx, hb, hml, hown, hts⟩ (c_X7_pass__3 l D cy z H.size Ps ws hw.1 p1 vu_1 h_p1 r_vu_1 m_u_1) (cwV 0 hts (gV tw_451 tw_425 tw_426 tw_2 tw_427) rfl rfl rfl (by decide +kernel) ⟨Nat.le_of_ble_eq_true rfl, Nat.le_of_ble_eq_true rfl⟩) (tg_preV hw hK hSD hA (ci := 7) (q := (RX7, TX7, 12)) rfl h_p1 rfl) rfl rfl hl.1 rfl (lv_room (Nat.le_of_ble_eq_true rfl)) dX3_tellName_73 ⟨Nat.le_of_ble_eq_true rfl, Nat.le_of_ble_eq_true rfl⟩) hw hA ⟨by decide, by decide⟩ (fun ws H locs hp_v_9 hw hF9 => ?_)
      have m_u_1 := FLD.over hF9 m_u_1 (by decide)
      have m_u_2 := FLD.over hF9 m_u_2 (by decide)
      have m_u_4 := FLD.over hF9 m_u_4 (by decide)
      obtain ⟨v_10, m_v_10, r_v_10⟩ := (hp_v_9.1)
      refine lv_iload_n hx hb dX3_tellName_76 rfl (lv_at hl 0 rfl) ?_
      subst hQ
      exact W.iret (v := v_3) hx hb hr (fun t ht hW => ⟨⟨v_3, ws, rfl, ⟨⟨r_v_3.to (by decide), (fun h0 => ⟨⟨_, m_v_10, r_v_10⟩, trivial⟩), (fun h0 => trivial)⟩, hw.1, hw.2.2.2.2.1⟩, by rw [ht]; exact hw.2.1, va_K.moved hW.alike hK, hw.2.2.1⟩, hw.2.2.2.1.F ht⟩) hw.2.2.2.1.2.2 dX3_tellName_77
    · have r_vu_1 : RI vu_1 1 4 := rc_neL r_vu_1 rl_0 (ti_ne c_36) (by decide)
      refine lv_iconst (v := (-1)) hx hb dX3_tellName_39 (by decide) ?_
      subst hQ
      exact W.iret (v := (-1)) hx hb hr (fun t ht hW => ⟨⟨(-1), ws, rfl, ⟨⟨rl_m1.to (by decide), (fun h0 => absurd h0 (by decide)), (fun h0 => trivial)⟩, hw.1, hw.2.2.2.2.1⟩, by rw [ht]; exact hw.2.1, va_K.moved hW.alike hK, hw.2.2.1⟩, hw.2.2.2.1.F ht⟩) hw.2.2.2.1.2.2 dX3_tellName_40
  refine lv_aload_n hx hb dX3_tellName_0 rfl (lv_at hl 1 rfl) ?_
  refine tg_getN (ci := 7) (ts := ty_TAPE) (C := RX7) (T := TX7) (N := 12) hx hb hts inX7 hown hK hw h_p1 rfl rfl 7 (by decide) (hSD.nest tn_97) (fun _ h9 => h9) (ft := vI (-2147483648) 2147483647) rfl dX3_tellName_1 (fun u_11 hv_u_11 m_u_11 => ?_)
  obtain ⟨vu_11, rfl, r_vu_11⟩ := hv_u_11
  refine lv_iconst (v := 2) hx hb dX3_tellName_4 (by decide) ?_
  refine lv_icmp_eq (tgt := 16) hx hb dX3_tellName_5 (by decide) (fun c_5 => ?_) (fun c_5 => ?_)
  · have r_vu_11 : RI vu_11 2 2 := rc_eq1 r_vu_11 rl_2 (ti_eq c_5) (by decide)
    refine lv_aload_n hx hb dX3_tellName_16 rfl (lv_at hl 0 rfl) ?_
    refine lv_aload_n hx hb dX3_tellName_17 rfl (lv_at hl 1 rfl) ?_
    refine tg_getN (ci := 7) (ts := ty_TAPE) (C := RX7) (T := TX7) (N := 12) hx hb hts inX7 hown hK hw h_p1 rfl rfl 8 (by decide) (hSD.nest tn_99) (fun _ h9 => h9) (ft := vJ (-9223372036854775808) 9223372036854775807) rfl dX3_tellName_18 (fun u_12 hv_u_12 m_u_12 => ?_)
    obtain ⟨vu_12, rfl, r_vu_12⟩ := hv_u_12
    refine tk_ir (va_runV (As := [.long vu_12]) (rest := []) ⟨hx, hb, hml, hown, hts⟩ (c_X3_isTold l D cy z s.heap.size Ps w0 hw.1 p0 vu_12 h_p0 r_vu_12) (cwV 1 hts (gV tw_507 tw_509 ts_8 tw_11 tw_510) rfl rfl rfl (by decide +kernel) ⟨Nat.le_of_ble_eq_true rfl, Nat.le_of_ble_eq_true rfl⟩) (tg_preV hw hK hSD hA (ci := 3) (q := (RX3, TX3, 9)) rfl h_p0 rfl) rfl rfl hl.1 rfl (lv_room (Nat.le_of_ble_eq_true rfl)) dX3_tellName_21 ⟨Nat.le_of_ble_eq_true rfl, Nat.le_of_ble_eq_true rfl⟩) hw hA (fun v_13  H locs hp_v_13 hw => ?_)
    have r_v_13 : RI v_13 0 1 := hp_v_13.1
    refine lv_if_eq (tgt := 32) hx hb dX3_tellName_24 (by decide) (fun c_24 => ?_) (fun c_24 => ?_)
    · have r_v_13 : RI v_13 0 0 := rc_eq1 r_v_13 rl_0 (ti_eq c_24) (by decide)
      exact B32  w0 _ _ ls r_p2 x_MLT_p0_0 hw hl
    · have r_v_13 : RI v_13 1 1 := rc_neL r_v_13 rl_0 (ti_ne c_24) (by decide)
      refine lv_aload_n hx hb dX3_tellName_27 rfl (lv_at hl 1 rfl) ?_
      refine lv_iconst (v := 3) hx hb dX3_tellName_28 (by decide) ?_
      refine tk_v (va_runV (As := [.int 3]) (rest := []) ⟨hx, hb, hml, hown, hts⟩ (c_X7_refuse__2 l D cy z H.size Ps w0 hw.1 p1 3 h_p1 (rl_3.to (by decide))) (cwV 1 hts (gV tw_450 tw_443 tw_444 tw_2 tw_445) rfl rfl rfl (by decide +kernel) ⟨Nat.le_of_ble_eq_true rfl, Nat.le_of_ble_eq_true rfl⟩) (tg_preV hw hK hSD hA (ci := 7) (q := (RX7, TX7, 12)) rfl h_p1 rfl) rfl rfl hl.1 rfl (lv_room (Nat.le_of_ble_eq_true rfl)) dX3_tellName_29 ⟨Nat.le_of_ble_eq_true rfl, Nat.le_of_ble_eq_true rfl⟩) hw hA ⟨by decide, by decide⟩ (fun ws H locs hp_v_14 hw hF9 => ?_)
      have m_u_11 := FLD.over hF9 m_u_11 (by decide)
      have m_u_12 := FLD.over hF9 m_u_12 (by decide)
      have x_MLT_p0_0 := AXC.over hF9 x_MLT_p0_0 (by decide)
      obtain ⟨v_15, m_v_15, r_v_15⟩ := (hp_v_14.1)
      exact B32  ws _ _ ls r_p2 x_MLT_p0_0 hw hl
  · refine lv_aload_n hx hb dX3_tellName_8 rfl (lv_at hl 1 rfl) ?_
    refine lv_iconst (v := 1) hx hb dX3_tellName_9 (by decide) ?_
    refine tk_v (va_runV (As := [.int 1]) (rest := []) ⟨hx, hb, hml, hown, hts⟩ (c_X7_refuse__2 l D cy z s.heap.size Ps w0 hw.1 p1 1 h_p1 (rl_1.to (by decide))) (cwV 1 hts (gV tw_450 tw_443 tw_444 tw_2 tw_445) rfl rfl rfl (by decide +kernel) ⟨Nat.le_of_ble_eq_true rfl, Nat.le_of_ble_eq_true rfl⟩) (tg_preV hw hK hSD hA (ci := 7) (q := (RX7, TX7, 12)) rfl h_p1 rfl) rfl rfl hl.1 rfl (lv_room (Nat.le_of_ble_eq_true rfl)) dX3_tellName_10 ⟨Nat.le_of_ble_eq_true rfl, Nat.le_of_ble_eq_true rfl⟩) hw hA ⟨by decide, by decide⟩ (fun ws H locs hp_v_16 hw hF9 => ?_)
    have m_u_11 := FLD.over hF9 m_u_11 (by decide)
    have x_MLT_p0_0 := AXC.over hF9 x_MLT_p0_0 (by decide)
    obtain ⟨v_17, m_v_17, r_v_17⟩ := (hp_v_16.1)
    refine lv_goto (tgt := 32) hx hb dX3_tellName_13 (by decide) ?_
    exact B32  ws _ _ ls r_p2 x_MLT_p0_0 hw hl
abbrev wr_X7_takeNumber__2 : List (Nat × Nat) := [(7, 5), (7, 6), (7, 7), (7, 8), (7, 9), (7, 10), (7, 11)]
abbrev wa_X7_takeNumber__2 : List Nat := []
set_option maxHeartbeats 4000000 in
set_option maxRecDepth 100000 in
theorem c_X7_takeNumber__2 (l : Launch) (D : va_G) (cy : Nat → ClassId) (z : Nat → Nat) (sz : Nat) (Ps : PSI) (w0 : va_W) (hT : HT cy GG Ps w0) (p0 : Nat) (p1 : Int32) (p2 : Int32) (f0_10 : Int32) (h_p0 : (p0, 26) ∈ Ps) (r_p1 : RI p1 (-2147483648) 2147483647) (r_p2 : RI p2 (-2147483648) 2147483647) (r_f0_10 : RI f0_10 0 0) (m_f0_10 : FLD w0 p0 7 10 (.int f0_10)) : Met l yX7_takeNumber (Cond.code yX7_takeNumber cX7_takeNumber 4 (some .int) :: gT) ({ frames := 3, cells := 0, slots := 0, locals := 600 } : Room) (va_Pc [.ref p0, .int p1, .int p2] (PRE D cy z w0 sz)) (va_Qi (fun (r : Int32) (u : va_W) => (RI r (-2147483648) 2147483647 ∧ (r = 0 → True) ∧ (¬ r = 0 → True)) ∧ HT cy GG Ps u ∧ FR wr_X7_takeNumber__2 wa_X7_takeNumber__2 Ps w0 u) (BB D cy (va_A w0 sz) (fun (u : va_W) => u)) (va_A w0 sz)) 0 0 (va_A w0 sz) := by
  refine Met.ofW (cc := cX7_takeNumber) (maxL := 4) (ret := (some .int)) (by decide) rfl ?_
  intro p e s m args below meth c s₁ B hml hv
  obtain ⟨rfl, hsz, hP, hK, hD0, hSD⟩ := hv
  have hx := B.exec
  have hb := B.bytes
  have hr := B.returns
  have hlocks := B.notSynchronized
  have hts : ∀ w ∈ gT, w.before _ s = true := fun w h => atoms_spec (ws := Cond.code yX7_takeNumber cX7_takeNumber 4 (some .int) :: gT) B.pre w (List.mem_cons_of_mem _ h)
  have hown : s.vm.findClass RX7 = some m.cls := findClass_of_methodNamed B.named
  subst hsz
  have hD := hD0.self (sz := s.heap.size)
  generalize hAe : va_A w0 s.heap.size = A at hD hSD ⊢
  have hA : ∀ q : Nat, s.heap.size ≤ q → A q := fun q h => by rw [← hAe]; exact Or.inr h
  have hl := lv_entry ([.ref p0, .int p1, .int p2]) (n := 4) (Nat.le_of_ble_eq_true rfl)
  rw [lg_entry_eq]
  generalize (lg_sl ([.ref p0, .int p1, .int p2]) ++ List.replicate (4 - (lg_sl ([.ref p0, .int p1, .int p2])).length) Slot.unset).toArray = ls at hl ⊢
  have hl : lv_has ls 4 [(0, .ref p0), (1, .int p1), (2, .int p2)] := hl
  refine nameQ (fun Q hQ => ?_)
  have hw : WD D cy GG A s wr_X7_takeNumber__2 wa_X7_takeNumber__2 Ps w0 Ps w0 s.heap [] := ⟨hT, hP, hD, va_S.rf, FR.rf, hT.1, [], (List.append_nil _).symm⟩
  have B36 : ∀ (x3 : Int32) (ws : va_W) (H : Heap) (locs : List Loc) (ls : Array Slot), RI p1 (-2147483648) 2147483647 → RI p2 (-2147483648) 2147483647 → RI x3 (-2147483648) 2147483647 → WD D cy GG A s wr_X7_takeNumber__2 wa_X7_takeNumber__2 Ps w0 Ps ws H locs → lv_has ls 4 [(0, .ref p0), (1, .int p1), (2, .int p2), (3, .int x3)] → W p l e (headSpec (Cond.code yX7_takeNumber cX7_takeNumber 4 (some .int) :: gT) ({ frames := 3, cells := 0, slots := 0, locals := 600 } : Room)).room s m ([.ref p0, .int p1, .int p2] : List Value).toArray below meth c H locs 0 0 Q (F0 m 36 ls []) := by
    intro x3 ws H locs ls r_p1 r_p2 r_x3 hw hl
    refine lv_aload_n hx hb dX7_takeNumber_36 rfl (lv_at hl 0 rfl) ?_
    refine tk_v (va_runV (As := []) (rest := []) ⟨hx, hb, hml, hown, hts⟩ (c_X7_pass__2 l D cy z H.size Ps ws hw.1 p0 h_p0) (cwV 0 hts (gV tw_424 tw_425 tw_426 tw_2 tw_427) rfl rfl rfl (by decide +kernel) ⟨Nat.le_of_ble_eq_true rfl, Nat.le_of_ble_eq_true rfl⟩) (tg_preV hw hK hSD hA (ci := 7) (q := (RX7, TX7, 12)) rfl h_p0 rfl) rfl rfl hl.1 rfl (lv_room (Nat.le_of_ble_eq_true rfl)) dX7_takeNumber_37 ⟨Nat.le_of_ble_eq_true rfl, Nat.le_of_ble_eq_true rfl⟩) hw hA ⟨by decide, by decide⟩ (fun ws H locs hp_v_1 hw hF9 => ?_)
    refine lv_iload_n hx hb dX7_takeNumber_40 rfl (lv_at hl 3 rfl) ?_
    subst hQ
    exact W.iret (v := x3) hx hb hr (fun t ht hW => ⟨⟨x3, ws, rfl, ⟨⟨r_x3.to (by decide), (fun h0 => trivial), (fun h0 => trivial)⟩, hw.1, hw.2.2.2.2.1⟩, by rw [ht]; exact hw.2.1, va_K.moved hW.alike hK, hw.2.2.1⟩, hw.2.2.2.1.F ht⟩) hw.2.2.2.1.2.2 dX7_takeNumber_41
  have B31 : ∀ (x3 : Int32) (z0_7 : Int32) (z0_10 : Int32) (ws : va_W) (H : Heap) (locs : List Loc) (ls : Array Slot), RI p1 (-2147483648) 2147483647 → RI p2 (-2147483648) 2147483647 → RI x3 (-2147483648) 2147483647 → RI z0_7 3 3 → FLD ws p0 7 7 (.int z0_7) → RI z0_10 0 0 → FLD ws p0 7 10 (.int z0_10) → WD D cy GG A s wr_X7_takeNumber__2 wa_X7_takeNumber__2 Ps w0 Ps ws H locs → lv_has ls 4 [(0, .ref p0), (1, .int p1), (2, .int p2), (3, .int x3)] → W p l e (headSpec (Cond.code yX7_takeNumber cX7_takeNumber 4 (some .int) :: gT) ({ frames := 3, cells := 0, slots := 0, locals := 600 } : Room)).room s m ([.ref p0, .int p1, .int p2] : List Value).toArray below meth c H locs 0 0 Q (F0 m 31 ls []) := by
    intro x3 z0_7 z0_10 ws H locs ls r_p1 r_p2 r_x3 r_z0_7 m_z0_7 r_z0_10 m_z0_10 hw hl
    refine lv_aload_n hx hb dX7_takeNumber_31 rfl (lv_at hl 0 rfl) ?_
    refine lv_iconst (v := 2) hx hb dX7_takeNumber_32 (by decide) ?_
    refine tk_v (va_runV (As := [.int 2]) (rest := []) ⟨hx, hb, hml, hown, hts⟩ (c_X7_refuse__3 l D cy z H.size Ps ws hw.1 p0 2 z0_10 h_p0 (rl_2.to (by decide)) r_z0_10 m_z0_10) (cwV 1 hts (gV tw_442 tw_443 tw_444 tw_2 tw_445) rfl rfl rfl (by decide +kernel) ⟨Nat.le_of_ble_eq_true rfl, Nat.le_of_ble_eq_true rfl⟩) (tg_preV hw hK hSD hA (ci := 7) (q := (RX7, TX7, 12)) rfl h_p0 rfl) rfl rfl hl.1 rfl (lv_room (Nat.le_of_ble_eq_true rfl)) dX7_takeNumber_33 ⟨Nat.le_of_ble_eq_true rfl, Nat.le_of_ble_eq_true rfl⟩) hw hA ⟨by decide, by decide⟩ (fun ws H locs hp_v_2 hw hF9 => ?_)
    have m_z0_7 := FLD.over hF9 m_z0_7 (by decide)
    obtain ⟨v_3, m_v_3, r_v_3⟩ := (hp_v_2.1)
    exact B36 x3 ws _ _ ls r_p1 r_p2 r_x3 hw hl
  refine lv_aload_n hx hb dX7_takeNumber_0 rfl (lv_at hl 0 rfl) ?_
  refine tg_get (ci := 7) (ts := ty_TAPE) (C := RX7) (T := TX7) (N := 12) hx hb hts inX7 hown hK hw h_p0 rfl rfl 9 (by decide) (hts _ tw_101) (fun _ h9 => h9) (ft := vI (-2147483648) 2147483647) rfl dX7_takeNumber_1 (fun u_4 hv_u_4 m_u_4 => ?_)
  obtain ⟨vu_4, rfl, r_vu_4⟩ := hv_u_4
  refine lv_istore_n (lv' := [(3, .int vu_4), (0, .ref p0), (1, .int p1), (2, .int p2)]) hx hb dX7_takeNumber_4 rfl hl (by decide) rfl (fun ls hl => ?_)
  refine lv_aload_n hx hb dX7_takeNumber_5 rfl (lv_at hl 1 rfl) ?_
  refine tg_get (ci := 7) (ts := ty_TAPE) (C := RX7) (T := TX7) (N := 12) hx hb hts inX7 hown hK hw h_p0 rfl rfl 7 (by decide) (hts _ tw_98) (fun _ h9 => h9) (ft := vI (-2147483648) 2147483647) rfl dX7_takeNumber_6 (fun u_5 hv_u_5 m_u_5 => ?_)
  obtain ⟨vu_5, rfl, r_vu_5⟩ := hv_u_5
  refine lv_iconst (v := 3) hx hb dX7_takeNumber_9 (by decide) ?_
  refine lv_icmp_eq (tgt := 21) hx hb dX7_takeNumber_10 (by decide) (fun c_10 => ?_) (fun c_10 => ?_)
  · have r_vu_5 : RI vu_5 3 3 := rc_eq1 r_vu_5 rl_3 (ti_eq c_10) (by decide)
    refine lv_iload_n hx hb dX7_takeNumber_21 rfl (lv_at hl 0 rfl) ?_
    refine lv_iload_n hx hb dX7_takeNumber_22 rfl (lv_at hl 2 rfl) ?_
    refine lv_icmp_lt (tgt := 31) hx hb dX7_takeNumber_23 (by decide) (fun c_23 => ?_) (fun c_23 => ?_)
    · have r_vu_4 : RI vu_4 (-2147483648) 2147483646 := rc_lt1 r_vu_4 r_p1 (ti_lt c_23) (by decide)
      have r_p1 : RI p1 (-2147483647) 2147483647 := rc_lt2 r_vu_4 r_p1 (ti_lt c_23) (by decide)
      exact B31 vu_4 vu_5 f0_10 w0 _ _ ls (r_p1.to (by decide)) r_p2 (r_vu_4.to (by decide)) r_vu_5 m_u_5 r_f0_10 m_f0_10 hw (lv_sub hl [1, 2, 3, 0] rfl)
    · refine lv_iload_n hx hb dX7_takeNumber_26 rfl (lv_at hl 0 rfl) ?_
      refine lv_iload_n hx hb dX7_takeNumber_27 rfl (lv_at hl 3 rfl) ?_
      refine lv_icmp_le (tgt := 36) hx hb dX7_takeNumber_28 (by decide) (fun c_28 => ?_) (fun c_28 => ?_)
      · exact B36 vu_4 w0 _ _ ls r_p1 r_p2 r_vu_4 hw (lv_sub hl [1, 2, 3, 0] rfl)
      · have r_p2 : RI p2 (-2147483648) 2147483646 := rc_lt1 r_p2 r_vu_4 (ti_nle c_28) (by decide)
        have r_vu_4 : RI vu_4 (-2147483647) 2147483647 := rc_lt2 r_p2 r_vu_4 (ti_nle c_28) (by decide)
        exact B31 vu_4 vu_5 f0_10 w0 _ _ ls r_p1 (r_p2.to (by decide)) (r_vu_4.to (by decide)) r_vu_5 m_u_5 r_f0_10 m_f0_10 hw (lv_sub hl [1, 2, 3, 0] rfl)
  · refine lv_aload_n hx hb dX7_takeNumber_13 rfl (lv_at hl 1 rfl) ?_
    refine lv_iconst (v := 1) hx hb dX7_takeNumber_14 (by decide) ?_
    refine tk_v (va_runV (As := [.int 1]) (rest := []) ⟨hx, hb, hml, hown, hts⟩ (c_X7_refuse__3 l D cy z s.heap.size Ps w0 hw.1 p0 1 f0_10 h_p0 (rl_1.to (by decide)) r_f0_10 m_f0_10) (cwV 1 hts (gV tw_442 tw_443 tw_444 tw_2 tw_445) rfl rfl rfl (by decide +kernel) ⟨Nat.le_of_ble_eq_true rfl, Nat.le_of_ble_eq_true rfl⟩) (tg_preV hw hK hSD hA (ci := 7) (q := (RX7, TX7, 12)) rfl h_p0 rfl) rfl rfl hl.1 rfl (lv_room (Nat.le_of_ble_eq_true rfl)) dX7_takeNumber_15 ⟨Nat.le_of_ble_eq_true rfl, Nat.le_of_ble_eq_true rfl⟩) hw hA ⟨by decide, by decide⟩ (fun ws H locs hp_v_6 hw hF9 => ?_)
    have m_u_4 := FLD.over hF9 m_u_4 (by decide)
    have m_u_5 := FLD.over hF9 m_u_5 (by decide)
    obtain ⟨v_7, m_v_7, r_v_7⟩ := (hp_v_6.1)
    refine lv_goto (tgt := 36) hx hb dX7_takeNumber_18 (by decide) ?_
    exact B36 vu_4 ws _ _ ls r_p1 r_p2 r_vu_4 hw (lv_sub hl [1, 2, 3, 0] rfl)
abbrev wr_X3_readNamed : List (Nat × Nat) := [(7, 5), (7, 6), (7, 7), (7, 8), (7, 9), (7, 10), (7, 11)]
abbrev wa_X3_readNamed : List Nat := [1, 4, 5]
set_option maxHeartbeats 4000000 in
set_option maxRecDepth 100000 in
theorem c_X3_readNamed (l : Launch) (D : va_G) (cy : Nat → ClassId) (z : Nat → Nat) (sz : Nat) (Ps : PSI) (w0 : va_W) (hT : HT cy GG Ps w0) (p0 : Nat) (p1 : Nat) (p2 : Nat) (p3 : Int32) (h_p0 : (p0, 25) ∈ Ps) (h_p1 : (p1, 26) ∈ Ps) (h_p2 : (p2, 24) ∈ Ps) (r_p3 : RI p3 0 0) (x_MLT_p0_0 : AXC 3 1 4 (fun f => (f 0).toInt < 6) Ps w0 p0) : Met l yX3_readNamed (Cond.code yX3_readNamed cX3_readNamed 5 none :: gT) ({ frames := 4, cells := 0, slots := 0, locals := 800 } : Room) (va_Pc [.ref p0, .ref p1, .ref p2, .int p3] (PRE D cy z w0 sz)) (va_Qv (fun (u : va_W) => (True) ∧ HT cy GG Ps u ∧ FR wr_X3_readNamed wa_X3_readNamed Ps w0 u) (BB D cy (va_A w0 sz) (fun (u : va_W) => u)) (va_A w0 sz)) 0 0 (va_A w0 sz) := by
  refine Met.ofW (cc := cX3_readNamed) (maxL := 5) (ret := none) (by decide) rfl ?_
  intro p e s m args below meth c s₁ B hml hv
  obtain ⟨rfl, hsz, hP, hK, hD0, hSD⟩ := hv
  have hx := B.exec
  have hb := B.bytes
  have hr := B.returns
  have hlocks := B.notSynchronized
  have hts : ∀ w ∈ gT, w.before _ s = true := fun w h => atoms_spec (ws := Cond.code yX3_readNamed cX3_readNamed 5 none :: gT) B.pre w (List.mem_cons_of_mem _ h)
  have hown : s.vm.findClass RX3 = some m.cls := findClass_of_methodNamed B.named
  subst hsz
  have hD := hD0.self (sz := s.heap.size)
  generalize hAe : va_A w0 s.heap.size = A at hD hSD ⊢
  have hA : ∀ q : Nat, s.heap.size ≤ q → A q := fun q h => by rw [← hAe]; exact Or.inr h
  have hl := lv_entry ([.ref p0, .ref p1, .ref p2, .int p3]) (n := 5) (Nat.le_of_ble_eq_true rfl)
  rw [lg_entry_eq]
  generalize (lg_sl ([.ref p0, .ref p1, .ref p2, .int p3]) ++ List.replicate (5 - (lg_sl ([.ref p0, .ref p1, .ref p2, .int p3])).length) Slot.unset).toArray = ls at hl ⊢
  have hl : lv_has ls 5 [(0, .ref p0), (1, .ref p1), (2, .ref p2), (3, .int p3)] := hl
  refine nameQ (fun Q hQ => ?_)
  have hw : WD D cy GG A s wr_X3_readNamed wa_X3_readNamed Ps w0 Ps w0 s.heap [] := ⟨hT, hP, hD, va_S.rf, FR.rf, hT.1, [], (List.append_nil _).symm⟩
  refine lv_aload_n hx hb dX3_readNamed_0 rfl (lv_at hl 0 rfl) ?_
  refine lv_aload_n hx hb dX3_readNamed_1 rfl (lv_at hl 1 rfl) ?_
  refine lv_iload_n hx hb dX3_readNamed_2 rfl (lv_at hl 3 rfl) ?_
  refine tk_i (va_runV (As := [.ref p1, .int p3]) (rest := []) ⟨hx, hb, hml, hown, hts⟩ (c_X3_tellName l D cy z s.heap.size Ps w0 hw.1 p0 p1 p3 h_p0 h_p1 r_p3 x_MLT_p0_0) (cwV 2 hts (gV tw_503 tw_505 ts_7 tw_11 tw_506) rfl rfl rfl (by decide +kernel) ⟨Nat.le_of_ble_eq_true rfl, Nat.le_of_ble_eq_true rfl⟩) (tg_preV hw hK hSD hA (ci := 3) (q := (RX3, TX3, 9)) rfl h_p0 rfl) rfl rfl hl.1 rfl (lv_room (Nat.le_of_ble_eq_true rfl)) dX3_readNamed_3 ⟨Nat.le_of_ble_eq_true rfl, Nat.le_of_ble_eq_true rfl⟩) hw hA ⟨by decide, by decide⟩ (fun v_1 ws H locs hp_v_1 hw hF9 => ?_)
  have r_v_1 : RI v_1 (-1) 5 := hp_v_1.1
  by_cases c9_v_1 : v_1 = 0
  · have r_v_1 : RI v_1 0 0 := by rw [c9_v_1]; exact rl_0
    obtain ⟨v_2, m_v_2, r_v_2⟩ := ((hp_v_1.2.1 c9_v_1).1)
    refine lv_istore (lv' := [(4, .int v_1), (0, .ref p0), (1, .ref p1), (2, .ref p2), (3, .int p3)]) hx hb dX3_readNamed_6 hl (by decide) rfl (fun ls hl => ?_)
    refine lv_iload hx hb dX3_readNamed_8 (lv_at hl 0 rfl) ?_
    refine lv_iconst (v := (-1)) hx hb dX3_readNamed_10 (by decide) ?_
    refine lv_icmp_ne (tgt := 15) hx hb dX3_readNamed_11 (by decide) (fun c_11 => ?_) (fun c_11 => ?_)
    · refine lv_iload_n hx hb dX3_readNamed_15 rfl (lv_at hl 4 rfl) ?_
      refine lv_if_ne (tgt := 36) hx hb dX3_readNamed_16 (by decide) (fun c_16 => ?_) (fun c_16 => ?_)
      · exact absurd (r_p3.eq.trans rl_0.eq.symm) ((ti_ne c_16))
      · refine lv_aload_n hx hb dX3_readNamed_19 rfl (lv_at hl 1 rfl) ?_
        refine tg_get (ci := 3) (ts := ty_POST) (C := RX3) (T := TX3) (N := 9) hx hb hts inX3 hown hK hw h_p0 rfl rfl 2 (by decide) (hts _ tw_205) (fun _ h9 => h9) (ft := vR 5) rfl dX3_readNamed_20 (fun u_3 hv_u_3 m_u_3 => ?_)
        obtain ⟨vu_3, rfl, h_vu_3⟩ := hv_u_3
        refine lv_iload hx hb dX3_readNamed_23 (lv_at hl 0 rfl) ?_
        refine lv_aload_n hx hb dX3_readNamed_25 rfl (lv_at hl 2 rfl) ?_
        refine lv_iconst (v := 1) hx hb dX3_readNamed_26 (by decide) ?_
        refine lv_bipush (v := 60) hx hb dX3_readNamed_27 (by decide) ?_
        refine tk_i (va_runV (As := [.int 1, .int 60]) (rest := [.int v_1, .ref vu_3]) ⟨hx, hb, hml, hown, hts⟩ (c_X7_takeNumber__2 l D cy z H.size Ps ws hw.1 p1 1 60 v_2 h_p1 (rl_1.to (by decide)) (rl_60.to (by decide)) r_v_2 m_v_2) (cwV 2 hts (gV tw_477 tw_478 tw_479 tw_2 tw_480) rfl rfl rfl (by decide +kernel) ⟨Nat.le_of_ble_eq_true rfl, Nat.le_of_ble_eq_true rfl⟩) (tg_preV hw hK hSD hA (ci := 7) (q := (RX7, TX7, 12)) rfl h_p1 rfl) rfl rfl hl.1 rfl (lv_room (Nat.le_of_ble_eq_true rfl)) dX3_readNamed_29 ⟨Nat.le_of_ble_eq_true rfl, Nat.le_of_ble_eq_true rfl⟩) hw hA ⟨by decide, by decide⟩ (fun v_4 ws H locs hp_v_4 hw hF9 => ?_)
        have r_v_4 : RI v_4 (-2147483648) 2147483647 := hp_v_4.1
        refine tg_iast hx hb hK hw h_vu_3 rfl 0 0 r_v_1 (by decide) r_v_4 (by exact fun _ _ _ => by decide) (fun _ _ _ _ _ => trivial) (by decide) dX3_readNamed_32 (fun ws H locs hw hF9 hU9 => ?_)
        refine lv_goto (tgt := 97) hx hb dX3_readNamed_33 (by decide) ?_
        subst hQ
        exact W.vret hx hb hr (fun t ht hW => ⟨⟨ws, rfl, ⟨trivial, hw.1, hw.2.2.2.2.1⟩, by rw [ht]; exact hw.2.1, va_K.moved hW.alike hK, hw.2.2.1⟩, hw.2.2.2.1.F ht⟩) hw.2.2.2.1.2.2 dX3_readNamed_97
    · have r_v_1 : RI v_1 0 (-1) := rc_eq1 r_v_1 rl_m1 (ti_eq c_11) (by decide)
      exact (r_v_1.no (by decide)).elim
  · refine lv_istore (lv' := [(4, .int v_1), (0, .ref p0), (1, .ref p1), (2, .ref p2), (3, .int p3)]) hx hb dX3_readNamed_6 hl (by decide) rfl (fun ls hl => ?_)
    refine lv_iload hx hb dX3_readNamed_8 (lv_at hl 0 rfl) ?_
    refine lv_iconst (v := (-1)) hx hb dX3_readNamed_10 (by decide) ?_
    refine lv_icmp_ne (tgt := 15) hx hb dX3_readNamed_11 (by decide) (fun c_11 => ?_) (fun c_11 => ?_)
    · have r_v_1 : RI v_1 0 5 := rc_neL r_v_1 rl_m1 (ti_ne c_11) (by decide)
      refine lv_iload_n hx hb dX3_readNamed_15 rfl (lv_at hl 4 rfl) ?_
      refine lv_if_ne (tgt := 36) hx hb dX3_readNamed_16 (by decide) (fun c_16 => ?_) (fun c_16 => ?_)
      · exact absurd (r_p3.eq.trans rl_0.eq.symm) ((ti_ne c_16))
      · refine lv_aload_n hx hb dX3_readNamed_19 rfl (lv_at hl 1 rfl) ?_
        refine tg_get (ci := 3) (ts := ty_POST) (C := RX3) (T := TX3) (N := 9) hx hb hts inX3 hown hK hw h_p0 rfl rfl 2 (by decide) (hts _ tw_205) (fun _ h9 => h9) (ft := vR 5) rfl dX3_readNamed_20 (fun u_5 hv_u_5 m_u_5 => ?_)
        obtain ⟨vu_5, rfl, h_vu_5⟩ := hv_u_5
        refine lv_iload hx hb dX3_readNamed_23 (lv_at hl 0 rfl) ?_
        refine lv_aload_n hx hb dX3_readNamed_25 rfl (lv_at hl 2 rfl) ?_
        refine lv_iconst (v := 1) hx hb dX3_readNamed_26 (by decide) ?_
        refine lv_bipush (v := 60) hx hb dX3_readNamed_27 (by decide) ?_
        refine tk_i (va_runV (As := [.int 1, .int 60]) (rest := [.int v_1, .ref vu_5]) ⟨hx, hb, hml, hown, hts⟩ (c_X7_takeNumber__1 l D cy z H.size Ps ws hw.1 p1 1 60 h_p1 (rl_1.to (by decide)) (rl_60.to (by decide))) (cwV 2 hts (gV tw_477 tw_478 tw_479 tw_2 tw_480) rfl rfl rfl (by decide +kernel) ⟨Nat.le_of_ble_eq_true rfl, Nat.le_of_ble_eq_true rfl⟩) (tg_preV hw hK hSD hA (ci := 7) (q := (RX7, TX7, 12)) rfl h_p1 rfl) rfl rfl hl.1 rfl (lv_room (Nat.le_of_ble_eq_true rfl)) dX3_readNamed_29 ⟨Nat.le_of_ble_eq_true rfl, Nat.le_of_ble_eq_true rfl⟩) hw hA ⟨by decide, by decide⟩ (fun v_6 ws H locs hp_v_6 hw hF9 => ?_)
        have r_v_6 : RI v_6 (-2147483648) 2147483647 := hp_v_6.1
        refine tg_iast hx hb hK hw h_vu_5 rfl 0 5 r_v_1 (by decide) r_v_6 (by exact fun _ _ _ => by decide) (fun _ _ _ _ _ => trivial) (by decide) dX3_readNamed_32 (fun ws H locs hw hF9 hU9 => ?_)
        refine lv_goto (tgt := 97) hx hb dX3_readNamed_33 (by decide) ?_
        subst hQ
        exact W.vret hx hb hr (fun t ht hW => ⟨⟨ws, rfl, ⟨trivial, hw.1, hw.2.2.2.2.1⟩, by rw [ht]; exact hw.2.1, va_K.moved hW.alike hK, hw.2.2.1⟩, hw.2.2.2.1.F ht⟩) hw.2.2.2.1.2.2 dX3_readNamed_97
    · have r_v_1 : RI v_1 (-1) (-1) := rc_eq1 r_v_1 rl_m1 (ti_eq c_11) (by decide)
      subst hQ
      exact W.vret hx hb hr (fun t ht hW => ⟨⟨ws, rfl, ⟨trivial, hw.1, hw.2.2.2.2.1⟩, by rw [ht]; exact hw.2.1, va_K.moved hW.alike hK, hw.2.2.1⟩, hw.2.2.2.1.F ht⟩) hw.2.2.2.1.2.2 dX3_readNamed_14
abbrev wr_X3_beginsLine__3 : List (Nat × Nat) := [(7, 5), (7, 6), (7, 7), (7, 8), (7, 9), (7, 10), (7, 11)]
abbrev wa_X3_beginsLine__3 : List Nat := []
set_option maxHeartbeats 4000000 in
set_option maxRecDepth 100000 in
theorem c_X3_beginsLine__3 (l : Launch) (D : va_G) (cy : Nat → ClassId) (z : Nat → Nat) (sz : Nat) (Ps : PSI) (w0 : va_W) (hT : HT cy GG Ps w0) (p0 : Nat) (p1 : Nat) (p2 : Int32) (f1_10 : Int32) (h_p0 : (p0, 25) ∈ Ps) (h_p1 : (p1, 26) ∈ Ps) (r_p2 : RI p2 129 129) (r_f1_10 : RI f1_10 0 0) (m_f1_10 : FLD w0 p1 7 10 (.int f1_10)) : Met l yX3_beginsLine (Cond.code yX3_beginsLine cX3_beginsLine 3 (some .boolean) :: gT) ({ frames := 3, cells := 0, slots := 0, locals := 600 } : Room) (va_Pc [.ref p0, .ref p1, .int p2] (PRE D cy z w0 sz)) (va_Qi (fun (r : Int32) (u : va_W) => (RI r 0 1 ∧ (r = 0 → (∃ v9 : Int32, FLD u p1 7 10 (.int v9) ∧ RI v9 1 4) ∧ True) ∧ (¬ r = 0 → (∃ v9 : Int32, FLD u p1 7 10 (.int v9) ∧ RI v9 0 0) ∧ AXC 3 1 4 (fun f => (f 1).toInt < 4) Ps u p0 ∧ True)) ∧ HT cy GG Ps u ∧ FR wr_X3_beginsLine__3 wa_X3_beginsLine__3 Ps w0 u) (BB D cy (va_A w0 sz) (fun (u : va_W) => u)) (va_A w0 sz)) 0 0 (va_A w0 sz) := by
  refine Met.ofW (cc := cX3_beginsLine) (maxL := 3) (ret := (some .boolean)) (by decide) rfl ?_
  intro p e s m args below meth c s₁ B hml hv
  obtain ⟨rfl, hsz, hP, hK, hD0, hSD⟩ := hv
  have hx := B.exec
  have hb := B.bytes
  have hr := B.returns
  have hlocks := B.notSynchronized
  have hts : ∀ w ∈ gT, w.before _ s = true := fun w h => atoms_spec (ws := Cond.code yX3_beginsLine cX3_beginsLine 3 (some .boolean) :: gT) B.pre w (List.mem_cons_of_mem _ h)
  have hown : s.vm.findClass RX3 = some m.cls := findClass_of_methodNamed B.named
  subst hsz
  have hD := hD0.self (sz := s.heap.size)
  generalize hAe : va_A w0 s.heap.size = A at hD hSD ⊢
  have hA : ∀ q : Nat, s.heap.size ≤ q → A q := fun q h => by rw [← hAe]; exact Or.inr h
  have hl := lv_entry ([.ref p0, .ref p1, .int p2]) (n := 3) (Nat.le_of_ble_eq_true rfl)
  rw [lg_entry_eq]
  generalize (lg_sl ([.ref p0, .ref p1, .int p2]) ++ List.replicate (3 - (lg_sl ([.ref p0, .ref p1, .int p2])).length) Slot.unset).toArray = ls at hl ⊢
  have hl : lv_has ls 3 [(0, .ref p0), (1, .ref p1), (2, .int p2)] := hl
  refine nameQ (fun Q hQ => ?_)
  have hw : WD D cy GG A s wr_X3_beginsLine__3 wa_X3_beginsLine__3 Ps w0 Ps w0 s.heap [] := ⟨hT, hP, hD, va_S.rf, FR.rf, hT.1, [], (List.append_nil _).symm⟩
  refine lv_iload_n hx hb dX3_beginsLine_0 rfl (lv_at hl 2 rfl) ?_
  refine lv_sipush (v := 128) hx hb dX3_beginsLine_1 (by decide) ?_
  refine lv_icmp_lt (tgt := 14) hx hb dX3_beginsLine_4 (by decide) (fun c_4 => ?_) (fun c_4 => ?_)
  · have r_p2 : RI p2 129 127 := rc_lt1 r_p2 rl_128 (ti_lt c_4) (by decide)
    exact (r_p2.no (by decide)).elim
  · refine lv_iload_n hx hb dX3_beginsLine_7 rfl (lv_at hl 2 rfl) ?_
    refine lv_sipush (v := 136) hx hb dX3_beginsLine_8 (by decide) ?_
    refine lv_icmp_le (tgt := 22) hx hb dX3_beginsLine_11 (by decide) (fun c_11 => ?_) (fun c_11 => ?_)
    · refine lv_iload_n hx hb dX3_beginsLine_22 rfl (lv_at hl 2 rfl) ?_
      refine lv_sipush (v := 131) hx hb dX3_beginsLine_23 (by decide) ?_
      refine lv_icmp_gt (tgt := 59) hx hb dX3_beginsLine_26 (by decide) (fun c_26 => ?_) (fun c_26 => ?_)
      · have r_p2 : RI p2 132 129 := rc_lt2 rl_131 r_p2 (ti_lt c_26) (by decide)
        exact (r_p2.no (by decide)).elim
      · refine lv_aload_n hx hb dX3_beginsLine_29 rfl (lv_at hl 0 rfl) ?_
        refine tg_get (ci := 3) (ts := ty_POST) (C := RX3) (T := TX3) (N := 9) hx hb hts inX3 hown hK hw h_p0 rfl rfl 1 (by decide) (hts _ tw_201) (fun _ h9 => h9) (ft := vR 4) rfl dX3_beginsLine_30 (fun u_1 hv_u_1 m_u_1 => ?_)
        obtain ⟨vu_1, rfl, h_vu_1⟩ := hv_u_1
        refine lv_iload_n hx hb dX3_beginsLine_33 rfl (lv_at hl 2 rfl) ?_
        refine lv_sipush (v := 128) hx hb dX3_beginsLine_34 (by decide) ?_
        refine lv_isub hx hb dX3_beginsLine_37 (lv_topi (fun v_2 e_v_2 => ?_))
        obtain ⟨t_v_2, r_v_2⟩ := tq_sub (lo := 1) (hi := 1) r_p2 rl_128 (by decide +kernel) e_v_2
        have t_v_2 : v_2.toInt = p2.toInt - 128 := t_v_2
        refine tg_iald (lo := 0) (hi := 4) hx hb hK hw h_vu_1 rfl 1 1 r_v_2 (by decide) (by decide +kernel) dX3_beginsLine_38 (fun v_3 r_v_3 m_v_3 o_v_3 => ?_)
        refine va_gets (v := .ref (z 0)) hx hb hSD.2.2.2.1 hw.2.2.2.1 hown (hts _ tw_198) (fun _ h9 => h9) dX3_beginsLine_39 ?_
        refine lv_iload_n hx hb dX3_beginsLine_42 rfl (lv_at hl 2 rfl) ?_
        refine lv_sipush (v := 128) hx hb dX3_beginsLine_43 (by decide) ?_
        refine lv_isub hx hb dX3_beginsLine_46 (lv_topi (fun v_4 e_v_4 => ?_))
        obtain ⟨t_v_4, r_v_4⟩ := tq_sub (lo := 1) (hi := 1) r_p2 rl_128 (by decide +kernel) e_v_4
        have t_v_4 : v_4.toInt = p2.toInt - 128 := t_v_4
        refine tz_mk 1 4 hx hb hSD.2.2.2.2.1 hw.2.2.2.1 r_v_4 (by decide) rfl dX3_beginsLine_47 (fun v_5 e_v_5 => ?_)
        have r_v_5 : RI v_5 4 4 := by rw [e_v_5]; exact rl_4
        refine lv_icmp_lt (tgt := 59) hx hb dX3_beginsLine_48 (by decide) (fun c_48 => ?_) (fun c_48 => ?_)
        · have r_v_3 : RI v_3 0 3 := rc_lt1 r_v_3 r_v_5 (ti_lt c_48) (by decide)
          have x_MLT_p0_1 : AXC 3 1 4 (fun f => (f 1).toInt < 4) Ps w0 p0 := AXC.mk hw h_vu_1 rfl m_u_1 (fun f9 g9 => by have e9 := g9 _ _ m_v_3; have j9 : Int32.toNatClampNeg v_2 = 1 := (by have k1 := r_v_2.cl (by decide); have k2 := r_v_2.eq; omega); rw [j9] at e9; show _ < _; rw [e9]; have k3 := r_v_3.2; omega)
          refine lv_iload_n hx hb dX3_beginsLine_59 rfl (lv_at hl 2 rfl) ?_
          refine lv_sipush (v := 135) hx hb dX3_beginsLine_60 (by decide) ?_
          refine lv_icmp_ne (tgt := 73) hx hb dX3_beginsLine_63 (by decide) (fun c_63 => ?_) (fun c_63 => ?_)
          · refine lv_iload_n hx hb dX3_beginsLine_73 rfl (lv_at hl 2 rfl) ?_
            refine lv_sipush (v := 136) hx hb dX3_beginsLine_74 (by decide) ?_
            refine lv_icmp_ne (tgt := 92) hx hb dX3_beginsLine_77 (by decide) (fun c_77 => ?_) (fun c_77 => ?_)
            · refine lv_aload_n hx hb dX3_beginsLine_92 rfl (lv_at hl 1 rfl) ?_
              have hw8 := hw
              refine tk_v (va_runV (As := []) (rest := []) ⟨hx, hb, hml, hown, hts⟩ (c_X7_pass__3 l D cy z s.heap.size Ps w0 hw.1 p1 f1_10 h_p1 r_f1_10 m_f1_10) (cwV 0 hts (gV tw_451 tw_425 tw_426 tw_2 tw_427) rfl rfl rfl (by decide +kernel) ⟨Nat.le_of_ble_eq_true rfl, Nat.le_of_ble_eq_true rfl⟩) (tg_preV hw hK hSD hA (ci := 7) (q := (RX7, TX7, 12)) rfl h_p1 rfl) rfl rfl hl.1 rfl (lv_room (Nat.le_of_ble_eq_true rfl)) dX3_beginsLine_93 ⟨Nat.le_of_ble_eq_true rfl, Nat.le_of_ble_eq_true rfl⟩) hw hA ⟨by decide, by decide⟩ (fun ws H locs hp_v_6 hw hF9 => ?_)
              have m_v_3 := AEL.over hw8 hF9 h_vu_1 m_v_3 (by decide)
              have m_f1_10 := FLD.over hF9 m_f1_10 (by decide)
              have m_u_1 := FLD.over hF9 m_u_1 (by decide)
              have x_MLT_p0_1 := AXC.over hF9 x_MLT_p0_1 (by decide)
              obtain ⟨v_7, m_v_7, r_v_7⟩ := (hp_v_6.1)
              refine lv_aload_n hx hb dX3_beginsLine_96 rfl (lv_at hl 1 rfl) ?_
              refine tg_memN (ci := 7) (C := RX7) (T := TX7) (N := 12) hx hb hts inX7 hown hK hw 10 m_v_7 rfl (by decide) (hSD.nest tn_105) (fun _ h9 => h9) dX3_beginsLine_97 ?_
              refine lv_if_ne (tgt := 107) hx hb dX3_beginsLine_100 (by decide) (fun c_100 => ?_) (fun c_100 => ?_)
              · exact absurd (r_v_7.eq.trans rl_0.eq.symm) ((ti_ne c_100))
              · refine lv_iconst (v := 1) hx hb dX3_beginsLine_103 (by decide) ?_
                refine lv_goto (tgt := 108) hx hb dX3_beginsLine_104 (by decide) ?_
                subst hQ
                exact W.zret (v := 1) hx hb hr (rfl) (fun t ht hW => ⟨⟨1, ws, rfl, ⟨⟨rl_1.to (by decide), (fun h0 => absurd h0 (by decide)), (fun h0 => ⟨⟨_, m_v_7, r_v_7⟩, x_MLT_p0_1, trivial⟩)⟩, hw.1, hw.2.2.2.2.1⟩, by rw [ht]; exact hw.2.1, va_K.moved hW.alike hK, hw.2.2.1⟩, hw.2.2.2.1.F ht⟩) hw.2.2.2.1.2.2 dX3_beginsLine_108
            · have r_p2 : RI p2 136 129 := rc_eq1 r_p2 rl_136 (ti_eq c_77) (by decide)
              exact (r_p2.no (by decide)).elim
          · have r_p2 : RI p2 135 129 := rc_eq1 r_p2 rl_135 (ti_eq c_63) (by decide)
            exact (r_p2.no (by decide)).elim
        · have r_v_3 : RI v_3 4 4 := rc_le2 r_v_5 r_v_3 (ti_nlt c_48) (by decide)
          refine lv_aload_n hx hb dX3_beginsLine_51 rfl (lv_at hl 1 rfl) ?_
          refine lv_iconst (v := 4) hx hb dX3_beginsLine_52 (by decide) ?_
          have hw8 := hw
          refine tk_v (va_runV (As := [.int 4]) (rest := []) ⟨hx, hb, hml, hown, hts⟩ (c_X7_refuse__3 l D cy z s.heap.size Ps w0 hw.1 p1 4 f1_10 h_p1 (rl_4.to (by decide)) r_f1_10 m_f1_10) (cwV 1 hts (gV tw_450 tw_443 tw_444 tw_2 tw_445) rfl rfl rfl (by decide +kernel) ⟨Nat.le_of_ble_eq_true rfl, Nat.le_of_ble_eq_true rfl⟩) (tg_preV hw hK hSD hA (ci := 7) (q := (RX7, TX7, 12)) rfl h_p1 rfl) rfl rfl hl.1 rfl (lv_room (Nat.le_of_ble_eq_true rfl)) dX3_beginsLine_53 ⟨Nat.le_of_ble_eq_true rfl, Nat.le_of_ble_eq_true rfl⟩) hw hA ⟨by decide, by decide⟩ (fun ws H locs hp_v_8 hw hF9 => ?_)
          have m_v_3 := AEL.over hw8 hF9 h_vu_1 m_v_3 (by decide)
          have m_u_1 := FLD.over hF9 m_u_1 (by decide)
          obtain ⟨v_9, m_v_9, r_v_9⟩ := (hp_v_8.1)
          refine lv_goto (tgt := 92) hx hb dX3_beginsLine_56 (by decide) ?_
          refine lv_aload_n hx hb dX3_beginsLine_92 rfl (lv_at hl 1 rfl) ?_
          refine tk_vr (va_runV (As := []) (rest := []) ⟨hx, hb, hml, hown, hts⟩ (c_X7_pass__1 l D cy z H.size Ps ws hw.1 p1 v_9 h_p1 r_v_9 m_v_9) (cwV 0 hts (gV tw_451 tw_425 tw_426 tw_2 tw_427) rfl rfl rfl (by decide +kernel) ⟨Nat.le_of_ble_eq_true rfl, Nat.le_of_ble_eq_true rfl⟩) (tg_preV hw hK hSD hA (ci := 7) (q := (RX7, TX7, 12)) rfl h_p1 rfl) rfl rfl hl.1 rfl (lv_room (Nat.le_of_ble_eq_true rfl)) dX3_beginsLine_93 ⟨Nat.le_of_ble_eq_true rfl, Nat.le_of_ble_eq_true rfl⟩) hw hA (fun  H locs hp_v_10 hw => ?_)
          refine lv_aload_n hx hb dX3_beginsLine_96 rfl (lv_at hl 1 rfl) ?_
          refine tg_memN (ci := 7) (C := RX7) (T := TX7) (N := 12) hx hb hts inX7 hown hK hw 10 m_v_9 rfl (by decide) (hSD.nest tn_105) (fun _ h9 => h9) dX3_beginsLine_97 ?_
          refine lv_if_ne (tgt := 107) hx hb dX3_beginsLine_100 (by decide) (fun c_100 => ?_) (fun c_100 => ?_)
          · refine lv_iconst (v := 0) hx hb dX3_beginsLine_107 (by decide) ?_
            subst hQ
            exact W.zret (v := 0) hx hb hr (rfl) (fun t ht hW => ⟨⟨0, ws, rfl, ⟨⟨rl_0.to (by decide), (fun h0 => ⟨⟨_, m_v_9, r_v_9⟩, trivial⟩), (fun h0 => absurd rfl h0)⟩, hw.1, hw.2.2.2.2.1⟩, by rw [ht]; exact hw.2.1, va_K.moved hW.alike hK, hw.2.2.1⟩, hw.2.2.2.1.F ht⟩) hw.2.2.2.1.2.2 dX3_beginsLine_108
          · have r_v_9 : RI v_9 1 0 := rc_eq1 r_v_9 rl_0 (ti_eq c_100) (by decide)
            exact (r_v_9.no (by decide)).elim
    · have r_p2 : RI p2 137 129 := rc_lt2 rl_136 r_p2 (ti_nle c_11) (by decide)
      exact (r_p2.no (by decide)).elim
abbrev wr_X3_tellName__1 : List (Nat × Nat) := [(7, 5), (7, 6), (7, 7), (7, 8), (7, 9), (7, 10), (7, 11)]
abbrev wa_X3_tellName__1 : List Nat := [1, 4]
set_option maxHeartbeats 4000000 in
set_option maxRecDepth 100000 in
theorem c_X3_tellName__1 (l : Launch) (D : va_G) (cy : Nat → ClassId) (z : Nat → Nat) (sz : Nat) (Ps : PSI) (w0 : va_W) (hT : HT cy GG Ps w0) (p0 : Nat) (p1 : Nat) (p2 : Int32) (h_p0 : (p0, 25) ∈ Ps) (h_p1 : (p1, 26) ∈ Ps) (r_p2 : RI p2 1 1) (x_MLT_p0_1 : AXC 3 1 4 (fun f => (f 1).toInt < 4) Ps w0 p0) : Met l yX3_tellName (Cond.code yX3_tellName cX3_tellName 4 (some .int) :: gT) ({ frames := 3, cells := 0, slots := 0, locals := 600 } : Room) (va_Pc [.ref p0, .ref p1, .int p2] (PRE D cy z w0 sz)) (va_Qi (fun (r : Int32) (u : va_W) => (RI r (-1) 3 ∧ (r = 0 → (∃ v9 : Int32, FLD u p1 7 10 (.int v9) ∧ RI v9 0 0) ∧ True) ∧ (¬ r = 0 → True)) ∧ HT cy GG Ps u ∧ FR wr_X3_tellName__1 wa_X3_tellName__1 Ps w0 u) (BB D cy (va_A w0 sz) (fun (u : va_W) => u)) (va_A w0 sz)) 0 0 (va_A w0 sz) := by
  refine Met.ofW (cc := cX3_tellName) (maxL := 4) (ret := (some .int)) (by decide) rfl ?_
  intro p e s m args below meth c s₁ B hml hv
  obtain ⟨rfl, hsz, hP, hK, hD0, hSD⟩ := hv
  have hx := B.exec
  have hb := B.bytes
  have hr := B.returns
  have hlocks := B.notSynchronized
  have hts : ∀ w ∈ gT, w.before _ s = true := fun w h => atoms_spec (ws := Cond.code yX3_tellName cX3_tellName 4 (some .int) :: gT) B.pre w (List.mem_cons_of_mem _ h)
  have hown : s.vm.findClass RX3 = some m.cls := findClass_of_methodNamed B.named
  subst hsz
  have hD := hD0.self (sz := s.heap.size)
  generalize hAe : va_A w0 s.heap.size = A at hD hSD ⊢
  have hA : ∀ q : Nat, s.heap.size ≤ q → A q := fun q h => by rw [← hAe]; exact Or.inr h
  have hl := lv_entry ([.ref p0, .ref p1, .int p2]) (n := 4) (Nat.le_of_ble_eq_true rfl)
  rw [lg_entry_eq]
  generalize (lg_sl ([.ref p0, .ref p1, .int p2]) ++ List.replicate (4 - (lg_sl ([.ref p0, .ref p1, .int p2])).length) Slot.unset).toArray = ls at hl ⊢
  have hl : lv_has ls 4 [(0, .ref p0), (1, .ref p1), (2, .int p2)] := hl
  refine nameQ (fun Q hQ => ?_)
  have hw : WD D cy GG A s wr_X3_tellName__1 wa_X3_tellName__1 Ps w0 Ps w0 s.heap [] := ⟨hT, hP, hD, va_S.rf, FR.rf, hT.1, [], (List.append_nil _).symm⟩
  have B32 : ∀ (ws : va_W) (H : Heap) (locs : List Loc) (ls : Array Slot), RI p2 1 1 → AXC 3 1 4 (fun f => (f 1).toInt < 4) Ps ws p0 → WD D cy GG A s wr_X3_tellName__1 wa_X3_tellName__1 Ps w0 Ps ws H locs → lv_has ls 4 [(0, .ref p0), (1, .ref p1), (2, .int p2)] → W p l e (headSpec (Cond.code yX3_tellName cX3_tellName 4 (some .int) :: gT) ({ frames := 3, cells := 0, slots := 0, locals := 600 } : Room)).room s m ([.ref p0, .ref p1, .int p2] : List Value).toArray below meth c H locs 0 0 Q (F0 m 32 ls []) := by
    intro  ws H locs ls r_p2 x_MLT_p0_1 hw hl
    refine lv_aload_n hx hb dX3_tellName_32 rfl (lv_at hl 1 rfl) ?_
    refine tg_getN (ci := 7) (ts := ty_TAPE) (C := RX7) (T := TX7) (N := 12) hx hb hts inX7 hown hK hw h_p1 rfl rfl 10 (by decide) (hSD.nest tn_105) (fun _ h9 => h9) (ft := vI 0 4) rfl dX3_tellName_33 (fun u_1 hv_u_1 m_u_1 => ?_)
    obtain ⟨vu_1, rfl, r_vu_1⟩ := hv_u_1
    refine lv_if_eq (tgt := 41) hx hb dX3_tellName_36 (by decide) (fun c_36 => ?_) (fun c_36 => ?_)
    · have r_vu_1 : RI vu_1 0 0 := rc_eq1 r_vu_1 rl_0 (ti_eq c_36) (by decide)
      refine lv_aload_n hx hb dX3_tellName_41 rfl (lv_at hl 0 rfl) ?_
      refine tg_get (ci := 3) (ts := ty_POST) (C := RX3) (T := TX3) (N := 9) hx hb hts inX3 hown hK hw h_p0 rfl rfl 1 (by decide) (hts _ tw_201) (fun _ h9 => h9) (ft := vR 4) rfl dX3_tellName_42 (fun u_2 hv_u_2 m_u_2 => ?_)
      obtain ⟨vu_2, rfl, h_vu_2⟩ := hv_u_2
      refine lv_iload_n hx hb dX3_tellName_45 rfl (lv_at hl 2 rfl) ?_
      refine tg_iald (lo := 0) (hi := 4) hx hb hK hw h_vu_2 rfl 1 1 r_p2 (by decide) (by decide +kernel) dX3_tellName_46 (fun v_3 r_v_3 m_v_3 o_v_3 => ?_)
      have r_v_3 : RI v_3 0 3 := ⟨r_v_3.1, by obtain ⟨f9, q9, e9⟩ := AXC.use hw x_MLT_p0_1 m_u_2 m_v_3; have j9 : Int32.toNatClampNeg p2 = 1 := (by have k1 := r_p2.cl (by decide); have k2 := r_p2.eq; omega); rw [j9] at e9; have q8 : (f9 1).toInt < 4 := q9; rw [e9] at q8; omega⟩
      refine lv_istore_n (lv' := [(3, .int v_3), (0, .ref p0), (1, .ref p1), (2, .int p2)]) hx hb dX3_tellName_47 rfl hl (by decide) rfl (fun ls hl => ?_)
      refine lv_aload_n hx hb dX3_tellName_48 rfl (lv_at hl 1 rfl) ?_
      refine tg_get (ci := 3) (ts := ty_POST) (C := RX3) (T := TX3) (N := 9) hx hb hts inX3 hown hK hw h_p0 rfl rfl 0 (by decide) (hts _ tw_200) (fun _ h9 => h9) (ft := vR 1) rfl dX3_tellName_49 (fun u_4 hv_u_4 m_u_4 => ?_)
      obtain ⟨vu_4, rfl, h_vu_4⟩ := hv_u_4
      refine lv_iload_n hx hb dX3_tellName_52 rfl (lv_at hl 3 rfl) ?_
      refine lv_bipush (v := 8) hx hb dX3_tellName_53 (by decide) ?_
      refine lv_imul hx hb dX3_tellName_55 (lv_topi (fun v_5 e_v_5 => ?_))
      obtain ⟨t_v_5, r_v_5⟩ := tq_mul (lo := 8) (hi := 8) r_p2 rl_8 (by decide +kernel) e_v_5
      have t_v_5 : v_5.toInt = p2.toInt * 8 := t_v_5
      refine lv_iload_n hx hb dX3_tellName_56 rfl (lv_at hl 0 rfl) ?_
      refine lv_iadd hx hb dX3_tellName_57 (lv_topi (fun v_6 e_v_6 => ?_))
      obtain ⟨t_v_6, r_v_6⟩ := tq_add (lo := 8) (hi := 11) r_v_5 r_v_3 (by decide +kernel) e_v_6
      refine lv_aload_n hx hb dX3_tellName_58 rfl (lv_at hl 2 rfl) ?_
      refine tg_getN (ci := 7) (ts := ty_TAPE) (C := RX7) (T := TX7) (N := 12) hx hb hts inX7 hown hK hw h_p1 rfl rfl 8 (by decide) (hSD.nest tn_99) (fun _ h9 => h9) (ft := vJ (-9223372036854775808) 9223372036854775807) rfl dX3_tellName_59 (fun u_7 hv_u_7 m_u_7 => ?_)
      obtain ⟨vu_7, rfl, r_vu_7⟩ := hv_u_7
      refine tg_last hx hb hK hw h_vu_4 rfl r_v_6 (by decide) r_vu_7 (by decide) (by decide) dX3_tellName_62 (fun ws H locs hw hF9 => ?_)
      have x_MLT_p0_1 := AXC.over hF9 x_MLT_p0_1 (by decide)
      have m_u_1 := FLD.over hF9 m_u_1 (by decide)
      have m_u_2 := FLD.over hF9 m_u_2 (by decide)
      have m_u_4 := FLD.over hF9 m_u_4 (by decide)
      have m_u_7 := FLD.over hF9 m_u_7 (by decide)
      refine lv_aload_n hx hb dX3_tellName_63 rfl (lv_at hl 1 rfl) ?_
      refine tg_mem (ci := 3) (C := RX3) (T := TX3) (N := 9) hx hb hts inX3 hown hK hw 1 m_u_2 rfl (by decide) (hts _ tw_201) (fun _ h9 => h9) dX3_tellName_64 ?_
      refine lv_iload_n hx hb dX3_tellName_67 rfl (lv_at hl 3 rfl) ?_
      refine lv_iload_n hx hb dX3_tellName_68 rfl (lv_at hl 0 rfl) ?_
      refine lv_iconst (v := 1) hx hb dX3_tellName_69 (by decide) ?_
      refine lv_iadd hx hb dX3_tellName_70 (lv_topi (fun v_8 e_v_8 => ?_))
      obtain ⟨t_v_8, r_v_8⟩ := tq_add (lo := 1) (hi := 4) r_v_3 rl_1 (by decide +kernel) e_v_8
      have t_v_8 : v_8.toInt = v_3.toInt + 1 := t_v_8
      refine tg_iast hx hb hK hw h_vu_2 rfl 1 1 r_p2 (by decide) r_v_8 (by decide +kernel) (fun _ _ _ _ _ => trivial) (by decide) dX3_tellName_71 (fun ws H locs hw hF9 hU9 => ?_)
      have m_u_1 := FLD.over hF9 m_u_1 (by decide)
      have m_u_2 := FLD.over hF9 m_u_2 (by decide)
      have m_u_4 := FLD.over hF9 m_u_4 (by decide)
      have m_u_7 := FLD.over hF9 m_u_7 (by decide)
      refine lv_aload_n hx hb dX3_tellName_72 rfl (lv_at hl 2 rfl) ?_
      refine tk_v (va_runV (As := []) (rest := []) ⟨hx, hb, hml, hown, hts⟩ (c_X7_pass__3 l D cy z H.size Ps ws hw.1 p1 vu_1 h_p1 r_vu_1 m_u_1) (cwV 0 hts (gV tw_451 tw_425 tw_426 tw_2 tw_427) rfl rfl rfl (by decide +kernel) ⟨Nat.le_of_ble_eq_true rfl, Nat.le_of_ble_eq_true rfl⟩) (tg_preV hw hK hSD hA (ci := 7) (q := (RX7, TX7, 12)) rfl h_p1 rfl) rfl rfl hl.1 rfl (lv_room (Nat.le_of_ble_eq_true rfl)) dX3_tellName_73 ⟨Nat.le_of_ble_eq_true rfl, Nat.le_of_ble_eq_true rfl⟩) hw hA ⟨by decide, by decide⟩ (fun ws H locs hp_v_9 hw hF9 => ?_)
      have m_u_1 := FLD.over hF9 m_u_1 (by decide)
      have m_u_2 := FLD.over hF9 m_u_2 (by decide)
      have m_u_4 := FLD.over hF9 m_u_4 (by decide)
      obtain ⟨v_10, m_v_10, r_v_10⟩ := (hp_v_9.1)
      refine lv_iload_n hx hb dX3_tellName_76 rfl (lv_at hl 0 rfl) ?_
      subst hQ
      exact W.iret (v := v_3) hx hb hr (fun t ht hW => ⟨⟨v_3, ws, rfl, ⟨⟨r_v_3.to (by decide), (fun h0 => ⟨⟨_, m_v_10, r_v_10⟩, trivial⟩), (fun h0 => trivial)⟩, hw.1, hw.2.2.2.2.1⟩, by rw [ht]; exact hw.2.1, va_K.moved hW.alike hK, hw.2.2.1⟩, hw.2.2.2.1.F ht⟩) hw.2.2.2.1.2.2 dX3_tellName_77
    · have r_vu_1 : RI vu_1 1 4 := rc_neL r_vu_1 rl_0 (ti_ne c_36) (by decide)
      refine lv_iconst (v := (-1)) hx hb dX3_tellName_39 (by decide) ?_
      subst hQ
      exact W.iret (v := (-1)) hx hb hr (fun t ht hW => ⟨⟨(-1), ws, rfl, ⟨⟨rl_m1.to (by decide), (fun h0 => absurd h0 (by decide)), (fun h0 => trivial)⟩, hw.1, hw.2.2.2.2.1⟩, by rw [ht]; exact hw.2.1, va_K.moved hW.alike hK, hw.2.2.1⟩, hw.2.2.2.1.F ht⟩) hw.2.2.2.1.2.2 dX3_tellName_40
  refine lv_aload_n hx hb dX3_tellName_0 rfl (lv_at hl 1 rfl) ?_
  refine tg_getN (ci := 7) (ts := ty_TAPE) (C := RX7) (T := TX7) (N := 12) hx hb hts inX7 hown hK hw h_p1 rfl rfl 7 (by decide) (hSD.nest tn_97) (fun _ h9 => h9) (ft := vI (-2147483648) 2147483647) rfl dX3_tellName_1 (fun u_11 hv_u_11 m_u_11 => ?_)
  obtain ⟨vu_11, rfl, r_vu_11⟩ := hv_u_11
  refine lv_iconst (v := 2) hx hb dX3_tellName_4 (by decide) ?_
  refine lv_icmp_eq (tgt := 16) hx hb dX3_tellName_5 (by decide) (fun c_5 => ?_) (fun c_5 => ?_)
  · have r_vu_11 : RI vu_11 2 2 := rc_eq1 r_vu_11 rl_2 (ti_eq c_5) (by decide)
    refine lv_aload_n hx hb dX3_tellName_16 rfl (lv_at hl 0 rfl) ?_
    refine lv_aload_n hx hb dX3_tellName_17 rfl (lv_at hl 1 rfl) ?_
    refine tg_getN (ci := 7) (ts := ty_TAPE) (C := RX7) (T := TX7) (N := 12) hx hb hts inX7 hown hK hw h_p1 rfl rfl 8 (by decide) (hSD.nest tn_99) (fun _ h9 => h9) (ft := vJ (-9223372036854775808) 9223372036854775807) rfl dX3_tellName_18 (fun u_12 hv_u_12 m_u_12 => ?_)
    obtain ⟨vu_12, rfl, r_vu_12⟩ := hv_u_12
    refine tk_ir (va_runV (As := [.long vu_12]) (rest := []) ⟨hx, hb, hml, hown, hts⟩ (c_X3_isTold l D cy z s.heap.size Ps w0 hw.1 p0 vu_12 h_p0 r_vu_12) (cwV 1 hts (gV tw_507 tw_509 ts_8 tw_11 tw_510) rfl rfl rfl (by decide +kernel) ⟨Nat.le_of_ble_eq_true rfl, Nat.le_of_ble_eq_true rfl⟩) (tg_preV hw hK hSD hA (ci := 3) (q := (RX3, TX3, 9)) rfl h_p0 rfl) rfl rfl hl.1 rfl (lv_room (Nat.le_of_ble_eq_true rfl)) dX3_tellName_21 ⟨Nat.le_of_ble_eq_true rfl, Nat.le_of_ble_eq_true rfl⟩) hw hA (fun v_13  H locs hp_v_13 hw => ?_)
    have r_v_13 : RI v_13 0 1 := hp_v_13.1
    refine lv_if_eq (tgt := 32) hx hb dX3_tellName_24 (by decide) (fun c_24 => ?_) (fun c_24 => ?_)
    · have r_v_13 : RI v_13 0 0 := rc_eq1 r_v_13 rl_0 (ti_eq c_24) (by decide)
      exact B32  w0 _ _ ls r_p2 x_MLT_p0_1 hw hl
    · have r_v_13 : RI v_13 1 1 := rc_neL r_v_13 rl_0 (ti_ne c_24) (by decide)
      refine lv_aload_n hx hb dX3_tellName_27 rfl (lv_at hl 1 rfl) ?_
      refine lv_iconst (v := 3) hx hb dX3_tellName_28 (by decide) ?_
      refine tk_v (va_runV (As := [.int 3]) (rest := []) ⟨hx, hb, hml, hown, hts⟩ (c_X7_refuse__2 l D cy z H.size Ps w0 hw.1 p1 3 h_p1 (rl_3.to (by decide))) (cwV 1 hts (gV tw_450 tw_443 tw_444 tw_2 tw_445) rfl rfl rfl (by decide +kernel) ⟨Nat.le_of_ble_eq_true rfl, Nat.le_of_ble_eq_true rfl⟩) (tg_preV hw hK hSD hA (ci := 7) (q := (RX7, TX7, 12)) rfl h_p1 rfl) rfl rfl hl.1 rfl (lv_room (Nat.le_of_ble_eq_true rfl)) dX3_tellName_29 ⟨Nat.le_of_ble_eq_true rfl, Nat.le_of_ble_eq_true rfl⟩) hw hA ⟨by decide, by decide⟩ (fun ws H locs hp_v_14 hw hF9 => ?_)
      have m_u_11 := FLD.over hF9 m_u_11 (by decide)
      have m_u_12 := FLD.over hF9 m_u_12 (by decide)
      have x_MLT_p0_1 := AXC.over hF9 x_MLT_p0_1 (by decide)
      obtain ⟨v_15, m_v_15, r_v_15⟩ := (hp_v_14.1)
      exact B32  ws _ _ ls r_p2 x_MLT_p0_1 hw hl
  · refine lv_aload_n hx hb dX3_tellName_8 rfl (lv_at hl 1 rfl) ?_
    refine lv_iconst (v := 1) hx hb dX3_tellName_9 (by decide) ?_
    refine tk_v (va_runV (As := [.int 1]) (rest := []) ⟨hx, hb, hml, hown, hts⟩ (c_X7_refuse__2 l D cy z s.heap.size Ps w0 hw.1 p1 1 h_p1 (rl_1.to (by decide))) (cwV 1 hts (gV tw_450 tw_443 tw_444 tw_2 tw_445) rfl rfl rfl (by decide +kernel) ⟨Nat.le_of_ble_eq_true rfl, Nat.le_of_ble_eq_true rfl⟩) (tg_preV hw hK hSD hA (ci := 7) (q := (RX7, TX7, 12)) rfl h_p1 rfl) rfl rfl hl.1 rfl (lv_room (Nat.le_of_ble_eq_true rfl)) dX3_tellName_10 ⟨Nat.le_of_ble_eq_true rfl, Nat.le_of_ble_eq_true rfl⟩) hw hA ⟨by decide, by decide⟩ (fun ws H locs hp_v_16 hw hF9 => ?_)
    have m_u_11 := FLD.over hF9 m_u_11 (by decide)
    have x_MLT_p0_1 := AXC.over hF9 x_MLT_p0_1 (by decide)
    obtain ⟨v_17, m_v_17, r_v_17⟩ := (hp_v_16.1)
    refine lv_goto (tgt := 32) hx hb dX3_tellName_13 (by decide) ?_
    exact B32  ws _ _ ls r_p2 x_MLT_p0_1 hw hl
abbrev wr_X3_readNamed__1 : List (Nat × Nat) := [(7, 5), (7, 6), (7, 7), (7, 8), (7, 9), (7, 10), (7, 11)]
abbrev wa_X3_readNamed__1 : List Nat := [1, 4]
set_option maxHeartbeats 4000000 in
set_option maxRecDepth 100000 in
theorem c_X3_readNamed__1 (l : Launch) (D : va_G) (cy : Nat → ClassId) (z : Nat → Nat) (sz : Nat) (Ps : PSI) (w0 : va_W) (hT : HT cy GG Ps w0) (p0 : Nat) (p1 : Nat) (p2 : Nat) (p3 : Int32) (h_p0 : (p0, 25) ∈ Ps) (h_p1 : (p1, 26) ∈ Ps) (h_p2 : (p2, 24) ∈ Ps) (r_p3 : RI p3 1 1) (x_MLT_p0_1 : AXC 3 1 4 (fun f => (f 1).toInt < 4) Ps w0 p0) : Met l yX3_readNamed (Cond.code yX3_readNamed cX3_readNamed 5 none :: gT) ({ frames := 4, cells := 0, slots := 0, locals := 800 } : Room) (va_Pc [.ref p0, .ref p1, .ref p2, .int p3] (PRE D cy z w0 sz)) (va_Qv (fun (u : va_W) => (True) ∧ HT cy GG Ps u ∧ FR wr_X3_readNamed__1 wa_X3_readNamed__1 Ps w0 u) (BB D cy (va_A w0 sz) (fun (u : va_W) => u)) (va_A w0 sz)) 0 0 (va_A w0 sz) := by
  refine Met.ofW (cc := cX3_readNamed) (maxL := 5) (ret := none) (by decide) rfl ?_
  intro p e s m args below meth c s₁ B hml hv
  obtain ⟨rfl, hsz, hP, hK, hD0, hSD⟩ := hv
  have hx := B.exec
  have hb := B.bytes
  have hr := B.returns
  have hlocks := B.notSynchronized
  have hts : ∀ w ∈ gT, w.before _ s = true := fun w h => atoms_spec (ws := Cond.code yX3_readNamed cX3_readNamed 5 none :: gT) B.pre w (List.mem_cons_of_mem _ h)
  have hown : s.vm.findClass RX3 = some m.cls := findClass_of_methodNamed B.named
  subst hsz
  have hD := hD0.self (sz := s.heap.size)
  generalize hAe : va_A w0 s.heap.size = A at hD hSD ⊢
  have hA : ∀ q : Nat, s.heap.size ≤ q → A q := fun q h => by rw [← hAe]; exact Or.inr h
  have hl := lv_entry ([.ref p0, .ref p1, .ref p2, .int p3]) (n := 5) (Nat.le_of_ble_eq_true rfl)
  rw [lg_entry_eq]
  generalize (lg_sl ([.ref p0, .ref p1, .ref p2, .int p3]) ++ List.replicate (5 - (lg_sl ([.ref p0, .ref p1, .ref p2, .int p3])).length) Slot.unset).toArray = ls at hl ⊢
  have hl : lv_has ls 5 [(0, .ref p0), (1, .ref p1), (2, .ref p2), (3, .int p3)] := hl
  refine nameQ (fun Q hQ => ?_)
  have hw : WD D cy GG A s wr_X3_readNamed__1 wa_X3_readNamed__1 Ps w0 Ps w0 s.heap [] := ⟨hT, hP, hD, va_S.rf, FR.rf, hT.1, [], (List.append_nil _).symm⟩
  refine lv_aload_n hx hb dX3_readNamed_0 rfl (lv_at hl 0 rfl) ?_
  refine lv_aload_n hx hb dX3_readNamed_1 rfl (lv_at hl 1 rfl) ?_
  refine lv_iload_n hx hb dX3_readNamed_2 rfl (lv_at hl 3 rfl) ?_
  refine tk_i (va_runV (As := [.ref p1, .int p3]) (rest := []) ⟨hx, hb, hml, hown, hts⟩ (c_X3_tellName__1 l D cy z s.heap.size Ps w0 hw.1 p0 p1 p3 h_p0 h_p1 r_p3 x_MLT_p0_1) (cwV 2 hts (gV tw_503 tw_505 ts_7 tw_11 tw_506) rfl rfl rfl (by decide +kernel) ⟨Nat.le_of_ble_eq_true rfl, Nat.le_of_ble_eq_true rfl⟩) (tg_preV hw hK hSD hA (ci := 3) (q := (RX3, TX3, 9)) rfl h_p0 rfl) rfl rfl hl.1 rfl (lv_room (Nat.le_of_ble_eq_true rfl)) dX3_readNamed_3 ⟨Nat.le_of_ble_eq_true rfl, Nat.le_of_ble_eq_true rfl⟩) hw hA ⟨by decide, by decide⟩ (fun v_1 ws H locs hp_v_1 hw hF9 => ?_)
  have r_v_1 : RI v_1 (-1) 3 := hp_v_1.1
  by_cases c9_v_1 : v_1 = 0
  · have r_v_1 : RI v_1 0 0 := by rw [c9_v_1]; exact rl_0
    obtain ⟨v_2, m_v_2, r_v_2⟩ := ((hp_v_1.2.1 c9_v_1).1)
    refine lv_istore (lv' := [(4, .int v_1), (0, .ref p0), (1, .ref p1), (2, .ref p2), (3, .int p3)]) hx hb dX3_readNamed_6 hl (by decide) rfl (fun ls hl => ?_)
    refine lv_iload hx hb dX3_readNamed_8 (lv_at hl 0 rfl) ?_
    refine lv_iconst (v := (-1)) hx hb dX3_readNamed_10 (by decide) ?_
    refine lv_icmp_ne (tgt := 15) hx hb dX3_readNamed_11 (by decide) (fun c_11 => ?_) (fun c_11 => ?_)
    · refine lv_iload_n hx hb dX3_readNamed_15 rfl (lv_at hl 4 rfl) ?_
      refine lv_if_ne (tgt := 36) hx hb dX3_readNamed_16 (by decide) (fun c_16 => ?_) (fun c_16 => ?_)
      · refine lv_iload_n hx hb dX3_readNamed_36 rfl (lv_at hl 4 rfl) ?_
        refine lv_iconst (v := 2) hx hb dX3_readNamed_37 (by decide) ?_
        refine lv_icmp_ne (tgt := 61) hx hb dX3_readNamed_38 (by decide) (fun c_38 => ?_) (fun c_38 => ?_)
        · refine lv_iload_n hx hb dX3_readNamed_61 rfl (lv_at hl 4 rfl) ?_
          refine lv_iconst (v := 3) hx hb dX3_readNamed_62 (by decide) ?_
          refine lv_icmp_ne (tgt := 97) hx hb dX3_readNamed_63 (by decide) (fun c_63 => ?_) (fun c_63 => ?_)
          · subst hQ
            exact W.vret hx hb hr (fun t ht hW => ⟨⟨ws, rfl, ⟨trivial, hw.1, hw.2.2.2.2.1⟩, by rw [ht]; exact hw.2.1, va_K.moved hW.alike hK, hw.2.2.1⟩, hw.2.2.2.1.F ht⟩) hw.2.2.2.1.2.2 dX3_readNamed_97
          · have r_p3 : RI p3 3 1 := rc_eq1 r_p3 rl_3 (ti_eq c_63) (by decide)
            exact (r_p3.no (by decide)).elim
        · have r_p3 : RI p3 2 1 := rc_eq1 r_p3 rl_2 (ti_eq c_38) (by decide)
          exact (r_p3.no (by decide)).elim
      · have r_p3 : RI p3 1 0 := rc_eq1 r_p3 rl_0 (ti_eq c_16) (by decide)
        exact (r_p3.no (by decide)).elim
    · have r_v_1 : RI v_1 0 (-1) := rc_eq1 r_v_1 rl_m1 (ti_eq c_11) (by decide)
      exact (r_v_1.no (by decide)).elim
  · refine lv_istore (lv' := [(4, .int v_1), (0, .ref p0), (1, .ref p1), (2, .ref p2), (3, .int p3)]) hx hb dX3_readNamed_6 hl (by decide) rfl (fun ls hl => ?_)
    refine lv_iload hx hb dX3_readNamed_8 (lv_at hl 0 rfl) ?_
    refine lv_iconst (v := (-1)) hx hb dX3_readNamed_10 (by decide) ?_
    refine lv_icmp_ne (tgt := 15) hx hb dX3_readNamed_11 (by decide) (fun c_11 => ?_) (fun c_11 => ?_)
    · have r_v_1 : RI v_1 0 3 := rc_neL r_v_1 rl_m1 (ti_ne c_11) (by decide)
      refine lv_iload_n hx hb dX3_readNamed_15 rfl (lv_at hl 4 rfl) ?_
      refine lv_if_ne (tgt := 36) hx hb dX3_readNamed_16 (by decide) (fun c_16 => ?_) (fun c_16 => ?_)
      · refine lv_iload_n hx hb dX3_readNamed_36 rfl (lv_at hl 4 rfl) ?_
        refine lv_iconst (v := 2) hx hb dX3_readNamed_37 (by decide) ?_
        refine lv_icmp_ne (tgt := 61) hx hb dX3_readNamed_38 (by decide) (fun c_38 => ?_) (fun c_38 => ?_)
        · refine lv_iload_n hx hb dX3_readNamed_61 rfl (lv_at hl 4 rfl) ?_
          refine lv_iconst (v := 3) hx hb dX3_readNamed_62 (by decide) ?_
          refine lv_icmp_ne (tgt := 97) hx hb dX3_readNamed_63 (by decide) (fun c_63 => ?_) (fun c_63 => ?_)
          · subst hQ
            exact W.vret hx hb hr (fun t ht hW => ⟨⟨ws, rfl, ⟨trivial, hw.1, hw.2.2.2.2.1⟩, by rw [ht]; exact hw.2.1, va_K.moved hW.alike hK, hw.2.2.1⟩, hw.2.2.2.1.F ht⟩) hw.2.2.2.1.2.2 dX3_readNamed_97
          · have r_p3 : RI p3 3 1 := rc_eq1 r_p3 rl_3 (ti_eq c_63) (by decide)
            exact (r_p3.no (by decide)).elim
        · have r_p3 : RI p3 2 1 := rc_eq1 r_p3 rl_2 (ti_eq c_38) (by decide)
          exact (r_p3.no (by decide)).elim
      · have r_p3 : RI p3 1 0 := rc_eq1 r_p3 rl_0 (ti_eq c_16) (by decide)
        exact (r_p3.no (by decide)).elim
    · have r_v_1 : RI v_1 (-1) (-1) := rc_eq1 r_v_1 rl_m1 (ti_eq c_11) (by decide)
      subst hQ
      exact W.vret hx hb hr (fun t ht hW => ⟨⟨ws, rfl, ⟨trivial, hw.1, hw.2.2.2.2.1⟩, by rw [ht]; exact hw.2.1, va_K.moved hW.alike hK, hw.2.2.1⟩, hw.2.2.2.1.F ht⟩) hw.2.2.2.1.2.2 dX3_readNamed_14
abbrev wr_X3_beginsLine__4 : List (Nat × Nat) := [(7, 5), (7, 6), (7, 7), (7, 8), (7, 9), (7, 10), (7, 11)]
abbrev wa_X3_beginsLine__4 : List Nat := []
set_option maxHeartbeats 4000000 in
set_option maxRecDepth 100000 in
theorem c_X3_beginsLine__4 (l : Launch) (D : va_G) (cy : Nat → ClassId) (z : Nat → Nat) (sz : Nat) (Ps : PSI) (w0 : va_W) (hT : HT cy GG Ps w0) (p0 : Nat) (p1 : Nat) (p2 : Int32) (f1_10 : Int32) (h_p0 : (p0, 25) ∈ Ps) (h_p1 : (p1, 26) ∈ Ps) (r_p2 : RI p2 130 130) (r_f1_10 : RI f1_10 0 0) (m_f1_10 : FLD w0 p1 7 10 (.int f1_10)) : Met l yX3_beginsLine (Cond.code yX3_beginsLine cX3_beginsLine 3 (some .boolean) :: gT) ({ frames := 3, cells := 0, slots := 0, locals := 600 } : Room) (va_Pc [.ref p0, .ref p1, .int p2] (PRE D cy z w0 sz)) (va_Qi (fun (r : Int32) (u : va_W) => (RI r 0 1 ∧ (r = 0 → (∃ v9 : Int32, FLD u p1 7 10 (.int v9) ∧ RI v9 1 4) ∧ True) ∧ (¬ r = 0 → (∃ v9 : Int32, FLD u p1 7 10 (.int v9) ∧ RI v9 0 0) ∧ AXC 3 1 4 (fun f => (f 2).toInt < 6) Ps u p0 ∧ True)) ∧ HT cy GG Ps u ∧ FR wr_X3_beginsLine__4 wa_X3_beginsLine__4 Ps w0 u) (BB D cy (va_A w0 sz) (fun (u : va_W) => u)) (va_A w0 sz)) 0 0 (va_A w0 sz) := by
  refine Met.ofW (cc := cX3_beginsLine) (maxL := 3) (ret := (some .boolean)) (by decide) rfl ?_
  intro p e s m args below meth c s₁ B hml hv
  obtain ⟨rfl, hsz, hP, hK, hD0, hSD⟩ := hv
  have hx := B.exec
  have hb := B.bytes
  have hr := B.returns
  have hlocks := B.notSynchronized
  have hts : ∀ w ∈ gT, w.before _ s = true := fun w h => atoms_spec (ws := Cond.code yX3_beginsLine cX3_beginsLine 3 (some .boolean) :: gT) B.pre w (List.mem_cons_of_mem _ h)
  have hown : s.vm.findClass RX3 = some m.cls := findClass_of_methodNamed B.named
  subst hsz
  have hD := hD0.self (sz := s.heap.size)
  generalize hAe : va_A w0 s.heap.size = A at hD hSD ⊢
  have hA : ∀ q : Nat, s.heap.size ≤ q → A q := fun q h => by rw [← hAe]; exact Or.inr h
  have hl := lv_entry ([.ref p0, .ref p1, .int p2]) (n := 3) (Nat.le_of_ble_eq_true rfl)
  rw [lg_entry_eq]
  generalize (lg_sl ([.ref p0, .ref p1, .int p2]) ++ List.replicate (3 - (lg_sl ([.ref p0, .ref p1, .int p2])).length) Slot.unset).toArray = ls at hl ⊢
  have hl : lv_has ls 3 [(0, .ref p0), (1, .ref p1), (2, .int p2)] := hl
  refine nameQ (fun Q hQ => ?_)
  have hw : WD D cy GG A s wr_X3_beginsLine__4 wa_X3_beginsLine__4 Ps w0 Ps w0 s.heap [] := ⟨hT, hP, hD, va_S.rf, FR.rf, hT.1, [], (List.append_nil _).symm⟩
  refine lv_iload_n hx hb dX3_beginsLine_0 rfl (lv_at hl 2 rfl) ?_
  refine lv_sipush (v := 128) hx hb dX3_beginsLine_1 (by decide) ?_
  refine lv_icmp_lt (tgt := 14) hx hb dX3_beginsLine_4 (by decide) (fun c_4 => ?_) (fun c_4 => ?_)
  · have r_p2 : RI p2 130 127 := rc_lt1 r_p2 rl_128 (ti_lt c_4) (by decide)
    exact (r_p2.no (by decide)).elim
  · refine lv_iload_n hx hb dX3_beginsLine_7 rfl (lv_at hl 2 rfl) ?_
    refine lv_sipush (v := 136) hx hb dX3_beginsLine_8 (by decide) ?_
    refine lv_icmp_le (tgt := 22) hx hb dX3_beginsLine_11 (by decide) (fun c_11 => ?_) (fun c_11 => ?_)
    · refine lv_iload_n hx hb dX3_beginsLine_22 rfl (lv_at hl 2 rfl) ?_
      refine lv_sipush (v := 131) hx hb dX3_beginsLine_23 (by decide) ?_
      refine lv_icmp_gt (tgt := 59) hx hb dX3_beginsLine_26 (by decide) (fun c_26 => ?_) (fun c_26 => ?_)
      · have r_p2 : RI p2 132 130 := rc_lt2 rl_131 r_p2 (ti_lt c_26) (by decide)
        exact (r_p2.no (by decide)).elim
      · refine lv_aload_n hx hb dX3_beginsLine_29 rfl (lv_at hl 0 rfl) ?_
        refine tg_get (ci := 3) (ts := ty_POST) (C := RX3) (T := TX3) (N := 9) hx hb hts inX3 hown hK hw h_p0 rfl rfl 1 (by decide) (hts _ tw_201) (fun _ h9 => h9) (ft := vR 4) rfl dX3_beginsLine_30 (fun u_1 hv_u_1 m_u_1 => ?_)
        obtain ⟨vu_1, rfl, h_vu_1⟩ := hv_u_1
        refine lv_iload_n hx hb dX3_beginsLine_33 rfl (lv_at hl 2 rfl) ?_
        refine lv_sipush (v := 128) hx hb dX3_beginsLine_34 (by decide) ?_
        refine lv_isub hx hb dX3_beginsLine_37 (lv_topi (fun v_2 e_v_2 => ?_))
        obtain ⟨t_v_2, r_v_2⟩ := tq_sub (lo := 2) (hi := 2) r_p2 rl_128 (by decide +kernel) e_v_2
        have t_v_2 : v_2.toInt = p2.toInt - 128 := t_v_2
        refine tg_iald (lo := 0) (hi := 6) hx hb hK hw h_vu_1 rfl 2 2 r_v_2 (by decide) (by decide +kernel) dX3_beginsLine_38 (fun v_3 r_v_3 m_v_3 o_v_3 => ?_)
        refine va_gets (v := .ref (z 0)) hx hb hSD.2.2.2.1 hw.2.2.2.1 hown (hts _ tw_198) (fun _ h9 => h9) dX3_beginsLine_39 ?_
        refine lv_iload_n hx hb dX3_beginsLine_42 rfl (lv_at hl 2 rfl) ?_
        refine lv_sipush (v := 128) hx hb dX3_beginsLine_43 (by decide) ?_
        refine lv_isub hx hb dX3_beginsLine_46 (lv_topi (fun v_4 e_v_4 => ?_))
        obtain ⟨t_v_4, r_v_4⟩ := tq_sub (lo := 2) (hi := 2) r_p2 rl_128 (by decide +kernel) e_v_4
        have t_v_4 : v_4.toInt = p2.toInt - 128 := t_v_4
        refine tz_mk 2 6 hx hb hSD.2.2.2.2.1 hw.2.2.2.1 r_v_4 (by decide) rfl dX3_beginsLine_47 (fun v_5 e_v_5 => ?_)
        have r_v_5 : RI v_5 6 6 := by rw [e_v_5]; exact rl_6
        refine lv_icmp_lt (tgt := 59) hx hb dX3_beginsLine_48 (by decide) (fun c_48 => ?_) (fun c_48 => ?_)
        · have r_v_3 : RI v_3 0 5 := rc_lt1 r_v_3 r_v_5 (ti_lt c_48) (by decide)
          have x_MLT_p0_2 : AXC 3 1 4 (fun f => (f 2).toInt < 6) Ps w0 p0 := AXC.mk hw h_vu_1 rfl m_u_1 (fun f9 g9 => by have e9 := g9 _ _ m_v_3; have j9 : Int32.toNatClampNeg v_2 = 2 := (by have k1 := r_v_2.cl (by decide); have k2 := r_v_2.eq; omega); rw [j9] at e9; show _ < _; rw [e9]; have k3 := r_v_3.2; omega)
          refine lv_iload_n hx hb dX3_beginsLine_59 rfl (lv_at hl 2 rfl) ?_
          refine lv_sipush (v := 135) hx hb dX3_beginsLine_60 (by decide) ?_
          refine lv_icmp_ne (tgt := 73) hx hb dX3_beginsLine_63 (by decide) (fun c_63 => ?_) (fun c_63 => ?_)
          · refine lv_iload_n hx hb dX3_beginsLine_73 rfl (lv_at hl 2 rfl) ?_
            refine lv_sipush (v := 136) hx hb dX3_beginsLine_74 (by decide) ?_
            refine lv_icmp_ne (tgt := 92) hx hb dX3_beginsLine_77 (by decide) (fun c_77 => ?_) (fun c_77 => ?_)
            · refine lv_aload_n hx hb dX3_beginsLine_92 rfl (lv_at hl 1 rfl) ?_
              have hw8 := hw
              refine tk_v (va_runV (As := []) (rest := []) ⟨hx, hb, hml, hown, hts⟩ (c_X7_pass__3 l D cy z s.heap.size Ps w0 hw.1 p1 f1_10 h_p1 r_f1_10 m_f1_10) (cwV 0 hts (gV tw_451 tw_425 tw_426 tw_2 tw_427) rfl rfl rfl (by decide +kernel) ⟨Nat.le_of_ble_eq_true rfl, Nat.le_of_ble_eq_true rfl⟩) (tg_preV hw hK hSD hA (ci := 7) (q := (RX7, TX7, 12)) rfl h_p1 rfl) rfl rfl hl.1 rfl (lv_room (Nat.le_of_ble_eq_true rfl)) dX3_beginsLine_93 ⟨Nat.le_of_ble_eq_true rfl, Nat.le_of_ble_eq_true rfl⟩) hw hA ⟨by decide, by decide⟩ (fun ws H locs hp_v_6 hw hF9 => ?_)
              have m_v_3 := AEL.over hw8 hF9 h_vu_1 m_v_3 (by decide)
              have m_f1_10 := FLD.over hF9 m_f1_10 (by decide)
              have m_u_1 := FLD.over hF9 m_u_1 (by decide)
              have x_MLT_p0_2 := AXC.over hF9 x_MLT_p0_2 (by decide)
              obtain ⟨v_7, m_v_7, r_v_7⟩ := (hp_v_6.1)
              refine lv_aload_n hx hb dX3_beginsLine_96 rfl (lv_at hl 1 rfl) ?_
              refine tg_memN (ci := 7) (C := RX7) (T := TX7) (N := 12) hx hb hts inX7 hown hK hw 10 m_v_7 rfl (by decide) (hSD.nest tn_105) (fun _ h9 => h9) dX3_beginsLine_97 ?_
              refine lv_if_ne (tgt := 107) hx hb dX3_beginsLine_100 (by decide) (fun c_100 => ?_) (fun c_100 => ?_)
              · exact absurd (r_v_7.eq.trans rl_0.eq.symm) ((ti_ne c_100))
              · refine lv_iconst (v := 1) hx hb dX3_beginsLine_103 (by decide) ?_
                refine lv_goto (tgt := 108) hx hb dX3_beginsLine_104 (by decide) ?_
                subst hQ
                exact W.zret (v := 1) hx hb hr (rfl) (fun t ht hW => ⟨⟨1, ws, rfl, ⟨⟨rl_1.to (by decide), (fun h0 => absurd h0 (by decide)), (fun h0 => ⟨⟨_, m_v_7, r_v_7⟩, x_MLT_p0_2, trivial⟩)⟩, hw.1, hw.2.2.2.2.1⟩, by rw [ht]; exact hw.2.1, va_K.moved hW.alike hK, hw.2.2.1⟩, hw.2.2.2.1.F ht⟩) hw.2.2.2.1.2.2 dX3_beginsLine_108
            · have r_p2 : RI p2 136 130 := rc_eq1 r_p2 rl_136 (ti_eq c_77) (by decide)
              exact (r_p2.no (by decide)).elim
          · have r_p2 : RI p2 135 130 := rc_eq1 r_p2 rl_135 (ti_eq c_63) (by decide)
            exact (r_p2.no (by decide)).elim
        · have r_v_3 : RI v_3 6 6 := rc_le2 r_v_5 r_v_3 (ti_nlt c_48) (by decide)
          refine lv_aload_n hx hb dX3_beginsLine_51 rfl (lv_at hl 1 rfl) ?_
          refine lv_iconst (v := 4) hx hb dX3_beginsLine_52 (by decide) ?_
          have hw8 := hw
          refine tk_v (va_runV (As := [.int 4]) (rest := []) ⟨hx, hb, hml, hown, hts⟩ (c_X7_refuse__3 l D cy z s.heap.size Ps w0 hw.1 p1 4 f1_10 h_p1 (rl_4.to (by decide)) r_f1_10 m_f1_10) (cwV 1 hts (gV tw_450 tw_443 tw_444 tw_2 tw_445) rfl rfl rfl (by decide +kernel) ⟨Nat.le_of_ble_eq_true rfl, Nat.le_of_ble_eq_true rfl⟩) (tg_preV hw hK hSD hA (ci := 7) (q := (RX7, TX7, 12)) rfl h_p1 rfl) rfl rfl hl.1 rfl (lv_room (Nat.le_of_ble_eq_true rfl)) dX3_beginsLine_53 ⟨Nat.le_of_ble_eq_true rfl, Nat.le_of_ble_eq_true rfl⟩) hw hA ⟨by decide, by decide⟩ (fun ws H locs hp_v_8 hw hF9 => ?_)
          have m_v_3 := AEL.over hw8 hF9 h_vu_1 m_v_3 (by decide)
          have m_u_1 := FLD.over hF9 m_u_1 (by decide)
          obtain ⟨v_9, m_v_9, r_v_9⟩ := (hp_v_8.1)
          refine lv_goto (tgt := 92) hx hb dX3_beginsLine_56 (by decide) ?_
          refine lv_aload_n hx hb dX3_beginsLine_92 rfl (lv_at hl 1 rfl) ?_
          refine tk_vr (va_runV (As := []) (rest := []) ⟨hx, hb, hml, hown, hts⟩ (c_X7_pass__1 l D cy z H.size Ps ws hw.1 p1 v_9 h_p1 r_v_9 m_v_9) (cwV 0 hts (gV tw_451 tw_425 tw_426 tw_2 tw_427) rfl rfl rfl (by decide +kernel) ⟨Nat.le_of_ble_eq_true rfl, Nat.le_of_ble_eq_true rfl⟩) (tg_preV hw hK hSD hA (ci := 7) (q := (RX7, TX7, 12)) rfl h_p1 rfl) rfl rfl hl.1 rfl (lv_room (Nat.le_of_ble_eq_true rfl)) dX3_beginsLine_93 ⟨Nat.le_of_ble_eq_true rfl, Nat.le_of_ble_eq_true rfl⟩) hw hA (fun  H locs hp_v_10 hw => ?_)
          refine lv_aload_n hx hb dX3_beginsLine_96 rfl (lv_at hl 1 rfl) ?_
          refine tg_memN (ci := 7) (C := RX7) (T := TX7) (N := 12) hx hb hts inX7 hown hK hw 10 m_v_9 rfl (by decide) (hSD.nest tn_105) (fun _ h9 => h9) dX3_beginsLine_97 ?_
          refine lv_if_ne (tgt := 107) hx hb dX3_beginsLine_100 (by decide) (fun c_100 => ?_) (fun c_100 => ?_)
          · refine lv_iconst (v := 0) hx hb dX3_beginsLine_107 (by decide) ?_
            subst hQ
            exact W.zret (v := 0) hx hb hr (rfl) (fun t ht hW => ⟨⟨0, ws, rfl, ⟨⟨rl_0.to (by decide), (fun h0 => ⟨⟨_, m_v_9, r_v_9⟩, trivial⟩), (fun h0 => absurd rfl h0)⟩, hw.1, hw.2.2.2.2.1⟩, by rw [ht]; exact hw.2.1, va_K.moved hW.alike hK, hw.2.2.1⟩, hw.2.2.2.1.F ht⟩) hw.2.2.2.1.2.2 dX3_beginsLine_108
          · have r_v_9 : RI v_9 1 0 := rc_eq1 r_v_9 rl_0 (ti_eq c_100) (by decide)
            exact (r_v_9.no (by decide)).elim
    · have r_p2 : RI p2 137 130 := rc_lt2 rl_136 r_p2 (ti_nle c_11) (by decide)
      exact (r_p2.no (by decide)).elim
abbrev wr_X3_tellName__2 : List (Nat × Nat) := [(7, 5), (7, 6), (7, 7), (7, 8), (7, 9), (7, 10), (7, 11)]
abbrev wa_X3_tellName__2 : List Nat := [1, 4]
set_option maxHeartbeats 4000000 in
set_option maxRecDepth 100000 in
theorem c_X3_tellName__2 (l : Launch) (D : va_G) (cy : Nat → ClassId) (z : Nat → Nat) (sz : Nat) (Ps : PSI) (w0 : va_W) (hT : HT cy GG Ps w0) (p0 : Nat) (p1 : Nat) (p2 : Int32) (h_p0 : (p0, 25) ∈ Ps) (h_p1 : (p1, 26) ∈ Ps) (r_p2 : RI p2 2 2) (x_MLT_p0_2 : AXC 3 1 4 (fun f => (f 2).toInt < 6) Ps w0 p0) : Met l yX3_tellName (Cond.code yX3_tellName cX3_tellName 4 (some .int) :: gT) ({ frames := 3, cells := 0, slots := 0, locals := 600 } : Room) (va_Pc [.ref p0, .ref p1, .int p2] (PRE D cy z w0 sz)) (va_Qi (fun (r : Int32) (u : va_W) => (RI r (-1) 5 ∧ (r = 0 → (∃ v9 : Int32, FLD u p1 7 10 (.int v9) ∧ RI v9 0 0) ∧ True) ∧ (¬ r = 0 → True)) ∧ HT cy GG Ps u ∧ FR wr_X3_tellName__2 wa_X3_tellName__2 Ps w0 u) (BB D cy (va_A w0 sz) (fun (u : va_W) => u)) (va_A w0 sz)) 0 0 (va_A w0 sz) := by
  refine Met.ofW (cc := cX3_tellName) (maxL := 4) (ret := (some .int)) (by decide) rfl ?_
  intro p e s m args below meth c s₁ B hml hv
  obtain ⟨rfl, hsz, hP, hK, hD0, hSD⟩ := hv
  have hx := B.exec
  have hb := B.bytes
  have hr := B.returns
  have hlocks := B.notSynchronized
  have hts : ∀ w ∈ gT, w.before _ s = true := fun w h => atoms_spec (ws := Cond.code yX3_tellName cX3_tellName 4 (some .int) :: gT) B.pre w (List.mem_cons_of_mem _ h)
  have hown : s.vm.findClass RX3 = some m.cls := findClass_of_methodNamed B.named
  subst hsz
  have hD := hD0.self (sz := s.heap.size)
  generalize hAe : va_A w0 s.heap.size = A at hD hSD ⊢
  have hA : ∀ q : Nat, s.heap.size ≤ q → A q := fun q h => by rw [← hAe]; exact Or.inr h
  have hl := lv_entry ([.ref p0, .ref p1, .int p2]) (n := 4) (Nat.le_of_ble_eq_true rfl)
  rw [lg_entry_eq]
  generalize (lg_sl ([.ref p0, .ref p1, .int p2]) ++ List.replicate (4 - (lg_sl ([.ref p0, .ref p1, .int p2])).length) Slot.unset).toArray = ls at hl ⊢
  have hl : lv_has ls 4 [(0, .ref p0), (1, .ref p1), (2, .int p2)] := hl
  refine nameQ (fun Q hQ => ?_)
  have hw : WD D cy GG A s wr_X3_tellName__2 wa_X3_tellName__2 Ps w0 Ps w0 s.heap [] := ⟨hT, hP, hD, va_S.rf, FR.rf, hT.1, [], (List.append_nil _).symm⟩
  have B32 : ∀ (ws : va_W) (H : Heap) (locs : List Loc) (ls : Array Slot), RI p2 2 2 → AXC 3 1 4 (fun f => (f 2).toInt < 6) Ps ws p0 → WD D cy GG A s wr_X3_tellName__2 wa_X3_tellName__2 Ps w0 Ps ws H locs → lv_has ls 4 [(0, .ref p0), (1, .ref p1), (2, .int p2)] → W p l e (headSpec (Cond.code yX3_tellName cX3_tellName 4 (some .int) :: gT) ({ frames := 3, cells := 0, slots := 0, locals := 600 } : Room)).room s m ([.ref p0, .ref p1, .int p2] : List Value).toArray below meth c H locs 0 0 Q (F0 m 32 ls []) := by
    intro  ws H locs ls r_p2 x_MLT_p0_2 hw hl
    refine lv_aload_n hx hb dX3_tellName_32 rfl (lv_at hl 1 rfl) ?_
    refine tg_getN (ci := 7) (ts := ty_TAPE) (C := RX7) (T := TX7) (N := 12) hx hb hts inX7 hown hK hw h_p1 rfl rfl 10 (by decide) (hSD.nest tn_105) (fun _ h9 => h9) (ft := vI 0 4) rfl dX3_tellName_33 (fun u_1 hv_u_1 m_u_1 => ?_)
    obtain ⟨vu_1, rfl, r_vu_1⟩ := hv_u_1
    refine lv_if_eq (tgt := 41) hx hb dX3_tellName_36 (by decide) (fun c_36 => ?_) (fun c_36 => ?_)
    · have r_vu_1 : RI vu_1 0 0 := rc_eq1 r_vu_1 rl_0 (ti_eq c_36) (by decide)
      refine lv_aload_n hx hb dX3_tellName_41 rfl (lv_at hl 0 rfl) ?_
      refine tg_get (ci := 3) (ts := ty_POST) (C := RX3) (T := TX3) (N := 9) hx hb hts inX3 hown hK hw h_p0 rfl rfl 1 (by decide) (hts _ tw_201) (fun _ h9 => h9) (ft := vR 4) rfl dX3_tellName_42 (fun u_2 hv_u_2 m_u_2 => ?_)
      obtain ⟨vu_2, rfl, h_vu_2⟩ := hv_u_2
      refine lv_iload_n hx hb dX3_tellName_45 rfl (lv_at hl 2 rfl) ?_
      refine tg_iald (lo := 0) (hi := 6) hx hb hK hw h_vu_2 rfl 2 2 r_p2 (by decide) (by decide +kernel) dX3_tellName_46 (fun v_3 r_v_3 m_v_3 o_v_3 => ?_)
      have r_v_3 : RI v_3 0 5 := ⟨r_v_3.1, by obtain ⟨f9, q9, e9⟩ := AXC.use hw x_MLT_p0_2 m_u_2 m_v_3; have j9 : Int32.toNatClampNeg p2 = 2 := (by have k1 := r_p2.cl (by decide); have k2 := r_p2.eq; omega); rw [j9] at e9; have q8 : (f9 2).toInt < 6 := q9; rw [e9] at q8; omega⟩
      refine lv_istore_n (lv' := [(3, .int v_3), (0, .ref p0), (1, .ref p1), (2, .int p2)]) hx hb dX3_tellName_47 rfl hl (by decide) rfl (fun ls hl => ?_)
      refine lv_aload_n hx hb dX3_tellName_48 rfl (lv_at hl 1 rfl) ?_
      refine tg_get (ci := 3) (ts := ty_POST) (C := RX3) (T := TX3) (N := 9) hx hb hts inX3 hown hK hw h_p0 rfl rfl 0 (by decide) (hts _ tw_200) (fun _ h9 => h9) (ft := vR 1) rfl dX3_tellName_49 (fun u_4 hv_u_4 m_u_4 => ?_)
      obtain ⟨vu_4, rfl, h_vu_4⟩ := hv_u_4
      refine lv_iload_n hx hb dX3_tellName_52 rfl (lv_at hl 3 rfl) ?_
      refine lv_bipush (v := 8) hx hb dX3_tellName_53 (by decide) ?_
      refine lv_imul hx hb dX3_tellName_55 (lv_topi (fun v_5 e_v_5 => ?_))
      obtain ⟨t_v_5, r_v_5⟩ := tq_mul (lo := 16) (hi := 16) r_p2 rl_8 (by decide +kernel) e_v_5
      have t_v_5 : v_5.toInt = p2.toInt * 8 := t_v_5
      refine lv_iload_n hx hb dX3_tellName_56 rfl (lv_at hl 0 rfl) ?_
      refine lv_iadd hx hb dX3_tellName_57 (lv_topi (fun v_6 e_v_6 => ?_))
      obtain ⟨t_v_6, r_v_6⟩ := tq_add (lo := 16) (hi := 21) r_v_5 r_v_3 (by decide +kernel) e_v_6
      refine lv_aload_n hx hb dX3_tellName_58 rfl (lv_at hl 2 rfl) ?_
      refine tg_getN (ci := 7) (ts := ty_TAPE) (C := RX7) (T := TX7) (N := 12) hx hb hts inX7 hown hK hw h_p1 rfl rfl 8 (by decide) (hSD.nest tn_99) (fun _ h9 => h9) (ft := vJ (-9223372036854775808) 9223372036854775807) rfl dX3_tellName_59 (fun u_7 hv_u_7 m_u_7 => ?_)
      obtain ⟨vu_7, rfl, r_vu_7⟩ := hv_u_7
      refine tg_last hx hb hK hw h_vu_4 rfl r_v_6 (by decide) r_vu_7 (by decide) (by decide) dX3_tellName_62 (fun ws H locs hw hF9 => ?_)
      have x_MLT_p0_2 := AXC.over hF9 x_MLT_p0_2 (by decide)
      have m_u_1 := FLD.over hF9 m_u_1 (by decide)
      have m_u_2 := FLD.over hF9 m_u_2 (by decide)
      have m_u_4 := FLD.over hF9 m_u_4 (by decide)
      have m_u_7 := FLD.over hF9 m_u_7 (by decide)
      refine lv_aload_n hx hb dX3_tellName_63 rfl (lv_at hl 1 rfl) ?_
      refine tg_mem (ci := 3) (C := RX3) (T := TX3) (N := 9) hx hb hts inX3 hown hK hw 1 m_u_2 rfl (by decide) (hts _ tw_201) (fun _ h9 => h9) dX3_tellName_64 ?_
      refine lv_iload_n hx hb dX3_tellName_67 rfl (lv_at hl 3 rfl) ?_
      refine lv_iload_n hx hb dX3_tellName_68 rfl (lv_at hl 0 rfl) ?_
      refine lv_iconst (v := 1) hx hb dX3_tellName_69 (by decide) ?_
      refine lv_iadd hx hb dX3_tellName_70 (lv_topi (fun v_8 e_v_8 => ?_))
      obtain ⟨t_v_8, r_v_8⟩ := tq_add (lo := 1) (hi := 6) r_v_3 rl_1 (by decide +kernel) e_v_8
      have t_v_8 : v_8.toInt = v_3.toInt + 1 := t_v_8
      refine tg_iast hx hb hK hw h_vu_2 rfl 2 2 r_p2 (by decide) r_v_8 (by decide +kernel) (fun _ _ _ _ _ => trivial) (by decide) dX3_tellName_71 (fun ws H locs hw hF9 hU9 => ?_)
      have m_u_1 := FLD.over hF9 m_u_1 (by decide)
      have m_u_2 := FLD.over hF9 m_u_2 (by decide)
      have m_u_4 := FLD.over hF9 m_u_4 (by decide)
      have m_u_7 := FLD.over hF9 m_u_7 (by decide)
      refine lv_aload_n hx hb dX3_tellName_72 rfl (lv_at hl 2 rfl) ?_
      refine tk_v (va_runV (As := []) (rest := []) ⟨hx, hb, hml, hown, hts⟩ (c_X7_pass__3 l D cy z H.size Ps ws hw.1 p1 vu_1 h_p1 r_vu_1 m_u_1) (cwV 0 hts (gV tw_451 tw_425 tw_426 tw_2 tw_427) rfl rfl rfl (by decide +kernel) ⟨Nat.le_of_ble_eq_true rfl, Nat.le_of_ble_eq_true rfl⟩) (tg_preV hw hK hSD hA (ci := 7) (q := (RX7, TX7, 12)) rfl h_p1 rfl) rfl rfl hl.1 rfl (lv_room (Nat.le_of_ble_eq_true rfl)) dX3_tellName_73 ⟨Nat.le_of_ble_eq_true rfl, Nat.le_of_ble_eq_true rfl⟩) hw hA ⟨by decide, by decide⟩ (fun ws H locs hp_v_9 hw hF9 => ?_)
      have m_u_1 := FLD.over hF9 m_u_1 (by decide)
      have m_u_2 := FLD.over hF9 m_u_2 (by decide)
      have m_u_4 := FLD.over hF9 m_u_4 (by decide)
      obtain ⟨v_10, m_v_10, r_v_10⟩ := (hp_v_9.1)
      refine lv_iload_n hx hb dX3_tellName_76 rfl (lv_at hl 0 rfl) ?_
      subst hQ
      exact W.iret (v := v_3) hx hb hr (fun t ht hW => ⟨⟨v_3, ws, rfl, ⟨⟨r_v_3.to (by decide), (fun h0 => ⟨⟨_, m_v_10, r_v_10⟩, trivial⟩), (fun h0 => trivial)⟩, hw.1, hw.2.2.2.2.1⟩, by rw [ht]; exact hw.2.1, va_K.moved hW.alike hK, hw.2.2.1⟩, hw.2.2.2.1.F ht⟩) hw.2.2.2.1.2.2 dX3_tellName_77
    · have r_vu_1 : RI vu_1 1 4 := rc_neL r_vu_1 rl_0 (ti_ne c_36) (by decide)
      refine lv_iconst (v := (-1)) hx hb dX3_tellName_39 (by decide) ?_
      subst hQ
      exact W.iret (v := (-1)) hx hb hr (fun t ht hW => ⟨⟨(-1), ws, rfl, ⟨⟨rl_m1.to (by decide), (fun h0 => absurd h0 (by decide)), (fun h0 => trivial)⟩, hw.1, hw.2.2.2.2.1⟩, by rw [ht]; exact hw.2.1, va_K.moved hW.alike hK, hw.2.2.1⟩, hw.2.2.2.1.F ht⟩) hw.2.2.2.1.2.2 dX3_tellName_40
  refine lv_aload_n hx hb dX3_tellName_0 rfl (lv_at hl 1 rfl) ?_
  refine tg_getN (ci := 7) (ts := ty_TAPE) (C := RX7) (T := TX7) (N := 12) hx hb hts inX7 hown hK hw h_p1 rfl rfl 7 (by decide) (hSD.nest tn_97) (fun _ h9 => h9) (ft := vI (-2147483648) 2147483647) rfl dX3_tellName_1 (fun u_11 hv_u_11 m_u_11 => ?_)
  obtain ⟨vu_11, rfl, r_vu_11⟩ := hv_u_11
  refine lv_iconst (v := 2) hx hb dX3_tellName_4 (by decide) ?_
  refine lv_icmp_eq (tgt := 16) hx hb dX3_tellName_5 (by decide) (fun c_5 => ?_) (fun c_5 => ?_)
  · have r_vu_11 : RI vu_11 2 2 := rc_eq1 r_vu_11 rl_2 (ti_eq c_5) (by decide)
    refine lv_aload_n hx hb dX3_tellName_16 rfl (lv_at hl 0 rfl) ?_
    refine lv_aload_n hx hb dX3_tellName_17 rfl (lv_at hl 1 rfl) ?_
    refine tg_getN (ci := 7) (ts := ty_TAPE) (C := RX7) (T := TX7) (N := 12) hx hb hts inX7 hown hK hw h_p1 rfl rfl 8 (by decide) (hSD.nest tn_99) (fun _ h9 => h9) (ft := vJ (-9223372036854775808) 9223372036854775807) rfl dX3_tellName_18 (fun u_12 hv_u_12 m_u_12 => ?_)
    obtain ⟨vu_12, rfl, r_vu_12⟩ := hv_u_12
    refine tk_ir (va_runV (As := [.long vu_12]) (rest := []) ⟨hx, hb, hml, hown, hts⟩ (c_X3_isTold l D cy z s.heap.size Ps w0 hw.1 p0 vu_12 h_p0 r_vu_12) (cwV 1 hts (gV tw_507 tw_509 ts_8 tw_11 tw_510) rfl rfl rfl (by decide +kernel) ⟨Nat.le_of_ble_eq_true rfl, Nat.le_of_ble_eq_true rfl⟩) (tg_preV hw hK hSD hA (ci := 3) (q := (RX3, TX3, 9)) rfl h_p0 rfl) rfl rfl hl.1 rfl (lv_room (Nat.le_of_ble_eq_true rfl)) dX3_tellName_21 ⟨Nat.le_of_ble_eq_true rfl, Nat.le_of_ble_eq_true rfl⟩) hw hA (fun v_13  H locs hp_v_13 hw => ?_)
    have r_v_13 : RI v_13 0 1 := hp_v_13.1
    refine lv_if_eq (tgt := 32) hx hb dX3_tellName_24 (by decide) (fun c_24 => ?_) (fun c_24 => ?_)
    · have r_v_13 : RI v_13 0 0 := rc_eq1 r_v_13 rl_0 (ti_eq c_24) (by decide)
      exact B32  w0 _ _ ls r_p2 x_MLT_p0_2 hw hl
    · have r_v_13 : RI v_13 1 1 := rc_neL r_v_13 rl_0 (ti_ne c_24) (by decide)
      refine lv_aload_n hx hb dX3_tellName_27 rfl (lv_at hl 1 rfl) ?_
      refine lv_iconst (v := 3) hx hb dX3_tellName_28 (by decide) ?_
      refine tk_v (va_runV (As := [.int 3]) (rest := []) ⟨hx, hb, hml, hown, hts⟩ (c_X7_refuse__2 l D cy z H.size Ps w0 hw.1 p1 3 h_p1 (rl_3.to (by decide))) (cwV 1 hts (gV tw_450 tw_443 tw_444 tw_2 tw_445) rfl rfl rfl (by decide +kernel) ⟨Nat.le_of_ble_eq_true rfl, Nat.le_of_ble_eq_true rfl⟩) (tg_preV hw hK hSD hA (ci := 7) (q := (RX7, TX7, 12)) rfl h_p1 rfl) rfl rfl hl.1 rfl (lv_room (Nat.le_of_ble_eq_true rfl)) dX3_tellName_29 ⟨Nat.le_of_ble_eq_true rfl, Nat.le_of_ble_eq_true rfl⟩) hw hA ⟨by decide, by decide⟩ (fun ws H locs hp_v_14 hw hF9 => ?_)
      have m_u_11 := FLD.over hF9 m_u_11 (by decide)
      have m_u_12 := FLD.over hF9 m_u_12 (by decide)
      have x_MLT_p0_2 := AXC.over hF9 x_MLT_p0_2 (by decide)
      obtain ⟨v_15, m_v_15, r_v_15⟩ := (hp_v_14.1)
      exact B32  ws _ _ ls r_p2 x_MLT_p0_2 hw hl
  · refine lv_aload_n hx hb dX3_tellName_8 rfl (lv_at hl 1 rfl) ?_
    refine lv_iconst (v := 1) hx hb dX3_tellName_9 (by decide) ?_
    refine tk_v (va_runV (As := [.int 1]) (rest := []) ⟨hx, hb, hml, hown, hts⟩ (c_X7_refuse__2 l D cy z s.heap.size Ps w0 hw.1 p1 1 h_p1 (rl_1.to (by decide))) (cwV 1 hts (gV tw_450 tw_443 tw_444 tw_2 tw_445) rfl rfl rfl (by decide +kernel) ⟨Nat.le_of_ble_eq_true rfl, Nat.le_of_ble_eq_true rfl⟩) (tg_preV hw hK hSD hA (ci := 7) (q := (RX7, TX7, 12)) rfl h_p1 rfl) rfl rfl hl.1 rfl (lv_room (Nat.le_of_ble_eq_true rfl)) dX3_tellName_10 ⟨Nat.le_of_ble_eq_true rfl, Nat.le_of_ble_eq_true rfl⟩) hw hA ⟨by decide, by decide⟩ (fun ws H locs hp_v_16 hw hF9 => ?_)
    have m_u_11 := FLD.over hF9 m_u_11 (by decide)
    have x_MLT_p0_2 := AXC.over hF9 x_MLT_p0_2 (by decide)
    obtain ⟨v_17, m_v_17, r_v_17⟩ := (hp_v_16.1)
    refine lv_goto (tgt := 32) hx hb dX3_tellName_13 (by decide) ?_
    exact B32  ws _ _ ls r_p2 x_MLT_p0_2 hw hl
abbrev wr_X7_nameAhead__10 : List (Nat × Nat) := [(7, 10), (7, 11)]
abbrev wa_X7_nameAhead__10 : List Nat := []
set_option maxHeartbeats 4000000 in
set_option maxRecDepth 100000 in
theorem c_X7_nameAhead__10 (l : Launch) (D : va_G) (cy : Nat → ClassId) (z : Nat → Nat) (sz : Nat) (Ps : PSI) (w0 : va_W) (hT : HT cy GG Ps w0) (p0 : Nat) (p1 : Nat) (p2 : Int32) (f0_10 : Int32) (h_p0 : (p0, 26) ∈ Ps) (h_p1 : (p1, 25) ∈ Ps) (r_p2 : RI p2 1 1) (r_f0_10 : RI f0_10 0 0) (m_f0_10 : FLD w0 p0 7 10 (.int f0_10)) : Met l yX7_nameAhead (Cond.code yX7_nameAhead cX7_nameAhead 4 (some .int) :: gT) ({ frames := 2, cells := 0, slots := 0, locals := 400 } : Room) (va_Pc [.ref p0, .ref p1, .int p2] (PRE D cy z w0 sz)) (va_Qi (fun (r : Int32) (u : va_W) => (RI r (-1) 3 ∧ (r = 0 → True) ∧ (¬ r = 0 → True) ∧ (True) ∧ (r.toInt < 0 → FLTp u p0 ∧ True) ∧ (0 ≤ r.toInt → True)) ∧ HT cy GG Ps u ∧ FR wr_X7_nameAhead__10 wa_X7_nameAhead__10 Ps w0 u) (BB D cy (va_A w0 sz) (fun (u : va_W) => u)) (va_A w0 sz)) 0 0 (va_A w0 sz) := by
  refine Met.ofW (cc := cX7_nameAhead) (maxL := 4) (ret := (some .int)) (by decide) rfl ?_
  intro p e s m args below meth c s₁ B hml hv
  obtain ⟨rfl, hsz, hP, hK, hD0, hSD⟩ := hv
  have hx := B.exec
  have hb := B.bytes
  have hr := B.returns
  have hlocks := B.notSynchronized
  have hts : ∀ w ∈ gT, w.before _ s = true := fun w h => atoms_spec (ws := Cond.code yX7_nameAhead cX7_nameAhead 4 (some .int) :: gT) B.pre w (List.mem_cons_of_mem _ h)
  have hown : s.vm.findClass RX7 = some m.cls := findClass_of_methodNamed B.named
  subst hsz
  have hD := hD0.self (sz := s.heap.size)
  generalize hAe : va_A w0 s.heap.size = A at hD hSD ⊢
  have hA : ∀ q : Nat, s.heap.size ≤ q → A q := fun q h => by rw [← hAe]; exact Or.inr h
  have hl := lv_entry ([.ref p0, .ref p1, .int p2]) (n := 4) (Nat.le_of_ble_eq_true rfl)
  rw [lg_entry_eq]
  generalize (lg_sl ([.ref p0, .ref p1, .int p2]) ++ List.replicate (4 - (lg_sl ([.ref p0, .ref p1, .int p2])).length) Slot.unset).toArray = ls at hl ⊢
  have hl : lv_has ls 4 [(0, .ref p0), (1, .ref p1), (2, .int p2)] := hl
  refine nameQ (fun Q hQ => ?_)
  have hw : WD D cy GG A s wr_X7_nameAhead__10 wa_X7_nameAhead__10 Ps w0 Ps w0 s.heap [] := ⟨hT, hP, hD, va_S.rf, FR.rf, hT.1, [], (List.append_nil _).symm⟩
  refine lv_aload_n hx hb dX7_nameAhead_0 rfl (lv_at hl 0 rfl) ?_
  refine tg_get (ci := 7) (ts := ty_TAPE) (C := RX7) (T := TX7) (N := 12) hx hb hts inX7 hown hK hw h_p0 rfl rfl 7 (by decide) (hts _ tw_98) (fun _ h9 => h9) (ft := vI (-2147483648) 2147483647) rfl dX7_nameAhead_1 (fun u_1 hv_u_1 m_u_1 => ?_)
  obtain ⟨vu_1, rfl, r_vu_1⟩ := hv_u_1
  refine lv_iconst (v := 2) hx hb dX7_nameAhead_4 (by decide) ?_
  refine lv_icmp_eq (tgt := 15) hx hb dX7_nameAhead_5 (by decide) (fun c_5 => ?_) (fun c_5 => ?_)
  · have r_vu_1 : RI vu_1 2 2 := rc_eq1 r_vu_1 rl_2 (ti_eq c_5) (by decide)
    refine lv_aload_n hx hb dX7_nameAhead_15 rfl (lv_at hl 1 rfl) ?_
    refine lv_aload_n hx hb dX7_nameAhead_16 rfl (lv_at hl 0 rfl) ?_
    refine tg_get (ci := 7) (ts := ty_TAPE) (C := RX7) (T := TX7) (N := 12) hx hb hts inX7 hown hK hw h_p0 rfl rfl 8 (by decide) (hts _ tw_100) (fun _ h9 => h9) (ft := vJ (-9223372036854775808) 9223372036854775807) rfl dX7_nameAhead_17 (fun u_2 hv_u_2 m_u_2 => ?_)
    obtain ⟨vu_2, rfl, r_vu_2⟩ := hv_u_2
    refine lv_iload_n hx hb dX7_nameAhead_20 rfl (lv_at hl 2 rfl) ?_
    refine tk_ir (va_runV (As := [.long vu_2, .int p2]) (rest := []) ⟨hx, hb, hml, hown, hts⟩ (c_X3_numberOf__1 l D cy z s.heap.size Ps w0 hw.1 p1 vu_2 p2 h_p1 r_vu_2 r_p2) (cwV 2 hts (gV tw_460 tw_461 tw_462 tw_11 tw_463) rfl rfl rfl (by decide +kernel) ⟨Nat.le_of_ble_eq_true rfl, Nat.le_of_ble_eq_true rfl⟩) (tg_preV hw hK hSD hA (ci := 3) (q := (RX3, TX3, 9)) rfl h_p1 rfl) rfl rfl hl.1 rfl (lv_room (Nat.le_of_ble_eq_true rfl)) dX7_nameAhead_21 ⟨Nat.le_of_ble_eq_true rfl, Nat.le_of_ble_eq_true rfl⟩) hw hA (fun v_3  H locs hp_v_3 hw => ?_)
    have r_v_3 : RI v_3 (-1) 3 := hp_v_3.1
    refine lv_istore_n (lv' := [(3, .int v_3), (0, .ref p0), (1, .ref p1), (2, .int p2)]) hx hb dX7_nameAhead_24 rfl hl (by decide) rfl (fun ls hl => ?_)
    refine lv_iload_n hx hb dX7_nameAhead_25 rfl (lv_at hl 0 rfl) ?_
    refine lv_iconst (v := (-1)) hx hb dX7_nameAhead_26 (by decide) ?_
    refine lv_icmp_ne (tgt := 35) hx hb dX7_nameAhead_27 (by decide) (fun c_27 => ?_) (fun c_27 => ?_)
    · have r_v_3 : RI v_3 0 3 := rc_neL r_v_3 rl_m1 (ti_ne c_27) (by decide)
      refine lv_aload_n hx hb dX7_nameAhead_35 rfl (lv_at hl 1 rfl) ?_
      refine tg_mem (ci := 7) (C := RX7) (T := TX7) (N := 12) hx hb hts inX7 hown hK hw 10 m_f0_10 rfl (by decide) (hts _ tw_104) (fun _ h9 => h9) dX7_nameAhead_36 ?_
      refine lv_if_ne (tgt := 46) hx hb dX7_nameAhead_39 (by decide) (fun c_39 => ?_) (fun c_39 => ?_)
      · exact absurd (r_f0_10.eq.trans rl_0.eq.symm) ((ti_ne c_39))
      · refine lv_iload_n hx hb dX7_nameAhead_42 rfl (lv_at hl 0 rfl) ?_
        refine lv_goto (tgt := 47) hx hb dX7_nameAhead_43 (by decide) ?_
        subst hQ
        exact W.iret (v := v_3) hx hb hr (fun t ht hW => ⟨⟨v_3, w0, rfl, ⟨⟨r_v_3.to (by decide), (fun h0 => trivial), (fun h0 => trivial), trivial, (fun h0 => absurd h0 (by have h8 := r_v_3; unfold RI at h8; omega)), (fun _ => trivial)⟩, hw.1, hw.2.2.2.2.1⟩, by rw [ht]; exact hw.2.1, va_K.moved hW.alike hK, hw.2.2.1⟩, hw.2.2.2.1.F ht⟩) hw.2.2.2.1.2.2 dX7_nameAhead_47
    · have r_v_3 : RI v_3 (-1) (-1) := rc_eq1 r_v_3 rl_m1 (ti_eq c_27) (by decide)
      refine lv_aload_n hx hb dX7_nameAhead_30 rfl (lv_at hl 1 rfl) ?_
      refine lv_iconst (v := 3) hx hb dX7_nameAhead_31 (by decide) ?_
      refine tk_v (va_runV (As := [.int 3]) (rest := []) ⟨hx, hb, hml, hown, hts⟩ (c_X7_refuse__3 l D cy z H.size Ps w0 hw.1 p0 3 f0_10 h_p0 (rl_3.to (by decide)) r_f0_10 m_f0_10) (cwV 1 hts (gV tw_442 tw_443 tw_444 tw_2 tw_445) rfl rfl rfl (by decide +kernel) ⟨Nat.le_of_ble_eq_true rfl, Nat.le_of_ble_eq_true rfl⟩) (tg_preV hw hK hSD hA (ci := 7) (q := (RX7, TX7, 12)) rfl h_p0 rfl) rfl rfl hl.1 rfl (lv_room (Nat.le_of_ble_eq_true rfl)) dX7_nameAhead_32 ⟨Nat.le_of_ble_eq_true rfl, Nat.le_of_ble_eq_true rfl⟩) hw hA ⟨by decide, by decide⟩ (fun ws H locs hp_v_4 hw hF9 => ?_)
      have m_u_1 := FLD.over hF9 m_u_1 (by decide)
      obtain ⟨v_5, m_v_5, r_v_5⟩ := (hp_v_4.1)
      refine lv_aload_n hx hb dX7_nameAhead_35 rfl (lv_at hl 1 rfl) ?_
      refine tg_mem (ci := 7) (C := RX7) (T := TX7) (N := 12) hx hb hts inX7 hown hK hw 10 m_v_5 rfl (by decide) (hts _ tw_104) (fun _ h9 => h9) dX7_nameAhead_36 ?_
      refine lv_if_ne (tgt := 46) hx hb dX7_nameAhead_39 (by decide) (fun c_39 => ?_) (fun c_39 => ?_)
      · refine lv_iconst (v := (-1)) hx hb dX7_nameAhead_46 (by decide) ?_
        subst hQ
        have x_FLT_p0 : FLTp ws p0 := ⟨_, m_v_5, r_v_5.to (by decide)⟩
        exact W.iret (v := (-1)) hx hb hr (fun t ht hW => ⟨⟨(-1), ws, rfl, ⟨⟨rl_m1.to (by decide), (fun _ => trivial), (fun h0 => trivial), trivial, (fun h0 => ⟨x_FLT_p0, trivial⟩), (fun _ => trivial)⟩, hw.1, hw.2.2.2.2.1⟩, by rw [ht]; exact hw.2.1, va_K.moved hW.alike hK, hw.2.2.1⟩, hw.2.2.2.1.F ht⟩) hw.2.2.2.1.2.2 dX7_nameAhead_47
      · have r_v_5 : RI v_5 1 0 := rc_eq1 r_v_5 rl_0 (ti_eq c_39) (by decide)
        exact (r_v_5.no (by decide)).elim
  · refine lv_aload_n hx hb dX7_nameAhead_8 rfl (lv_at hl 0 rfl) ?_
    refine lv_iconst (v := 1) hx hb dX7_nameAhead_9 (by decide) ?_
    refine tk_v (va_runV (As := [.int 1]) (rest := []) ⟨hx, hb, hml, hown, hts⟩ (c_X7_refuse__3 l D cy z s.heap.size Ps w0 hw.1 p0 1 f0_10 h_p0 (rl_1.to (by decide)) r_f0_10 m_f0_10) (cwV 1 hts (gV tw_442 tw_443 tw_444 tw_2 tw_445) rfl rfl rfl (by decide +kernel) ⟨Nat.le_of_ble_eq_true rfl, Nat.le_of_ble_eq_true rfl⟩) (tg_preV hw hK hSD hA (ci := 7) (q := (RX7, TX7, 12)) rfl h_p0 rfl) rfl rfl hl.1 rfl (lv_room (Nat.le_of_ble_eq_true rfl)) dX7_nameAhead_10 ⟨Nat.le_of_ble_eq_true rfl, Nat.le_of_ble_eq_true rfl⟩) hw hA ⟨by decide, by decide⟩ (fun ws H locs hp_v_6 hw hF9 => ?_)
    have m_u_1 := FLD.over hF9 m_u_1 (by decide)
    obtain ⟨v_7, m_v_7, r_v_7⟩ := (hp_v_6.1)
    refine lv_iconst (v := (-1)) hx hb dX7_nameAhead_13 (by decide) ?_
    subst hQ
    have x_FLT_p0 : FLTp ws p0 := ⟨_, m_v_7, r_v_7.to (by decide)⟩
    exact W.iret (v := (-1)) hx hb hr (fun t ht hW => ⟨⟨(-1), ws, rfl, ⟨⟨rl_m1.to (by decide), (fun _ => trivial), (fun h0 => trivial), trivial, (fun h0 => ⟨x_FLT_p0, trivial⟩), (fun _ => trivial)⟩, hw.1, hw.2.2.2.2.1⟩, by rw [ht]; exact hw.2.1, va_K.moved hW.alike hK, hw.2.2.1⟩, hw.2.2.2.1.F ht⟩) hw.2.2.2.1.2.2 dX7_nameAhead_14
abbrev wr_X7_takeName__9 : List (Nat × Nat) := [(7, 5), (7, 6), (7, 7), (7, 8), (7, 9), (7, 10), (7, 11)]
abbrev wa_X7_takeName__9 : List Nat := []
set_option maxHeartbeats 4000000 in
set_option maxRecDepth 100000 in
theorem c_X7_takeName__9 (l : Launch) (D : va_G) (cy : Nat → ClassId) (z : Nat → Nat) (sz : Nat) (Ps : PSI) (w0 : va_W) (hT : HT cy GG Ps w0) (p0 : Nat) (p1 : Nat) (p2 : Int32) (f0_10 : Int32) (h_p0 : (p0, 26) ∈ Ps) (h_p1 : (p1, 25) ∈ Ps) (r_p2 : RI p2 1 1) (r_f0_10 : RI f0_10 0 0) (m_f0_10 : FLD w0 p0 7 10 (.int f0_10)) : Met l yX7_takeName (Cond.code yX7_takeName cX7_takeName 4 (some .int) :: gT) ({ frames := 3, cells := 0, slots := 0, locals := 600 } : Room) (va_Pc [.ref p0, .ref p1, .int p2] (PRE D cy z w0 sz)) (va_Qi (fun (r : Int32) (u : va_W) => (RI r (-1) 3 ∧ (r = 0 → True) ∧ (¬ r = 0 → True) ∧ (True) ∧ (r.toInt < 0 → FLTp u p0 ∧ True) ∧ (0 ≤ r.toInt → True)) ∧ HT cy GG Ps u ∧ FR wr_X7_takeName__9 wa_X7_takeName__9 Ps w0 u) (BB D cy (va_A w0 sz) (fun (u : va_W) => u)) (va_A w0 sz)) 0 0 (va_A w0 sz) := by
  refine Met.ofW (cc := cX7_takeName) (maxL := 4) (ret := (some .int)) (by decide) rfl ?_
  intro p e s m args below meth c s₁ B hml hv
  obtain ⟨rfl, hsz, hP, hK, hD0, hSD⟩ := hv
  have hx := B.exec
  have hb := B.bytes
  have hr := B.returns
  have hlocks := B.notSynchronized
  have hts : ∀ w ∈ gT, w.before _ s = true := fun w h => atoms_spec (ws := Cond.code yX7_takeName cX7_takeName 4 (some .int) :: gT) B.pre w (List.mem_cons_of_mem _ h)
  have hown : s.vm.findClass RX7 = some m.cls := findClass_of_methodNamed B.named
  subst hsz
  have hD := hD0.self (sz := s.heap.size)
  generalize hAe : va_A w0 s.heap.size = A at hD hSD ⊢
  have hA : ∀ q : Nat, s.heap.size ≤ q → A q := fun q h => by rw [← hAe]; exact Or.inr h
  have hl := lv_entry ([.ref p0, .ref p1, .int p2]) (n := 4) (Nat.le_of_ble_eq_true rfl)
  rw [lg_entry_eq]
  generalize (lg_sl ([.ref p0, .ref p1, .int p2]) ++ List.replicate (4 - (lg_sl ([.ref p0, .ref p1, .int p2])).length) Slot.unset).toArray = ls at hl ⊢
  have hl : lv_has ls 4 [(0, .ref p0), (1, .ref p1), (2, .int p2)] := hl
  refine nameQ (fun Q hQ => ?_)
  have hw : WD D cy GG A s wr_X7_takeName__9 wa_X7_takeName__9 Ps w0 Ps w0 s.heap [] := ⟨hT, hP, hD, va_S.rf, FR.rf, hT.1, [], (List.append_nil _).symm⟩
  refine lv_aload_n hx hb dX7_takeName_0 rfl (lv_at hl 0 rfl) ?_
  refine lv_aload_n hx hb dX7_takeName_1 rfl (lv_at hl 1 rfl) ?_
  refine lv_iload_n hx hb dX7_takeName_2 rfl (lv_at hl 2 rfl) ?_
  refine tk_i (va_runV (As := [.ref p1, .int p2]) (rest := []) ⟨hx, hb, hml, hown, hts⟩ (c_X7_nameAhead__10 l D cy z s.heap.size Ps w0 hw.1 p0 p1 p2 f0_10 h_p0 h_p1 r_p2 r_f0_10 m_f0_10) (cwV 2 hts (gV tw_468 tw_457 tw_458 tw_2 tw_459) rfl rfl rfl (by decide +kernel) ⟨Nat.le_of_ble_eq_true rfl, Nat.le_of_ble_eq_true rfl⟩) (tg_preV hw hK hSD hA (ci := 7) (q := (RX7, TX7, 12)) rfl h_p0 rfl) rfl rfl hl.1 rfl (lv_room (Nat.le_of_ble_eq_true rfl)) dX7_takeName_3 ⟨Nat.le_of_ble_eq_true rfl, Nat.le_of_ble_eq_true rfl⟩) hw hA ⟨by decide, by decide⟩ (fun v_1 ws H locs hp_v_1 hw hF9 => ?_)
  have r_v_1 : RI v_1 (-1) 3 := hp_v_1.1
  by_cases c9_v_1 : v_1.toInt < 0
  · have r_v_1 : RI v_1 (-1) (-1) := by unfold RI at r_v_1 ⊢; omega
    have x_FLT_p0 := (hp_v_1.2.2.2.2.1 (by omega)).1
    obtain ⟨v_2, m_v_2, r_v_2⟩ := id x_FLT_p0
    refine lv_istore_n (lv' := [(3, .int v_1), (0, .ref p0), (1, .ref p1), (2, .int p2)]) hx hb dX7_takeName_6 rfl hl (by decide) rfl (fun ls hl => ?_)
    refine lv_aload_n hx hb dX7_takeName_7 rfl (lv_at hl 1 rfl) ?_
    refine tk_vr (va_runV (As := []) (rest := []) ⟨hx, hb, hml, hown, hts⟩ (c_X7_pass__1 l D cy z H.size Ps ws hw.1 p0 v_2 h_p0 r_v_2 m_v_2) (cwV 0 hts (gV tw_424 tw_425 tw_426 tw_2 tw_427) rfl rfl rfl (by decide +kernel) ⟨Nat.le_of_ble_eq_true rfl, Nat.le_of_ble_eq_true rfl⟩) (tg_preV hw hK hSD hA (ci := 7) (q := (RX7, TX7, 12)) rfl h_p0 rfl) rfl rfl hl.1 rfl (lv_room (Nat.le_of_ble_eq_true rfl)) dX7_takeName_8 ⟨Nat.le_of_ble_eq_true rfl, Nat.le_of_ble_eq_true rfl⟩) hw hA (fun  H locs hp_v_3 hw => ?_)
    refine lv_iload_n hx hb dX7_takeName_11 rfl (lv_at hl 0 rfl) ?_
    subst hQ
    exact W.iret (v := v_1) hx hb hr (fun t ht hW => ⟨⟨v_1, ws, rfl, ⟨⟨r_v_1.to (by decide), (fun _ => trivial), (fun h0 => trivial), trivial, (fun h0 => ⟨x_FLT_p0, trivial⟩), (fun _ => trivial)⟩, hw.1, hw.2.2.2.2.1⟩, by rw [ht]; exact hw.2.1, va_K.moved hW.alike hK, hw.2.2.1⟩, hw.2.2.2.1.F ht⟩) hw.2.2.2.1.2.2 dX7_takeName_12
  · have r_v_1 : RI v_1 0 3 := by unfold RI at r_v_1 ⊢; omega
    refine lv_istore_n (lv' := [(3, .int v_1), (0, .ref p0), (1, .ref p1), (2, .int p2)]) hx hb dX7_takeName_6 rfl hl (by decide) rfl (fun ls hl => ?_)
    refine lv_aload_n hx hb dX7_takeName_7 rfl (lv_at hl 1 rfl) ?_
    refine tk_v (va_runV (As := []) (rest := []) ⟨hx, hb, hml, hown, hts⟩ (c_X7_pass__2 l D cy z H.size Ps ws hw.1 p0 h_p0) (cwV 0 hts (gV tw_424 tw_425 tw_426 tw_2 tw_427) rfl rfl rfl (by decide +kernel) ⟨Nat.le_of_ble_eq_true rfl, Nat.le_of_ble_eq_true rfl⟩) (tg_preV hw hK hSD hA (ci := 7) (q := (RX7, TX7, 12)) rfl h_p0 rfl) rfl rfl hl.1 rfl (lv_room (Nat.le_of_ble_eq_true rfl)) dX7_takeName_8 ⟨Nat.le_of_ble_eq_true rfl, Nat.le_of_ble_eq_true rfl⟩) hw hA ⟨by decide, by decide⟩ (fun ws H locs hp_v_4 hw hF9 => ?_)
    refine lv_iload_n hx hb dX7_takeName_11 rfl (lv_at hl 0 rfl) ?_
    subst hQ
    exact W.iret (v := v_1) hx hb hr (fun t ht hW => ⟨⟨v_1, ws, rfl, ⟨⟨r_v_1.to (by decide), (fun h0 => trivial), (fun h0 => trivial), trivial, (fun h0 => absurd h0 (by have h8 := r_v_1; unfold RI at h8; omega)), (fun _ => trivial)⟩, hw.1, hw.2.2.2.2.1⟩, by rw [ht]; exact hw.2.1, va_K.moved hW.alike hK, hw.2.2.1⟩, hw.2.2.2.1.F ht⟩) hw.2.2.2.1.2.2 dX7_takeName_12
abbrev wr_X3_readNamed__2 : List (Nat × Nat) := [(7, 5), (7, 6), (7, 7), (7, 8), (7, 9), (7, 10), (7, 11)]
abbrev wa_X3_readNamed__2 : List Nat := [1, 4, 9]
set_option maxHeartbeats 4000000 in
set_option maxRecDepth 100000 in
theorem c_X3_readNamed__2 (l : Launch) (D : va_G) (cy : Nat → ClassId) (z : Nat → Nat) (sz : Nat) (Ps : PSI) (w0 : va_W) (hT : HT cy GG Ps w0) (p0 : Nat) (p1 : Nat) (p2 : Nat) (p3 : Int32) (h_p0 : (p0, 25) ∈ Ps) (h_p1 : (p1, 26) ∈ Ps) (h_p2 : (p2, 24) ∈ Ps) (r_p3 : RI p3 2 2) (x_MLT_p0_2 : AXC 3 1 4 (fun f => (f 2).toInt < 6) Ps w0 p0) : Met l yX3_readNamed (Cond.code yX3_readNamed cX3_readNamed 5 none :: gT) ({ frames := 4, cells := 0, slots := 0, locals := 800 } : Room) (va_Pc [.ref p0, .ref p1, .ref p2, .int p3] (PRE D cy z w0 sz)) (va_Qv (fun (u : va_W) => (True) ∧ HT cy GG Ps u ∧ FR wr_X3_readNamed__2 wa_X3_readNamed__2 Ps w0 u) (BB D cy (va_A w0 sz) (fun (u : va_W) => u)) (va_A w0 sz)) 0 0 (va_A w0 sz) := by
  refine Met.ofW (cc := cX3_readNamed) (maxL := 5) (ret := none) (by decide) rfl ?_
  intro p e s m args below meth c s₁ B hml hv
  obtain ⟨rfl, hsz, hP, hK, hD0, hSD⟩ := hv
  have hx := B.exec
  have hb := B.bytes
  have hr := B.returns
  have hlocks := B.notSynchronized
  have hts : ∀ w ∈ gT, w.before _ s = true := fun w h => atoms_spec (ws := Cond.code yX3_readNamed cX3_readNamed 5 none :: gT) B.pre w (List.mem_cons_of_mem _ h)
  have hown : s.vm.findClass RX3 = some m.cls := findClass_of_methodNamed B.named
  subst hsz
  have hD := hD0.self (sz := s.heap.size)
  generalize hAe : va_A w0 s.heap.size = A at hD hSD ⊢
  have hA : ∀ q : Nat, s.heap.size ≤ q → A q := fun q h => by rw [← hAe]; exact Or.inr h
  have hl := lv_entry ([.ref p0, .ref p1, .ref p2, .int p3]) (n := 5) (Nat.le_of_ble_eq_true rfl)
  rw [lg_entry_eq]
  generalize (lg_sl ([.ref p0, .ref p1, .ref p2, .int p3]) ++ List.replicate (5 - (lg_sl ([.ref p0, .ref p1, .ref p2, .int p3])).length) Slot.unset).toArray = ls at hl ⊢
  have hl : lv_has ls 5 [(0, .ref p0), (1, .ref p1), (2, .ref p2), (3, .int p3)] := hl
  refine nameQ (fun Q hQ => ?_)
  have hw : WD D cy GG A s wr_X3_readNamed__2 wa_X3_readNamed__2 Ps w0 Ps w0 s.heap [] := ⟨hT, hP, hD, va_S.rf, FR.rf, hT.1, [], (List.append_nil _).symm⟩
  refine lv_aload_n hx hb dX3_readNamed_0 rfl (lv_at hl 0 rfl) ?_
  refine lv_aload_n hx hb dX3_readNamed_1 rfl (lv_at hl 1 rfl) ?_
  refine lv_iload_n hx hb dX3_readNamed_2 rfl (lv_at hl 3 rfl) ?_
  refine tk_i (va_runV (As := [.ref p1, .int p3]) (rest := []) ⟨hx, hb, hml, hown, hts⟩ (c_X3_tellName__2 l D cy z s.heap.size Ps w0 hw.1 p0 p1 p3 h_p0 h_p1 r_p3 x_MLT_p0_2) (cwV 2 hts (gV tw_503 tw_505 ts_7 tw_11 tw_506) rfl rfl rfl (by decide +kernel) ⟨Nat.le_of_ble_eq_true rfl, Nat.le_of_ble_eq_true rfl⟩) (tg_preV hw hK hSD hA (ci := 3) (q := (RX3, TX3, 9)) rfl h_p0 rfl) rfl rfl hl.1 rfl (lv_room (Nat.le_of_ble_eq_true rfl)) dX3_readNamed_3 ⟨Nat.le_of_ble_eq_true rfl, Nat.le_of_ble_eq_true rfl⟩) hw hA ⟨by decide, by decide⟩ (fun v_1 ws H locs hp_v_1 hw hF9 => ?_)
  have r_v_1 : RI v_1 (-1) 5 := hp_v_1.1
  by_cases c9_v_1 : v_1 = 0
  · have r_v_1 : RI v_1 0 0 := by rw [c9_v_1]; exact rl_0
    obtain ⟨v_2, m_v_2, r_v_2⟩ := ((hp_v_1.2.1 c9_v_1).1)
    refine lv_istore (lv' := [(4, .int v_1), (0, .ref p0), (1, .ref p1), (2, .ref p2), (3, .int p3)]) hx hb dX3_readNamed_6 hl (by decide) rfl (fun ls hl => ?_)
    refine lv_iload hx hb dX3_readNamed_8 (lv_at hl 0 rfl) ?_
    refine lv_iconst (v := (-1)) hx hb dX3_readNamed_10 (by decide) ?_
    refine lv_icmp_ne (tgt := 15) hx hb dX3_readNamed_11 (by decide) (fun c_11 => ?_) (fun c_11 => ?_)
    · refine lv_iload_n hx hb dX3_readNamed_15 rfl (lv_at hl 4 rfl) ?_
      refine lv_if_ne (tgt := 36) hx hb dX3_readNamed_16 (by decide) (fun c_16 => ?_) (fun c_16 => ?_)
      · refine lv_iload_n hx hb dX3_readNamed_36 rfl (lv_at hl 4 rfl) ?_
        refine lv_iconst (v := 2) hx hb dX3_readNamed_37 (by decide) ?_
        refine lv_icmp_ne (tgt := 61) hx hb dX3_readNamed_38 (by decide) (fun c_38 => ?_) (fun c_38 => ?_)
        · exact absurd (r_p3.eq.trans rl_2.eq.symm) ((ti_ne c_38))
        · refine lv_aload_n hx hb dX3_readNamed_41 rfl (lv_at hl 3 rfl) ?_
          refine tg_getN (ci := 8) (ts := ty_WORLD) (C := RX8) (T := TX8) (N := 13) hx hb hts inX8 hown hK hw h_p2 rfl rfl 3 (by decide) (hSD.nest tn_254) (fun _ h9 => h9) (ft := vR 9) rfl dX3_readNamed_42 (fun u_3 hv_u_3 m_u_3 => ?_)
          obtain ⟨vu_3, rfl, h_vu_3⟩ := hv_u_3
          refine lv_iload hx hb dX3_readNamed_45 (lv_at hl 0 rfl) ?_
          refine lv_iconst (v := 0) hx hb dX3_readNamed_47 (by decide) ?_
          refine lv_aload_n hx hb dX3_readNamed_48 rfl (lv_at hl 2 rfl) ?_
          refine lv_aload_n hx hb dX3_readNamed_49 rfl (lv_at hl 1 rfl) ?_
          refine lv_iconst (v := 1) hx hb dX3_readNamed_50 (by decide) ?_
          refine tk_i (va_runV (As := [.ref p0, .int 1]) (rest := [.int 0, .int v_1, .ref vu_3]) ⟨hx, hb, hml, hown, hts⟩ (c_X7_takeName__9 l D cy z H.size Ps ws hw.1 p1 p0 1 v_2 h_p1 h_p0 rl_1 r_v_2 m_v_2) (cwV 2 hts (gV tw_464 tw_465 tw_466 tw_2 tw_467) rfl rfl rfl (by decide +kernel) ⟨Nat.le_of_ble_eq_true rfl, Nat.le_of_ble_eq_true rfl⟩) (tg_preV hw hK hSD hA (ci := 7) (q := (RX7, TX7, 12)) rfl h_p1 rfl) rfl rfl hl.1 rfl (lv_room (Nat.le_of_ble_eq_true rfl)) dX3_readNamed_51 ⟨Nat.le_of_ble_eq_true rfl, Nat.le_of_ble_eq_true rfl⟩) hw hA ⟨by decide, by decide⟩ (fun v_4 ws H locs hp_v_4 hw hF9 => ?_)
          have r_v_4 : RI v_4 (-1) 3 := hp_v_4.1
          by_cases c9_v_4 : v_4.toInt < 0
          · have r_v_4 : RI v_4 (-1) (-1) := by unfold RI at r_v_4 ⊢; omega
            have x_FLT_p1 := (hp_v_4.2.2.2.2.1 (by omega)).1
            obtain ⟨v_5, m_v_5, r_v_5⟩ := id x_FLT_p1
            refine va_mmax hx hb (hml.trans hl.1.symm) hown (hts _ tw_512) (hts _ tw_489) (hts _ tw_16) (hts _ tw_490) (Nat.le_of_ble_eq_true rfl) (Nat.le_of_ble_eq_true rfl) (Nat.le_of_ble_eq_true rfl) (Nat.le_of_ble_eq_true rfl) dX3_readNamed_54 (lv_topi (fun v_6 e_v_6 => ?_))
            have r_v_6 : RI v_6 0 0 := by rw [e_v_6]; exact ri_max rl_0 r_v_4 (by decide)
            refine tg_iast hx hb hK hw h_vu_3 rfl 0 0 r_v_1 (by decide) r_v_6 (by exact fun _ _ _ => by decide) (fun _ _ _ _ _ => trivial) (by decide) dX3_readNamed_57 (fun ws H locs hw hF9 hU9 => ?_)
            have x_FLT_p1 := FLTp.over hF9 x_FLT_p1 (by decide)
            have m_v_5 := FLD.over hF9 m_v_5 (by decide)
            refine lv_goto (tgt := 97) hx hb dX3_readNamed_58 (by decide) ?_
            subst hQ
            exact W.vret hx hb hr (fun t ht hW => ⟨⟨ws, rfl, ⟨trivial, hw.1, hw.2.2.2.2.1⟩, by rw [ht]; exact hw.2.1, va_K.moved hW.alike hK, hw.2.2.1⟩, hw.2.2.2.1.F ht⟩) hw.2.2.2.1.2.2 dX3_readNamed_97
          · have r_v_4 : RI v_4 0 3 := by unfold RI at r_v_4 ⊢; omega
            refine va_mmax hx hb (hml.trans hl.1.symm) hown (hts _ tw_512) (hts _ tw_489) (hts _ tw_16) (hts _ tw_490) (Nat.le_of_ble_eq_true rfl) (Nat.le_of_ble_eq_true rfl) (Nat.le_of_ble_eq_true rfl) (Nat.le_of_ble_eq_true rfl) dX3_readNamed_54 (lv_topi (fun v_7 e_v_7 => ?_))
            have r_v_7 : RI v_7 0 3 := by rw [e_v_7]; exact ri_max rl_0 r_v_4 (by decide)
            refine tg_iast hx hb hK hw h_vu_3 rfl 0 0 r_v_1 (by decide) r_v_7 (by exact fun _ _ _ => by decide) (fun _ _ _ _ _ => trivial) (by decide) dX3_readNamed_57 (fun ws H locs hw hF9 hU9 => ?_)
            refine lv_goto (tgt := 97) hx hb dX3_readNamed_58 (by decide) ?_
            subst hQ
            exact W.vret hx hb hr (fun t ht hW => ⟨⟨ws, rfl, ⟨trivial, hw.1, hw.2.2.2.2.1⟩, by rw [ht]; exact hw.2.1, va_K.moved hW.alike hK, hw.2.2.1⟩, hw.2.2.2.1.F ht⟩) hw.2.2.2.1.2.2 dX3_readNamed_97
      · have r_p3 : RI p3 2 0 := rc_eq1 r_p3 rl_0 (ti_eq c_16) (by decide)
        exact (r_p3.no (by decide)).elim
    · have r_v_1 : RI v_1 0 (-1) := rc_eq1 r_v_1 rl_m1 (ti_eq c_11) (by decide)
      exact (r_v_1.no (by decide)).elim
  · refine lv_istore (lv' := [(4, .int v_1), (0, .ref p0), (1, .ref p1), (2, .ref p2), (3, .int p3)]) hx hb dX3_readNamed_6 hl (by decide) rfl (fun ls hl => ?_)
    refine lv_iload hx hb dX3_readNamed_8 (lv_at hl 0 rfl) ?_
    refine lv_iconst (v := (-1)) hx hb dX3_readNamed_10 (by decide) ?_
    refine lv_icmp_ne (tgt := 15) hx hb dX3_readNamed_11 (by decide) (fun c_11 => ?_) (fun c_11 => ?_)
    · have r_v_1 : RI v_1 0 5 := rc_neL r_v_1 rl_m1 (ti_ne c_11) (by decide)
      refine lv_iload_n hx hb dX3_readNamed_15 rfl (lv_at hl 4 rfl) ?_
      refine lv_if_ne (tgt := 36) hx hb dX3_readNamed_16 (by decide) (fun c_16 => ?_) (fun c_16 => ?_)
      · refine lv_iload_n hx hb dX3_readNamed_36 rfl (lv_at hl 4 rfl) ?_
        refine lv_iconst (v := 2) hx hb dX3_readNamed_37 (by decide) ?_
        refine lv_icmp_ne (tgt := 61) hx hb dX3_readNamed_38 (by decide) (fun c_38 => ?_) (fun c_38 => ?_)
        · exact absurd (r_p3.eq.trans rl_2.eq.symm) ((ti_ne c_38))
        · refine lv_aload_n hx hb dX3_readNamed_41 rfl (lv_at hl 3 rfl) ?_
          refine tg_getN (ci := 8) (ts := ty_WORLD) (C := RX8) (T := TX8) (N := 13) hx hb hts inX8 hown hK hw h_p2 rfl rfl 3 (by decide) (hSD.nest tn_254) (fun _ h9 => h9) (ft := vR 9) rfl dX3_readNamed_42 (fun u_8 hv_u_8 m_u_8 => ?_)
          obtain ⟨vu_8, rfl, h_vu_8⟩ := hv_u_8
          refine lv_iload hx hb dX3_readNamed_45 (lv_at hl 0 rfl) ?_
          refine lv_iconst (v := 0) hx hb dX3_readNamed_47 (by decide) ?_
          refine lv_aload_n hx hb dX3_readNamed_48 rfl (lv_at hl 2 rfl) ?_
          refine lv_aload_n hx hb dX3_readNamed_49 rfl (lv_at hl 1 rfl) ?_
          refine lv_iconst (v := 1) hx hb dX3_readNamed_50 (by decide) ?_
          refine tk_i (va_runV (As := [.ref p0, .int 1]) (rest := [.int 0, .int v_1, .ref vu_8]) ⟨hx, hb, hml, hown, hts⟩ (c_X7_takeName__8 l D cy z H.size Ps ws hw.1 p1 p0 1 h_p1 h_p0 rl_1) (cwV 2 hts (gV tw_464 tw_465 tw_466 tw_2 tw_467) rfl rfl rfl (by decide +kernel) ⟨Nat.le_of_ble_eq_true rfl, Nat.le_of_ble_eq_true rfl⟩) (tg_preV hw hK hSD hA (ci := 7) (q := (RX7, TX7, 12)) rfl h_p1 rfl) rfl rfl hl.1 rfl (lv_room (Nat.le_of_ble_eq_true rfl)) dX3_readNamed_51 ⟨Nat.le_of_ble_eq_true rfl, Nat.le_of_ble_eq_true rfl⟩) hw hA ⟨by decide, by decide⟩ (fun v_9 ws H locs hp_v_9 hw hF9 => ?_)
          have r_v_9 : RI v_9 (-1) 3 := hp_v_9.1
          by_cases c9_v_9 : v_9.toInt < 0
          · have r_v_9 : RI v_9 (-1) (-1) := by unfold RI at r_v_9 ⊢; omega
            have x_FLT_p1 := (hp_v_9.2.2.2.2.1 (by omega)).1
            obtain ⟨v_10, m_v_10, r_v_10⟩ := id x_FLT_p1
            refine va_mmax hx hb (hml.trans hl.1.symm) hown (hts _ tw_512) (hts _ tw_489) (hts _ tw_16) (hts _ tw_490) (Nat.le_of_ble_eq_true rfl) (Nat.le_of_ble_eq_true rfl) (Nat.le_of_ble_eq_true rfl) (Nat.le_of_ble_eq_true rfl) dX3_readNamed_54 (lv_topi (fun v_11 e_v_11 => ?_))
            have r_v_11 : RI v_11 0 0 := by rw [e_v_11]; exact ri_max rl_0 r_v_9 (by decide)
            refine tg_iast hx hb hK hw h_vu_8 rfl 0 5 r_v_1 (by decide) r_v_11 (by exact fun _ _ _ => by decide) (fun _ _ _ _ _ => trivial) (by decide) dX3_readNamed_57 (fun ws H locs hw hF9 hU9 => ?_)
            have x_FLT_p1 := FLTp.over hF9 x_FLT_p1 (by decide)
            have m_v_10 := FLD.over hF9 m_v_10 (by decide)
            refine lv_goto (tgt := 97) hx hb dX3_readNamed_58 (by decide) ?_
            subst hQ
            exact W.vret hx hb hr (fun t ht hW => ⟨⟨ws, rfl, ⟨trivial, hw.1, hw.2.2.2.2.1⟩, by rw [ht]; exact hw.2.1, va_K.moved hW.alike hK, hw.2.2.1⟩, hw.2.2.2.1.F ht⟩) hw.2.2.2.1.2.2 dX3_readNamed_97
          · have r_v_9 : RI v_9 0 3 := by unfold RI at r_v_9 ⊢; omega
            refine va_mmax hx hb (hml.trans hl.1.symm) hown (hts _ tw_512) (hts _ tw_489) (hts _ tw_16) (hts _ tw_490) (Nat.le_of_ble_eq_true rfl) (Nat.le_of_ble_eq_true rfl) (Nat.le_of_ble_eq_true rfl) (Nat.le_of_ble_eq_true rfl) dX3_readNamed_54 (lv_topi (fun v_12 e_v_12 => ?_))
            have r_v_12 : RI v_12 0 3 := by rw [e_v_12]; exact ri_max rl_0 r_v_9 (by decide)
            refine tg_iast hx hb hK hw h_vu_8 rfl 0 5 r_v_1 (by decide) r_v_12 (by exact fun _ _ _ => by decide) (fun _ _ _ _ _ => trivial) (by decide) dX3_readNamed_57 (fun ws H locs hw hF9 hU9 => ?_)
            refine lv_goto (tgt := 97) hx hb dX3_readNamed_58 (by decide) ?_
            subst hQ
            exact W.vret hx hb hr (fun t ht hW => ⟨⟨ws, rfl, ⟨trivial, hw.1, hw.2.2.2.2.1⟩, by rw [ht]; exact hw.2.1, va_K.moved hW.alike hK, hw.2.2.1⟩, hw.2.2.2.1.F ht⟩) hw.2.2.2.1.2.2 dX3_readNamed_97
      · have r_p3 : RI p3 2 0 := rc_eq1 r_p3 rl_0 (ti_eq c_16) (by decide)
        exact (r_p3.no (by decide)).elim
    · have r_v_1 : RI v_1 (-1) (-1) := rc_eq1 r_v_1 rl_m1 (ti_eq c_11) (by decide)
      subst hQ
      exact W.vret hx hb hr (fun t ht hW => ⟨⟨ws, rfl, ⟨trivial, hw.1, hw.2.2.2.2.1⟩, by rw [ht]; exact hw.2.1, va_K.moved hW.alike hK, hw.2.2.1⟩, hw.2.2.2.1.F ht⟩) hw.2.2.2.1.2.2 dX3_readNamed_14
abbrev wr_X3_beginsLine__5 : List (Nat × Nat) := [(7, 5), (7, 6), (7, 7), (7, 8), (7, 9), (7, 10), (7, 11)]
abbrev wa_X3_beginsLine__5 : List Nat := []
set_option maxHeartbeats 4000000 in
set_option maxRecDepth 100000 in
theorem c_X3_beginsLine__5 (l : Launch) (D : va_G) (cy : Nat → ClassId) (z : Nat → Nat) (sz : Nat) (Ps : PSI) (w0 : va_W) (hT : HT cy GG Ps w0) (p0 : Nat) (p1 : Nat) (p2 : Int32) (f1_10 : Int32) (h_p0 : (p0, 25) ∈ Ps) (h_p1 : (p1, 26) ∈ Ps) (r_p2 : RI p2 131 131) (r_f1_10 : RI f1_10 0 0) (m_f1_10 : FLD w0 p1 7 10 (.int f1_10)) : Met l yX3_beginsLine (Cond.code yX3_beginsLine cX3_beginsLine 3 (some .boolean) :: gT) ({ frames := 3, cells := 0, slots := 0, locals := 600 } : Room) (va_Pc [.ref p0, .ref p1, .int p2] (PRE D cy z w0 sz)) (va_Qi (fun (r : Int32) (u : va_W) => (RI r 0 1 ∧ (r = 0 → (∃ v9 : Int32, FLD u p1 7 10 (.int v9) ∧ RI v9 1 4) ∧ True) ∧ (¬ r = 0 → (∃ v9 : Int32, FLD u p1 7 10 (.int v9) ∧ RI v9 0 0) ∧ AXC 3 1 4 (fun f => (f 3).toInt < 8) Ps u p0 ∧ True)) ∧ HT cy GG Ps u ∧ FR wr_X3_beginsLine__5 wa_X3_beginsLine__5 Ps w0 u) (BB D cy (va_A w0 sz) (fun (u : va_W) => u)) (va_A w0 sz)) 0 0 (va_A w0 sz) := by
  refine Met.ofW (cc := cX3_beginsLine) (maxL := 3) (ret := (some .boolean)) (by decide) rfl ?_
  intro p e s m args below meth c s₁ B hml hv
  obtain ⟨rfl, hsz, hP, hK, hD0, hSD⟩ := hv
  have hx := B.exec
  have hb := B.bytes
  have hr := B.returns
  have hlocks := B.notSynchronized
  have hts : ∀ w ∈ gT, w.before _ s = true := fun w h => atoms_spec (ws := Cond.code yX3_beginsLine cX3_beginsLine 3 (some .boolean) :: gT) B.pre w (List.mem_cons_of_mem _ h)
  have hown : s.vm.findClass RX3 = some m.cls := findClass_of_methodNamed B.named
  subst hsz
  have hD := hD0.self (sz := s.heap.size)
  generalize hAe : va_A w0 s.heap.size = A at hD hSD ⊢
  have hA : ∀ q : Nat, s.heap.size ≤ q → A q := fun q h => by rw [← hAe]; exact Or.inr h
  have hl := lv_entry ([.ref p0, .ref p1, .int p2]) (n := 3) (Nat.le_of_ble_eq_true rfl)
  rw [lg_entry_eq]
  generalize (lg_sl ([.ref p0, .ref p1, .int p2]) ++ List.replicate (3 - (lg_sl ([.ref p0, .ref p1, .int p2])).length) Slot.unset).toArray = ls at hl ⊢
  have hl : lv_has ls 3 [(0, .ref p0), (1, .ref p1), (2, .int p2)] := hl
  refine nameQ (fun Q hQ => ?_)
  have hw : WD D cy GG A s wr_X3_beginsLine__5 wa_X3_beginsLine__5 Ps w0 Ps w0 s.heap [] := ⟨hT, hP, hD, va_S.rf, FR.rf, hT.1, [], (List.append_nil _).symm⟩
  refine lv_iload_n hx hb dX3_beginsLine_0 rfl (lv_at hl 2 rfl) ?_
  refine lv_sipush (v := 128) hx hb dX3_beginsLine_1 (by decide) ?_
  refine lv_icmp_lt (tgt := 14) hx hb dX3_beginsLine_4 (by decide) (fun c_4 => ?_) (fun c_4 => ?_)
  · have r_p2 : RI p2 131 127 := rc_lt1 r_p2 rl_128 (ti_lt c_4) (by decide)
    exact (r_p2.no (by decide)).elim
  · refine lv_iload_n hx hb dX3_beginsLine_7 rfl (lv_at hl 2 rfl) ?_
    refine lv_sipush (v := 136) hx hb dX3_beginsLine_8 (by decide) ?_
    refine lv_icmp_le (tgt := 22) hx hb dX3_beginsLine_11 (by decide) (fun c_11 => ?_) (fun c_11 => ?_)
    · refine lv_iload_n hx hb dX3_beginsLine_22 rfl (lv_at hl 2 rfl) ?_
      refine lv_sipush (v := 131) hx hb dX3_beginsLine_23 (by decide) ?_
      refine lv_icmp_gt (tgt := 59) hx hb dX3_beginsLine_26 (by decide) (fun c_26 => ?_) (fun c_26 => ?_)
      · have r_p2 : RI p2 132 131 := rc_lt2 rl_131 r_p2 (ti_lt c_26) (by decide)
        exact (r_p2.no (by decide)).elim
      · refine lv_aload_n hx hb dX3_beginsLine_29 rfl (lv_at hl 0 rfl) ?_
        refine tg_get (ci := 3) (ts := ty_POST) (C := RX3) (T := TX3) (N := 9) hx hb hts inX3 hown hK hw h_p0 rfl rfl 1 (by decide) (hts _ tw_201) (fun _ h9 => h9) (ft := vR 4) rfl dX3_beginsLine_30 (fun u_1 hv_u_1 m_u_1 => ?_)
        obtain ⟨vu_1, rfl, h_vu_1⟩ := hv_u_1
        refine lv_iload_n hx hb dX3_beginsLine_33 rfl (lv_at hl 2 rfl) ?_
        refine lv_sipush (v := 128) hx hb dX3_beginsLine_34 (by decide) ?_
        refine lv_isub hx hb dX3_beginsLine_37 (lv_topi (fun v_2 e_v_2 => ?_))
        obtain ⟨t_v_2, r_v_2⟩ := tq_sub (lo := 3) (hi := 3) r_p2 rl_128 (by decide +kernel) e_v_2
        have t_v_2 : v_2.toInt = p2.toInt - 128 := t_v_2
        refine tg_iald (lo := 0) (hi := 8) hx hb hK hw h_vu_1 rfl 3 3 r_v_2 (by decide) (by decide +kernel) dX3_beginsLine_38 (fun v_3 r_v_3 m_v_3 o_v_3 => ?_)
        refine va_gets (v := .ref (z 0)) hx hb hSD.2.2.2.1 hw.2.2.2.1 hown (hts _ tw_198) (fun _ h9 => h9) dX3_beginsLine_39 ?_
        refine lv_iload_n hx hb dX3_beginsLine_42 rfl (lv_at hl 2 rfl) ?_
        refine lv_sipush (v := 128) hx hb dX3_beginsLine_43 (by decide) ?_
        refine lv_isub hx hb dX3_beginsLine_46 (lv_topi (fun v_4 e_v_4 => ?_))
        obtain ⟨t_v_4, r_v_4⟩ := tq_sub (lo := 3) (hi := 3) r_p2 rl_128 (by decide +kernel) e_v_4
        have t_v_4 : v_4.toInt = p2.toInt - 128 := t_v_4
        refine tz_mk 3 8 hx hb hSD.2.2.2.2.1 hw.2.2.2.1 r_v_4 (by decide) rfl dX3_beginsLine_47 (fun v_5 e_v_5 => ?_)
        have r_v_5 : RI v_5 8 8 := by rw [e_v_5]; exact rl_8
        refine lv_icmp_lt (tgt := 59) hx hb dX3_beginsLine_48 (by decide) (fun c_48 => ?_) (fun c_48 => ?_)
        · have r_v_3 : RI v_3 0 7 := rc_lt1 r_v_3 r_v_5 (ti_lt c_48) (by decide)
          have x_MLT_p0_3 : AXC 3 1 4 (fun f => (f 3).toInt < 8) Ps w0 p0 := AXC.mk hw h_vu_1 rfl m_u_1 (fun f9 g9 => by have e9 := g9 _ _ m_v_3; have j9 : Int32.toNatClampNeg v_2 = 3 := (by have k1 := r_v_2.cl (by decide); have k2 := r_v_2.eq; omega); rw [j9] at e9; show _ < _; rw [e9]; have k3 := r_v_3.2; omega)
          refine lv_iload_n hx hb dX3_beginsLine_59 rfl (lv_at hl 2 rfl) ?_
          refine lv_sipush (v := 135) hx hb dX3_beginsLine_60 (by decide) ?_
          refine lv_icmp_ne (tgt := 73) hx hb dX3_beginsLine_63 (by decide) (fun c_63 => ?_) (fun c_63 => ?_)
          · refine lv_iload_n hx hb dX3_beginsLine_73 rfl (lv_at hl 2 rfl) ?_
            refine lv_sipush (v := 136) hx hb dX3_beginsLine_74 (by decide) ?_
            refine lv_icmp_ne (tgt := 92) hx hb dX3_beginsLine_77 (by decide) (fun c_77 => ?_) (fun c_77 => ?_)
            · refine lv_aload_n hx hb dX3_beginsLine_92 rfl (lv_at hl 1 rfl) ?_
              have hw8 := hw
              refine tk_v (va_runV (As := []) (rest := []) ⟨hx, hb, hml, hown, hts⟩ (c_X7_pass__3 l D cy z s.heap.size Ps w0 hw.1 p1 f1_10 h_p1 r_f1_10 m_f1_10) (cwV 0 hts (gV tw_451 tw_425 tw_426 tw_2 tw_427) rfl rfl rfl (by decide +kernel) ⟨Nat.le_of_ble_eq_true rfl, Nat.le_of_ble_eq_true rfl⟩) (tg_preV hw hK hSD hA (ci := 7) (q := (RX7, TX7, 12)) rfl h_p1 rfl) rfl rfl hl.1 rfl (lv_room (Nat.le_of_ble_eq_true rfl)) dX3_beginsLine_93 ⟨Nat.le_of_ble_eq_true rfl, Nat.le_of_ble_eq_true rfl⟩) hw hA ⟨by decide, by decide⟩ (fun ws H locs hp_v_6 hw hF9 => ?_)
              have m_v_3 := AEL.over hw8 hF9 h_vu_1 m_v_3 (by decide)
              have m_f1_10 := FLD.over hF9 m_f1_10 (by decide)
              have m_u_1 := FLD.over hF9 m_u_1 (by decide)
              have x_MLT_p0_3 := AXC.over hF9 x_MLT_p0_3 (by decide)
              obtain ⟨v_7, m_v_7, r_v_7⟩ := (hp_v_6.1)
              refine lv_aload_n hx hb dX3_beginsLine_96 rfl (lv_at hl 1 rfl) ?_
              refine tg_memN (ci := 7) (C := RX7) (T := TX7) (N := 12) hx hb hts inX7 hown hK hw 10 m_v_7 rfl (by decide) (hSD.nest tn_105) (fun _ h9 => h9) dX3_beginsLine_97 ?_
              refine lv_if_ne (tgt := 107) hx hb dX3_beginsLine_100 (by decide) (fun c_100 => ?_) (fun c_100 => ?_)
              · exact absurd (r_v_7.eq.trans rl_0.eq.symm) ((ti_ne c_100))
              · refine lv_iconst (v := 1) hx hb dX3_beginsLine_103 (by decide) ?_
                refine lv_goto (tgt := 108) hx hb dX3_beginsLine_104 (by decide) ?_
                subst hQ
                exact W.zret (v := 1) hx hb hr (rfl) (fun t ht hW => ⟨⟨1, ws, rfl, ⟨⟨rl_1.to (by decide), (fun h0 => absurd h0 (by decide)), (fun h0 => ⟨⟨_, m_v_7, r_v_7⟩, x_MLT_p0_3, trivial⟩)⟩, hw.1, hw.2.2.2.2.1⟩, by rw [ht]; exact hw.2.1, va_K.moved hW.alike hK, hw.2.2.1⟩, hw.2.2.2.1.F ht⟩) hw.2.2.2.1.2.2 dX3_beginsLine_108
            · have r_p2 : RI p2 136 131 := rc_eq1 r_p2 rl_136 (ti_eq c_77) (by decide)
              exact (r_p2.no (by decide)).elim
          · have r_p2 : RI p2 135 131 := rc_eq1 r_p2 rl_135 (ti_eq c_63) (by decide)
            exact (r_p2.no (by decide)).elim
        · have r_v_3 : RI v_3 8 8 := rc_le2 r_v_5 r_v_3 (ti_nlt c_48) (by decide)
          refine lv_aload_n hx hb dX3_beginsLine_51 rfl (lv_at hl 1 rfl) ?_
          refine lv_iconst (v := 4) hx hb dX3_beginsLine_52 (by decide) ?_
          have hw8 := hw
          refine tk_v (va_runV (As := [.int 4]) (rest := []) ⟨hx, hb, hml, hown, hts⟩ (c_X7_refuse__3 l D cy z s.heap.size Ps w0 hw.1 p1 4 f1_10 h_p1 (rl_4.to (by decide)) r_f1_10 m_f1_10) (cwV 1 hts (gV tw_450 tw_443 tw_444 tw_2 tw_445) rfl rfl rfl (by decide +kernel) ⟨Nat.le_of_ble_eq_true rfl, Nat.le_of_ble_eq_true rfl⟩) (tg_preV hw hK hSD hA (ci := 7) (q := (RX7, TX7, 12)) rfl h_p1 rfl) rfl rfl hl.1 rfl (lv_room (Nat.le_of_ble_eq_true rfl)) dX3_beginsLine_53 ⟨Nat.le_of_ble_eq_true rfl, Nat.le_of_ble_eq_true rfl⟩) hw hA ⟨by decide, by decide⟩ (fun ws H locs hp_v_8 hw hF9 => ?_)
          have m_v_3 := AEL.over hw8 hF9 h_vu_1 m_v_3 (by decide)
          have m_u_1 := FLD.over hF9 m_u_1 (by decide)
          obtain ⟨v_9, m_v_9, r_v_9⟩ := (hp_v_8.1)
          refine lv_goto (tgt := 92) hx hb dX3_beginsLine_56 (by decide) ?_
          refine lv_aload_n hx hb dX3_beginsLine_92 rfl (lv_at hl 1 rfl) ?_
          refine tk_vr (va_runV (As := []) (rest := []) ⟨hx, hb, hml, hown, hts⟩ (c_X7_pass__1 l D cy z H.size Ps ws hw.1 p1 v_9 h_p1 r_v_9 m_v_9) (cwV 0 hts (gV tw_451 tw_425 tw_426 tw_2 tw_427) rfl rfl rfl (by decide +kernel) ⟨Nat.le_of_ble_eq_true rfl, Nat.le_of_ble_eq_true rfl⟩) (tg_preV hw hK hSD hA (ci := 7) (q := (RX7, TX7, 12)) rfl h_p1 rfl) rfl rfl hl.1 rfl (lv_room (Nat.le_of_ble_eq_true rfl)) dX3_beginsLine_93 ⟨Nat.le_of_ble_eq_true rfl, Nat.le_of_ble_eq_true rfl⟩) hw hA (fun  H locs hp_v_10 hw => ?_)
          refine lv_aload_n hx hb dX3_beginsLine_96 rfl (lv_at hl 1 rfl) ?_
          refine tg_memN (ci := 7) (C := RX7) (T := TX7) (N := 12) hx hb hts inX7 hown hK hw 10 m_v_9 rfl (by decide) (hSD.nest tn_105) (fun _ h9 => h9) dX3_beginsLine_97 ?_
          refine lv_if_ne (tgt := 107) hx hb dX3_beginsLine_100 (by decide) (fun c_100 => ?_) (fun c_100 => ?_)
          · refine lv_iconst (v := 0) hx hb dX3_beginsLine_107 (by decide) ?_
            subst hQ
            exact W.zret (v := 0) hx hb hr (rfl) (fun t ht hW => ⟨⟨0, ws, rfl, ⟨⟨rl_0.to (by decide), (fun h0 => ⟨⟨_, m_v_9, r_v_9⟩, trivial⟩), (fun h0 => absurd rfl h0)⟩, hw.1, hw.2.2.2.2.1⟩, by rw [ht]; exact hw.2.1, va_K.moved hW.alike hK, hw.2.2.1⟩, hw.2.2.2.1.F ht⟩) hw.2.2.2.1.2.2 dX3_beginsLine_108
          · have r_v_9 : RI v_9 1 0 := rc_eq1 r_v_9 rl_0 (ti_eq c_100) (by decide)
            exact (r_v_9.no (by decide)).elim
    · have r_p2 : RI p2 137 131 := rc_lt2 rl_136 r_p2 (ti_nle c_11) (by decide)
      exact (r_p2.no (by decide)).elim
abbrev wr_X3_tellName__3 : List (Nat × Nat) := [(7, 5), (7, 6), (7, 7), (7, 8), (7, 9), (7, 10), (7, 11)]
abbrev wa_X3_tellName__3 : List Nat := [1, 4]
set_option maxHeartbeats 4000000 in
set_option maxRecDepth 100000 in
theorem c_X3_tellName__3 (l : Launch) (D : va_G) (cy : Nat → ClassId) (z : Nat → Nat) (sz : Nat) (Ps : PSI) (w0 : va_W) (hT : HT cy GG Ps w0) (p0 : Nat) (p1 : Nat) (p2 : Int32) (h_p0 : (p0, 25) ∈ Ps) (h_p1 : (p1, 26) ∈ Ps) (r_p2 : RI p2 3 3) (x_MLT_p0_3 : AXC 3 1 4 (fun f => (f 3).toInt < 8) Ps w0 p0) : Met l yX3_tellName (Cond.code yX3_tellName cX3_tellName 4 (some .int) :: gT) ({ frames := 3, cells := 0, slots := 0, locals := 600 } : Room) (va_Pc [.ref p0, .ref p1, .int p2] (PRE D cy z w0 sz)) (va_Qi (fun (r : Int32) (u : va_W) => (RI r (-1) 7 ∧ (r = 0 → (∃ v9 : Int32, FLD u p1 7 10 (.int v9) ∧ RI v9 0 0) ∧ True) ∧ (¬ r = 0 → True)) ∧ HT cy GG Ps u ∧ FR wr_X3_tellName__3 wa_X3_tellName__3 Ps w0 u) (BB D cy (va_A w0 sz) (fun (u : va_W) => u)) (va_A w0 sz)) 0 0 (va_A w0 sz) := by
  refine Met.ofW (cc := cX3_tellName) (maxL := 4) (ret := (some .int)) (by decide) rfl ?_
  intro p e s m args below meth c s₁ B hml hv
  obtain ⟨rfl, hsz, hP, hK, hD0, hSD⟩ := hv
  have hx := B.exec
  have hb := B.bytes
  have hr := B.returns
  have hlocks := B.notSynchronized
  have hts : ∀ w ∈ gT, w.before _ s = true := fun w h => atoms_spec (ws := Cond.code yX3_tellName cX3_tellName 4 (some .int) :: gT) B.pre w (List.mem_cons_of_mem _ h)
  have hown : s.vm.findClass RX3 = some m.cls := findClass_of_methodNamed B.named
  subst hsz
  have hD := hD0.self (sz := s.heap.size)
  generalize hAe : va_A w0 s.heap.size = A at hD hSD ⊢
  have hA : ∀ q : Nat, s.heap.size ≤ q → A q := fun q h => by rw [← hAe]; exact Or.inr h
  have hl := lv_entry ([.ref p0, .ref p1, .int p2]) (n := 4) (Nat.le_of_ble_eq_true rfl)
  rw [lg_entry_eq]
  generalize (lg_sl ([.ref p0, .ref p1, .int p2]) ++ List.replicate (4 - (lg_sl ([.ref p0, .ref p1, .int p2])).length) Slot.unset).toArray = ls at hl ⊢
  have hl : lv_has ls 4 [(0, .ref p0), (1, .ref p1), (2, .int p2)] := hl
  refine nameQ (fun Q hQ => ?_)
  have hw : WD D cy GG A s wr_X3_tellName__3 wa_X3_tellName__3 Ps w0 Ps w0 s.heap [] := ⟨hT, hP, hD, va_S.rf, FR.rf, hT.1, [], (List.append_nil _).symm⟩
  have B32 : ∀ (ws : va_W) (H : Heap) (locs : List Loc) (ls : Array Slot), RI p2 3 3 → AXC 3 1 4 (fun f => (f 3).toInt < 8) Ps ws p0 → WD D cy GG A s wr_X3_tellName__3 wa_X3_tellName__3 Ps w0 Ps ws H locs → lv_has ls 4 [(0, .ref p0), (1, .ref p1), (2, .int p2)] → W p l e (headSpec (Cond.code yX3_tellName cX3_tellName 4 (some .int) :: gT) ({ frames := 3, cells := 0, slots := 0, locals := 600 } : Room)).room s m ([.ref p0, .ref p1, .int p2] : List Value).toArray below meth c H locs 0 0 Q (F0 m 32 ls []) := by
    intro  ws H locs ls r_p2 x_MLT_p0_3 hw hl
    refine lv_aload_n hx hb dX3_tellName_32 rfl (lv_at hl 1 rfl) ?_
    refine tg_getN (ci := 7) (ts := ty_TAPE) (C := RX7) (T := TX7) (N := 12) hx hb hts inX7 hown hK hw h_p1 rfl rfl 10 (by decide) (hSD.nest tn_105) (fun _ h9 => h9) (ft := vI 0 4) rfl dX3_tellName_33 (fun u_1 hv_u_1 m_u_1 => ?_)
    obtain ⟨vu_1, rfl, r_vu_1⟩ := hv_u_1
    refine lv_if_eq (tgt := 41) hx hb dX3_tellName_36 (by decide) (fun c_36 => ?_) (fun c_36 => ?_)
    · have r_vu_1 : RI vu_1 0 0 := rc_eq1 r_vu_1 rl_0 (ti_eq c_36) (by decide)
      refine lv_aload_n hx hb dX3_tellName_41 rfl (lv_at hl 0 rfl) ?_
      refine tg_get (ci := 3) (ts := ty_POST) (C := RX3) (T := TX3) (N := 9) hx hb hts inX3 hown hK hw h_p0 rfl rfl 1 (by decide) (hts _ tw_201) (fun _ h9 => h9) (ft := vR 4) rfl dX3_tellName_42 (fun u_2 hv_u_2 m_u_2 => ?_)
      obtain ⟨vu_2, rfl, h_vu_2⟩ := hv_u_2
      refine lv_iload_n hx hb dX3_tellName_45 rfl (lv_at hl 2 rfl) ?_
      refine tg_iald (lo := 0) (hi := 8) hx hb hK hw h_vu_2 rfl 3 3 r_p2 (by decide) (by decide +kernel) dX3_tellName_46 (fun v_3 r_v_3 m_v_3 o_v_3 => ?_)
      have r_v_3 : RI v_3 0 7 := ⟨r_v_3.1, by obtain ⟨f9, q9, e9⟩ := AXC.use hw x_MLT_p0_3 m_u_2 m_v_3; have j9 : Int32.toNatClampNeg p2 = 3 := (by have k1 := r_p2.cl (by decide); have k2 := r_p2.eq; omega); rw [j9] at e9; have q8 : (f9 3).toInt < 8 := q9; rw [e9] at q8; omega⟩
      refine lv_istore_n (lv' := [(3, .int v_3), (0, .ref p0), (1, .ref p1), (2, .int p2)]) hx hb dX3_tellName_47 rfl hl (by decide) rfl (fun ls hl => ?_)
      refine lv_aload_n hx hb dX3_tellName_48 rfl (lv_at hl 1 rfl) ?_
      refine tg_get (ci := 3) (ts := ty_POST) (C := RX3) (T := TX3) (N := 9) hx hb hts inX3 hown hK hw h_p0 rfl rfl 0 (by decide) (hts _ tw_200) (fun _ h9 => h9) (ft := vR 1) rfl dX3_tellName_49 (fun u_4 hv_u_4 m_u_4 => ?_)
      obtain ⟨vu_4, rfl, h_vu_4⟩ := hv_u_4
      refine lv_iload_n hx hb dX3_tellName_52 rfl (lv_at hl 3 rfl) ?_
      refine lv_bipush (v := 8) hx hb dX3_tellName_53 (by decide) ?_
      refine lv_imul hx hb dX3_tellName_55 (lv_topi (fun v_5 e_v_5 => ?_))
      obtain ⟨t_v_5, r_v_5⟩ := tq_mul (lo := 24) (hi := 24) r_p2 rl_8 (by decide +kernel) e_v_5
      have t_v_5 : v_5.toInt = p2.toInt * 8 := t_v_5
      refine lv_iload_n hx hb dX3_tellName_56 rfl (lv_at hl 0 rfl) ?_
      refine lv_iadd hx hb dX3_tellName_57 (lv_topi (fun v_6 e_v_6 => ?_))
      obtain ⟨t_v_6, r_v_6⟩ := tq_add (lo := 24) (hi := 31) r_v_5 r_v_3 (by decide +kernel) e_v_6
      refine lv_aload_n hx hb dX3_tellName_58 rfl (lv_at hl 2 rfl) ?_
      refine tg_getN (ci := 7) (ts := ty_TAPE) (C := RX7) (T := TX7) (N := 12) hx hb hts inX7 hown hK hw h_p1 rfl rfl 8 (by decide) (hSD.nest tn_99) (fun _ h9 => h9) (ft := vJ (-9223372036854775808) 9223372036854775807) rfl dX3_tellName_59 (fun u_7 hv_u_7 m_u_7 => ?_)
      obtain ⟨vu_7, rfl, r_vu_7⟩ := hv_u_7
      refine tg_last hx hb hK hw h_vu_4 rfl r_v_6 (by decide) r_vu_7 (by decide) (by decide) dX3_tellName_62 (fun ws H locs hw hF9 => ?_)
      have x_MLT_p0_3 := AXC.over hF9 x_MLT_p0_3 (by decide)
      have m_u_1 := FLD.over hF9 m_u_1 (by decide)
      have m_u_2 := FLD.over hF9 m_u_2 (by decide)
      have m_u_4 := FLD.over hF9 m_u_4 (by decide)
      have m_u_7 := FLD.over hF9 m_u_7 (by decide)
      refine lv_aload_n hx hb dX3_tellName_63 rfl (lv_at hl 1 rfl) ?_
      refine tg_mem (ci := 3) (C := RX3) (T := TX3) (N := 9) hx hb hts inX3 hown hK hw 1 m_u_2 rfl (by decide) (hts _ tw_201) (fun _ h9 => h9) dX3_tellName_64 ?_
      refine lv_iload_n hx hb dX3_tellName_67 rfl (lv_at hl 3 rfl) ?_
      refine lv_iload_n hx hb dX3_tellName_68 rfl (lv_at hl 0 rfl) ?_
      refine lv_iconst (v := 1) hx hb dX3_tellName_69 (by decide) ?_
      refine lv_iadd hx hb dX3_tellName_70 (lv_topi (fun v_8 e_v_8 => ?_))
      obtain ⟨t_v_8, r_v_8⟩ := tq_add (lo := 1) (hi := 8) r_v_3 rl_1 (by decide +kernel) e_v_8
      have t_v_8 : v_8.toInt = v_3.toInt + 1 := t_v_8
      refine tg_iast hx hb hK hw h_vu_2 rfl 3 3 r_p2 (by decide) r_v_8 (by decide +kernel) (fun _ _ _ _ _ => trivial) (by decide) dX3_tellName_71 (fun ws H locs hw hF9 hU9 => ?_)
      have m_u_1 := FLD.over hF9 m_u_1 (by decide)
      have m_u_2 := FLD.over hF9 m_u_2 (by decide)
      have m_u_4 := FLD.over hF9 m_u_4 (by decide)
      have m_u_7 := FLD.over hF9 m_u_7 (by decide)
      refine lv_aload_n hx hb dX3_tellName_72 rfl (lv_at hl 2 rfl) ?_
      refine tk_v (va_runV (As := []) (rest := []) ⟨hx, hb, hml, hown, hts⟩ (c_X7_pass__3 l D cy z H.size Ps ws hw.1 p1 vu_1 h_p1 r_vu_1 m_u_1) (cwV 0 hts (gV tw_451 tw_425 tw_426 tw_2 tw_427) rfl rfl rfl (by decide +kernel) ⟨Nat.le_of_ble_eq_true rfl, Nat.le_of_ble_eq_true rfl⟩) (tg_preV hw hK hSD hA (ci := 7) (q := (RX7, TX7, 12)) rfl h_p1 rfl) rfl rfl hl.1 rfl (lv_room (Nat.le_of_ble_eq_true rfl)) dX3_tellName_73 ⟨Nat.le_of_ble_eq_true rfl, Nat.le_of_ble_eq_true rfl⟩) hw hA ⟨by decide, by decide⟩ (fun ws H locs hp_v_9 hw hF9 => ?_)
      have m_u_1 := FLD.over hF9 m_u_1 (by decide)
      have m_u_2 := FLD.over hF9 m_u_2 (by decide)
      have m_u_4 := FLD.over hF9 m_u_4 (by decide)
      obtain ⟨v_10, m_v_10, r_v_10⟩ := (hp_v_9.1)
      refine lv_iload_n hx hb dX3_tellName_76 rfl (lv_at hl 0 rfl) ?_
      subst hQ
      exact W.iret (v := v_3) hx hb hr (fun t ht hW => ⟨⟨v_3, ws, rfl, ⟨⟨r_v_3.to (by decide), (fun h0 => ⟨⟨_, m_v_10, r_v_10⟩, trivial⟩), (fun h0 => trivial)⟩, hw.1, hw.2.2.2.2.1⟩, by rw [ht]; exact hw.2.1, va_K.moved hW.alike hK, hw.2.2.1⟩, hw.2.2.2.1.F ht⟩) hw.2.2.2.1.2.2 dX3_tellName_77
    · have r_vu_1 : RI vu_1 1 4 := rc_neL r_vu_1 rl_0 (ti_ne c_36) (by decide)
      refine lv_iconst (v := (-1)) hx hb dX3_tellName_39 (by decide) ?_
      subst hQ
      exact W.iret (v := (-1)) hx hb hr (fun t ht hW => ⟨⟨(-1), ws, rfl, ⟨⟨rl_m1.to (by decide), (fun h0 => absurd h0 (by decide)), (fun h0 => trivial)⟩, hw.1, hw.2.2.2.2.1⟩, by rw [ht]; exact hw.2.1, va_K.moved hW.alike hK, hw.2.2.1⟩, hw.2.2.2.1.F ht⟩) hw.2.2.2.1.2.2 dX3_tellName_40
  refine lv_aload_n hx hb dX3_tellName_0 rfl (lv_at hl 1 rfl) ?_
  refine tg_getN (ci := 7) (ts := ty_TAPE) (C := RX7) (T := TX7) (N := 12) hx hb hts inX7 hown hK hw h_p1 rfl rfl 7 (by decide) (hSD.nest tn_97) (fun _ h9 => h9) (ft := vI (-2147483648) 2147483647) rfl dX3_tellName_1 (fun u_11 hv_u_11 m_u_11 => ?_)
  obtain ⟨vu_11, rfl, r_vu_11⟩ := hv_u_11
  refine lv_iconst (v := 2) hx hb dX3_tellName_4 (by decide) ?_
  refine lv_icmp_eq (tgt := 16) hx hb dX3_tellName_5 (by decide) (fun c_5 => ?_) (fun c_5 => ?_)
  · have r_vu_11 : RI vu_11 2 2 := rc_eq1 r_vu_11 rl_2 (ti_eq c_5) (by decide)
    refine lv_aload_n hx hb dX3_tellName_16 rfl (lv_at hl 0 rfl) ?_
    refine lv_aload_n hx hb dX3_tellName_17 rfl (lv_at hl 1 rfl) ?_
    refine tg_getN (ci := 7) (ts := ty_TAPE) (C := RX7) (T := TX7) (N := 12) hx hb hts inX7 hown hK hw h_p1 rfl rfl 8 (by decide) (hSD.nest tn_99) (fun _ h9 => h9) (ft := vJ (-9223372036854775808) 9223372036854775807) rfl dX3_tellName_18 (fun u_12 hv_u_12 m_u_12 => ?_)
    obtain ⟨vu_12, rfl, r_vu_12⟩ := hv_u_12
    refine tk_ir (va_runV (As := [.long vu_12]) (rest := []) ⟨hx, hb, hml, hown, hts⟩ (c_X3_isTold l D cy z s.heap.size Ps w0 hw.1 p0 vu_12 h_p0 r_vu_12) (cwV 1 hts (gV tw_507 tw_509 ts_8 tw_11 tw_510) rfl rfl rfl (by decide +kernel) ⟨Nat.le_of_ble_eq_true rfl, Nat.le_of_ble_eq_true rfl⟩) (tg_preV hw hK hSD hA (ci := 3) (q := (RX3, TX3, 9)) rfl h_p0 rfl) rfl rfl hl.1 rfl (lv_room (Nat.le_of_ble_eq_true rfl)) dX3_tellName_21 ⟨Nat.le_of_ble_eq_true rfl, Nat.le_of_ble_eq_true rfl⟩) hw hA (fun v_13  H locs hp_v_13 hw => ?_)
    have r_v_13 : RI v_13 0 1 := hp_v_13.1
    refine lv_if_eq (tgt := 32) hx hb dX3_tellName_24 (by decide) (fun c_24 => ?_) (fun c_24 => ?_)
    · have r_v_13 : RI v_13 0 0 := rc_eq1 r_v_13 rl_0 (ti_eq c_24) (by decide)
      exact B32  w0 _ _ ls r_p2 x_MLT_p0_3 hw hl
    · have r_v_13 : RI v_13 1 1 := rc_neL r_v_13 rl_0 (ti_ne c_24) (by decide)
      refine lv_aload_n hx hb dX3_tellName_27 rfl (lv_at hl 1 rfl) ?_
      refine lv_iconst (v := 3) hx hb dX3_tellName_28 (by decide) ?_
      refine tk_v (va_runV (As := [.int 3]) (rest := []) ⟨hx, hb, hml, hown, hts⟩ (c_X7_refuse__2 l D cy z H.size Ps w0 hw.1 p1 3 h_p1 (rl_3.to (by decide))) (cwV 1 hts (gV tw_450 tw_443 tw_444 tw_2 tw_445) rfl rfl rfl (by decide +kernel) ⟨Nat.le_of_ble_eq_true rfl, Nat.le_of_ble_eq_true rfl⟩) (tg_preV hw hK hSD hA (ci := 7) (q := (RX7, TX7, 12)) rfl h_p1 rfl) rfl rfl hl.1 rfl (lv_room (Nat.le_of_ble_eq_true rfl)) dX3_tellName_29 ⟨Nat.le_of_ble_eq_true rfl, Nat.le_of_ble_eq_true rfl⟩) hw hA ⟨by decide, by decide⟩ (fun ws H locs hp_v_14 hw hF9 => ?_)
      have m_u_11 := FLD.over hF9 m_u_11 (by decide)
      have m_u_12 := FLD.over hF9 m_u_12 (by decide)
      have x_MLT_p0_3 := AXC.over hF9 x_MLT_p0_3 (by decide)
      obtain ⟨v_15, m_v_15, r_v_15⟩ := (hp_v_14.1)
      exact B32  ws _ _ ls r_p2 x_MLT_p0_3 hw hl
  · refine lv_aload_n hx hb dX3_tellName_8 rfl (lv_at hl 1 rfl) ?_
    refine lv_iconst (v := 1) hx hb dX3_tellName_9 (by decide) ?_
    refine tk_v (va_runV (As := [.int 1]) (rest := []) ⟨hx, hb, hml, hown, hts⟩ (c_X7_refuse__2 l D cy z s.heap.size Ps w0 hw.1 p1 1 h_p1 (rl_1.to (by decide))) (cwV 1 hts (gV tw_450 tw_443 tw_444 tw_2 tw_445) rfl rfl rfl (by decide +kernel) ⟨Nat.le_of_ble_eq_true rfl, Nat.le_of_ble_eq_true rfl⟩) (tg_preV hw hK hSD hA (ci := 7) (q := (RX7, TX7, 12)) rfl h_p1 rfl) rfl rfl hl.1 rfl (lv_room (Nat.le_of_ble_eq_true rfl)) dX3_tellName_10 ⟨Nat.le_of_ble_eq_true rfl, Nat.le_of_ble_eq_true rfl⟩) hw hA ⟨by decide, by decide⟩ (fun ws H locs hp_v_16 hw hF9 => ?_)
    have m_u_11 := FLD.over hF9 m_u_11 (by decide)
    have x_MLT_p0_3 := AXC.over hF9 x_MLT_p0_3 (by decide)
    obtain ⟨v_17, m_v_17, r_v_17⟩ := (hp_v_16.1)
    refine lv_goto (tgt := 32) hx hb dX3_tellName_13 (by decide) ?_
    exact B32  ws _ _ ls r_p2 x_MLT_p0_3 hw hl
abbrev wr_X7_nameAhead__11 : List (Nat × Nat) := [(7, 10), (7, 11)]
abbrev wa_X7_nameAhead__11 : List Nat := []
set_option maxHeartbeats 4000000 in
set_option maxRecDepth 100000 in
theorem c_X7_nameAhead__11 (l : Launch) (D : va_G) (cy : Nat → ClassId) (z : Nat → Nat) (sz : Nat) (Ps : PSI) (w0 : va_W) (hT : HT cy GG Ps w0) (p0 : Nat) (p1 : Nat) (p2 : Int32) (f0_10 : Int32) (h_p0 : (p0, 26) ∈ Ps) (h_p1 : (p1, 25) ∈ Ps) (r_p2 : RI p2 0 0) (r_f0_10 : RI f0_10 0 0) (m_f0_10 : FLD w0 p0 7 10 (.int f0_10)) : Met l yX7_nameAhead (Cond.code yX7_nameAhead cX7_nameAhead 4 (some .int) :: gT) ({ frames := 2, cells := 0, slots := 0, locals := 400 } : Room) (va_Pc [.ref p0, .ref p1, .int p2] (PRE D cy z w0 sz)) (va_Qi (fun (r : Int32) (u : va_W) => (RI r (-1) 5 ∧ (r = 0 → True) ∧ (¬ r = 0 → True) ∧ (True) ∧ (r.toInt < 0 → FLTp u p0 ∧ True) ∧ (0 ≤ r.toInt → True)) ∧ HT cy GG Ps u ∧ FR wr_X7_nameAhead__11 wa_X7_nameAhead__11 Ps w0 u) (BB D cy (va_A w0 sz) (fun (u : va_W) => u)) (va_A w0 sz)) 0 0 (va_A w0 sz) := by
  refine Met.ofW (cc := cX7_nameAhead) (maxL := 4) (ret := (some .int)) (by decide) rfl ?_
  intro p e s m args below meth c s₁ B hml hv
  obtain ⟨rfl, hsz, hP, hK, hD0, hSD⟩ := hv
  have hx := B.exec
  have hb := B.bytes
  have hr := B.returns
  have hlocks := B.notSynchronized
  have hts : ∀ w ∈ gT, w.before _ s = true := fun w h => atoms_spec (ws := Cond.code yX7_nameAhead cX7_nameAhead 4 (some .int) :: gT) B.pre w (List.mem_cons_of_mem _ h)
  have hown : s.vm.findClass RX7 = some m.cls := findClass_of_methodNamed B.named
  subst hsz
  have hD := hD0.self (sz := s.heap.size)
  generalize hAe : va_A w0 s.heap.size = A at hD hSD ⊢
  have hA : ∀ q : Nat, s.heap.size ≤ q → A q := fun q h => by rw [← hAe]; exact Or.inr h
  have hl := lv_entry ([.ref p0, .ref p1, .int p2]) (n := 4) (Nat.le_of_ble_eq_true rfl)
  rw [lg_entry_eq]
  generalize (lg_sl ([.ref p0, .ref p1, .int p2]) ++ List.replicate (4 - (lg_sl ([.ref p0, .ref p1, .int p2])).length) Slot.unset).toArray = ls at hl ⊢
  have hl : lv_has ls 4 [(0, .ref p0), (1, .ref p1), (2, .int p2)] := hl
  refine nameQ (fun Q hQ => ?_)
  have hw : WD D cy GG A s wr_X7_nameAhead__11 wa_X7_nameAhead__11 Ps w0 Ps w0 s.heap [] := ⟨hT, hP, hD, va_S.rf, FR.rf, hT.1, [], (List.append_nil _).symm⟩
  refine lv_aload_n hx hb dX7_nameAhead_0 rfl (lv_at hl 0 rfl) ?_
  refine tg_get (ci := 7) (ts := ty_TAPE) (C := RX7) (T := TX7) (N := 12) hx hb hts inX7 hown hK hw h_p0 rfl rfl 7 (by decide) (hts _ tw_98) (fun _ h9 => h9) (ft := vI (-2147483648) 2147483647) rfl dX7_nameAhead_1 (fun u_1 hv_u_1 m_u_1 => ?_)
  obtain ⟨vu_1, rfl, r_vu_1⟩ := hv_u_1
  refine lv_iconst (v := 2) hx hb dX7_nameAhead_4 (by decide) ?_
  refine lv_icmp_eq (tgt := 15) hx hb dX7_nameAhead_5 (by decide) (fun c_5 => ?_) (fun c_5 => ?_)
  · have r_vu_1 : RI vu_1 2 2 := rc_eq1 r_vu_1 rl_2 (ti_eq c_5) (by decide)
    refine lv_aload_n hx hb dX7_nameAhead_15 rfl (lv_at hl 1 rfl) ?_
    refine lv_aload_n hx hb dX7_nameAhead_16 rfl (lv_at hl 0 rfl) ?_
    refine tg_get (ci := 7) (ts := ty_TAPE) (C := RX7) (T := TX7) (N := 12) hx hb hts inX7 hown hK hw h_p0 rfl rfl 8 (by decide) (hts _ tw_100) (fun _ h9 => h9) (ft := vJ (-9223372036854775808) 9223372036854775807) rfl dX7_nameAhead_17 (fun u_2 hv_u_2 m_u_2 => ?_)
    obtain ⟨vu_2, rfl, r_vu_2⟩ := hv_u_2
    refine lv_iload_n hx hb dX7_nameAhead_20 rfl (lv_at hl 2 rfl) ?_
    refine tk_ir (va_runV (As := [.long vu_2, .int p2]) (rest := []) ⟨hx, hb, hml, hown, hts⟩ (c_X3_numberOf l D cy z s.heap.size Ps w0 hw.1 p1 vu_2 p2 h_p1 r_vu_2 r_p2) (cwV 2 hts (gV tw_460 tw_461 tw_462 tw_11 tw_463) rfl rfl rfl (by decide +kernel) ⟨Nat.le_of_ble_eq_true rfl, Nat.le_of_ble_eq_true rfl⟩) (tg_preV hw hK hSD hA (ci := 3) (q := (RX3, TX3, 9)) rfl h_p1 rfl) rfl rfl hl.1 rfl (lv_room (Nat.le_of_ble_eq_true rfl)) dX7_nameAhead_21 ⟨Nat.le_of_ble_eq_true rfl, Nat.le_of_ble_eq_true rfl⟩) hw hA (fun v_3  H locs hp_v_3 hw => ?_)
    have r_v_3 : RI v_3 (-1) 5 := hp_v_3.1
    refine lv_istore_n (lv' := [(3, .int v_3), (0, .ref p0), (1, .ref p1), (2, .int p2)]) hx hb dX7_nameAhead_24 rfl hl (by decide) rfl (fun ls hl => ?_)
    refine lv_iload_n hx hb dX7_nameAhead_25 rfl (lv_at hl 0 rfl) ?_
    refine lv_iconst (v := (-1)) hx hb dX7_nameAhead_26 (by decide) ?_
    refine lv_icmp_ne (tgt := 35) hx hb dX7_nameAhead_27 (by decide) (fun c_27 => ?_) (fun c_27 => ?_)
    · have r_v_3 : RI v_3 0 5 := rc_neL r_v_3 rl_m1 (ti_ne c_27) (by decide)
      refine lv_aload_n hx hb dX7_nameAhead_35 rfl (lv_at hl 1 rfl) ?_
      refine tg_mem (ci := 7) (C := RX7) (T := TX7) (N := 12) hx hb hts inX7 hown hK hw 10 m_f0_10 rfl (by decide) (hts _ tw_104) (fun _ h9 => h9) dX7_nameAhead_36 ?_
      refine lv_if_ne (tgt := 46) hx hb dX7_nameAhead_39 (by decide) (fun c_39 => ?_) (fun c_39 => ?_)
      · exact absurd (r_f0_10.eq.trans rl_0.eq.symm) ((ti_ne c_39))
      · refine lv_iload_n hx hb dX7_nameAhead_42 rfl (lv_at hl 0 rfl) ?_
        refine lv_goto (tgt := 47) hx hb dX7_nameAhead_43 (by decide) ?_
        subst hQ
        exact W.iret (v := v_3) hx hb hr (fun t ht hW => ⟨⟨v_3, w0, rfl, ⟨⟨r_v_3.to (by decide), (fun h0 => trivial), (fun h0 => trivial), trivial, (fun h0 => absurd h0 (by have h8 := r_v_3; unfold RI at h8; omega)), (fun _ => trivial)⟩, hw.1, hw.2.2.2.2.1⟩, by rw [ht]; exact hw.2.1, va_K.moved hW.alike hK, hw.2.2.1⟩, hw.2.2.2.1.F ht⟩) hw.2.2.2.1.2.2 dX7_nameAhead_47
    · have r_v_3 : RI v_3 (-1) (-1) := rc_eq1 r_v_3 rl_m1 (ti_eq c_27) (by decide)
      refine lv_aload_n hx hb dX7_nameAhead_30 rfl (lv_at hl 1 rfl) ?_
      refine lv_iconst (v := 3) hx hb dX7_nameAhead_31 (by decide) ?_
      refine tk_v (va_runV (As := [.int 3]) (rest := []) ⟨hx, hb, hml, hown, hts⟩ (c_X7_refuse__3 l D cy z H.size Ps w0 hw.1 p0 3 f0_10 h_p0 (rl_3.to (by decide)) r_f0_10 m_f0_10) (cwV 1 hts (gV tw_442 tw_443 tw_444 tw_2 tw_445) rfl rfl rfl (by decide +kernel) ⟨Nat.le_of_ble_eq_true rfl, Nat.le_of_ble_eq_true rfl⟩) (tg_preV hw hK hSD hA (ci := 7) (q := (RX7, TX7, 12)) rfl h_p0 rfl) rfl rfl hl.1 rfl (lv_room (Nat.le_of_ble_eq_true rfl)) dX7_nameAhead_32 ⟨Nat.le_of_ble_eq_true rfl, Nat.le_of_ble_eq_true rfl⟩) hw hA ⟨by decide, by decide⟩ (fun ws H locs hp_v_4 hw hF9 => ?_)
      have m_u_1 := FLD.over hF9 m_u_1 (by decide)
      obtain ⟨v_5, m_v_5, r_v_5⟩ := (hp_v_4.1)
      refine lv_aload_n hx hb dX7_nameAhead_35 rfl (lv_at hl 1 rfl) ?_
      refine tg_mem (ci := 7) (C := RX7) (T := TX7) (N := 12) hx hb hts inX7 hown hK hw 10 m_v_5 rfl (by decide) (hts _ tw_104) (fun _ h9 => h9) dX7_nameAhead_36 ?_
      refine lv_if_ne (tgt := 46) hx hb dX7_nameAhead_39 (by decide) (fun c_39 => ?_) (fun c_39 => ?_)
      · refine lv_iconst (v := (-1)) hx hb dX7_nameAhead_46 (by decide) ?_
        subst hQ
        have x_FLT_p0 : FLTp ws p0 := ⟨_, m_v_5, r_v_5.to (by decide)⟩
        exact W.iret (v := (-1)) hx hb hr (fun t ht hW => ⟨⟨(-1), ws, rfl, ⟨⟨rl_m1.to (by decide), (fun _ => trivial), (fun h0 => trivial), trivial, (fun h0 => ⟨x_FLT_p0, trivial⟩), (fun _ => trivial)⟩, hw.1, hw.2.2.2.2.1⟩, by rw [ht]; exact hw.2.1, va_K.moved hW.alike hK, hw.2.2.1⟩, hw.2.2.2.1.F ht⟩) hw.2.2.2.1.2.2 dX7_nameAhead_47
      · have r_v_5 : RI v_5 1 0 := rc_eq1 r_v_5 rl_0 (ti_eq c_39) (by decide)
        exact (r_v_5.no (by decide)).elim
  · refine lv_aload_n hx hb dX7_nameAhead_8 rfl (lv_at hl 0 rfl) ?_
    refine lv_iconst (v := 1) hx hb dX7_nameAhead_9 (by decide) ?_
    refine tk_v (va_runV (As := [.int 1]) (rest := []) ⟨hx, hb, hml, hown, hts⟩ (c_X7_refuse__3 l D cy z s.heap.size Ps w0 hw.1 p0 1 f0_10 h_p0 (rl_1.to (by decide)) r_f0_10 m_f0_10) (cwV 1 hts (gV tw_442 tw_443 tw_444 tw_2 tw_445) rfl rfl rfl (by decide +kernel) ⟨Nat.le_of_ble_eq_true rfl, Nat.le_of_ble_eq_true rfl⟩) (tg_preV hw hK hSD hA (ci := 7) (q := (RX7, TX7, 12)) rfl h_p0 rfl) rfl rfl hl.1 rfl (lv_room (Nat.le_of_ble_eq_true rfl)) dX7_nameAhead_10 ⟨Nat.le_of_ble_eq_true rfl, Nat.le_of_ble_eq_true rfl⟩) hw hA ⟨by decide, by decide⟩ (fun ws H locs hp_v_6 hw hF9 => ?_)
    have m_u_1 := FLD.over hF9 m_u_1 (by decide)
    obtain ⟨v_7, m_v_7, r_v_7⟩ := (hp_v_6.1)
    refine lv_iconst (v := (-1)) hx hb dX7_nameAhead_13 (by decide) ?_
    subst hQ
    have x_FLT_p0 : FLTp ws p0 := ⟨_, m_v_7, r_v_7.to (by decide)⟩
    exact W.iret (v := (-1)) hx hb hr (fun t ht hW => ⟨⟨(-1), ws, rfl, ⟨⟨rl_m1.to (by decide), (fun _ => trivial), (fun h0 => trivial), trivial, (fun h0 => ⟨x_FLT_p0, trivial⟩), (fun _ => trivial)⟩, hw.1, hw.2.2.2.2.1⟩, by rw [ht]; exact hw.2.1, va_K.moved hW.alike hK, hw.2.2.1⟩, hw.2.2.2.1.F ht⟩) hw.2.2.2.1.2.2 dX7_nameAhead_14
abbrev wr_X7_takeName__10 : List (Nat × Nat) := [(7, 5), (7, 6), (7, 7), (7, 8), (7, 9), (7, 10), (7, 11)]
abbrev wa_X7_takeName__10 : List Nat := []
set_option maxHeartbeats 4000000 in
set_option maxRecDepth 100000 in
theorem c_X7_takeName__10 (l : Launch) (D : va_G) (cy : Nat → ClassId) (z : Nat → Nat) (sz : Nat) (Ps : PSI) (w0 : va_W) (hT : HT cy GG Ps w0) (p0 : Nat) (p1 : Nat) (p2 : Int32) (f0_10 : Int32) (h_p0 : (p0, 26) ∈ Ps) (h_p1 : (p1, 25) ∈ Ps) (r_p2 : RI p2 0 0) (r_f0_10 : RI f0_10 0 0) (m_f0_10 : FLD w0 p0 7 10 (.int f0_10)) : Met l yX7_takeName (Cond.code yX7_takeName cX7_takeName 4 (some .int) :: gT) ({ frames := 3, cells := 0, slots := 0, locals := 600 } : Room) (va_Pc [.ref p0, .ref p1, .int p2] (PRE D cy z w0 sz)) (va_Qi (fun (r : Int32) (u : va_W) => (RI r (-1) 5 ∧ (r = 0 → True) ∧ (¬ r = 0 → True) ∧ (True) ∧ (r.toInt < 0 → FLTp u p0 ∧ True) ∧ (0 ≤ r.toInt → True)) ∧ HT cy GG Ps u ∧ FR wr_X7_takeName__10 wa_X7_takeName__10 Ps w0 u) (BB D cy (va_A w0 sz) (fun (u : va_W) => u)) (va_A w0 sz)) 0 0 (va_A w0 sz) := by
  refine Met.ofW (cc := cX7_takeName) (maxL := 4) (ret := (some .int)) (by decide) rfl ?_
  intro p e s m args below meth c s₁ B hml hv
  obtain ⟨rfl, hsz, hP, hK, hD0, hSD⟩ := hv
  have hx := B.exec
  have hb := B.bytes
  have hr := B.returns
  have hlocks := B.notSynchronized
  have hts : ∀ w ∈ gT, w.before _ s = true := fun w h => atoms_spec (ws := Cond.code yX7_takeName cX7_takeName 4 (some .int) :: gT) B.pre w (List.mem_cons_of_mem _ h)
  have hown : s.vm.findClass RX7 = some m.cls := findClass_of_methodNamed B.named
  subst hsz
  have hD := hD0.self (sz := s.heap.size)
  generalize hAe : va_A w0 s.heap.size = A at hD hSD ⊢
  have hA : ∀ q : Nat, s.heap.size ≤ q → A q := fun q h => by rw [← hAe]; exact Or.inr h
  have hl := lv_entry ([.ref p0, .ref p1, .int p2]) (n := 4) (Nat.le_of_ble_eq_true rfl)
  rw [lg_entry_eq]
  generalize (lg_sl ([.ref p0, .ref p1, .int p2]) ++ List.replicate (4 - (lg_sl ([.ref p0, .ref p1, .int p2])).length) Slot.unset).toArray = ls at hl ⊢
  have hl : lv_has ls 4 [(0, .ref p0), (1, .ref p1), (2, .int p2)] := hl
  refine nameQ (fun Q hQ => ?_)
  have hw : WD D cy GG A s wr_X7_takeName__10 wa_X7_takeName__10 Ps w0 Ps w0 s.heap [] := ⟨hT, hP, hD, va_S.rf, FR.rf, hT.1, [], (List.append_nil _).symm⟩
  refine lv_aload_n hx hb dX7_takeName_0 rfl (lv_at hl 0 rfl) ?_
  refine lv_aload_n hx hb dX7_takeName_1 rfl (lv_at hl 1 rfl) ?_
  refine lv_iload_n hx hb dX7_takeName_2 rfl (lv_at hl 2 rfl) ?_
  refine tk_i (va_runV (As := [.ref p1, .int p2]) (rest := []) ⟨hx, hb, hml, hown, hts⟩ (c_X7_nameAhead__11 l D cy z s.heap.size Ps w0 hw.1 p0 p1 p2 f0_10 h_p0 h_p1 r_p2 r_f0_10 m_f0_10) (cwV 2 hts (gV tw_468 tw_457 tw_458 tw_2 tw_459) rfl rfl rfl (by decide +kernel) ⟨Nat.le_of_ble_eq_true rfl, Nat.le_of_ble_eq_true rfl⟩) (tg_preV hw hK hSD hA (ci := 7) (q := (RX7, TX7, 12)) rfl h_p0 rfl) rfl rfl hl.1 rfl (lv_room (Nat.le_of_ble_eq_true rfl)) dX7_takeName_3 ⟨Nat.le_of_ble_eq_true rfl, Nat.le_of_ble_eq_true rfl⟩) hw hA ⟨by decide, by decide⟩ (fun v_1 ws H locs hp_v_1 hw hF9 => ?_)
  have r_v_1 : RI v_1 (-1) 5 := hp_v_1.1
  by_cases c9_v_1 : v_1.toInt < 0
  · have r_v_1 : RI v_1 (-1) (-1) := by unfold RI at r_v_1 ⊢; omega
    have x_FLT_p0 := (hp_v_1.2.2.2.2.1 (by omega)).1
    obtain ⟨v_2, m_v_2, r_v_2⟩ := id x_FLT_p0
    refine lv_istore_n (lv' := [(3, .int v_1), (0, .ref p0), (1, .ref p1), (2, .int p2)]) hx hb dX7_takeName_6 rfl hl (by decide) rfl (fun ls hl => ?_)
    refine lv_aload_n hx hb dX7_takeName_7 rfl (lv_at hl 1 rfl) ?_
    refine tk_vr (va_runV (As := []) (rest := []) ⟨hx, hb, hml, hown, hts⟩ (c_X7_pass__1 l D cy z H.size Ps ws hw.1 p0 v_2 h_p0 r_v_2 m_v_2) (cwV 0 hts (gV tw_424 tw_425 tw_426 tw_2 tw_427) rfl rfl rfl (by decide +kernel) ⟨Nat.le_of_ble_eq_true rfl, Nat.le_of_ble_eq_true rfl⟩) (tg_preV hw hK hSD hA (ci := 7) (q := (RX7, TX7, 12)) rfl h_p0 rfl) rfl rfl hl.1 rfl (lv_room (Nat.le_of_ble_eq_true rfl)) dX7_takeName_8 ⟨Nat.le_of_ble_eq_true rfl, Nat.le_of_ble_eq_true rfl⟩) hw hA (fun  H locs hp_v_3 hw => ?_)
    refine lv_iload_n hx hb dX7_takeName_11 rfl (lv_at hl 0 rfl) ?_
    subst hQ
    exact W.iret (v := v_1) hx hb hr (fun t ht hW => ⟨⟨v_1, ws, rfl, ⟨⟨r_v_1.to (by decide), (fun _ => trivial), (fun h0 => trivial), trivial, (fun h0 => ⟨x_FLT_p0, trivial⟩), (fun _ => trivial)⟩, hw.1, hw.2.2.2.2.1⟩, by rw [ht]; exact hw.2.1, va_K.moved hW.alike hK, hw.2.2.1⟩, hw.2.2.2.1.F ht⟩) hw.2.2.2.1.2.2 dX7_takeName_12
  · have r_v_1 : RI v_1 0 5 := by unfold RI at r_v_1 ⊢; omega
    refine lv_istore_n (lv' := [(3, .int v_1), (0, .ref p0), (1, .ref p1), (2, .int p2)]) hx hb dX7_takeName_6 rfl hl (by decide) rfl (fun ls hl => ?_)
    refine lv_aload_n hx hb dX7_takeName_7 rfl (lv_at hl 1 rfl) ?_
    refine tk_v (va_runV (As := []) (rest := []) ⟨hx, hb, hml, hown, hts⟩ (c_X7_pass__2 l D cy z H.size Ps ws hw.1 p0 h_p0) (cwV 0 hts (gV tw_424 tw_425 tw_426 tw_2 tw_427) rfl rfl rfl (by decide +kernel) ⟨Nat.le_of_ble_eq_true rfl, Nat.le_of_ble_eq_true rfl⟩) (tg_preV hw hK hSD hA (ci := 7) (q := (RX7, TX7, 12)) rfl h_p0 rfl) rfl rfl hl.1 rfl (lv_room (Nat.le_of_ble_eq_true rfl)) dX7_takeName_8 ⟨Nat.le_of_ble_eq_true rfl, Nat.le_of_ble_eq_true rfl⟩) hw hA ⟨by decide, by decide⟩ (fun ws H locs hp_v_4 hw hF9 => ?_)
    refine lv_iload_n hx hb dX7_takeName_11 rfl (lv_at hl 0 rfl) ?_
    subst hQ
    exact W.iret (v := v_1) hx hb hr (fun t ht hW => ⟨⟨v_1, ws, rfl, ⟨⟨r_v_1.to (by decide), (fun h0 => trivial), (fun h0 => trivial), trivial, (fun h0 => absurd h0 (by have h8 := r_v_1; unfold RI at h8; omega)), (fun _ => trivial)⟩, hw.1, hw.2.2.2.2.1⟩, by rw [ht]; exact hw.2.1, va_K.moved hW.alike hK, hw.2.2.1⟩, hw.2.2.2.1.F ht⟩) hw.2.2.2.1.2.2 dX7_takeName_12
abbrev wr_X7_takeNumber__3 : List (Nat × Nat) := []
abbrev wa_X7_takeNumber__3 : List Nat := []
set_option maxHeartbeats 4000000 in
set_option maxRecDepth 100000 in
theorem c_X7_takeNumber__3 (l : Launch) (D : va_G) (cy : Nat → ClassId) (z : Nat → Nat) (sz : Nat) (Ps : PSI) (w0 : va_W) (hT : HT cy GG Ps w0) (p0 : Nat) (p1 : Int32) (p2 : Int32) (f0_10 : Int32) (h_p0 : (p0, 26) ∈ Ps) (r_p1 : RI p1 (-2147483648) 2147483647) (r_p2 : RI p2 (-2147483648) 2147483647) (r_f0_10 : RI f0_10 1 4) (m_f0_10 : FLD w0 p0 7 10 (.int f0_10)) : Met l yX7_takeNumber (Cond.code yX7_takeNumber cX7_takeNumber 4 (some .int) :: gT) ({ frames := 2, cells := 0, slots := 0, locals := 400 } : Room) (va_Pc [.ref p0, .int p1, .int p2] (PRE D cy z w0 sz)) (va_Qi (fun (r : Int32) (u : Unit) => RI r (-2147483648) 2147483647 ∧ (r = 0 → True) ∧ (¬ r = 0 → True)) (BB D cy (va_A w0 sz) (fun (u : Unit) => w0)) (va_A w0 sz)) 0 0 (va_A w0 sz) := by
  refine Met.ofW (cc := cX7_takeNumber) (maxL := 4) (ret := (some .int)) (by decide) rfl ?_
  intro p e s m args below meth c s₁ B hml hv
  obtain ⟨rfl, hsz, hP, hK, hD0, hSD⟩ := hv
  have hx := B.exec
  have hb := B.bytes
  have hr := B.returns
  have hlocks := B.notSynchronized
  have hts : ∀ w ∈ gT, w.before _ s = true := fun w h => atoms_spec (ws := Cond.code yX7_takeNumber cX7_takeNumber 4 (some .int) :: gT) B.pre w (List.mem_cons_of_mem _ h)
  have hown : s.vm.findClass RX7 = some m.cls := findClass_of_methodNamed B.named
  subst hsz
  have hD := hD0.self (sz := s.heap.size)
  generalize hAe : va_A w0 s.heap.size = A at hD hSD ⊢
  have hA : ∀ q : Nat, s.heap.size ≤ q → A q := fun q h => by rw [← hAe]; exact Or.inr h
  have hl := lv_entry ([.ref p0, .int p1, .int p2]) (n := 4) (Nat.le_of_ble_eq_true rfl)
  rw [lg_entry_eq]
  generalize (lg_sl ([.ref p0, .int p1, .int p2]) ++ List.replicate (4 - (lg_sl ([.ref p0, .int p1, .int p2])).length) Slot.unset).toArray = ls at hl ⊢
  have hl : lv_has ls 4 [(0, .ref p0), (1, .int p1), (2, .int p2)] := hl
  refine nameQ (fun Q hQ => ?_)
  have hw : WD D cy GG A s wr_X7_takeNumber__3 wa_X7_takeNumber__3 Ps w0 Ps w0 s.heap [] := ⟨hT, hP, hD, va_S.rf, FR.rf, hT.1, [], (List.append_nil _).symm⟩
  have B36 : ∀ (x3 : Int32) (z0_10 : Int32) (H : Heap) (locs : List Loc) (ls : Array Slot), RI p1 (-2147483648) 2147483647 → RI p2 (-2147483648) 2147483647 → RI x3 (-2147483648) 2147483647 → RI z0_10 1 4 → FLD w0 p0 7 10 (.int z0_10) → WD D cy GG A s wr_X7_takeNumber__3 wa_X7_takeNumber__3 Ps w0 Ps w0 H locs → lv_has ls 4 [(0, .ref p0), (1, .int p1), (2, .int p2), (3, .int x3)] → W p l e (headSpec (Cond.code yX7_takeNumber cX7_takeNumber 4 (some .int) :: gT) ({ frames := 2, cells := 0, slots := 0, locals := 400 } : Room)).room s m ([.ref p0, .int p1, .int p2] : List Value).toArray below meth c H locs 0 0 Q (F0 m 36 ls []) := by
    intro x3 z0_10 H locs ls r_p1 r_p2 r_x3 r_z0_10 m_z0_10 hw hl
    refine lv_aload_n hx hb dX7_takeNumber_36 rfl (lv_at hl 0 rfl) ?_
    refine tk_vr (va_runV (As := []) (rest := []) ⟨hx, hb, hml, hown, hts⟩ (c_X7_pass__1 l D cy z H.size Ps w0 hw.1 p0 z0_10 h_p0 r_z0_10 m_z0_10) (cwV 0 hts (gV tw_424 tw_425 tw_426 tw_2 tw_427) rfl rfl rfl (by decide +kernel) ⟨Nat.le_of_ble_eq_true rfl, Nat.le_of_ble_eq_true rfl⟩) (tg_preV hw hK hSD hA (ci := 7) (q := (RX7, TX7, 12)) rfl h_p0 rfl) rfl rfl hl.1 rfl (lv_room (Nat.le_of_ble_eq_true rfl)) dX7_takeNumber_37 ⟨Nat.le_of_ble_eq_true rfl, Nat.le_of_ble_eq_true rfl⟩) hw hA (fun  H locs hp_v_1 hw => ?_)
    refine lv_iload_n hx hb dX7_takeNumber_40 rfl (lv_at hl 3 rfl) ?_
    subst hQ
    exact W.iret (v := x3) hx hb hr (fun t ht hW => ⟨⟨x3, (), rfl, ⟨r_x3.to (by decide), (fun h0 => trivial), (fun h0 => trivial)⟩, by rw [ht]; exact hw.2.1, va_K.moved hW.alike hK, hw.2.2.1⟩, hw.2.2.2.1.F ht⟩) hw.2.2.2.1.2.2 dX7_takeNumber_41
  have B31 : ∀ (x3 : Int32) (z0_7 : Int32) (z0_10 : Int32) (H : Heap) (locs : List Loc) (ls : Array Slot), RI p1 (-2147483648) 2147483647 → RI p2 (-2147483648) 2147483647 → RI x3 (-2147483648) 2147483647 → RI z0_7 3 3 → FLD w0 p0 7 7 (.int z0_7) → RI z0_10 1 4 → FLD w0 p0 7 10 (.int z0_10) → WD D cy GG A s wr_X7_takeNumber__3 wa_X7_takeNumber__3 Ps w0 Ps w0 H locs → lv_has ls 4 [(0, .ref p0), (1, .int p1), (2, .int p2), (3, .int x3)] → W p l e (headSpec (Cond.code yX7_takeNumber cX7_takeNumber 4 (some .int) :: gT) ({ frames := 2, cells := 0, slots := 0, locals := 400 } : Room)).room s m ([.ref p0, .int p1, .int p2] : List Value).toArray below meth c H locs 0 0 Q (F0 m 31 ls []) := by
    intro x3 z0_7 z0_10 H locs ls r_p1 r_p2 r_x3 r_z0_7 m_z0_7 r_z0_10 m_z0_10 hw hl
    refine lv_aload_n hx hb dX7_takeNumber_31 rfl (lv_at hl 0 rfl) ?_
    refine lv_iconst (v := 2) hx hb dX7_takeNumber_32 (by decide) ?_
    refine tk_vr (va_runV (As := [.int 2]) (rest := []) ⟨hx, hb, hml, hown, hts⟩ (c_X7_refuse__1 l D cy z H.size Ps w0 hw.1 p0 2 z0_10 h_p0 (rl_2.to (by decide)) r_z0_10 m_z0_10) (cwV 1 hts (gV tw_442 tw_443 tw_444 tw_2 tw_445) rfl rfl rfl (by decide +kernel) ⟨Nat.le_of_ble_eq_true rfl, Nat.le_of_ble_eq_true rfl⟩) (tg_preV hw hK hSD hA (ci := 7) (q := (RX7, TX7, 12)) rfl h_p0 rfl) rfl rfl hl.1 rfl (lv_room (Nat.le_of_ble_eq_true rfl)) dX7_takeNumber_33 ⟨Nat.le_of_ble_eq_true rfl, Nat.le_of_ble_eq_true rfl⟩) hw hA (fun  H locs hp_v_2 hw => ?_)
    exact B36 x3 z0_10 _ _ ls r_p1 r_p2 r_x3 r_z0_10 m_z0_10 hw hl
  refine lv_aload_n hx hb dX7_takeNumber_0 rfl (lv_at hl 0 rfl) ?_
  refine tg_get (ci := 7) (ts := ty_TAPE) (C := RX7) (T := TX7) (N := 12) hx hb hts inX7 hown hK hw h_p0 rfl rfl 9 (by decide) (hts _ tw_101) (fun _ h9 => h9) (ft := vI (-2147483648) 2147483647) rfl dX7_takeNumber_1 (fun u_3 hv_u_3 m_u_3 => ?_)
  obtain ⟨vu_3, rfl, r_vu_3⟩ := hv_u_3
  refine lv_istore_n (lv' := [(3, .int vu_3), (0, .ref p0), (1, .int p1), (2, .int p2)]) hx hb dX7_takeNumber_4 rfl hl (by decide) rfl (fun ls hl => ?_)
  refine lv_aload_n hx hb dX7_takeNumber_5 rfl (lv_at hl 1 rfl) ?_
  refine tg_get (ci := 7) (ts := ty_TAPE) (C := RX7) (T := TX7) (N := 12) hx hb hts inX7 hown hK hw h_p0 rfl rfl 7 (by decide) (hts _ tw_98) (fun _ h9 => h9) (ft := vI (-2147483648) 2147483647) rfl dX7_takeNumber_6 (fun u_4 hv_u_4 m_u_4 => ?_)
  obtain ⟨vu_4, rfl, r_vu_4⟩ := hv_u_4
  refine lv_iconst (v := 3) hx hb dX7_takeNumber_9 (by decide) ?_
  refine lv_icmp_eq (tgt := 21) hx hb dX7_takeNumber_10 (by decide) (fun c_10 => ?_) (fun c_10 => ?_)
  · have r_vu_4 : RI vu_4 3 3 := rc_eq1 r_vu_4 rl_3 (ti_eq c_10) (by decide)
    refine lv_iload_n hx hb dX7_takeNumber_21 rfl (lv_at hl 0 rfl) ?_
    refine lv_iload_n hx hb dX7_takeNumber_22 rfl (lv_at hl 2 rfl) ?_
    refine lv_icmp_lt (tgt := 31) hx hb dX7_takeNumber_23 (by decide) (fun c_23 => ?_) (fun c_23 => ?_)
    · have r_vu_3 : RI vu_3 (-2147483648) 2147483646 := rc_lt1 r_vu_3 r_p1 (ti_lt c_23) (by decide)
      have r_p1 : RI p1 (-2147483647) 2147483647 := rc_lt2 r_vu_3 r_p1 (ti_lt c_23) (by decide)
      exact B31 vu_3 vu_4 f0_10 _ _ ls (r_p1.to (by decide)) r_p2 (r_vu_3.to (by decide)) r_vu_4 m_u_4 r_f0_10 m_f0_10 hw (lv_sub hl [1, 2, 3, 0] rfl)
    · refine lv_iload_n hx hb dX7_takeNumber_26 rfl (lv_at hl 0 rfl) ?_
      refine lv_iload_n hx hb dX7_takeNumber_27 rfl (lv_at hl 3 rfl) ?_
      refine lv_icmp_le (tgt := 36) hx hb dX7_takeNumber_28 (by decide) (fun c_28 => ?_) (fun c_28 => ?_)
      · exact B36 vu_3 f0_10 _ _ ls r_p1 r_p2 r_vu_3 r_f0_10 m_f0_10 hw (lv_sub hl [1, 2, 3, 0] rfl)
      · have r_p2 : RI p2 (-2147483648) 2147483646 := rc_lt1 r_p2 r_vu_3 (ti_nle c_28) (by decide)
        have r_vu_3 : RI vu_3 (-2147483647) 2147483647 := rc_lt2 r_p2 r_vu_3 (ti_nle c_28) (by decide)
        exact B31 vu_3 vu_4 f0_10 _ _ ls r_p1 (r_p2.to (by decide)) (r_vu_3.to (by decide)) r_vu_4 m_u_4 r_f0_10 m_f0_10 hw (lv_sub hl [1, 2, 3, 0] rfl)
  · refine lv_aload_n hx hb dX7_takeNumber_13 rfl (lv_at hl 1 rfl) ?_
    refine lv_iconst (v := 1) hx hb dX7_takeNumber_14 (by decide) ?_
    refine tk_vr (va_runV (As := [.int 1]) (rest := []) ⟨hx, hb, hml, hown, hts⟩ (c_X7_refuse__1 l D cy z s.heap.size Ps w0 hw.1 p0 1 f0_10 h_p0 (rl_1.to (by decide)) r_f0_10 m_f0_10) (cwV 1 hts (gV tw_442 tw_443 tw_444 tw_2 tw_445) rfl rfl rfl (by decide +kernel) ⟨Nat.le_of_ble_eq_true rfl, Nat.le_of_ble_eq_true rfl⟩) (tg_preV hw hK hSD hA (ci := 7) (q := (RX7, TX7, 12)) rfl h_p0 rfl) rfl rfl hl.1 rfl (lv_room (Nat.le_of_ble_eq_true rfl)) dX7_takeNumber_15 ⟨Nat.le_of_ble_eq_true rfl, Nat.le_of_ble_eq_true rfl⟩) hw hA (fun  H locs hp_v_5 hw => ?_)
    refine lv_goto (tgt := 36) hx hb dX7_takeNumber_18 (by decide) ?_
    exact B36 vu_3 f0_10 _ _ ls r_p1 r_p2 r_vu_3 r_f0_10 m_f0_10 hw (lv_sub hl [1, 2, 3, 0] rfl)
abbrev wr_X3_readNamed__3 : List (Nat × Nat) := [(7, 5), (7, 6), (7, 7), (7, 8), (7, 9), (7, 10), (7, 11)]
abbrev wa_X3_readNamed__3 : List Nat := [1, 4, 7, 11]
set_option maxHeartbeats 4000000 in
set_option maxRecDepth 100000 in
theorem c_X3_readNamed__3 (l : Launch) (D : va_G) (cy : Nat → ClassId) (z : Nat → Nat) (sz : Nat) (Ps : PSI) (w0 : va_W) (hT : HT cy GG Ps w0) (p0 : Nat) (p1 : Nat) (p2 : Nat) (p3 : Int32) (h_p0 : (p0, 25) ∈ Ps) (h_p1 : (p1, 26) ∈ Ps) (h_p2 : (p2, 24) ∈ Ps) (r_p3 : RI p3 3 3) (x_MLT_p0_3 : AXC 3 1 4 (fun f => (f 3).toInt < 8) Ps w0 p0) : Met l yX3_readNamed (Cond.code yX3_readNamed cX3_readNamed 5 none :: gT) ({ frames := 4, cells := 0, slots := 0, locals := 800 } : Room) (va_Pc [.ref p0, .ref p1, .ref p2, .int p3] (PRE D cy z w0 sz)) (va_Qv (fun (u : va_W) => (True) ∧ HT cy GG Ps u ∧ FR wr_X3_readNamed__3 wa_X3_readNamed__3 Ps w0 u) (BB D cy (va_A w0 sz) (fun (u : va_W) => u)) (va_A w0 sz)) 0 0 (va_A w0 sz) := by
  refine Met.ofW (cc := cX3_readNamed) (maxL := 5) (ret := none) (by decide) rfl ?_
  intro p e s m args below meth c s₁ B hml hv
  obtain ⟨rfl, hsz, hP, hK, hD0, hSD⟩ := hv
  have hx := B.exec
  have hb := B.bytes
  have hr := B.returns
  have hlocks := B.notSynchronized
  have hts : ∀ w ∈ gT, w.before _ s = true := fun w h => atoms_spec (ws := Cond.code yX3_readNamed cX3_readNamed 5 none :: gT) B.pre w (List.mem_cons_of_mem _ h)
  have hown : s.vm.findClass RX3 = some m.cls := findClass_of_methodNamed B.named
  subst hsz
  have hD := hD0.self (sz := s.heap.size)
  generalize hAe : va_A w0 s.heap.size = A at hD hSD ⊢
  have hA : ∀ q : Nat, s.heap.size ≤ q → A q := fun q h => by rw [← hAe]; exact Or.inr h
  have hl := lv_entry ([.ref p0, .ref p1, .ref p2, .int p3]) (n := 5) (Nat.le_of_ble_eq_true rfl)
  rw [lg_entry_eq]
  generalize (lg_sl ([.ref p0, .ref p1, .ref p2, .int p3]) ++ List.replicate (5 - (lg_sl ([.ref p0, .ref p1, .ref p2, .int p3])).length) Slot.unset).toArray = ls at hl ⊢
  have hl : lv_has ls 5 [(0, .ref p0), (1, .ref p1), (2, .ref p2), (3, .int p3)] := hl
  refine nameQ (fun Q hQ => ?_)
  have hw : WD D cy GG A s wr_X3_readNamed__3 wa_X3_readNamed__3 Ps w0 Ps w0 s.heap [] := ⟨hT, hP, hD, va_S.rf, FR.rf, hT.1, [], (List.append_nil _).symm⟩
  refine lv_aload_n hx hb dX3_readNamed_0 rfl (lv_at hl 0 rfl) ?_
  refine lv_aload_n hx hb dX3_readNamed_1 rfl (lv_at hl 1 rfl) ?_
  refine lv_iload_n hx hb dX3_readNamed_2 rfl (lv_at hl 3 rfl) ?_
  refine tk_i (va_runV (As := [.ref p1, .int p3]) (rest := []) ⟨hx, hb, hml, hown, hts⟩ (c_X3_tellName__3 l D cy z s.heap.size Ps w0 hw.1 p0 p1 p3 h_p0 h_p1 r_p3 x_MLT_p0_3) (cwV 2 hts (gV tw_503 tw_505 ts_7 tw_11 tw_506) rfl rfl rfl (by decide +kernel) ⟨Nat.le_of_ble_eq_true rfl, Nat.le_of_ble_eq_true rfl⟩) (tg_preV hw hK hSD hA (ci := 3) (q := (RX3, TX3, 9)) rfl h_p0 rfl) rfl rfl hl.1 rfl (lv_room (Nat.le_of_ble_eq_true rfl)) dX3_readNamed_3 ⟨Nat.le_of_ble_eq_true rfl, Nat.le_of_ble_eq_true rfl⟩) hw hA ⟨by decide, by decide⟩ (fun v_1 ws H locs hp_v_1 hw hF9 => ?_)
  have r_v_1 : RI v_1 (-1) 7 := hp_v_1.1
  by_cases c9_v_1 : v_1 = 0
  · have r_v_1 : RI v_1 0 0 := by rw [c9_v_1]; exact rl_0
    obtain ⟨v_2, m_v_2, r_v_2⟩ := ((hp_v_1.2.1 c9_v_1).1)
    refine lv_istore (lv' := [(4, .int v_1), (0, .ref p0), (1, .ref p1), (2, .ref p2), (3, .int p3)]) hx hb dX3_readNamed_6 hl (by decide) rfl (fun ls hl => ?_)
    refine lv_iload hx hb dX3_readNamed_8 (lv_at hl 0 rfl) ?_
    refine lv_iconst (v := (-1)) hx hb dX3_readNamed_10 (by decide) ?_
    refine lv_icmp_ne (tgt := 15) hx hb dX3_readNamed_11 (by decide) (fun c_11 => ?_) (fun c_11 => ?_)
    · refine lv_iload_n hx hb dX3_readNamed_15 rfl (lv_at hl 4 rfl) ?_
      refine lv_if_ne (tgt := 36) hx hb dX3_readNamed_16 (by decide) (fun c_16 => ?_) (fun c_16 => ?_)
      · refine lv_iload_n hx hb dX3_readNamed_36 rfl (lv_at hl 4 rfl) ?_
        refine lv_iconst (v := 2) hx hb dX3_readNamed_37 (by decide) ?_
        refine lv_icmp_ne (tgt := 61) hx hb dX3_readNamed_38 (by decide) (fun c_38 => ?_) (fun c_38 => ?_)
        · refine lv_iload_n hx hb dX3_readNamed_61 rfl (lv_at hl 4 rfl) ?_
          refine lv_iconst (v := 3) hx hb dX3_readNamed_62 (by decide) ?_
          refine lv_icmp_ne (tgt := 97) hx hb dX3_readNamed_63 (by decide) (fun c_63 => ?_) (fun c_63 => ?_)
          · exact absurd (r_p3.eq.trans rl_3.eq.symm) ((ti_ne c_63))
          · refine lv_aload_n hx hb dX3_readNamed_66 rfl (lv_at hl 3 rfl) ?_
            refine tg_getN (ci := 8) (ts := ty_WORLD) (C := RX8) (T := TX8) (N := 13) hx hb hts inX8 hown hK hw h_p2 rfl rfl 7 (by decide) (hSD.nest tn_266) (fun _ h9 => h9) (ft := vR 11) rfl dX3_readNamed_67 (fun u_3 hv_u_3 m_u_3 => ?_)
            obtain ⟨vu_3, rfl, h_vu_3⟩ := hv_u_3
            refine lv_iload hx hb dX3_readNamed_70 (lv_at hl 0 rfl) ?_
            refine lv_iconst (v := 0) hx hb dX3_readNamed_72 (by decide) ?_
            refine lv_aload_n hx hb dX3_readNamed_73 rfl (lv_at hl 2 rfl) ?_
            refine lv_aload_n hx hb dX3_readNamed_74 rfl (lv_at hl 1 rfl) ?_
            refine lv_iconst (v := 0) hx hb dX3_readNamed_75 (by decide) ?_
            refine tk_i (va_runV (As := [.ref p0, .int 0]) (rest := [.int 0, .int v_1, .ref vu_3]) ⟨hx, hb, hml, hown, hts⟩ (c_X7_takeName__10 l D cy z H.size Ps ws hw.1 p1 p0 0 v_2 h_p1 h_p0 rl_0 r_v_2 m_v_2) (cwV 2 hts (gV tw_464 tw_465 tw_466 tw_2 tw_467) rfl rfl rfl (by decide +kernel) ⟨Nat.le_of_ble_eq_true rfl, Nat.le_of_ble_eq_true rfl⟩) (tg_preV hw hK hSD hA (ci := 7) (q := (RX7, TX7, 12)) rfl h_p1 rfl) rfl rfl hl.1 rfl (lv_room (Nat.le_of_ble_eq_true rfl)) dX3_readNamed_76 ⟨Nat.le_of_ble_eq_true rfl, Nat.le_of_ble_eq_true rfl⟩) hw hA ⟨by decide, by decide⟩ (fun v_4 ws H locs hp_v_4 hw hF9 => ?_)
            have r_v_4 : RI v_4 (-1) 5 := hp_v_4.1
            by_cases c9_v_4 : v_4.toInt < 0
            · have r_v_4 : RI v_4 (-1) (-1) := by unfold RI at r_v_4 ⊢; omega
              have x_FLT_p1 := (hp_v_4.2.2.2.2.1 (by omega)).1
              obtain ⟨v_5, m_v_5, r_v_5⟩ := id x_FLT_p1
              refine va_mmax hx hb (hml.trans hl.1.symm) hown (hts _ tw_512) (hts _ tw_489) (hts _ tw_16) (hts _ tw_490) (Nat.le_of_ble_eq_true rfl) (Nat.le_of_ble_eq_true rfl) (Nat.le_of_ble_eq_true rfl) (Nat.le_of_ble_eq_true rfl) dX3_readNamed_79 (lv_topi (fun v_6 e_v_6 => ?_))
              have r_v_6 : RI v_6 0 0 := by rw [e_v_6]; exact ri_max rl_0 r_v_4 (by decide)
              refine tg_iast hx hb hK hw h_vu_3 rfl 0 0 r_v_1 (by decide) r_v_6 (by exact fun _ _ _ => by decide) (fun _ _ _ _ _ => trivial) (by decide) dX3_readNamed_82 (fun ws H locs hw hF9 hU9 => ?_)
              have x_FLT_p1 := FLTp.over hF9 x_FLT_p1 (by decide)
              have m_v_5 := FLD.over hF9 m_v_5 (by decide)
              refine lv_aload_n hx hb dX3_readNamed_83 rfl (lv_at hl 1 rfl) ?_
              refine tg_get (ci := 3) (ts := ty_POST) (C := RX3) (T := TX3) (N := 9) hx hb hts inX3 hown hK hw h_p0 rfl rfl 4 (by decide) (hts _ tw_210) (fun _ h9 => h9) (ft := vR 7) rfl dX3_readNamed_84 (fun u_7 hv_u_7 m_u_7 => ?_)
              obtain ⟨vu_7, rfl, h_vu_7⟩ := hv_u_7
              refine lv_iload hx hb dX3_readNamed_87 (lv_at hl 0 rfl) ?_
              refine lv_aload_n hx hb dX3_readNamed_89 rfl (lv_at hl 2 rfl) ?_
              refine lv_iconst (v := 1) hx hb dX3_readNamed_90 (by decide) ?_
              refine lv_bipush (v := 9) hx hb dX3_readNamed_91 (by decide) ?_
              refine tk_ir (va_runV (As := [.int 1, .int 9]) (rest := [.int v_1, .ref vu_7]) ⟨hx, hb, hml, hown, hts⟩ (c_X7_takeNumber__3 l D cy z H.size Ps ws hw.1 p1 1 9 v_5 h_p1 (rl_1.to (by decide)) (rl_9.to (by decide)) r_v_5 m_v_5) (cwV 2 hts (gV tw_477 tw_478 tw_479 tw_2 tw_480) rfl rfl rfl (by decide +kernel) ⟨Nat.le_of_ble_eq_true rfl, Nat.le_of_ble_eq_true rfl⟩) (tg_preV hw hK hSD hA (ci := 7) (q := (RX7, TX7, 12)) rfl h_p1 rfl) rfl rfl hl.1 rfl (lv_room (Nat.le_of_ble_eq_true rfl)) dX3_readNamed_93 ⟨Nat.le_of_ble_eq_true rfl, Nat.le_of_ble_eq_true rfl⟩) hw hA (fun v_8  H locs hp_v_8 hw => ?_)
              have r_v_8 : RI v_8 (-2147483648) 2147483647 := hp_v_8.1
              refine tg_iast hx hb hK hw h_vu_7 rfl 0 0 r_v_1 (by decide) r_v_8 (by exact fun _ _ _ => by decide) (fun _ _ _ _ _ => trivial) (by decide) dX3_readNamed_96 (fun ws H locs hw hF9 hU9 => ?_)
              have x_FLT_p1 := FLTp.over hF9 x_FLT_p1 (by decide)
              have m_v_5 := FLD.over hF9 m_v_5 (by decide)
              subst hQ
              exact W.vret hx hb hr (fun t ht hW => ⟨⟨ws, rfl, ⟨trivial, hw.1, hw.2.2.2.2.1⟩, by rw [ht]; exact hw.2.1, va_K.moved hW.alike hK, hw.2.2.1⟩, hw.2.2.2.1.F ht⟩) hw.2.2.2.1.2.2 dX3_readNamed_97
            · have r_v_4 : RI v_4 0 5 := by unfold RI at r_v_4 ⊢; omega
              refine va_mmax hx hb (hml.trans hl.1.symm) hown (hts _ tw_512) (hts _ tw_489) (hts _ tw_16) (hts _ tw_490) (Nat.le_of_ble_eq_true rfl) (Nat.le_of_ble_eq_true rfl) (Nat.le_of_ble_eq_true rfl) (Nat.le_of_ble_eq_true rfl) dX3_readNamed_79 (lv_topi (fun v_9 e_v_9 => ?_))
              have r_v_9 : RI v_9 0 5 := by rw [e_v_9]; exact ri_max rl_0 r_v_4 (by decide)
              refine tg_iast hx hb hK hw h_vu_3 rfl 0 0 r_v_1 (by decide) r_v_9 (by exact fun _ _ _ => by decide) (fun _ _ _ _ _ => trivial) (by decide) dX3_readNamed_82 (fun ws H locs hw hF9 hU9 => ?_)
              refine lv_aload_n hx hb dX3_readNamed_83 rfl (lv_at hl 1 rfl) ?_
              refine tg_get (ci := 3) (ts := ty_POST) (C := RX3) (T := TX3) (N := 9) hx hb hts inX3 hown hK hw h_p0 rfl rfl 4 (by decide) (hts _ tw_210) (fun _ h9 => h9) (ft := vR 7) rfl dX3_readNamed_84 (fun u_10 hv_u_10 m_u_10 => ?_)
              obtain ⟨vu_10, rfl, h_vu_10⟩ := hv_u_10
              refine lv_iload hx hb dX3_readNamed_87 (lv_at hl 0 rfl) ?_
              refine lv_aload_n hx hb dX3_readNamed_89 rfl (lv_at hl 2 rfl) ?_
              refine lv_iconst (v := 1) hx hb dX3_readNamed_90 (by decide) ?_
              refine lv_bipush (v := 9) hx hb dX3_readNamed_91 (by decide) ?_
              refine tk_i (va_runV (As := [.int 1, .int 9]) (rest := [.int v_1, .ref vu_10]) ⟨hx, hb, hml, hown, hts⟩ (c_X7_takeNumber__1 l D cy z H.size Ps ws hw.1 p1 1 9 h_p1 (rl_1.to (by decide)) (rl_9.to (by decide))) (cwV 2 hts (gV tw_477 tw_478 tw_479 tw_2 tw_480) rfl rfl rfl (by decide +kernel) ⟨Nat.le_of_ble_eq_true rfl, Nat.le_of_ble_eq_true rfl⟩) (tg_preV hw hK hSD hA (ci := 7) (q := (RX7, TX7, 12)) rfl h_p1 rfl) rfl rfl hl.1 rfl (lv_room (Nat.le_of_ble_eq_true rfl)) dX3_readNamed_93 ⟨Nat.le_of_ble_eq_true rfl, Nat.le_of_ble_eq_true rfl⟩) hw hA ⟨by decide, by decide⟩ (fun v_11 ws H locs hp_v_11 hw hF9 => ?_)
              have r_v_11 : RI v_11 (-2147483648) 2147483647 := hp_v_11.1
              refine tg_iast hx hb hK hw h_vu_10 rfl 0 0 r_v_1 (by decide) r_v_11 (by exact fun _ _ _ => by decide) (fun _ _ _ _ _ => trivial) (by decide) dX3_readNamed_96 (fun ws H locs hw hF9 hU9 => ?_)
              subst hQ
              exact W.vret hx hb hr (fun t ht hW => ⟨⟨ws, rfl, ⟨trivial, hw.1, hw.2.2.2.2.1⟩, by rw [ht]; exact hw.2.1, va_K.moved hW.alike hK, hw.2.2.1⟩, hw.2.2.2.1.F ht⟩) hw.2.2.2.1.2.2 dX3_readNamed_97
        · have r_p3 : RI p3 3 2 := rc_eq1 r_p3 rl_2 (ti_eq c_38) (by decide)
          exact (r_p3.no (by decide)).elim
      · have r_p3 : RI p3 3 0 := rc_eq1 r_p3 rl_0 (ti_eq c_16) (by decide)
        exact (r_p3.no (by decide)).elim
    · have r_v_1 : RI v_1 0 (-1) := rc_eq1 r_v_1 rl_m1 (ti_eq c_11) (by decide)
      exact (r_v_1.no (by decide)).elim
  · refine lv_istore (lv' := [(4, .int v_1), (0, .ref p0), (1, .ref p1), (2, .ref p2), (3, .int p3)]) hx hb dX3_readNamed_6 hl (by decide) rfl (fun ls hl => ?_)
    refine lv_iload hx hb dX3_readNamed_8 (lv_at hl 0 rfl) ?_
    refine lv_iconst (v := (-1)) hx hb dX3_readNamed_10 (by decide) ?_
    refine lv_icmp_ne (tgt := 15) hx hb dX3_readNamed_11 (by decide) (fun c_11 => ?_) (fun c_11 => ?_)
    · have r_v_1 : RI v_1 0 7 := rc_neL r_v_1 rl_m1 (ti_ne c_11) (by decide)
      refine lv_iload_n hx hb dX3_readNamed_15 rfl (lv_at hl 4 rfl) ?_
      refine lv_if_ne (tgt := 36) hx hb dX3_readNamed_16 (by decide) (fun c_16 => ?_) (fun c_16 => ?_)
      · refine lv_iload_n hx hb dX3_readNamed_36 rfl (lv_at hl 4 rfl) ?_
        refine lv_iconst (v := 2) hx hb dX3_readNamed_37 (by decide) ?_
        refine lv_icmp_ne (tgt := 61) hx hb dX3_readNamed_38 (by decide) (fun c_38 => ?_) (fun c_38 => ?_)
        · refine lv_iload_n hx hb dX3_readNamed_61 rfl (lv_at hl 4 rfl) ?_
          refine lv_iconst (v := 3) hx hb dX3_readNamed_62 (by decide) ?_
          refine lv_icmp_ne (tgt := 97) hx hb dX3_readNamed_63 (by decide) (fun c_63 => ?_) (fun c_63 => ?_)
          · exact absurd (r_p3.eq.trans rl_3.eq.symm) ((ti_ne c_63))
          · refine lv_aload_n hx hb dX3_readNamed_66 rfl (lv_at hl 3 rfl) ?_
            refine tg_getN (ci := 8) (ts := ty_WORLD) (C := RX8) (T := TX8) (N := 13) hx hb hts inX8 hown hK hw h_p2 rfl rfl 7 (by decide) (hSD.nest tn_266) (fun _ h9 => h9) (ft := vR 11) rfl dX3_readNamed_67 (fun u_12 hv_u_12 m_u_12 => ?_)
            obtain ⟨vu_12, rfl, h_vu_12⟩ := hv_u_12
            refine lv_iload hx hb dX3_readNamed_70 (lv_at hl 0 rfl) ?_
            refine lv_iconst (v := 0) hx hb dX3_readNamed_72 (by decide) ?_
            refine lv_aload_n hx hb dX3_readNamed_73 rfl (lv_at hl 2 rfl) ?_
            refine lv_aload_n hx hb dX3_readNamed_74 rfl (lv_at hl 1 rfl) ?_
            refine lv_iconst (v := 0) hx hb dX3_readNamed_75 (by decide) ?_
            refine tk_i (va_runV (As := [.ref p0, .int 0]) (rest := [.int 0, .int v_1, .ref vu_12]) ⟨hx, hb, hml, hown, hts⟩ (c_X7_takeName__5 l D cy z H.size Ps ws hw.1 p1 p0 0 h_p1 h_p0 rl_0) (cwV 2 hts (gV tw_464 tw_465 tw_466 tw_2 tw_467) rfl rfl rfl (by decide +kernel) ⟨Nat.le_of_ble_eq_true rfl, Nat.le_of_ble_eq_true rfl⟩) (tg_preV hw hK hSD hA (ci := 7) (q := (RX7, TX7, 12)) rfl h_p1 rfl) rfl rfl hl.1 rfl (lv_room (Nat.le_of_ble_eq_true rfl)) dX3_readNamed_76 ⟨Nat.le_of_ble_eq_true rfl, Nat.le_of_ble_eq_true rfl⟩) hw hA ⟨by decide, by decide⟩ (fun v_13 ws H locs hp_v_13 hw hF9 => ?_)
            have r_v_13 : RI v_13 (-1) 5 := hp_v_13.1
            by_cases c9_v_13 : v_13.toInt < 0
            · have r_v_13 : RI v_13 (-1) (-1) := by unfold RI at r_v_13 ⊢; omega
              have x_FLT_p1 := (hp_v_13.2.2.2.2.1 (by omega)).1
              obtain ⟨v_14, m_v_14, r_v_14⟩ := id x_FLT_p1
              refine va_mmax hx hb (hml.trans hl.1.symm) hown (hts _ tw_512) (hts _ tw_489) (hts _ tw_16) (hts _ tw_490) (Nat.le_of_ble_eq_true rfl) (Nat.le_of_ble_eq_true rfl) (Nat.le_of_ble_eq_true rfl) (Nat.le_of_ble_eq_true rfl) dX3_readNamed_79 (lv_topi (fun v_15 e_v_15 => ?_))
              have r_v_15 : RI v_15 0 0 := by rw [e_v_15]; exact ri_max rl_0 r_v_13 (by decide)
              refine tg_iast hx hb hK hw h_vu_12 rfl 0 7 r_v_1 (by decide) r_v_15 (by exact fun _ _ _ => by decide) (fun _ _ _ _ _ => trivial) (by decide) dX3_readNamed_82 (fun ws H locs hw hF9 hU9 => ?_)
              have x_FLT_p1 := FLTp.over hF9 x_FLT_p1 (by decide)
              have m_v_14 := FLD.over hF9 m_v_14 (by decide)
              refine lv_aload_n hx hb dX3_readNamed_83 rfl (lv_at hl 1 rfl) ?_
              refine tg_get (ci := 3) (ts := ty_POST) (C := RX3) (T := TX3) (N := 9) hx hb hts inX3 hown hK hw h_p0 rfl rfl 4 (by decide) (hts _ tw_210) (fun _ h9 => h9) (ft := vR 7) rfl dX3_readNamed_84 (fun u_16 hv_u_16 m_u_16 => ?_)
              obtain ⟨vu_16, rfl, h_vu_16⟩ := hv_u_16
              refine lv_iload hx hb dX3_readNamed_87 (lv_at hl 0 rfl) ?_
              refine lv_aload_n hx hb dX3_readNamed_89 rfl (lv_at hl 2 rfl) ?_
              refine lv_iconst (v := 1) hx hb dX3_readNamed_90 (by decide) ?_
              refine lv_bipush (v := 9) hx hb dX3_readNamed_91 (by decide) ?_
              refine tk_ir (va_runV (As := [.int 1, .int 9]) (rest := [.int v_1, .ref vu_16]) ⟨hx, hb, hml, hown, hts⟩ (c_X7_takeNumber__3 l D cy z H.size Ps ws hw.1 p1 1 9 v_14 h_p1 (rl_1.to (by decide)) (rl_9.to (by decide)) r_v_14 m_v_14) (cwV 2 hts (gV tw_477 tw_478 tw_479 tw_2 tw_480) rfl rfl rfl (by decide +kernel) ⟨Nat.le_of_ble_eq_true rfl, Nat.le_of_ble_eq_true rfl⟩) (tg_preV hw hK hSD hA (ci := 7) (q := (RX7, TX7, 12)) rfl h_p1 rfl) rfl rfl hl.1 rfl (lv_room (Nat.le_of_ble_eq_true rfl)) dX3_readNamed_93 ⟨Nat.le_of_ble_eq_true rfl, Nat.le_of_ble_eq_true rfl⟩) hw hA (fun v_17  H locs hp_v_17 hw => ?_)
              have r_v_17 : RI v_17 (-2147483648) 2147483647 := hp_v_17.1
              refine tg_iast hx hb hK hw h_vu_16 rfl 0 7 r_v_1 (by decide) r_v_17 (by exact fun _ _ _ => by decide) (fun _ _ _ _ _ => trivial) (by decide) dX3_readNamed_96 (fun ws H locs hw hF9 hU9 => ?_)
              have x_FLT_p1 := FLTp.over hF9 x_FLT_p1 (by decide)
              have m_v_14 := FLD.over hF9 m_v_14 (by decide)
              subst hQ
              exact W.vret hx hb hr (fun t ht hW => ⟨⟨ws, rfl, ⟨trivial, hw.1, hw.2.2.2.2.1⟩, by rw [ht]; exact hw.2.1, va_K.moved hW.alike hK, hw.2.2.1⟩, hw.2.2.2.1.F ht⟩) hw.2.2.2.1.2.2 dX3_readNamed_97
            · have r_v_13 : RI v_13 0 5 := by unfold RI at r_v_13 ⊢; omega
              refine va_mmax hx hb (hml.trans hl.1.symm) hown (hts _ tw_512) (hts _ tw_489) (hts _ tw_16) (hts _ tw_490) (Nat.le_of_ble_eq_true rfl) (Nat.le_of_ble_eq_true rfl) (Nat.le_of_ble_eq_true rfl) (Nat.le_of_ble_eq_true rfl) dX3_readNamed_79 (lv_topi (fun v_18 e_v_18 => ?_))
              have r_v_18 : RI v_18 0 5 := by rw [e_v_18]; exact ri_max rl_0 r_v_13 (by decide)
              refine tg_iast hx hb hK hw h_vu_12 rfl 0 7 r_v_1 (by decide) r_v_18 (by exact fun _ _ _ => by decide) (fun _ _ _ _ _ => trivial) (by decide) dX3_readNamed_82 (fun ws H locs hw hF9 hU9 => ?_)
              refine lv_aload_n hx hb dX3_readNamed_83 rfl (lv_at hl 1 rfl) ?_
              refine tg_get (ci := 3) (ts := ty_POST) (C := RX3) (T := TX3) (N := 9) hx hb hts inX3 hown hK hw h_p0 rfl rfl 4 (by decide) (hts _ tw_210) (fun _ h9 => h9) (ft := vR 7) rfl dX3_readNamed_84 (fun u_19 hv_u_19 m_u_19 => ?_)
              obtain ⟨vu_19, rfl, h_vu_19⟩ := hv_u_19
              refine lv_iload hx hb dX3_readNamed_87 (lv_at hl 0 rfl) ?_
              refine lv_aload_n hx hb dX3_readNamed_89 rfl (lv_at hl 2 rfl) ?_
              refine lv_iconst (v := 1) hx hb dX3_readNamed_90 (by decide) ?_
              refine lv_bipush (v := 9) hx hb dX3_readNamed_91 (by decide) ?_
              refine tk_i (va_runV (As := [.int 1, .int 9]) (rest := [.int v_1, .ref vu_19]) ⟨hx, hb, hml, hown, hts⟩ (c_X7_takeNumber__1 l D cy z H.size Ps ws hw.1 p1 1 9 h_p1 (rl_1.to (by decide)) (rl_9.to (by decide))) (cwV 2 hts (gV tw_477 tw_478 tw_479 tw_2 tw_480) rfl rfl rfl (by decide +kernel) ⟨Nat.le_of_ble_eq_true rfl, Nat.le_of_ble_eq_true rfl⟩) (tg_preV hw hK hSD hA (ci := 7) (q := (RX7, TX7, 12)) rfl h_p1 rfl) rfl rfl hl.1 rfl (lv_room (Nat.le_of_ble_eq_true rfl)) dX3_readNamed_93 ⟨Nat.le_of_ble_eq_true rfl, Nat.le_of_ble_eq_true rfl⟩) hw hA ⟨by decide, by decide⟩ (fun v_20 ws H locs hp_v_20 hw hF9 => ?_)
              have r_v_20 : RI v_20 (-2147483648) 2147483647 := hp_v_20.1
              refine tg_iast hx hb hK hw h_vu_19 rfl 0 7 r_v_1 (by decide) r_v_20 (by exact fun _ _ _ => by decide) (fun _ _ _ _ _ => trivial) (by decide) dX3_readNamed_96 (fun ws H locs hw hF9 hU9 => ?_)
              subst hQ
              exact W.vret hx hb hr (fun t ht hW => ⟨⟨ws, rfl, ⟨trivial, hw.1, hw.2.2.2.2.1⟩, by rw [ht]; exact hw.2.1, va_K.moved hW.alike hK, hw.2.2.1⟩, hw.2.2.2.1.F ht⟩) hw.2.2.2.1.2.2 dX3_readNamed_97
        · have r_p3 : RI p3 3 2 := rc_eq1 r_p3 rl_2 (ti_eq c_38) (by decide)
          exact (r_p3.no (by decide)).elim
      · have r_p3 : RI p3 3 0 := rc_eq1 r_p3 rl_0 (ti_eq c_16) (by decide)
        exact (r_p3.no (by decide)).elim
    · have r_v_1 : RI v_1 (-1) (-1) := rc_eq1 r_v_1 rl_m1 (ti_eq c_11) (by decide)
      subst hQ
      exact W.vret hx hb hr (fun t ht hW => ⟨⟨ws, rfl, ⟨trivial, hw.1, hw.2.2.2.2.1⟩, by rw [ht]; exact hw.2.1, va_K.moved hW.alike hK, hw.2.2.1⟩, hw.2.2.2.1.F ht⟩) hw.2.2.2.1.2.2 dX3_readNamed_14
abbrev wr_X3_beginsLine__6 : List (Nat × Nat) := [(7, 5), (7, 6), (7, 7), (7, 8), (7, 9)]
abbrev wa_X3_beginsLine__6 : List Nat := []
set_option maxHeartbeats 4000000 in
set_option maxRecDepth 100000 in
theorem c_X3_beginsLine__6 (l : Launch) (D : va_G) (cy : Nat → ClassId) (z : Nat → Nat) (sz : Nat) (Ps : PSI) (w0 : va_W) (hT : HT cy GG Ps w0) (p0 : Nat) (p1 : Nat) (p2 : Int32) (f1_10 : Int32) (h_p0 : (p0, 25) ∈ Ps) (h_p1 : (p1, 26) ∈ Ps) (r_p2 : RI p2 132 132) (r_f1_10 : RI f1_10 0 0) (m_f1_10 : FLD w0 p1 7 10 (.int f1_10)) : Met l yX3_beginsLine (Cond.code yX3_beginsLine cX3_beginsLine 3 (some .boolean) :: gT) ({ frames := 3, cells := 0, slots := 0, locals := 600 } : Room) (va_Pc [.ref p0, .ref p1, .int p2] (PRE D cy z w0 sz)) (va_Qi (fun (r : Int32) (u : va_W) => (RI r 1 1 ∧ (r = 0 → True) ∧ (¬ r = 0 → (∃ v9 : Int32, FLD u p1 7 10 (.int v9) ∧ RI v9 0 0) ∧ True)) ∧ HT cy GG Ps u ∧ FR wr_X3_beginsLine__6 wa_X3_beginsLine__6 Ps w0 u) (BB D cy (va_A w0 sz) (fun (u : va_W) => u)) (va_A w0 sz)) 0 0 (va_A w0 sz) := by
  refine Met.ofW (cc := cX3_beginsLine) (maxL := 3) (ret := (some .boolean)) (by decide) rfl ?_
  intro p e s m args below meth c s₁ B hml hv
  obtain ⟨rfl, hsz, hP, hK, hD0, hSD⟩ := hv
  have hx := B.exec
  have hb := B.bytes
  have hr := B.returns
  have hlocks := B.notSynchronized
  have hts : ∀ w ∈ gT, w.before _ s = true := fun w h => atoms_spec (ws := Cond.code yX3_beginsLine cX3_beginsLine 3 (some .boolean) :: gT) B.pre w (List.mem_cons_of_mem _ h)
  have hown : s.vm.findClass RX3 = some m.cls := findClass_of_methodNamed B.named
  subst hsz
  have hD := hD0.self (sz := s.heap.size)
  generalize hAe : va_A w0 s.heap.size = A at hD hSD ⊢
  have hA : ∀ q : Nat, s.heap.size ≤ q → A q := fun q h => by rw [← hAe]; exact Or.inr h
  have hl := lv_entry ([.ref p0, .ref p1, .int p2]) (n := 3) (Nat.le_of_ble_eq_true rfl)
  rw [lg_entry_eq]
  generalize (lg_sl ([.ref p0, .ref p1, .int p2]) ++ List.replicate (3 - (lg_sl ([.ref p0, .ref p1, .int p2])).length) Slot.unset).toArray = ls at hl ⊢
  have hl : lv_has ls 3 [(0, .ref p0), (1, .ref p1), (2, .int p2)] := hl
  refine nameQ (fun Q hQ => ?_)
  have hw : WD D cy GG A s wr_X3_beginsLine__6 wa_X3_beginsLine__6 Ps w0 Ps w0 s.heap [] := ⟨hT, hP, hD, va_S.rf, FR.rf, hT.1, [], (List.append_nil _).symm⟩
  refine lv_iload_n hx hb dX3_beginsLine_0 rfl (lv_at hl 2 rfl) ?_
  refine lv_sipush (v := 128) hx hb dX3_beginsLine_1 (by decide) ?_
  refine lv_icmp_lt (tgt := 14) hx hb dX3_beginsLine_4 (by decide) (fun c_4 => ?_) (fun c_4 => ?_)
  · have r_p2 : RI p2 132 127 := rc_lt1 r_p2 rl_128 (ti_lt c_4) (by decide)
    exact (r_p2.no (by decide)).elim
  · refine lv_iload_n hx hb dX3_beginsLine_7 rfl (lv_at hl 2 rfl) ?_
    refine lv_sipush (v := 136) hx hb dX3_beginsLine_8 (by decide) ?_
    refine lv_icmp_le (tgt := 22) hx hb dX3_beginsLine_11 (by decide) (fun c_11 => ?_) (fun c_11 => ?_)
    · refine lv_iload_n hx hb dX3_beginsLine_22 rfl (lv_at hl 2 rfl) ?_
      refine lv_sipush (v := 131) hx hb dX3_beginsLine_23 (by decide) ?_
      refine lv_icmp_gt (tgt := 59) hx hb dX3_beginsLine_26 (by decide) (fun c_26 => ?_) (fun c_26 => ?_)
      · refine lv_iload_n hx hb dX3_beginsLine_59 rfl (lv_at hl 2 rfl) ?_
        refine lv_sipush (v := 135) hx hb dX3_beginsLine_60 (by decide) ?_
        refine lv_icmp_ne (tgt := 73) hx hb dX3_beginsLine_63 (by decide) (fun c_63 => ?_) (fun c_63 => ?_)
        · refine lv_iload_n hx hb dX3_beginsLine_73 rfl (lv_at hl 2 rfl) ?_
          refine lv_sipush (v := 136) hx hb dX3_beginsLine_74 (by decide) ?_
          refine lv_icmp_ne (tgt := 92) hx hb dX3_beginsLine_77 (by decide) (fun c_77 => ?_) (fun c_77 => ?_)
          · refine lv_aload_n hx hb dX3_beginsLine_92 rfl (lv_at hl 1 rfl) ?_
            refine tk_v (va_runV (As := []) (rest := []) ⟨hx, hb, hml, hown, hts⟩ (c_X7_pass__3 l D cy z s.heap.size Ps w0 hw.1 p1 f1_10 h_p1 r_f1_10 m_f1_10) (cwV 0 hts (gV tw_451 tw_425 tw_426 tw_2 tw_427) rfl rfl rfl (by decide +kernel) ⟨Nat.le_of_ble_eq_true rfl, Nat.le_of_ble_eq_true rfl⟩) (tg_preV hw hK hSD hA (ci := 7) (q := (RX7, TX7, 12)) rfl h_p1 rfl) rfl rfl hl.1 rfl (lv_room (Nat.le_of_ble_eq_true rfl)) dX3_beginsLine_93 ⟨Nat.le_of_ble_eq_true rfl, Nat.le_of_ble_eq_true rfl⟩) hw hA ⟨by decide, by decide⟩ (fun ws H locs hp_v_1 hw hF9 => ?_)
            have m_f1_10 := FLD.over hF9 m_f1_10 (by decide)
            obtain ⟨v_2, m_v_2, r_v_2⟩ := (hp_v_1.1)
            refine lv_aload_n hx hb dX3_beginsLine_96 rfl (lv_at hl 1 rfl) ?_
            refine tg_memN (ci := 7) (C := RX7) (T := TX7) (N := 12) hx hb hts inX7 hown hK hw 10 m_v_2 rfl (by decide) (hSD.nest tn_105) (fun _ h9 => h9) dX3_beginsLine_97 ?_
            refine lv_if_ne (tgt := 107) hx hb dX3_beginsLine_100 (by decide) (fun c_100 => ?_) (fun c_100 => ?_)
            · exact absurd (r_v_2.eq.trans rl_0.eq.symm) ((ti_ne c_100))
            · refine lv_iconst (v := 1) hx hb dX3_beginsLine_103 (by decide) ?_
              refine lv_goto (tgt := 108) hx hb dX3_beginsLine_104 (by decide) ?_
              subst hQ
              exact W.zret (v := 1) hx hb hr (rfl) (fun t ht hW => ⟨⟨1, ws, rfl, ⟨⟨rl_1.to (by decide), (fun _ => trivial), (fun h0 => ⟨⟨_, m_v_2, r_v_2⟩, trivial⟩)⟩, hw.1, hw.2.2.2.2.1⟩, by rw [ht]; exact hw.2.1, va_K.moved hW.alike hK, hw.2.2.1⟩, hw.2.2.2.1.F ht⟩) hw.2.2.2.1.2.2 dX3_beginsLine_108
          · have r_p2 : RI p2 136 132 := rc_eq1 r_p2 rl_136 (ti_eq c_77) (by decide)
            exact (r_p2.no (by decide)).elim
        · have r_p2 : RI p2 135 132 := rc_eq1 r_p2 rl_135 (ti_eq c_63) (by decide)
          exact (r_p2.no (by decide)).elim
      · have r_p2 : RI p2 132 131 := rc_le1 r_p2 rl_131 (ti_nlt c_26) (by decide)
        exact (r_p2.no (by decide)).elim
    · have r_p2 : RI p2 137 132 := rc_lt2 rl_136 r_p2 (ti_nle c_11) (by decide)
      exact (r_p2.no (by decide)).elim
abbrev wr_X3_beginsLine__7 : List (Nat × Nat) := [(7, 5), (7, 6), (7, 7), (7, 8), (7, 9)]
abbrev wa_X3_beginsLine__7 : List Nat := []
set_option maxHeartbeats 4000000 in
set_option maxRecDepth 100000 in
theorem c_X3_beginsLine__7 (l : Launch) (D : va_G) (cy : Nat → ClassId) (z : Nat → Nat) (sz : Nat) (Ps : PSI) (w0 : va_W) (hT : HT cy GG Ps w0) (p0 : Nat) (p1 : Nat) (p2 : Int32) (f1_10 : Int32) (h_p0 : (p0, 25) ∈ Ps) (h_p1 : (p1, 26) ∈ Ps) (r_p2 : RI p2 133 133) (r_f1_10 : RI f1_10 0 0) (m_f1_10 : FLD w0 p1 7 10 (.int f1_10)) : Met l yX3_beginsLine (Cond.code yX3_beginsLine cX3_beginsLine 3 (some .boolean) :: gT) ({ frames := 3, cells := 0, slots := 0, locals := 600 } : Room) (va_Pc [.ref p0, .ref p1, .int p2] (PRE D cy z w0 sz)) (va_Qi (fun (r : Int32) (u : va_W) => (RI r 1 1 ∧ (r = 0 → True) ∧ (¬ r = 0 → (∃ v9 : Int32, FLD u p1 7 10 (.int v9) ∧ RI v9 0 0) ∧ True)) ∧ HT cy GG Ps u ∧ FR wr_X3_beginsLine__7 wa_X3_beginsLine__7 Ps w0 u) (BB D cy (va_A w0 sz) (fun (u : va_W) => u)) (va_A w0 sz)) 0 0 (va_A w0 sz) := by
  refine Met.ofW (cc := cX3_beginsLine) (maxL := 3) (ret := (some .boolean)) (by decide) rfl ?_
  intro p e s m args below meth c s₁ B hml hv
  obtain ⟨rfl, hsz, hP, hK, hD0, hSD⟩ := hv
  have hx := B.exec
  have hb := B.bytes
  have hr := B.returns
  have hlocks := B.notSynchronized
  have hts : ∀ w ∈ gT, w.before _ s = true := fun w h => atoms_spec (ws := Cond.code yX3_beginsLine cX3_beginsLine 3 (some .boolean) :: gT) B.pre w (List.mem_cons_of_mem _ h)
  have hown : s.vm.findClass RX3 = some m.cls := findClass_of_methodNamed B.named
  subst hsz
  have hD := hD0.self (sz := s.heap.size)
  generalize hAe : va_A w0 s.heap.size = A at hD hSD ⊢
  have hA : ∀ q : Nat, s.heap.size ≤ q → A q := fun q h => by rw [← hAe]; exact Or.inr h
  have hl := lv_entry ([.ref p0, .ref p1, .int p2]) (n := 3) (Nat.le_of_ble_eq_true rfl)
  rw [lg_entry_eq]
  generalize (lg_sl ([.ref p0, .ref p1, .int p2]) ++ List.replicate (3 - (lg_sl ([.ref p0, .ref p1, .int p2])).length) Slot.unset).toArray = ls at hl ⊢
  have hl : lv_has ls 3 [(0, .ref p0), (1, .ref p1), (2, .int p2)] := hl
  refine nameQ (fun Q hQ => ?_)
  have hw : WD D cy GG A s wr_X3_beginsLine__7 wa_X3_beginsLine__7 Ps w0 Ps w0 s.heap [] := ⟨hT, hP, hD, va_S.rf, FR.rf, hT.1, [], (List.append_nil _).symm⟩
  refine lv_iload_n hx hb dX3_beginsLine_0 rfl (lv_at hl 2 rfl) ?_
  refine lv_sipush (v := 128) hx hb dX3_beginsLine_1 (by decide) ?_
  refine lv_icmp_lt (tgt := 14) hx hb dX3_beginsLine_4 (by decide) (fun c_4 => ?_) (fun c_4 => ?_)
  · have r_p2 : RI p2 133 127 := rc_lt1 r_p2 rl_128 (ti_lt c_4) (by decide)
    exact (r_p2.no (by decide)).elim
  · refine lv_iload_n hx hb dX3_beginsLine_7 rfl (lv_at hl 2 rfl) ?_
    refine lv_sipush (v := 136) hx hb dX3_beginsLine_8 (by decide) ?_
    refine lv_icmp_le (tgt := 22) hx hb dX3_beginsLine_11 (by decide) (fun c_11 => ?_) (fun c_11 => ?_)
    · refine lv_iload_n hx hb dX3_beginsLine_22 rfl (lv_at hl 2 rfl) ?_
      refine lv_sipush (v := 131) hx hb dX3_beginsLine_23 (by decide) ?_
      refine lv_icmp_gt (tgt := 59) hx hb dX3_beginsLine_26 (by decide) (fun c_26 => ?_) (fun c_26 => ?_)
      · refine lv_iload_n hx hb dX3_beginsLine_59 rfl (lv_at hl 2 rfl) ?_
        refine lv_sipush (v := 135) hx hb dX3_beginsLine_60 (by decide) ?_
        refine lv_icmp_ne (tgt := 73) hx hb dX3_beginsLine_63 (by decide) (fun c_63 => ?_) (fun c_63 => ?_)
        · refine lv_iload_n hx hb dX3_beginsLine_73 rfl (lv_at hl 2 rfl) ?_
          refine lv_sipush (v := 136) hx hb dX3_beginsLine_74 (by decide) ?_
          refine lv_icmp_ne (tgt := 92) hx hb dX3_beginsLine_77 (by decide) (fun c_77 => ?_) (fun c_77 => ?_)
          · refine lv_aload_n hx hb dX3_beginsLine_92 rfl (lv_at hl 1 rfl) ?_
            refine tk_v (va_runV (As := []) (rest := []) ⟨hx, hb, hml, hown, hts⟩ (c_X7_pass__3 l D cy z s.heap.size Ps w0 hw.1 p1 f1_10 h_p1 r_f1_10 m_f1_10) (cwV 0 hts (gV tw_451 tw_425 tw_426 tw_2 tw_427) rfl rfl rfl (by decide +kernel) ⟨Nat.le_of_ble_eq_true rfl, Nat.le_of_ble_eq_true rfl⟩) (tg_preV hw hK hSD hA (ci := 7) (q := (RX7, TX7, 12)) rfl h_p1 rfl) rfl rfl hl.1 rfl (lv_room (Nat.le_of_ble_eq_true rfl)) dX3_beginsLine_93 ⟨Nat.le_of_ble_eq_true rfl, Nat.le_of_ble_eq_true rfl⟩) hw hA ⟨by decide, by decide⟩ (fun ws H locs hp_v_1 hw hF9 => ?_)
            have m_f1_10 := FLD.over hF9 m_f1_10 (by decide)
            obtain ⟨v_2, m_v_2, r_v_2⟩ := (hp_v_1.1)
            refine lv_aload_n hx hb dX3_beginsLine_96 rfl (lv_at hl 1 rfl) ?_
            refine tg_memN (ci := 7) (C := RX7) (T := TX7) (N := 12) hx hb hts inX7 hown hK hw 10 m_v_2 rfl (by decide) (hSD.nest tn_105) (fun _ h9 => h9) dX3_beginsLine_97 ?_
            refine lv_if_ne (tgt := 107) hx hb dX3_beginsLine_100 (by decide) (fun c_100 => ?_) (fun c_100 => ?_)
            · exact absurd (r_v_2.eq.trans rl_0.eq.symm) ((ti_ne c_100))
            · refine lv_iconst (v := 1) hx hb dX3_beginsLine_103 (by decide) ?_
              refine lv_goto (tgt := 108) hx hb dX3_beginsLine_104 (by decide) ?_
              subst hQ
              exact W.zret (v := 1) hx hb hr (rfl) (fun t ht hW => ⟨⟨1, ws, rfl, ⟨⟨rl_1.to (by decide), (fun _ => trivial), (fun h0 => ⟨⟨_, m_v_2, r_v_2⟩, trivial⟩)⟩, hw.1, hw.2.2.2.2.1⟩, by rw [ht]; exact hw.2.1, va_K.moved hW.alike hK, hw.2.2.1⟩, hw.2.2.2.1.F ht⟩) hw.2.2.2.1.2.2 dX3_beginsLine_108
          · have r_p2 : RI p2 136 133 := rc_eq1 r_p2 rl_136 (ti_eq c_77) (by decide)
            exact (r_p2.no (by decide)).elim
        · have r_p2 : RI p2 135 133 := rc_eq1 r_p2 rl_135 (ti_eq c_63) (by decide)
          exact (r_p2.no (by decide)).elim
      · have r_p2 : RI p2 133 131 := rc_le1 r_p2 rl_131 (ti_nlt c_26) (by decide)
        exact (r_p2.no (by decide)).elim
    · have r_p2 : RI p2 137 133 := rc_lt2 rl_136 r_p2 (ti_nle c_11) (by decide)
      exact (r_p2.no (by decide)).elim
abbrev wr_X3_beginsLine__8 : List (Nat × Nat) := [(7, 5), (7, 6), (7, 7), (7, 8), (7, 9)]
abbrev wa_X3_beginsLine__8 : List Nat := []
set_option maxHeartbeats 4000000 in
set_option maxRecDepth 100000 in
theorem c_X3_beginsLine__8 (l : Launch) (D : va_G) (cy : Nat → ClassId) (z : Nat → Nat) (sz : Nat) (Ps : PSI) (w0 : va_W) (hT : HT cy GG Ps w0) (p0 : Nat) (p1 : Nat) (p2 : Int32) (f1_10 : Int32) (h_p0 : (p0, 25) ∈ Ps) (h_p1 : (p1, 26) ∈ Ps) (r_p2 : RI p2 134 134) (r_f1_10 : RI f1_10 0 0) (m_f1_10 : FLD w0 p1 7 10 (.int f1_10)) : Met l yX3_beginsLine (Cond.code yX3_beginsLine cX3_beginsLine 3 (some .boolean) :: gT) ({ frames := 3, cells := 0, slots := 0, locals := 600 } : Room) (va_Pc [.ref p0, .ref p1, .int p2] (PRE D cy z w0 sz)) (va_Qi (fun (r : Int32) (u : va_W) => (RI r 1 1 ∧ (r = 0 → True) ∧ (¬ r = 0 → (∃ v9 : Int32, FLD u p1 7 10 (.int v9) ∧ RI v9 0 0) ∧ True)) ∧ HT cy GG Ps u ∧ FR wr_X3_beginsLine__8 wa_X3_beginsLine__8 Ps w0 u) (BB D cy (va_A w0 sz) (fun (u : va_W) => u)) (va_A w0 sz)) 0 0 (va_A w0 sz) := by
  refine Met.ofW (cc := cX3_beginsLine) (maxL := 3) (ret := (some .boolean)) (by decide) rfl ?_
  intro p e s m args below meth c s₁ B hml hv
  obtain ⟨rfl, hsz, hP, hK, hD0, hSD⟩ := hv
  have hx := B.exec
  have hb := B.bytes
  have hr := B.returns
  have hlocks := B.notSynchronized
  have hts : ∀ w ∈ gT, w.before _ s = true := fun w h => atoms_spec (ws := Cond.code yX3_beginsLine cX3_beginsLine 3 (some .boolean) :: gT) B.pre w (List.mem_cons_of_mem _ h)
  have hown : s.vm.findClass RX3 = some m.cls := findClass_of_methodNamed B.named
  subst hsz
  have hD := hD0.self (sz := s.heap.size)
  generalize hAe : va_A w0 s.heap.size = A at hD hSD ⊢
  have hA : ∀ q : Nat, s.heap.size ≤ q → A q := fun q h => by rw [← hAe]; exact Or.inr h
  have hl := lv_entry ([.ref p0, .ref p1, .int p2]) (n := 3) (Nat.le_of_ble_eq_true rfl)
  rw [lg_entry_eq]
  generalize (lg_sl ([.ref p0, .ref p1, .int p2]) ++ List.replicate (3 - (lg_sl ([.ref p0, .ref p1, .int p2])).length) Slot.unset).toArray = ls at hl ⊢
  have hl : lv_has ls 3 [(0, .ref p0), (1, .ref p1), (2, .int p2)] := hl
  refine nameQ (fun Q hQ => ?_)
  have hw : WD D cy GG A s wr_X3_beginsLine__8 wa_X3_beginsLine__8 Ps w0 Ps w0 s.heap [] := ⟨hT, hP, hD, va_S.rf, FR.rf, hT.1, [], (List.append_nil _).symm⟩
  refine lv_iload_n hx hb dX3_beginsLine_0 rfl (lv_at hl 2 rfl) ?_
  refine lv_sipush (v := 128) hx hb dX3_beginsLine_1 (by decide) ?_
  refine lv_icmp_lt (tgt := 14) hx hb dX3_beginsLine_4 (by decide) (fun c_4 => ?_) (fun c_4 => ?_)
  · have r_p2 : RI p2 134 127 := rc_lt1 r_p2 rl_128 (ti_lt c_4) (by decide)
    exact (r_p2.no (by decide)).elim
  · refine lv_iload_n hx hb dX3_beginsLine_7 rfl (lv_at hl 2 rfl) ?_
    refine lv_sipush (v := 136) hx hb dX3_beginsLine_8 (by decide) ?_
    refine lv_icmp_le (tgt := 22) hx hb dX3_beginsLine_11 (by decide) (fun c_11 => ?_) (fun c_11 => ?_)
    · refine lv_iload_n hx hb dX3_beginsLine_22 rfl (lv_at hl 2 rfl) ?_
      refine lv_sipush (v := 131) hx hb dX3_beginsLine_23 (by decide) ?_
      refine lv_icmp_gt (tgt := 59) hx hb dX3_beginsLine_26 (by decide) (fun c_26 => ?_) (fun c_26 => ?_)
      · refine lv_iload_n hx hb dX3_beginsLine_59 rfl (lv_at hl 2 rfl) ?_
        refine lv_sipush (v := 135) hx hb dX3_beginsLine_60 (by decide) ?_
        refine lv_icmp_ne (tgt := 73) hx hb dX3_beginsLine_63 (by decide) (fun c_63 => ?_) (fun c_63 => ?_)
        · refine lv_iload_n hx hb dX3_beginsLine_73 rfl (lv_at hl 2 rfl) ?_
          refine lv_sipush (v := 136) hx hb dX3_beginsLine_74 (by decide) ?_
          refine lv_icmp_ne (tgt := 92) hx hb dX3_beginsLine_77 (by decide) (fun c_77 => ?_) (fun c_77 => ?_)
          · refine lv_aload_n hx hb dX3_beginsLine_92 rfl (lv_at hl 1 rfl) ?_
            refine tk_v (va_runV (As := []) (rest := []) ⟨hx, hb, hml, hown, hts⟩ (c_X7_pass__3 l D cy z s.heap.size Ps w0 hw.1 p1 f1_10 h_p1 r_f1_10 m_f1_10) (cwV 0 hts (gV tw_451 tw_425 tw_426 tw_2 tw_427) rfl rfl rfl (by decide +kernel) ⟨Nat.le_of_ble_eq_true rfl, Nat.le_of_ble_eq_true rfl⟩) (tg_preV hw hK hSD hA (ci := 7) (q := (RX7, TX7, 12)) rfl h_p1 rfl) rfl rfl hl.1 rfl (lv_room (Nat.le_of_ble_eq_true rfl)) dX3_beginsLine_93 ⟨Nat.le_of_ble_eq_true rfl, Nat.le_of_ble_eq_true rfl⟩) hw hA ⟨by decide, by decide⟩ (fun ws H locs hp_v_1 hw hF9 => ?_)
            have m_f1_10 := FLD.over hF9 m_f1_10 (by decide)
            obtain ⟨v_2, m_v_2, r_v_2⟩ := (hp_v_1.1)
            refine lv_aload_n hx hb dX3_beginsLine_96 rfl (lv_at hl 1 rfl) ?_
            refine tg_memN (ci := 7) (C := RX7) (T := TX7) (N := 12) hx hb hts inX7 hown hK hw 10 m_v_2 rfl (by decide) (hSD.nest tn_105) (fun _ h9 => h9) dX3_beginsLine_97 ?_
            refine lv_if_ne (tgt := 107) hx hb dX3_beginsLine_100 (by decide) (fun c_100 => ?_) (fun c_100 => ?_)
            · exact absurd (r_v_2.eq.trans rl_0.eq.symm) ((ti_ne c_100))
            · refine lv_iconst (v := 1) hx hb dX3_beginsLine_103 (by decide) ?_
              refine lv_goto (tgt := 108) hx hb dX3_beginsLine_104 (by decide) ?_
              subst hQ
              exact W.zret (v := 1) hx hb hr (rfl) (fun t ht hW => ⟨⟨1, ws, rfl, ⟨⟨rl_1.to (by decide), (fun _ => trivial), (fun h0 => ⟨⟨_, m_v_2, r_v_2⟩, trivial⟩)⟩, hw.1, hw.2.2.2.2.1⟩, by rw [ht]; exact hw.2.1, va_K.moved hW.alike hK, hw.2.2.1⟩, hw.2.2.2.1.F ht⟩) hw.2.2.2.1.2.2 dX3_beginsLine_108
          · have r_p2 : RI p2 136 134 := rc_eq1 r_p2 rl_136 (ti_eq c_77) (by decide)
            exact (r_p2.no (by decide)).elim
        · have r_p2 : RI p2 135 134 := rc_eq1 r_p2 rl_135 (ti_eq c_63) (by decide)
          exact (r_p2.no (by decide)).elim
      · have r_p2 : RI p2 134 131 := rc_le1 r_p2 rl_131 (ti_nlt c_26) (by decide)
        exact (r_p2.no (by decide)).elim
    · have r_p2 : RI p2 137 134 := rc_lt2 rl_136 r_p2 (ti_nle c_11) (by decide)
      exact (r_p2.no (by decide)).elim
abbrev wr_X3_beginsLine__9 : List (Nat × Nat) := [(7, 5), (7, 6), (7, 7), (7, 8), (7, 9), (7, 10), (7, 11)]
abbrev wa_X3_beginsLine__9 : List Nat := []
set_option maxHeartbeats 4000000 in
set_option maxRecDepth 100000 in
theorem c_X3_beginsLine__9 (l : Launch) (D : va_G) (cy : Nat → ClassId) (z : Nat → Nat) (sz : Nat) (Ps : PSI) (w0 : va_W) (hT : HT cy GG Ps w0) (p0 : Nat) (p1 : Nat) (p2 : Int32) (f1_10 : Int32) (h_p0 : (p0, 25) ∈ Ps) (h_p1 : (p1, 26) ∈ Ps) (r_p2 : RI p2 135 135) (r_f1_10 : RI f1_10 0 0) (m_f1_10 : FLD w0 p1 7 10 (.int f1_10)) : Met l yX3_beginsLine (Cond.code yX3_beginsLine cX3_beginsLine 3 (some .boolean) :: gT) ({ frames := 3, cells := 0, slots := 0, locals := 600 } : Room) (va_Pc [.ref p0, .ref p1, .int p2] (PRE D cy z w0 sz)) (va_Qi (fun (r : Int32) (u : va_W) => (RI r 0 1 ∧ (r = 0 → (∃ v9 : Int32, FLD u p1 7 10 (.int v9) ∧ RI v9 1 4) ∧ True) ∧ (¬ r = 0 → (∃ v9 : Int32, FLD u p1 7 10 (.int v9) ∧ RI v9 0 0) ∧ True)) ∧ HT cy GG Ps u ∧ FR wr_X3_beginsLine__9 wa_X3_beginsLine__9 Ps w0 u) (BB D cy (va_A w0 sz) (fun (u : va_W) => u)) (va_A w0 sz)) 0 0 (va_A w0 sz) := by
  refine Met.ofW (cc := cX3_beginsLine) (maxL := 3) (ret := (some .boolean)) (by decide) rfl ?_
  intro p e s m args below meth c s₁ B hml hv
  obtain ⟨rfl, hsz, hP, hK, hD0, hSD⟩ := hv
  have hx := B.exec
  have hb := B.bytes
  have hr := B.returns
  have hlocks := B.notSynchronized
  have hts : ∀ w ∈ gT, w.before _ s = true := fun w h => atoms_spec (ws := Cond.code yX3_beginsLine cX3_beginsLine 3 (some .boolean) :: gT) B.pre w (List.mem_cons_of_mem _ h)
  have hown : s.vm.findClass RX3 = some m.cls := findClass_of_methodNamed B.named
  subst hsz
  have hD := hD0.self (sz := s.heap.size)
  generalize hAe : va_A w0 s.heap.size = A at hD hSD ⊢
  have hA : ∀ q : Nat, s.heap.size ≤ q → A q := fun q h => by rw [← hAe]; exact Or.inr h
  have hl := lv_entry ([.ref p0, .ref p1, .int p2]) (n := 3) (Nat.le_of_ble_eq_true rfl)
  rw [lg_entry_eq]
  generalize (lg_sl ([.ref p0, .ref p1, .int p2]) ++ List.replicate (3 - (lg_sl ([.ref p0, .ref p1, .int p2])).length) Slot.unset).toArray = ls at hl ⊢
  have hl : lv_has ls 3 [(0, .ref p0), (1, .ref p1), (2, .int p2)] := hl
  refine nameQ (fun Q hQ => ?_)
  have hw : WD D cy GG A s wr_X3_beginsLine__9 wa_X3_beginsLine__9 Ps w0 Ps w0 s.heap [] := ⟨hT, hP, hD, va_S.rf, FR.rf, hT.1, [], (List.append_nil _).symm⟩
  refine lv_iload_n hx hb dX3_beginsLine_0 rfl (lv_at hl 2 rfl) ?_
  refine lv_sipush (v := 128) hx hb dX3_beginsLine_1 (by decide) ?_
  refine lv_icmp_lt (tgt := 14) hx hb dX3_beginsLine_4 (by decide) (fun c_4 => ?_) (fun c_4 => ?_)
  · have r_p2 : RI p2 135 127 := rc_lt1 r_p2 rl_128 (ti_lt c_4) (by decide)
    exact (r_p2.no (by decide)).elim
  · refine lv_iload_n hx hb dX3_beginsLine_7 rfl (lv_at hl 2 rfl) ?_
    refine lv_sipush (v := 136) hx hb dX3_beginsLine_8 (by decide) ?_
    refine lv_icmp_le (tgt := 22) hx hb dX3_beginsLine_11 (by decide) (fun c_11 => ?_) (fun c_11 => ?_)
    · refine lv_iload_n hx hb dX3_beginsLine_22 rfl (lv_at hl 2 rfl) ?_
      refine lv_sipush (v := 131) hx hb dX3_beginsLine_23 (by decide) ?_
      refine lv_icmp_gt (tgt := 59) hx hb dX3_beginsLine_26 (by decide) (fun c_26 => ?_) (fun c_26 => ?_)
      · refine lv_iload_n hx hb dX3_beginsLine_59 rfl (lv_at hl 2 rfl) ?_
        refine lv_sipush (v := 135) hx hb dX3_beginsLine_60 (by decide) ?_
        refine lv_icmp_ne (tgt := 73) hx hb dX3_beginsLine_63 (by decide) (fun c_63 => ?_) (fun c_63 => ?_)
        · exact absurd (r_p2.eq.trans rl_135.eq.symm) ((ti_ne c_63))
        · refine lv_aload_n hx hb dX3_beginsLine_66 rfl (lv_at hl 0 rfl) ?_
          refine tg_get (ci := 3) (ts := ty_POST) (C := RX3) (T := TX3) (N := 9) hx hb hts inX3 hown hK hw h_p0 rfl rfl 7 (by decide) (hts _ tw_219) (fun _ h9 => h9) (ft := vI 0 1) rfl dX3_beginsLine_67 (fun u_1 hv_u_1 m_u_1 => ?_)
          obtain ⟨vu_1, rfl, r_vu_1⟩ := hv_u_1
          refine lv_if_ne (tgt := 87) hx hb dX3_beginsLine_70 (by decide) (fun c_70 => ?_) (fun c_70 => ?_)
          · have r_vu_1 : RI vu_1 1 1 := rc_neL r_vu_1 rl_0 (ti_ne c_70) (by decide)
            refine lv_aload_n hx hb dX3_beginsLine_87 rfl (lv_at hl 1 rfl) ?_
            refine lv_iconst (v := 3) hx hb dX3_beginsLine_88 (by decide) ?_
            refine tk_v (va_runV (As := [.int 3]) (rest := []) ⟨hx, hb, hml, hown, hts⟩ (c_X7_refuse__3 l D cy z s.heap.size Ps w0 hw.1 p1 3 f1_10 h_p1 (rl_3.to (by decide)) r_f1_10 m_f1_10) (cwV 1 hts (gV tw_450 tw_443 tw_444 tw_2 tw_445) rfl rfl rfl (by decide +kernel) ⟨Nat.le_of_ble_eq_true rfl, Nat.le_of_ble_eq_true rfl⟩) (tg_preV hw hK hSD hA (ci := 7) (q := (RX7, TX7, 12)) rfl h_p1 rfl) rfl rfl hl.1 rfl (lv_room (Nat.le_of_ble_eq_true rfl)) dX3_beginsLine_89 ⟨Nat.le_of_ble_eq_true rfl, Nat.le_of_ble_eq_true rfl⟩) hw hA ⟨by decide, by decide⟩ (fun ws H locs hp_v_2 hw hF9 => ?_)
            have m_u_1 := FLD.over hF9 m_u_1 (by decide)
            obtain ⟨v_3, m_v_3, r_v_3⟩ := (hp_v_2.1)
            refine lv_aload_n hx hb dX3_beginsLine_92 rfl (lv_at hl 1 rfl) ?_
            refine tk_vr (va_runV (As := []) (rest := []) ⟨hx, hb, hml, hown, hts⟩ (c_X7_pass__1 l D cy z H.size Ps ws hw.1 p1 v_3 h_p1 r_v_3 m_v_3) (cwV 0 hts (gV tw_451 tw_425 tw_426 tw_2 tw_427) rfl rfl rfl (by decide +kernel) ⟨Nat.le_of_ble_eq_true rfl, Nat.le_of_ble_eq_true rfl⟩) (tg_preV hw hK hSD hA (ci := 7) (q := (RX7, TX7, 12)) rfl h_p1 rfl) rfl rfl hl.1 rfl (lv_room (Nat.le_of_ble_eq_true rfl)) dX3_beginsLine_93 ⟨Nat.le_of_ble_eq_true rfl, Nat.le_of_ble_eq_true rfl⟩) hw hA (fun  H locs hp_v_4 hw => ?_)
            refine lv_aload_n hx hb dX3_beginsLine_96 rfl (lv_at hl 1 rfl) ?_
            refine tg_memN (ci := 7) (C := RX7) (T := TX7) (N := 12) hx hb hts inX7 hown hK hw 10 m_v_3 rfl (by decide) (hSD.nest tn_105) (fun _ h9 => h9) dX3_beginsLine_97 ?_
            refine lv_if_ne (tgt := 107) hx hb dX3_beginsLine_100 (by decide) (fun c_100 => ?_) (fun c_100 => ?_)
            · refine lv_iconst (v := 0) hx hb dX3_beginsLine_107 (by decide) ?_
              subst hQ
              exact W.zret (v := 0) hx hb hr (rfl) (fun t ht hW => ⟨⟨0, ws, rfl, ⟨⟨rl_0.to (by decide), (fun h0 => ⟨⟨_, m_v_3, r_v_3⟩, trivial⟩), (fun h0 => absurd rfl h0)⟩, hw.1, hw.2.2.2.2.1⟩, by rw [ht]; exact hw.2.1, va_K.moved hW.alike hK, hw.2.2.1⟩, hw.2.2.2.1.F ht⟩) hw.2.2.2.1.2.2 dX3_beginsLine_108
            · have r_v_3 : RI v_3 1 0 := rc_eq1 r_v_3 rl_0 (ti_eq c_100) (by decide)
              exact (r_v_3.no (by decide)).elim
          · have r_vu_1 : RI vu_1 0 0 := rc_eq1 r_vu_1 rl_0 (ti_eq c_70) (by decide)
            refine lv_iload_n hx hb dX3_beginsLine_73 rfl (lv_at hl 2 rfl) ?_
            refine lv_sipush (v := 136) hx hb dX3_beginsLine_74 (by decide) ?_
            refine lv_icmp_ne (tgt := 92) hx hb dX3_beginsLine_77 (by decide) (fun c_77 => ?_) (fun c_77 => ?_)
            · refine lv_aload_n hx hb dX3_beginsLine_92 rfl (lv_at hl 1 rfl) ?_
              refine tk_v (va_runV (As := []) (rest := []) ⟨hx, hb, hml, hown, hts⟩ (c_X7_pass__3 l D cy z s.heap.size Ps w0 hw.1 p1 f1_10 h_p1 r_f1_10 m_f1_10) (cwV 0 hts (gV tw_451 tw_425 tw_426 tw_2 tw_427) rfl rfl rfl (by decide +kernel) ⟨Nat.le_of_ble_eq_true rfl, Nat.le_of_ble_eq_true rfl⟩) (tg_preV hw hK hSD hA (ci := 7) (q := (RX7, TX7, 12)) rfl h_p1 rfl) rfl rfl hl.1 rfl (lv_room (Nat.le_of_ble_eq_true rfl)) dX3_beginsLine_93 ⟨Nat.le_of_ble_eq_true rfl, Nat.le_of_ble_eq_true rfl⟩) hw hA ⟨by decide, by decide⟩ (fun ws H locs hp_v_5 hw hF9 => ?_)
              have m_f1_10 := FLD.over hF9 m_f1_10 (by decide)
              have m_u_1 := FLD.over hF9 m_u_1 (by decide)
              obtain ⟨v_6, m_v_6, r_v_6⟩ := (hp_v_5.1)
              refine lv_aload_n hx hb dX3_beginsLine_96 rfl (lv_at hl 1 rfl) ?_
              refine tg_memN (ci := 7) (C := RX7) (T := TX7) (N := 12) hx hb hts inX7 hown hK hw 10 m_v_6 rfl (by decide) (hSD.nest tn_105) (fun _ h9 => h9) dX3_beginsLine_97 ?_
              refine lv_if_ne (tgt := 107) hx hb dX3_beginsLine_100 (by decide) (fun c_100 => ?_) (fun c_100 => ?_)
              · exact absurd (r_v_6.eq.trans rl_0.eq.symm) ((ti_ne c_100))
              · refine lv_iconst (v := 1) hx hb dX3_beginsLine_103 (by decide) ?_
                refine lv_goto (tgt := 108) hx hb dX3_beginsLine_104 (by decide) ?_
                subst hQ
                exact W.zret (v := 1) hx hb hr (rfl) (fun t ht hW => ⟨⟨1, ws, rfl, ⟨⟨rl_1.to (by decide), (fun h0 => absurd h0 (by decide)), (fun h0 => ⟨⟨_, m_v_6, r_v_6⟩, trivial⟩)⟩, hw.1, hw.2.2.2.2.1⟩, by rw [ht]; exact hw.2.1, va_K.moved hW.alike hK, hw.2.2.1⟩, hw.2.2.2.1.F ht⟩) hw.2.2.2.1.2.2 dX3_beginsLine_108
            · have r_p2 : RI p2 136 135 := rc_eq1 r_p2 rl_136 (ti_eq c_77) (by decide)
              exact (r_p2.no (by decide)).elim
      · have r_p2 : RI p2 135 131 := rc_le1 r_p2 rl_131 (ti_nlt c_26) (by decide)
        exact (r_p2.no (by decide)).elim
    · have r_p2 : RI p2 137 135 := rc_lt2 rl_136 r_p2 (ti_nle c_11) (by decide)
      exact (r_p2.no (by decide)).elim
abbrev wr_X3_beginsLine__10 : List (Nat × Nat) := [(7, 5), (7, 6), (7, 7), (7, 8), (7, 9), (7, 10), (7, 11)]
abbrev wa_X3_beginsLine__10 : List Nat := []
set_option maxHeartbeats 4000000 in
set_option maxRecDepth 100000 in
theorem c_X3_beginsLine__10 (l : Launch) (D : va_G) (cy : Nat → ClassId) (z : Nat → Nat) (sz : Nat) (Ps : PSI) (w0 : va_W) (hT : HT cy GG Ps w0) (p0 : Nat) (p1 : Nat) (p2 : Int32) (f1_10 : Int32) (h_p0 : (p0, 25) ∈ Ps) (h_p1 : (p1, 26) ∈ Ps) (r_p2 : RI p2 136 136) (r_f1_10 : RI f1_10 0 0) (m_f1_10 : FLD w0 p1 7 10 (.int f1_10)) : Met l yX3_beginsLine (Cond.code yX3_beginsLine cX3_beginsLine 3 (some .boolean) :: gT) ({ frames := 3, cells := 0, slots := 0, locals := 600 } : Room) (va_Pc [.ref p0, .ref p1, .int p2] (PRE D cy z w0 sz)) (va_Qi (fun (r : Int32) (u : va_W) => (RI r 0 1 ∧ (r = 0 → (∃ v9 : Int32, FLD u p1 7 10 (.int v9) ∧ RI v9 1 4) ∧ True) ∧ (¬ r = 0 → (∃ v9 : Int32, FLD u p1 7 10 (.int v9) ∧ RI v9 0 0) ∧ True)) ∧ HT cy GG Ps u ∧ FR wr_X3_beginsLine__10 wa_X3_beginsLine__10 Ps w0 u) (BB D cy (va_A w0 sz) (fun (u : va_W) => u)) (va_A w0 sz)) 0 0 (va_A w0 sz) := by
  refine Met.ofW (cc := cX3_beginsLine) (maxL := 3) (ret := (some .boolean)) (by decide) rfl ?_
  intro p e s m args below meth c s₁ B hml hv
  obtain ⟨rfl, hsz, hP, hK, hD0, hSD⟩ := hv
  have hx := B.exec
  have hb := B.bytes
  have hr := B.returns
  have hlocks := B.notSynchronized
  have hts : ∀ w ∈ gT, w.before _ s = true := fun w h => atoms_spec (ws := Cond.code yX3_beginsLine cX3_beginsLine 3 (some .boolean) :: gT) B.pre w (List.mem_cons_of_mem _ h)
  have hown : s.vm.findClass RX3 = some m.cls := findClass_of_methodNamed B.named
  subst hsz
  have hD := hD0.self (sz := s.heap.size)
  generalize hAe : va_A w0 s.heap.size = A at hD hSD ⊢
  have hA : ∀ q : Nat, s.heap.size ≤ q → A q := fun q h => by rw [← hAe]; exact Or.inr h
  have hl := lv_entry ([.ref p0, .ref p1, .int p2]) (n := 3) (Nat.le_of_ble_eq_true rfl)
  rw [lg_entry_eq]
  generalize (lg_sl ([.ref p0, .ref p1, .int p2]) ++ List.replicate (3 - (lg_sl ([.ref p0, .ref p1, .int p2])).length) Slot.unset).toArray = ls at hl ⊢
  have hl : lv_has ls 3 [(0, .ref p0), (1, .ref p1), (2, .int p2)] := hl
  refine nameQ (fun Q hQ => ?_)
  have hw : WD D cy GG A s wr_X3_beginsLine__10 wa_X3_beginsLine__10 Ps w0 Ps w0 s.heap [] := ⟨hT, hP, hD, va_S.rf, FR.rf, hT.1, [], (List.append_nil _).symm⟩
  refine lv_iload_n hx hb dX3_beginsLine_0 rfl (lv_at hl 2 rfl) ?_
  refine lv_sipush (v := 128) hx hb dX3_beginsLine_1 (by decide) ?_
  refine lv_icmp_lt (tgt := 14) hx hb dX3_beginsLine_4 (by decide) (fun c_4 => ?_) (fun c_4 => ?_)
  · have r_p2 : RI p2 136 127 := rc_lt1 r_p2 rl_128 (ti_lt c_4) (by decide)
    exact (r_p2.no (by decide)).elim
  · refine lv_iload_n hx hb dX3_beginsLine_7 rfl (lv_at hl 2 rfl) ?_
    refine lv_sipush (v := 136) hx hb dX3_beginsLine_8 (by decide) ?_
    refine lv_icmp_le (tgt := 22) hx hb dX3_beginsLine_11 (by decide) (fun c_11 => ?_) (fun c_11 => ?_)
    · refine lv_iload_n hx hb dX3_beginsLine_22 rfl (lv_at hl 2 rfl) ?_
      refine lv_sipush (v := 131) hx hb dX3_beginsLine_23 (by decide) ?_
      refine lv_icmp_gt (tgt := 59) hx hb dX3_beginsLine_26 (by decide) (fun c_26 => ?_) (fun c_26 => ?_)
      · refine lv_iload_n hx hb dX3_beginsLine_59 rfl (lv_at hl 2 rfl) ?_
        refine lv_sipush (v := 135) hx hb dX3_beginsLine_60 (by decide) ?_
        refine lv_icmp_ne (tgt := 73) hx hb dX3_beginsLine_63 (by decide) (fun c_63 => ?_) (fun c_63 => ?_)
        · refine lv_iload_n hx hb dX3_beginsLine_73 rfl (lv_at hl 2 rfl) ?_
          refine lv_sipush (v := 136) hx hb dX3_beginsLine_74 (by decide) ?_
          refine lv_icmp_ne (tgt := 92) hx hb dX3_beginsLine_77 (by decide) (fun c_77 => ?_) (fun c_77 => ?_)
          · exact absurd (r_p2.eq.trans rl_136.eq.symm) ((ti_ne c_77))
          · refine lv_aload_n hx hb dX3_beginsLine_80 rfl (lv_at hl 0 rfl) ?_
            refine tg_get (ci := 3) (ts := ty_POST) (C := RX3) (T := TX3) (N := 9) hx hb hts inX3 hown hK hw h_p0 rfl rfl 8 (by decide) (hts _ tw_220) (fun _ h9 => h9) (ft := vI 0 1) rfl dX3_beginsLine_81 (fun u_1 hv_u_1 m_u_1 => ?_)
            obtain ⟨vu_1, rfl, r_vu_1⟩ := hv_u_1
            refine lv_if_eq (tgt := 92) hx hb dX3_beginsLine_84 (by decide) (fun c_84 => ?_) (fun c_84 => ?_)
            · have r_vu_1 : RI vu_1 0 0 := rc_eq1 r_vu_1 rl_0 (ti_eq c_84) (by decide)
              refine lv_aload_n hx hb dX3_beginsLine_92 rfl (lv_at hl 1 rfl) ?_
              refine tk_v (va_runV (As := []) (rest := []) ⟨hx, hb, hml, hown, hts⟩ (c_X7_pass__3 l D cy z s.heap.size Ps w0 hw.1 p1 f1_10 h_p1 r_f1_10 m_f1_10) (cwV 0 hts (gV tw_451 tw_425 tw_426 tw_2 tw_427) rfl rfl rfl (by decide +kernel) ⟨Nat.le_of_ble_eq_true rfl, Nat.le_of_ble_eq_true rfl⟩) (tg_preV hw hK hSD hA (ci := 7) (q := (RX7, TX7, 12)) rfl h_p1 rfl) rfl rfl hl.1 rfl (lv_room (Nat.le_of_ble_eq_true rfl)) dX3_beginsLine_93 ⟨Nat.le_of_ble_eq_true rfl, Nat.le_of_ble_eq_true rfl⟩) hw hA ⟨by decide, by decide⟩ (fun ws H locs hp_v_2 hw hF9 => ?_)
              have m_f1_10 := FLD.over hF9 m_f1_10 (by decide)
              have m_u_1 := FLD.over hF9 m_u_1 (by decide)
              obtain ⟨v_3, m_v_3, r_v_3⟩ := (hp_v_2.1)
              refine lv_aload_n hx hb dX3_beginsLine_96 rfl (lv_at hl 1 rfl) ?_
              refine tg_memN (ci := 7) (C := RX7) (T := TX7) (N := 12) hx hb hts inX7 hown hK hw 10 m_v_3 rfl (by decide) (hSD.nest tn_105) (fun _ h9 => h9) dX3_beginsLine_97 ?_
              refine lv_if_ne (tgt := 107) hx hb dX3_beginsLine_100 (by decide) (fun c_100 => ?_) (fun c_100 => ?_)
              · exact absurd (r_v_3.eq.trans rl_0.eq.symm) ((ti_ne c_100))
              · refine lv_iconst (v := 1) hx hb dX3_beginsLine_103 (by decide) ?_
                refine lv_goto (tgt := 108) hx hb dX3_beginsLine_104 (by decide) ?_
                subst hQ
                exact W.zret (v := 1) hx hb hr (rfl) (fun t ht hW => ⟨⟨1, ws, rfl, ⟨⟨rl_1.to (by decide), (fun h0 => absurd h0 (by decide)), (fun h0 => ⟨⟨_, m_v_3, r_v_3⟩, trivial⟩)⟩, hw.1, hw.2.2.2.2.1⟩, by rw [ht]; exact hw.2.1, va_K.moved hW.alike hK, hw.2.2.1⟩, hw.2.2.2.1.F ht⟩) hw.2.2.2.1.2.2 dX3_beginsLine_108
            · have r_vu_1 : RI vu_1 1 1 := rc_neL r_vu_1 rl_0 (ti_ne c_84) (by decide)
              refine lv_aload_n hx hb dX3_beginsLine_87 rfl (lv_at hl 1 rfl) ?_
              refine lv_iconst (v := 3) hx hb dX3_beginsLine_88 (by decide) ?_
              refine tk_v (va_runV (As := [.int 3]) (rest := []) ⟨hx, hb, hml, hown, hts⟩ (c_X7_refuse__3 l D cy z s.heap.size Ps w0 hw.1 p1 3 f1_10 h_p1 (rl_3.to (by decide)) r_f1_10 m_f1_10) (cwV 1 hts (gV tw_450 tw_443 tw_444 tw_2 tw_445) rfl rfl rfl (by decide +kernel) ⟨Nat.le_of_ble_eq_true rfl, Nat.le_of_ble_eq_true rfl⟩) (tg_preV hw hK hSD hA (ci := 7) (q := (RX7, TX7, 12)) rfl h_p1 rfl) rfl rfl hl.1 rfl (lv_room (Nat.le_of_ble_eq_true rfl)) dX3_beginsLine_89 ⟨Nat.le_of_ble_eq_true rfl, Nat.le_of_ble_eq_true rfl⟩) hw hA ⟨by decide, by decide⟩ (fun ws H locs hp_v_4 hw hF9 => ?_)
              have m_u_1 := FLD.over hF9 m_u_1 (by decide)
              obtain ⟨v_5, m_v_5, r_v_5⟩ := (hp_v_4.1)
              refine lv_aload_n hx hb dX3_beginsLine_92 rfl (lv_at hl 1 rfl) ?_
              refine tk_vr (va_runV (As := []) (rest := []) ⟨hx, hb, hml, hown, hts⟩ (c_X7_pass__1 l D cy z H.size Ps ws hw.1 p1 v_5 h_p1 r_v_5 m_v_5) (cwV 0 hts (gV tw_451 tw_425 tw_426 tw_2 tw_427) rfl rfl rfl (by decide +kernel) ⟨Nat.le_of_ble_eq_true rfl, Nat.le_of_ble_eq_true rfl⟩) (tg_preV hw hK hSD hA (ci := 7) (q := (RX7, TX7, 12)) rfl h_p1 rfl) rfl rfl hl.1 rfl (lv_room (Nat.le_of_ble_eq_true rfl)) dX3_beginsLine_93 ⟨Nat.le_of_ble_eq_true rfl, Nat.le_of_ble_eq_true rfl⟩) hw hA (fun  H locs hp_v_6 hw => ?_)
              refine lv_aload_n hx hb dX3_beginsLine_96 rfl (lv_at hl 1 rfl) ?_
              refine tg_memN (ci := 7) (C := RX7) (T := TX7) (N := 12) hx hb hts inX7 hown hK hw 10 m_v_5 rfl (by decide) (hSD.nest tn_105) (fun _ h9 => h9) dX3_beginsLine_97 ?_
              refine lv_if_ne (tgt := 107) hx hb dX3_beginsLine_100 (by decide) (fun c_100 => ?_) (fun c_100 => ?_)
              · refine lv_iconst (v := 0) hx hb dX3_beginsLine_107 (by decide) ?_
                subst hQ
                exact W.zret (v := 0) hx hb hr (rfl) (fun t ht hW => ⟨⟨0, ws, rfl, ⟨⟨rl_0.to (by decide), (fun h0 => ⟨⟨_, m_v_5, r_v_5⟩, trivial⟩), (fun h0 => absurd rfl h0)⟩, hw.1, hw.2.2.2.2.1⟩, by rw [ht]; exact hw.2.1, va_K.moved hW.alike hK, hw.2.2.1⟩, hw.2.2.2.1.F ht⟩) hw.2.2.2.1.2.2 dX3_beginsLine_108
              · have r_v_5 : RI v_5 1 0 := rc_eq1 r_v_5 rl_0 (ti_eq c_100) (by decide)
                exact (r_v_5.no (by decide)).elim
        · have r_p2 : RI p2 136 135 := rc_eq1 r_p2 rl_135 (ti_eq c_63) (by decide)
          exact (r_p2.no (by decide)).elim
      · have r_p2 : RI p2 136 131 := rc_le1 r_p2 rl_131 (ti_nlt c_26) (by decide)
        exact (r_p2.no (by decide)).elim
    · have r_p2 : RI p2 137 136 := rc_lt2 rl_136 r_p2 (ti_nle c_11) (by decide)
      exact (r_p2.no (by decide)).elim
abbrev wr_X3_beginsLine__11 : List (Nat × Nat) := [(7, 10), (7, 11)]
abbrev wa_X3_beginsLine__11 : List Nat := []
set_option maxHeartbeats 4000000 in
set_option maxRecDepth 100000 in
theorem c_X3_beginsLine__11 (l : Launch) (D : va_G) (cy : Nat → ClassId) (z : Nat → Nat) (sz : Nat) (Ps : PSI) (w0 : va_W) (hT : HT cy GG Ps w0) (p0 : Nat) (p1 : Nat) (p2 : Int32) (f1_10 : Int32) (h_p0 : (p0, 25) ∈ Ps) (h_p1 : (p1, 26) ∈ Ps) (r_p2 : RI p2 137 2147483647) (r_f1_10 : RI f1_10 0 0) (m_f1_10 : FLD w0 p1 7 10 (.int f1_10)) : Met l yX3_beginsLine (Cond.code yX3_beginsLine cX3_beginsLine 3 (some .boolean) :: gT) ({ frames := 2, cells := 0, slots := 0, locals := 400 } : Room) (va_Pc [.ref p0, .ref p1, .int p2] (PRE D cy z w0 sz)) (va_Qi (fun (r : Int32) (u : va_W) => (RI r 0 0 ∧ (r = 0 → (∃ v9 : Int32, FLD u p1 7 10 (.int v9) ∧ RI v9 1 4) ∧ True) ∧ (¬ r = 0 → True)) ∧ HT cy GG Ps u ∧ FR wr_X3_beginsLine__11 wa_X3_beginsLine__11 Ps w0 u) (BB D cy (va_A w0 sz) (fun (u : va_W) => u)) (va_A w0 sz)) 0 0 (va_A w0 sz) := by
  refine Met.ofW (cc := cX3_beginsLine) (maxL := 3) (ret := (some .boolean)) (by decide) rfl ?_
  intro p e s m args below meth c s₁ B hml hv
  obtain ⟨rfl, hsz, hP, hK, hD0, hSD⟩ := hv
  have hx := B.exec
  have hb := B.bytes
  have hr := B.returns
  have hlocks := B.notSynchronized
  have hts : ∀ w ∈ gT, w.before _ s = true := fun w h => atoms_spec (ws := Cond.code yX3_beginsLine cX3_beginsLine 3 (some .boolean) :: gT) B.pre w (List.mem_cons_of_mem _ h)
  have hown : s.vm.findClass RX3 = some m.cls := findClass_of_methodNamed B.named
  subst hsz
  have hD := hD0.self (sz := s.heap.size)
  generalize hAe : va_A w0 s.heap.size = A at hD hSD ⊢
  have hA : ∀ q : Nat, s.heap.size ≤ q → A q := fun q h => by rw [← hAe]; exact Or.inr h
  have hl := lv_entry ([.ref p0, .ref p1, .int p2]) (n := 3) (Nat.le_of_ble_eq_true rfl)
  rw [lg_entry_eq]
  generalize (lg_sl ([.ref p0, .ref p1, .int p2]) ++ List.replicate (3 - (lg_sl ([.ref p0, .ref p1, .int p2])).length) Slot.unset).toArray = ls at hl ⊢
  have hl : lv_has ls 3 [(0, .ref p0), (1, .ref p1), (2, .int p2)] := hl
  refine nameQ (fun Q hQ => ?_)
  have hw : WD D cy GG A s wr_X3_beginsLine__11 wa_X3_beginsLine__11 Ps w0 Ps w0 s.heap [] := ⟨hT, hP, hD, va_S.rf, FR.rf, hT.1, [], (List.append_nil _).symm⟩
  refine lv_iload_n hx hb dX3_beginsLine_0 rfl (lv_at hl 2 rfl) ?_
  refine lv_sipush (v := 128) hx hb dX3_beginsLine_1 (by decide) ?_
  refine lv_icmp_lt (tgt := 14) hx hb dX3_beginsLine_4 (by decide) (fun c_4 => ?_) (fun c_4 => ?_)
  · have r_p2 : RI p2 137 127 := rc_lt1 r_p2 rl_128 (ti_lt c_4) (by decide)
    exact (r_p2.no (by decide)).elim
  · refine lv_iload_n hx hb dX3_beginsLine_7 rfl (lv_at hl 2 rfl) ?_
    refine lv_sipush (v := 136) hx hb dX3_beginsLine_8 (by decide) ?_
    refine lv_icmp_le (tgt := 22) hx hb dX3_beginsLine_11 (by decide) (fun c_11 => ?_) (fun c_11 => ?_)
    · have r_p2 : RI p2 137 136 := rc_le1 r_p2 rl_136 (ti_le c_11) (by decide)
      exact (r_p2.no (by decide)).elim
    · refine lv_aload_n hx hb dX3_beginsLine_14 rfl (lv_at hl 1 rfl) ?_
      refine lv_iconst (v := 1) hx hb dX3_beginsLine_15 (by decide) ?_
      refine tk_v (va_runV (As := [.int 1]) (rest := []) ⟨hx, hb, hml, hown, hts⟩ (c_X7_refuse__3 l D cy z s.heap.size Ps w0 hw.1 p1 1 f1_10 h_p1 (rl_1.to (by decide)) r_f1_10 m_f1_10) (cwV 1 hts (gV tw_450 tw_443 tw_444 tw_2 tw_445) rfl rfl rfl (by decide +kernel) ⟨Nat.le_of_ble_eq_true rfl, Nat.le_of_ble_eq_true rfl⟩) (tg_preV hw hK hSD hA (ci := 7) (q := (RX7, TX7, 12)) rfl h_p1 rfl) rfl rfl hl.1 rfl (lv_room (Nat.le_of_ble_eq_true rfl)) dX3_beginsLine_16 ⟨Nat.le_of_ble_eq_true rfl, Nat.le_of_ble_eq_true rfl⟩) hw hA ⟨by decide, by decide⟩ (fun ws H locs hp_v_1 hw hF9 => ?_)
      obtain ⟨v_2, m_v_2, r_v_2⟩ := (hp_v_1.1)
      refine lv_goto (tgt := 92) hx hb dX3_beginsLine_19 (by decide) ?_
      refine lv_aload_n hx hb dX3_beginsLine_92 rfl (lv_at hl 1 rfl) ?_
      refine tk_vr (va_runV (As := []) (rest := []) ⟨hx, hb, hml, hown, hts⟩ (c_X7_pass__1 l D cy z H.size Ps ws hw.1 p1 v_2 h_p1 r_v_2 m_v_2) (cwV 0 hts (gV tw_451 tw_425 tw_426 tw_2 tw_427) rfl rfl rfl (by decide +kernel) ⟨Nat.le_of_ble_eq_true rfl, Nat.le_of_ble_eq_true rfl⟩) (tg_preV hw hK hSD hA (ci := 7) (q := (RX7, TX7, 12)) rfl h_p1 rfl) rfl rfl hl.1 rfl (lv_room (Nat.le_of_ble_eq_true rfl)) dX3_beginsLine_93 ⟨Nat.le_of_ble_eq_true rfl, Nat.le_of_ble_eq_true rfl⟩) hw hA (fun  H locs hp_v_3 hw => ?_)
      refine lv_aload_n hx hb dX3_beginsLine_96 rfl (lv_at hl 1 rfl) ?_
      refine tg_memN (ci := 7) (C := RX7) (T := TX7) (N := 12) hx hb hts inX7 hown hK hw 10 m_v_2 rfl (by decide) (hSD.nest tn_105) (fun _ h9 => h9) dX3_beginsLine_97 ?_
      refine lv_if_ne (tgt := 107) hx hb dX3_beginsLine_100 (by decide) (fun c_100 => ?_) (fun c_100 => ?_)
      · refine lv_iconst (v := 0) hx hb dX3_beginsLine_107 (by decide) ?_
        subst hQ
        exact W.zret (v := 0) hx hb hr (rfl) (fun t ht hW => ⟨⟨0, ws, rfl, ⟨⟨rl_0.to (by decide), (fun h0 => ⟨⟨_, m_v_2, r_v_2⟩, trivial⟩), (fun _ => trivial)⟩, hw.1, hw.2.2.2.2.1⟩, by rw [ht]; exact hw.2.1, va_K.moved hW.alike hK, hw.2.2.1⟩, hw.2.2.2.1.F ht⟩) hw.2.2.2.1.2.2 dX3_beginsLine_108
      · have r_v_2 : RI v_2 1 0 := rc_eq1 r_v_2 rl_0 (ti_eq c_100) (by decide)
        exact (r_v_2.no (by decide)).elim
abbrev wr_X3_read : List (Nat × Nat) := [(3, 5), (3, 6), (3, 7), (3, 8), (7, 3), (7, 4), (7, 5), (7, 6), (7, 7), (7, 8), (7, 9), (7, 10), (7, 11), (8, 0), (8, 1)]
abbrev wa_X3_read : List Nat := [1, 4, 5, 6, 7, 8, 9, 10, 11, 12, 13]
set_option maxHeartbeats 4000000 in
set_option maxRecDepth 100000 in
theorem c_X3_read (l : Launch) (D : va_G) (cy : Nat → ClassId) (z : Nat → Nat) (sz : Nat) (Ps : PSI) (w0 : va_W) (hT : HT cy GG Ps w0) (p0 : Nat) (p1 : Nat) (p2 : Nat) (h_p0 : (p0, 25) ∈ Ps) (h_p1 : (p1, 26) ∈ Ps) (h_p2 : (p2, 24) ∈ Ps) : Met l yX3_read (Cond.code yX3_read cX3_read 5 (some .int) :: gT) ({ frames := 5, cells := 0, slots := 0, locals := 1000 } : Room) (va_Pc [.ref p0, .ref p1, .ref p2] (PRE D cy z w0 sz)) (va_Qi (fun (r : Int32) (u : va_W) => (RI r (-1) 900 ∧ (r = 0 → True) ∧ (¬ r = 0 → True)) ∧ HT cy GG Ps u ∧ FR wr_X3_read wa_X3_read Ps w0 u) (BB D cy (va_A w0 sz) (fun (u : va_W) => u)) (va_A w0 sz)) 0 0 (va_A w0 sz) := by
  refine Met.ofW (cc := cX3_read) (maxL := 5) (ret := (some .int)) (by decide) rfl ?_
  intro p e s m args below meth c s₁ B hml hv
  obtain ⟨rfl, hsz, hP, hK, hD0, hSD⟩ := hv
  have hx := B.exec
  have hb := B.bytes
  have hr := B.returns
  have hlocks := B.notSynchronized
  have hts : ∀ w ∈ gT, w.before _ s = true := fun w h => atoms_spec (ws := Cond.code yX3_read cX3_read 5 (some .int) :: gT) B.pre w (List.mem_cons_of_mem _ h)
  have hown : s.vm.findClass RX3 = some m.cls := findClass_of_methodNamed B.named
  subst hsz
  have hD := hD0.self (sz := s.heap.size)
  generalize hAe : va_A w0 s.heap.size = A at hD hSD ⊢
  have hA : ∀ q : Nat, s.heap.size ≤ q → A q := fun q h => by rw [← hAe]; exact Or.inr h
  have hl := lv_entry ([.ref p0, .ref p1, .ref p2]) (n := 5) (Nat.le_of_ble_eq_true rfl)
  rw [lg_entry_eq]
  generalize (lg_sl ([.ref p0, .ref p1, .ref p2]) ++ List.replicate (5 - (lg_sl ([.ref p0, .ref p1, .ref p2])).length) Slot.unset).toArray = ls at hl ⊢
  have hl : lv_has ls 5 [(0, .ref p0), (1, .ref p1), (2, .ref p2)] := hl
  refine nameQ (fun Q hQ => ?_)
  have hw : WD D cy GG A s wr_X3_read wa_X3_read Ps w0 Ps w0 s.heap [] := ⟨hT, hP, hD, va_S.rf, FR.rf, hT.1, [], (List.append_nil _).symm⟩
  have B14 : ∀ (nf : Nat) (x3 : Int32) (ws : va_W) (H : Heap) (locs : List Loc) (ls : Array Slot), 900 - x3.toInt < (nf : Int) → RI x3 0 900 → WD D cy GG A s wr_X3_read wa_X3_read Ps w0 Ps ws H locs → lv_has ls 5 [(0, .ref p0), (1, .ref p1), (2, .ref p2), (3, .int x3)] → W p l e (headSpec (Cond.code yX3_read cX3_read 5 (some .int) :: gT) ({ frames := 5, cells := 0, slots := 0, locals := 1000 } : Room)).room s m ([.ref p0, .ref p1, .ref p2] : List Value).toArray below meth c H locs 0 0 Q (F0 m 14 ls []) := by
    intro nf14
    induction nf14 with
    | zero =>
      intro x3 ws H locs ls hn14 r_x3 hw hl
      exact absurd hn14 (by have q0 := r_x3.1; have u0 := r_x3.2; omega)
    | succ nf14 ih14 =>
      intro x3 ws H locs ls hn14 r_x3 hw hl
      refine lv_iload_n hx hb dX3_read_14 rfl (lv_at hl 3 rfl) ?_
      refine lv_sipush (v := 900) hx hb dX3_read_15 (by decide) ?_
      refine lv_icmp_ge (tgt := 171) hx hb dX3_read_18 (by decide) (fun c_18 => ?_) (fun c_18 => ?_)
      · have r_x3 : RI x3 900 900 := rc_le2 rl_900 r_x3 (ti_le c_18) (by decide)
        refine lv_iload_n hx hb dX3_read_171 rfl (lv_at hl 3 rfl) ?_
        subst hQ
        exact W.iret (v := x3) hx hb hr (fun t ht hW => ⟨⟨x3, ws, rfl, ⟨⟨r_x3.to (by decide), (fun _ => trivial), (fun h0 => trivial)⟩, hw.1, hw.2.2.2.2.1⟩, by rw [ht]; exact hw.2.1, va_K.moved hW.alike hK, hw.2.2.1⟩, hw.2.2.2.1.F ht⟩) hw.2.2.2.1.2.2 dX3_read_172
      · have r_x3 : RI x3 0 899 := rc_lt1 r_x3 rl_900 (ti_nle c_18) (by decide)
        refine lv_aload_n hx hb dX3_read_21 rfl (lv_at hl 1 rfl) ?_
        refine tk_i (va_runV (As := []) (rest := []) ⟨hx, hb, hml, hown, hts⟩ (c_X7_goesOn__2 l D cy z H.size Ps ws hw.1 p1 h_p1) (cwV 0 hts (gV tw_438 tw_439 tw_440 tw_2 tw_441) rfl rfl rfl (by decide +kernel) ⟨Nat.le_of_ble_eq_true rfl, Nat.le_of_ble_eq_true rfl⟩) (tg_preV hw hK hSD hA (ci := 7) (q := (RX7, TX7, 12)) rfl h_p1 rfl) rfl rfl hl.1 rfl (lv_room (Nat.le_of_ble_eq_true rfl)) dX3_read_22 ⟨Nat.le_of_ble_eq_true rfl, Nat.le_of_ble_eq_true rfl⟩) hw hA ⟨by decide, by decide⟩ (fun v_1 ws H locs hp_v_1 hw hF9 => ?_)
        have r_v_1 : RI v_1 0 1 := hp_v_1.1
        by_cases c9_v_1 : v_1 = 0
        · have r_v_1 : RI v_1 0 0 := by rw [c9_v_1]; exact rl_0
          refine lv_if_eq (tgt := 171) hx hb dX3_read_25 (by decide) (fun c_25 => ?_) (fun c_25 => ?_)
          · refine lv_iload_n hx hb dX3_read_171 rfl (lv_at hl 3 rfl) ?_
            subst hQ
            exact W.iret (v := x3) hx hb hr (fun t ht hW => ⟨⟨x3, ws, rfl, ⟨⟨r_x3.to (by decide), (fun h0 => trivial), (fun h0 => trivial)⟩, hw.1, hw.2.2.2.2.1⟩, by rw [ht]; exact hw.2.1, va_K.moved hW.alike hK, hw.2.2.1⟩, hw.2.2.2.1.F ht⟩) hw.2.2.2.1.2.2 dX3_read_172
          · exact absurd (r_v_1.eq.trans rl_0.eq.symm) ((ti_ne c_25))
        · have r_v_1 : RI v_1 1 1 := rc_neL r_v_1 rl_0 (ti_ne c9_v_1) (by decide)
          obtain ⟨v_2, m_v_2, r_v_2⟩ := ((hp_v_1.2.2 c9_v_1).1)
          refine lv_if_eq (tgt := 171) hx hb dX3_read_25 (by decide) (fun c_25 => ?_) (fun c_25 => ?_)
          · have r_v_1 : RI v_1 1 0 := rc_eq1 r_v_1 rl_0 (ti_eq c_25) (by decide)
            exact (r_v_1.no (by decide)).elim
          · refine lv_aload_n hx hb dX3_read_28 rfl (lv_at hl 1 rfl) ?_
            refine tg_getN (ci := 7) (ts := ty_TAPE) (C := RX7) (T := TX7) (N := 12) hx hb hts inX7 hown hK hw h_p1 rfl rfl 7 (by decide) (hSD.nest tn_97) (fun _ h9 => h9) (ft := vI (-2147483648) 2147483647) rfl dX3_read_29 (fun u_3 hv_u_3 m_u_3 => ?_)
            obtain ⟨vu_3, rfl, r_vu_3⟩ := hv_u_3
            refine lv_istore (lv' := [(4, .int vu_3), (0, .ref p0), (1, .ref p1), (2, .ref p2), (3, .int x3)]) hx hb dX3_read_32 hl (by decide) rfl (fun ls hl => ?_)
            rcases (show ((-2147483648) ≤ vu_3.toInt ∧ vu_3.toInt ≤ 127) ∨ (128 ≤ vu_3.toInt ∧ vu_3.toInt ≤ 128) ∨ (129 ≤ vu_3.toInt ∧ vu_3.toInt ≤ 129) ∨ (130 ≤ vu_3.toInt ∧ vu_3.toInt ≤ 130) ∨ (131 ≤ vu_3.toInt ∧ vu_3.toInt ≤ 131) ∨ (132 ≤ vu_3.toInt ∧ vu_3.toInt ≤ 132) ∨ (133 ≤ vu_3.toInt ∧ vu_3.toInt ≤ 133) ∨ (134 ≤ vu_3.toInt ∧ vu_3.toInt ≤ 134) ∨ (135 ≤ vu_3.toInt ∧ vu_3.toInt ≤ 135) ∨ (136 ≤ vu_3.toInt ∧ vu_3.toInt ≤ 136) ∨ (137 ≤ vu_3.toInt ∧ vu_3.toInt ≤ 2147483647) by have k1 := r_vu_3.1; have k2 := r_vu_3.2; omega) with h_9 | h_9 | h_9 | h_9 | h_9 | h_9 | h_9 | h_9 | h_9 | h_9 | h_9
            · have r_vu_3 : RI vu_3 (-2147483648) 127 := h_9
              refine lv_aload_n hx hb dX3_read_34 rfl (lv_at hl 1 rfl) ?_
              refine lv_aload_n hx hb dX3_read_35 rfl (lv_at hl 2 rfl) ?_
              refine lv_iload hx hb dX3_read_36 (lv_at hl 0 rfl) ?_
              refine tk_i (va_runV (As := [.ref p1, .int vu_3]) (rest := []) ⟨hx, hb, hml, hown, hts⟩ (c_X3_beginsLine__1 l D cy z H.size Ps ws hw.1 p0 p1 vu_3 v_2 h_p0 h_p1 r_vu_3 r_v_2 m_v_2) (cwV 2 hts (gV tw_446 tw_448 ts_1 tw_11 tw_449) rfl rfl rfl (by decide +kernel) ⟨Nat.le_of_ble_eq_true rfl, Nat.le_of_ble_eq_true rfl⟩) (tg_preV hw hK hSD hA (ci := 3) (q := (RX3, TX3, 9)) rfl h_p0 rfl) rfl rfl hl.1 rfl (lv_room (Nat.le_of_ble_eq_true rfl)) dX3_read_38 ⟨Nat.le_of_ble_eq_true rfl, Nat.le_of_ble_eq_true rfl⟩) hw hA ⟨by decide, by decide⟩ (fun v_4 ws H locs hp_v_4 hw hF9 => ?_)
              have m_u_3 := FLD.over hF9 m_u_3 (by decide)
              have r_v_4 : RI v_4 0 0 := hp_v_4.1
              by_cases c9_v_4 : v_4 = 0
              · have r_v_4 : RI v_4 0 0 := by rw [c9_v_4]; exact rl_0
                obtain ⟨v_5, m_v_5, r_v_5⟩ := ((hp_v_4.2.1 c9_v_4).1)
                refine lv_if_ne (tgt := 46) hx hb dX3_read_41 (by decide) (fun c_41 => ?_) (fun c_41 => ?_)
                · exact absurd (r_v_4.eq.trans rl_0.eq.symm) ((ti_ne c_41))
                · refine lv_iconst (v := (-1)) hx hb dX3_read_44 (by decide) ?_
                  subst hQ
                  exact W.iret (v := (-1)) hx hb hr (fun t ht hW => ⟨⟨(-1), ws, rfl, ⟨⟨rl_m1.to (by decide), (fun _ => trivial), (fun h0 => trivial)⟩, hw.1, hw.2.2.2.2.1⟩, by rw [ht]; exact hw.2.1, va_K.moved hW.alike hK, hw.2.2.1⟩, hw.2.2.2.1.F ht⟩) hw.2.2.2.1.2.2 dX3_read_45
              · exact absurd (Int32.toInt_inj.mp (by rw [Int32.toInt_zero]; unfold RI at r_v_4; omega)) c9_v_4
            · have r_vu_3 : RI vu_3 128 128 := h_9
              refine lv_aload_n hx hb dX3_read_34 rfl (lv_at hl 1 rfl) ?_
              refine lv_aload_n hx hb dX3_read_35 rfl (lv_at hl 2 rfl) ?_
              refine lv_iload hx hb dX3_read_36 (lv_at hl 0 rfl) ?_
              refine tk_i (va_runV (As := [.ref p1, .int vu_3]) (rest := []) ⟨hx, hb, hml, hown, hts⟩ (c_X3_beginsLine__2 l D cy z H.size Ps ws hw.1 p0 p1 vu_3 v_2 h_p0 h_p1 r_vu_3 r_v_2 m_v_2) (cwV 2 hts (gV tw_446 tw_448 ts_1 tw_11 tw_449) rfl rfl rfl (by decide +kernel) ⟨Nat.le_of_ble_eq_true rfl, Nat.le_of_ble_eq_true rfl⟩) (tg_preV hw hK hSD hA (ci := 3) (q := (RX3, TX3, 9)) rfl h_p0 rfl) rfl rfl hl.1 rfl (lv_room (Nat.le_of_ble_eq_true rfl)) dX3_read_38 ⟨Nat.le_of_ble_eq_true rfl, Nat.le_of_ble_eq_true rfl⟩) hw hA ⟨by decide, by decide⟩ (fun v_6 ws H locs hp_v_6 hw hF9 => ?_)
              have r_v_6 : RI v_6 0 1 := hp_v_6.1
              by_cases c9_v_6 : v_6 = 0
              · have r_v_6 : RI v_6 0 0 := by rw [c9_v_6]; exact rl_0
                obtain ⟨v_7, m_v_7, r_v_7⟩ := ((hp_v_6.2.1 c9_v_6).1)
                refine lv_if_ne (tgt := 46) hx hb dX3_read_41 (by decide) (fun c_41 => ?_) (fun c_41 => ?_)
                · exact absurd (r_v_6.eq.trans rl_0.eq.symm) ((ti_ne c_41))
                · refine lv_iconst (v := (-1)) hx hb dX3_read_44 (by decide) ?_
                  subst hQ
                  exact W.iret (v := (-1)) hx hb hr (fun t ht hW => ⟨⟨(-1), ws, rfl, ⟨⟨rl_m1.to (by decide), (fun _ => trivial), (fun h0 => trivial)⟩, hw.1, hw.2.2.2.2.1⟩, by rw [ht]; exact hw.2.1, va_K.moved hW.alike hK, hw.2.2.1⟩, hw.2.2.2.1.F ht⟩) hw.2.2.2.1.2.2 dX3_read_45
              · have r_v_6 : RI v_6 1 1 := rc_neL r_v_6 rl_0 (ti_ne c9_v_6) (by decide)
                obtain ⟨v_8, m_v_8, r_v_8⟩ := ((hp_v_6.2.2 c9_v_6).1)
                have x_MLT_p0_0 := ((hp_v_6.2.2 c9_v_6).2.1)
                refine lv_if_ne (tgt := 46) hx hb dX3_read_41 (by decide) (fun c_41 => ?_) (fun c_41 => ?_)
                · refine lv_iload hx hb dX3_read_46 (lv_at hl 0 rfl) ?_
                  have w_48 := r_vu_3
                  by_cases cl_48 : vu_3.toInt < 132 ∨ 136 < vu_3.toInt
                  · refine lv_tableOut (tgt := 147) hx hb dX3_read_48 cl_48 (by decide) ?_
                    refine lv_aload_n hx hb dX3_read_147 rfl (lv_at hl 1 rfl) ?_
                    refine lv_aload_n hx hb dX3_read_148 rfl (lv_at hl 2 rfl) ?_
                    refine lv_aload_n hx hb dX3_read_149 rfl (lv_at hl 3 rfl) ?_
                    refine lv_iload hx hb dX3_read_150 (lv_at hl 0 rfl) ?_
                    refine lv_sipush (v := 128) hx hb dX3_read_152 (by decide) ?_
                    refine lv_isub hx hb dX3_read_155 (lv_topi (fun v_9 e_v_9 => ?_))
                    obtain ⟨t_v_9, r_v_9⟩ := tq_sub (lo := 0) (hi := 0) r_vu_3 rl_128 (by decide +kernel) e_v_9
                    have t_v_9 : v_9.toInt = vu_3.toInt - 128 := t_v_9
                    refine tk_v (va_runV (As := [.ref p1, .ref p2, .int v_9]) (rest := []) ⟨hx, hb, hml, hown, hts⟩ (c_X3_readNamed l D cy z H.size Ps ws hw.1 p0 p1 p2 v_9 h_p0 h_p1 h_p2 r_v_9 x_MLT_p0_0) (cwV 3 hts (gV tw_499 tw_501 ts_6 tw_11 tw_502) rfl rfl rfl (by decide +kernel) ⟨Nat.le_of_ble_eq_true rfl, Nat.le_of_ble_eq_true rfl⟩) (tg_preV hw hK hSD hA (ci := 3) (q := (RX3, TX3, 9)) rfl h_p0 rfl) rfl rfl hl.1 rfl (lv_room (Nat.le_of_ble_eq_true rfl)) dX3_read_156 ⟨Nat.le_of_ble_eq_true rfl, Nat.le_of_ble_eq_true rfl⟩) hw hA ⟨by decide, by decide⟩ (fun ws H locs hp_v_10 hw hF9 => ?_)
                    refine lv_aload_n hx hb dX3_read_159 rfl (lv_at hl 2 rfl) ?_
                    refine lv_bipush (v := 59) hx hb dX3_read_160 (by decide) ?_
                    refine tk_v (va_runV (As := [.int 59]) (rest := []) ⟨hx, hb, hml, hown, hts⟩ (c_X7_passOnly__2 l D cy z H.size Ps ws hw.1 p1 59 h_p1 (rl_59.to (by decide))) (cwV 1 hts (gV tw_513 tw_514 tw_515 tw_2 tw_516) rfl rfl rfl (by decide +kernel) ⟨Nat.le_of_ble_eq_true rfl, Nat.le_of_ble_eq_true rfl⟩) (tg_preV hw hK hSD hA (ci := 7) (q := (RX7, TX7, 12)) rfl h_p1 rfl) rfl rfl hl.1 rfl (lv_room (Nat.le_of_ble_eq_true rfl)) dX3_read_162 ⟨Nat.le_of_ble_eq_true rfl, Nat.le_of_ble_eq_true rfl⟩) hw hA ⟨by decide, by decide⟩ (fun ws H locs hp_v_11 hw hF9 => ?_)
                    obtain ⟨v_12, e_v_12⟩ : ∃ q9 : Int32, q9 = x3 + Int32.ofInt 1 := ⟨_, rfl⟩
                    obtain ⟨t_v_12, r_v_12⟩ := tq_add (lo := 1) (hi := 900) r_x3 (show RI (Int32.ofInt 1) 1 1 by unfold RI; decide +kernel) (by decide +kernel) e_v_12
                    have t_v_12 : v_12.toInt = x3.toInt + 1 := t_v_12
                    refine lv_iinc (v := v_12) (lv' := [(3, .int v_12), (4, .int vu_3), (0, .ref p0), (1, .ref p1), (2, .ref p2)]) hx hb dX3_read_165 hl (k := 4) rfl e_v_12.symm (by decide) rfl (fun ls hl => ?_)
                    refine lv_goto (tgt := 14) hx hb dX3_read_168 (by decide) ?_
                    exact ih14 v_12 ws _ _ ls (by have q0 := r_v_12.1; have u0 := r_v_12.2; have o0 := r_x3.1; have p0 := r_x3.2; omega) (r_v_12.to (by decide)) hw (lv_sub hl [2, 3, 4, 0] rfl)
                  · have e_48 : vu_3.toInt = 132 ∨ vu_3.toInt = 133 ∨ vu_3.toInt = 134 ∨ vu_3.toInt = 135 ∨ vu_3.toInt = 136 := by omega
                    rcases e_48 with h_48 | h_48 | h_48 | h_48 | h_48
                    · exact absurd h_48 (by unfold RI at w_48; omega)
                    · exact absurd h_48 (by unfold RI at w_48; omega)
                    · exact absurd h_48 (by unfold RI at w_48; omega)
                    · exact absurd h_48 (by unfold RI at w_48; omega)
                    · exact absurd h_48 (by unfold RI at w_48; omega)
                · have r_v_6 : RI v_6 1 0 := rc_eq1 r_v_6 rl_0 (ti_eq c_41) (by decide)
                  exact (r_v_6.no (by decide)).elim
            · have r_vu_3 : RI vu_3 129 129 := h_9
              refine lv_aload_n hx hb dX3_read_34 rfl (lv_at hl 1 rfl) ?_
              refine lv_aload_n hx hb dX3_read_35 rfl (lv_at hl 2 rfl) ?_
              refine lv_iload hx hb dX3_read_36 (lv_at hl 0 rfl) ?_
              refine tk_i (va_runV (As := [.ref p1, .int vu_3]) (rest := []) ⟨hx, hb, hml, hown, hts⟩ (c_X3_beginsLine__3 l D cy z H.size Ps ws hw.1 p0 p1 vu_3 v_2 h_p0 h_p1 r_vu_3 r_v_2 m_v_2) (cwV 2 hts (gV tw_446 tw_448 ts_1 tw_11 tw_449) rfl rfl rfl (by decide +kernel) ⟨Nat.le_of_ble_eq_true rfl, Nat.le_of_ble_eq_true rfl⟩) (tg_preV hw hK hSD hA (ci := 3) (q := (RX3, TX3, 9)) rfl h_p0 rfl) rfl rfl hl.1 rfl (lv_room (Nat.le_of_ble_eq_true rfl)) dX3_read_38 ⟨Nat.le_of_ble_eq_true rfl, Nat.le_of_ble_eq_true rfl⟩) hw hA ⟨by decide, by decide⟩ (fun v_13 ws H locs hp_v_13 hw hF9 => ?_)
              have r_v_13 : RI v_13 0 1 := hp_v_13.1
              by_cases c9_v_13 : v_13 = 0
              · have r_v_13 : RI v_13 0 0 := by rw [c9_v_13]; exact rl_0
                obtain ⟨v_14, m_v_14, r_v_14⟩ := ((hp_v_13.2.1 c9_v_13).1)
                refine lv_if_ne (tgt := 46) hx hb dX3_read_41 (by decide) (fun c_41 => ?_) (fun c_41 => ?_)
                · exact absurd (r_v_13.eq.trans rl_0.eq.symm) ((ti_ne c_41))
                · refine lv_iconst (v := (-1)) hx hb dX3_read_44 (by decide) ?_
                  subst hQ
                  exact W.iret (v := (-1)) hx hb hr (fun t ht hW => ⟨⟨(-1), ws, rfl, ⟨⟨rl_m1.to (by decide), (fun _ => trivial), (fun h0 => trivial)⟩, hw.1, hw.2.2.2.2.1⟩, by rw [ht]; exact hw.2.1, va_K.moved hW.alike hK, hw.2.2.1⟩, hw.2.2.2.1.F ht⟩) hw.2.2.2.1.2.2 dX3_read_45
              · have r_v_13 : RI v_13 1 1 := rc_neL r_v_13 rl_0 (ti_ne c9_v_13) (by decide)
                obtain ⟨v_15, m_v_15, r_v_15⟩ := ((hp_v_13.2.2 c9_v_13).1)
                have x_MLT_p0_1 := ((hp_v_13.2.2 c9_v_13).2.1)
                refine lv_if_ne (tgt := 46) hx hb dX3_read_41 (by decide) (fun c_41 => ?_) (fun c_41 => ?_)
                · refine lv_iload hx hb dX3_read_46 (lv_at hl 0 rfl) ?_
                  have w_48 := r_vu_3
                  by_cases cl_48 : vu_3.toInt < 132 ∨ 136 < vu_3.toInt
                  · refine lv_tableOut (tgt := 147) hx hb dX3_read_48 cl_48 (by decide) ?_
                    refine lv_aload_n hx hb dX3_read_147 rfl (lv_at hl 1 rfl) ?_
                    refine lv_aload_n hx hb dX3_read_148 rfl (lv_at hl 2 rfl) ?_
                    refine lv_aload_n hx hb dX3_read_149 rfl (lv_at hl 3 rfl) ?_
                    refine lv_iload hx hb dX3_read_150 (lv_at hl 0 rfl) ?_
                    refine lv_sipush (v := 128) hx hb dX3_read_152 (by decide) ?_
                    refine lv_isub hx hb dX3_read_155 (lv_topi (fun v_16 e_v_16 => ?_))
                    obtain ⟨t_v_16, r_v_16⟩ := tq_sub (lo := 1) (hi := 1) r_vu_3 rl_128 (by decide +kernel) e_v_16
                    have t_v_16 : v_16.toInt = vu_3.toInt - 128 := t_v_16
                    refine tk_v (va_runV (As := [.ref p1, .ref p2, .int v_16]) (rest := []) ⟨hx, hb, hml, hown, hts⟩ (c_X3_readNamed__1 l D cy z H.size Ps ws hw.1 p0 p1 p2 v_16 h_p0 h_p1 h_p2 r_v_16 x_MLT_p0_1) (cwV 3 hts (gV tw_499 tw_501 ts_6 tw_11 tw_502) rfl rfl rfl (by decide +kernel) ⟨Nat.le_of_ble_eq_true rfl, Nat.le_of_ble_eq_true rfl⟩) (tg_preV hw hK hSD hA (ci := 3) (q := (RX3, TX3, 9)) rfl h_p0 rfl) rfl rfl hl.1 rfl (lv_room (Nat.le_of_ble_eq_true rfl)) dX3_read_156 ⟨Nat.le_of_ble_eq_true rfl, Nat.le_of_ble_eq_true rfl⟩) hw hA ⟨by decide, by decide⟩ (fun ws H locs hp_v_17 hw hF9 => ?_)
                    refine lv_aload_n hx hb dX3_read_159 rfl (lv_at hl 2 rfl) ?_
                    refine lv_bipush (v := 59) hx hb dX3_read_160 (by decide) ?_
                    refine tk_v (va_runV (As := [.int 59]) (rest := []) ⟨hx, hb, hml, hown, hts⟩ (c_X7_passOnly__2 l D cy z H.size Ps ws hw.1 p1 59 h_p1 (rl_59.to (by decide))) (cwV 1 hts (gV tw_513 tw_514 tw_515 tw_2 tw_516) rfl rfl rfl (by decide +kernel) ⟨Nat.le_of_ble_eq_true rfl, Nat.le_of_ble_eq_true rfl⟩) (tg_preV hw hK hSD hA (ci := 7) (q := (RX7, TX7, 12)) rfl h_p1 rfl) rfl rfl hl.1 rfl (lv_room (Nat.le_of_ble_eq_true rfl)) dX3_read_162 ⟨Nat.le_of_ble_eq_true rfl, Nat.le_of_ble_eq_true rfl⟩) hw hA ⟨by decide, by decide⟩ (fun ws H locs hp_v_18 hw hF9 => ?_)
                    obtain ⟨v_19, e_v_19⟩ : ∃ q9 : Int32, q9 = x3 + Int32.ofInt 1 := ⟨_, rfl⟩
                    obtain ⟨t_v_19, r_v_19⟩ := tq_add (lo := 1) (hi := 900) r_x3 (show RI (Int32.ofInt 1) 1 1 by unfold RI; decide +kernel) (by decide +kernel) e_v_19
                    have t_v_19 : v_19.toInt = x3.toInt + 1 := t_v_19
                    refine lv_iinc (v := v_19) (lv' := [(3, .int v_19), (4, .int vu_3), (0, .ref p0), (1, .ref p1), (2, .ref p2)]) hx hb dX3_read_165 hl (k := 4) rfl e_v_19.symm (by decide) rfl (fun ls hl => ?_)
                    refine lv_goto (tgt := 14) hx hb dX3_read_168 (by decide) ?_
                    exact ih14 v_19 ws _ _ ls (by have q0 := r_v_19.1; have u0 := r_v_19.2; have o0 := r_x3.1; have p0 := r_x3.2; omega) (r_v_19.to (by decide)) hw (lv_sub hl [2, 3, 4, 0] rfl)
                  · have e_48 : vu_3.toInt = 132 ∨ vu_3.toInt = 133 ∨ vu_3.toInt = 134 ∨ vu_3.toInt = 135 ∨ vu_3.toInt = 136 := by omega
                    rcases e_48 with h_48 | h_48 | h_48 | h_48 | h_48
                    · exact absurd h_48 (by unfold RI at w_48; omega)
                    · exact absurd h_48 (by unfold RI at w_48; omega)
                    · exact absurd h_48 (by unfold RI at w_48; omega)
                    · exact absurd h_48 (by unfold RI at w_48; omega)
                    · exact absurd h_48 (by unfold RI at w_48; omega)
                · have r_v_13 : RI v_13 1 0 := rc_eq1 r_v_13 rl_0 (ti_eq c_41) (by decide)
                  exact (r_v_13.no (by decide)).elim
            · have r_vu_3 : RI vu_3 130 130 := h_9
              refine lv_aload_n hx hb dX3_read_34 rfl (lv_at hl 1 rfl) ?_
              refine lv_aload_n hx hb dX3_read_35 rfl (lv_at hl 2 rfl) ?_
              refine lv_iload hx hb dX3_read_36 (lv_at hl 0 rfl) ?_
              refine tk_i (va_runV (As := [.ref p1, .int vu_3]) (rest := []) ⟨hx, hb, hml, hown, hts⟩ (c_X3_beginsLine__4 l D cy z H.size Ps ws hw.1 p0 p1 vu_3 v_2 h_p0 h_p1 r_vu_3 r_v_2 m_v_2) (cwV 2 hts (gV tw_446 tw_448 ts_1 tw_11 tw_449) rfl rfl rfl (by decide +kernel) ⟨Nat.le_of_ble_eq_true rfl, Nat.le_of_ble_eq_true rfl⟩) (tg_preV hw hK hSD hA (ci := 3) (q := (RX3, TX3, 9)) rfl h_p0 rfl) rfl rfl hl.1 rfl (lv_room (Nat.le_of_ble_eq_true rfl)) dX3_read_38 ⟨Nat.le_of_ble_eq_true rfl, Nat.le_of_ble_eq_true rfl⟩) hw hA ⟨by decide, by decide⟩ (fun v_20 ws H locs hp_v_20 hw hF9 => ?_)
              have r_v_20 : RI v_20 0 1 := hp_v_20.1
              by_cases c9_v_20 : v_20 = 0
              · have r_v_20 : RI v_20 0 0 := by rw [c9_v_20]; exact rl_0
                obtain ⟨v_21, m_v_21, r_v_21⟩ := ((hp_v_20.2.1 c9_v_20).1)
                refine lv_if_ne (tgt := 46) hx hb dX3_read_41 (by decide) (fun c_41 => ?_) (fun c_41 => ?_)
                · exact absurd (r_v_20.eq.trans rl_0.eq.symm) ((ti_ne c_41))
                · refine lv_iconst (v := (-1)) hx hb dX3_read_44 (by decide) ?_
                  subst hQ
                  exact W.iret (v := (-1)) hx hb hr (fun t ht hW => ⟨⟨(-1), ws, rfl, ⟨⟨rl_m1.to (by decide), (fun _ => trivial), (fun h0 => trivial)⟩, hw.1, hw.2.2.2.2.1⟩, by rw [ht]; exact hw.2.1, va_K.moved hW.alike hK, hw.2.2.1⟩, hw.2.2.2.1.F ht⟩) hw.2.2.2.1.2.2 dX3_read_45
              · have r_v_20 : RI v_20 1 1 := rc_neL r_v_20 rl_0 (ti_ne c9_v_20) (by decide)
                obtain ⟨v_22, m_v_22, r_v_22⟩ := ((hp_v_20.2.2 c9_v_20).1)
                have x_MLT_p0_2 := ((hp_v_20.2.2 c9_v_20).2.1)
                refine lv_if_ne (tgt := 46) hx hb dX3_read_41 (by decide) (fun c_41 => ?_) (fun c_41 => ?_)
                · refine lv_iload hx hb dX3_read_46 (lv_at hl 0 rfl) ?_
                  have w_48 := r_vu_3
                  by_cases cl_48 : vu_3.toInt < 132 ∨ 136 < vu_3.toInt
                  · refine lv_tableOut (tgt := 147) hx hb dX3_read_48 cl_48 (by decide) ?_
                    refine lv_aload_n hx hb dX3_read_147 rfl (lv_at hl 1 rfl) ?_
                    refine lv_aload_n hx hb dX3_read_148 rfl (lv_at hl 2 rfl) ?_
                    refine lv_aload_n hx hb dX3_read_149 rfl (lv_at hl 3 rfl) ?_
                    refine lv_iload hx hb dX3_read_150 (lv_at hl 0 rfl) ?_
                    refine lv_sipush (v := 128) hx hb dX3_read_152 (by decide) ?_
                    refine lv_isub hx hb dX3_read_155 (lv_topi (fun v_23 e_v_23 => ?_))
                    obtain ⟨t_v_23, r_v_23⟩ := tq_sub (lo := 2) (hi := 2) r_vu_3 rl_128 (by decide +kernel) e_v_23
                    have t_v_23 : v_23.toInt = vu_3.toInt - 128 := t_v_23
                    refine tk_v (va_runV (As := [.ref p1, .ref p2, .int v_23]) (rest := []) ⟨hx, hb, hml, hown, hts⟩ (c_X3_readNamed__2 l D cy z H.size Ps ws hw.1 p0 p1 p2 v_23 h_p0 h_p1 h_p2 r_v_23 x_MLT_p0_2) (cwV 3 hts (gV tw_499 tw_501 ts_6 tw_11 tw_502) rfl rfl rfl (by decide +kernel) ⟨Nat.le_of_ble_eq_true rfl, Nat.le_of_ble_eq_true rfl⟩) (tg_preV hw hK hSD hA (ci := 3) (q := (RX3, TX3, 9)) rfl h_p0 rfl) rfl rfl hl.1 rfl (lv_room (Nat.le_of_ble_eq_true rfl)) dX3_read_156 ⟨Nat.le_of_ble_eq_true rfl, Nat.le_of_ble_eq_true rfl⟩) hw hA ⟨by decide, by decide⟩ (fun ws H locs hp_v_24 hw hF9 => ?_)
                    refine lv_aload_n hx hb dX3_read_159 rfl (lv_at hl 2 rfl) ?_
                    refine lv_bipush (v := 59) hx hb dX3_read_160 (by decide) ?_
                    refine tk_v (va_runV (As := [.int 59]) (rest := []) ⟨hx, hb, hml, hown, hts⟩ (c_X7_passOnly__2 l D cy z H.size Ps ws hw.1 p1 59 h_p1 (rl_59.to (by decide))) (cwV 1 hts (gV tw_513 tw_514 tw_515 tw_2 tw_516) rfl rfl rfl (by decide +kernel) ⟨Nat.le_of_ble_eq_true rfl, Nat.le_of_ble_eq_true rfl⟩) (tg_preV hw hK hSD hA (ci := 7) (q := (RX7, TX7, 12)) rfl h_p1 rfl) rfl rfl hl.1 rfl (lv_room (Nat.le_of_ble_eq_true rfl)) dX3_read_162 ⟨Nat.le_of_ble_eq_true rfl, Nat.le_of_ble_eq_true rfl⟩) hw hA ⟨by decide, by decide⟩ (fun ws H locs hp_v_25 hw hF9 => ?_)
                    obtain ⟨v_26, e_v_26⟩ : ∃ q9 : Int32, q9 = x3 + Int32.ofInt 1 := ⟨_, rfl⟩
                    obtain ⟨t_v_26, r_v_26⟩ := tq_add (lo := 1) (hi := 900) r_x3 (show RI (Int32.ofInt 1) 1 1 by unfold RI; decide +kernel) (by decide +kernel) e_v_26
                    have t_v_26 : v_26.toInt = x3.toInt + 1 := t_v_26
                    refine lv_iinc (v := v_26) (lv' := [(3, .int v_26), (4, .int vu_3), (0, .ref p0), (1, .ref p1), (2, .ref p2)]) hx hb dX3_read_165 hl (k := 4) rfl e_v_26.symm (by decide) rfl (fun ls hl => ?_)
                    refine lv_goto (tgt := 14) hx hb dX3_read_168 (by decide) ?_
                    exact ih14 v_26 ws _ _ ls (by have q0 := r_v_26.1; have u0 := r_v_26.2; have o0 := r_x3.1; have p0 := r_x3.2; omega) (r_v_26.to (by decide)) hw (lv_sub hl [2, 3, 4, 0] rfl)
                  · have e_48 : vu_3.toInt = 132 ∨ vu_3.toInt = 133 ∨ vu_3.toInt = 134 ∨ vu_3.toInt = 135 ∨ vu_3.toInt = 136 := by omega
                    rcases e_48 with h_48 | h_48 | h_48 | h_48 | h_48
                    · exact absurd h_48 (by unfold RI at w_48; omega)
                    · exact absurd h_48 (by unfold RI at w_48; omega)
                    · exact absurd h_48 (by unfold RI at w_48; omega)
                    · exact absurd h_48 (by unfold RI at w_48; omega)
                    · exact absurd h_48 (by unfold RI at w_48; omega)
                · have r_v_20 : RI v_20 1 0 := rc_eq1 r_v_20 rl_0 (ti_eq c_41) (by decide)
                  exact (r_v_20.no (by decide)).elim
            · have r_vu_3 : RI vu_3 131 131 := h_9
              refine lv_aload_n hx hb dX3_read_34 rfl (lv_at hl 1 rfl) ?_
              refine lv_aload_n hx hb dX3_read_35 rfl (lv_at hl 2 rfl) ?_
              refine lv_iload hx hb dX3_read_36 (lv_at hl 0 rfl) ?_
              refine tk_i (va_runV (As := [.ref p1, .int vu_3]) (rest := []) ⟨hx, hb, hml, hown, hts⟩ (c_X3_beginsLine__5 l D cy z H.size Ps ws hw.1 p0 p1 vu_3 v_2 h_p0 h_p1 r_vu_3 r_v_2 m_v_2) (cwV 2 hts (gV tw_446 tw_448 ts_1 tw_11 tw_449) rfl rfl rfl (by decide +kernel) ⟨Nat.le_of_ble_eq_true rfl, Nat.le_of_ble_eq_true rfl⟩) (tg_preV hw hK hSD hA (ci := 3) (q := (RX3, TX3, 9)) rfl h_p0 rfl) rfl rfl hl.1 rfl (lv_room (Nat.le_of_ble_eq_true rfl)) dX3_read_38 ⟨Nat.le_of_ble_eq_true rfl, Nat.le_of_ble_eq_true rfl⟩) hw hA ⟨by decide, by decide⟩ (fun v_27 ws H locs hp_v_27 hw hF9 => ?_)
              have r_v_27 : RI v_27 0 1 := hp_v_27.1
              by_cases c9_v_27 : v_27 = 0
              · have r_v_27 : RI v_27 0 0 := by rw [c9_v_27]; exact rl_0
                obtain ⟨v_28, m_v_28, r_v_28⟩ := ((hp_v_27.2.1 c9_v_27).1)
                refine lv_if_ne (tgt := 46) hx hb dX3_read_41 (by decide) (fun c_41 => ?_) (fun c_41 => ?_)
                · exact absurd (r_v_27.eq.trans rl_0.eq.symm) ((ti_ne c_41))
                · refine lv_iconst (v := (-1)) hx hb dX3_read_44 (by decide) ?_
                  subst hQ
                  exact W.iret (v := (-1)) hx hb hr (fun t ht hW => ⟨⟨(-1), ws, rfl, ⟨⟨rl_m1.to (by decide), (fun _ => trivial), (fun h0 => trivial)⟩, hw.1, hw.2.2.2.2.1⟩, by rw [ht]; exact hw.2.1, va_K.moved hW.alike hK, hw.2.2.1⟩, hw.2.2.2.1.F ht⟩) hw.2.2.2.1.2.2 dX3_read_45
              · have r_v_27 : RI v_27 1 1 := rc_neL r_v_27 rl_0 (ti_ne c9_v_27) (by decide)
                obtain ⟨v_29, m_v_29, r_v_29⟩ := ((hp_v_27.2.2 c9_v_27).1)
                have x_MLT_p0_3 := ((hp_v_27.2.2 c9_v_27).2.1)
                refine lv_if_ne (tgt := 46) hx hb dX3_read_41 (by decide) (fun c_41 => ?_) (fun c_41 => ?_)
                · refine lv_iload hx hb dX3_read_46 (lv_at hl 0 rfl) ?_
                  have w_48 := r_vu_3
                  by_cases cl_48 : vu_3.toInt < 132 ∨ 136 < vu_3.toInt
                  · refine lv_tableOut (tgt := 147) hx hb dX3_read_48 cl_48 (by decide) ?_
                    refine lv_aload_n hx hb dX3_read_147 rfl (lv_at hl 1 rfl) ?_
                    refine lv_aload_n hx hb dX3_read_148 rfl (lv_at hl 2 rfl) ?_
                    refine lv_aload_n hx hb dX3_read_149 rfl (lv_at hl 3 rfl) ?_
                    refine lv_iload hx hb dX3_read_150 (lv_at hl 0 rfl) ?_
                    refine lv_sipush (v := 128) hx hb dX3_read_152 (by decide) ?_
                    refine lv_isub hx hb dX3_read_155 (lv_topi (fun v_30 e_v_30 => ?_))
                    obtain ⟨t_v_30, r_v_30⟩ := tq_sub (lo := 3) (hi := 3) r_vu_3 rl_128 (by decide +kernel) e_v_30
                    have t_v_30 : v_30.toInt = vu_3.toInt - 128 := t_v_30
                    refine tk_v (va_runV (As := [.ref p1, .ref p2, .int v_30]) (rest := []) ⟨hx, hb, hml, hown, hts⟩ (c_X3_readNamed__3 l D cy z H.size Ps ws hw.1 p0 p1 p2 v_30 h_p0 h_p1 h_p2 r_v_30 x_MLT_p0_3) (cwV 3 hts (gV tw_499 tw_501 ts_6 tw_11 tw_502) rfl rfl rfl (by decide +kernel) ⟨Nat.le_of_ble_eq_true rfl, Nat.le_of_ble_eq_true rfl⟩) (tg_preV hw hK hSD hA (ci := 3) (q := (RX3, TX3, 9)) rfl h_p0 rfl) rfl rfl hl.1 rfl (lv_room (Nat.le_of_ble_eq_true rfl)) dX3_read_156 ⟨Nat.le_of_ble_eq_true rfl, Nat.le_of_ble_eq_true rfl⟩) hw hA ⟨by decide, by decide⟩ (fun ws H locs hp_v_31 hw hF9 => ?_)
                    refine lv_aload_n hx hb dX3_read_159 rfl (lv_at hl 2 rfl) ?_
                    refine lv_bipush (v := 59) hx hb dX3_read_160 (by decide) ?_
                    refine tk_v (va_runV (As := [.int 59]) (rest := []) ⟨hx, hb, hml, hown, hts⟩ (c_X7_passOnly__2 l D cy z H.size Ps ws hw.1 p1 59 h_p1 (rl_59.to (by decide))) (cwV 1 hts (gV tw_513 tw_514 tw_515 tw_2 tw_516) rfl rfl rfl (by decide +kernel) ⟨Nat.le_of_ble_eq_true rfl, Nat.le_of_ble_eq_true rfl⟩) (tg_preV hw hK hSD hA (ci := 7) (q := (RX7, TX7, 12)) rfl h_p1 rfl) rfl rfl hl.1 rfl (lv_room (Nat.le_of_ble_eq_true rfl)) dX3_read_162 ⟨Nat.le_of_ble_eq_true rfl, Nat.le_of_ble_eq_true rfl⟩) hw hA ⟨by decide, by decide⟩ (fun ws H locs hp_v_32 hw hF9 => ?_)
                    obtain ⟨v_33, e_v_33⟩ : ∃ q9 : Int32, q9 = x3 + Int32.ofInt 1 := ⟨_, rfl⟩
                    obtain ⟨t_v_33, r_v_33⟩ := tq_add (lo := 1) (hi := 900) r_x3 (show RI (Int32.ofInt 1) 1 1 by unfold RI; decide +kernel) (by decide +kernel) e_v_33
                    have t_v_33 : v_33.toInt = x3.toInt + 1 := t_v_33
                    refine lv_iinc (v := v_33) (lv' := [(3, .int v_33), (4, .int vu_3), (0, .ref p0), (1, .ref p1), (2, .ref p2)]) hx hb dX3_read_165 hl (k := 4) rfl e_v_33.symm (by decide) rfl (fun ls hl => ?_)
                    refine lv_goto (tgt := 14) hx hb dX3_read_168 (by decide) ?_
                    exact ih14 v_33 ws _ _ ls (by have q0 := r_v_33.1; have u0 := r_v_33.2; have o0 := r_x3.1; have p0 := r_x3.2; omega) (r_v_33.to (by decide)) hw (lv_sub hl [2, 3, 4, 0] rfl)
                  · have e_48 : vu_3.toInt = 132 ∨ vu_3.toInt = 133 ∨ vu_3.toInt = 134 ∨ vu_3.toInt = 135 ∨ vu_3.toInt = 136 := by omega
                    rcases e_48 with h_48 | h_48 | h_48 | h_48 | h_48
                    · exact absurd h_48 (by unfold RI at w_48; omega)
                    · exact absurd h_48 (by unfold RI at w_48; omega)
                    · exact absurd h_48 (by unfold RI at w_48; omega)
                    · exact absurd h_48 (by unfold RI at w_48; omega)
                    · exact absurd h_48 (by unfold RI at w_48; omega)
                · have r_v_27 : RI v_27 1 0 := rc_eq1 r_v_27 rl_0 (ti_eq c_41) (by decide)
                  exact (r_v_27.no (by decide)).elim
            · have r_vu_3 : RI vu_3 132 132 := h_9
              refine lv_aload_n hx hb dX3_read_34 rfl (lv_at hl 1 rfl) ?_
              refine lv_aload_n hx hb dX3_read_35 rfl (lv_at hl 2 rfl) ?_
              refine lv_iload hx hb dX3_read_36 (lv_at hl 0 rfl) ?_
              refine tk_i (va_runV (As := [.ref p1, .int vu_3]) (rest := []) ⟨hx, hb, hml, hown, hts⟩ (c_X3_beginsLine__6 l D cy z H.size Ps ws hw.1 p0 p1 vu_3 v_2 h_p0 h_p1 r_vu_3 r_v_2 m_v_2) (cwV 2 hts (gV tw_446 tw_448 ts_1 tw_11 tw_449) rfl rfl rfl (by decide +kernel) ⟨Nat.le_of_ble_eq_true rfl, Nat.le_of_ble_eq_true rfl⟩) (tg_preV hw hK hSD hA (ci := 3) (q := (RX3, TX3, 9)) rfl h_p0 rfl) rfl rfl hl.1 rfl (lv_room (Nat.le_of_ble_eq_true rfl)) dX3_read_38 ⟨Nat.le_of_ble_eq_true rfl, Nat.le_of_ble_eq_true rfl⟩) hw hA ⟨by decide, by decide⟩ (fun v_34 ws H locs hp_v_34 hw hF9 => ?_)
              have m_v_2 := FLD.over hF9 m_v_2 (by decide)
              have r_v_34 : RI v_34 1 1 := hp_v_34.1
              by_cases c9_v_34 : v_34 = 0
              · exact absurd (ti_eq c9_v_34) (by unfold RI at r_v_34; rw [Int32.toInt_zero]; omega)
              · obtain ⟨v_35, m_v_35, r_v_35⟩ := ((hp_v_34.2.2 c9_v_34).1)
                refine lv_if_ne (tgt := 46) hx hb dX3_read_41 (by decide) (fun c_41 => ?_) (fun c_41 => ?_)
                · refine lv_iload hx hb dX3_read_46 (lv_at hl 0 rfl) ?_
                  have w_48 := r_vu_3
                  by_cases cl_48 : vu_3.toInt < 132 ∨ 136 < vu_3.toInt
                  · refine lv_tableOut (tgt := 147) hx hb dX3_read_48 cl_48 (by decide) ?_
                    exact absurd cl_48 (by unfold RI at w_48; omega)
                  · have e_48 : vu_3.toInt = 132 ∨ vu_3.toInt = 133 ∨ vu_3.toInt = 134 ∨ vu_3.toInt = 135 ∨ vu_3.toInt = 136 := by omega
                    rcases e_48 with h_48 | h_48 | h_48 | h_48 | h_48
                    · refine lv_tableIn (tgt := 84) (off := 36) hx hb dX3_read_48 (by omega) (by omega) (by rw [h_48]; rfl) (by decide) ?_
                      have r_vu_3 : RI vu_3 132 132 := ⟨by omega, by omega⟩
                      refine lv_aload_n hx hb dX3_read_84 rfl (lv_at hl 1 rfl) ?_
                      refine lv_aload_n hx hb dX3_read_85 rfl (lv_at hl 2 rfl) ?_
                      refine lv_aload_n hx hb dX3_read_86 rfl (lv_at hl 3 rfl) ?_
                      refine tk_v (va_runV (As := [.ref p1, .ref p2]) (rest := []) ⟨hx, hb, hml, hown, hts⟩ (c_X3_readSits l D cy z H.size Ps ws hw.1 p0 p1 p2 h_p0 h_p1 h_p2) (cwV 2 hts (gV tw_452 tw_454 ts_2 tw_11 tw_455) rfl rfl rfl (by decide +kernel) ⟨Nat.le_of_ble_eq_true rfl, Nat.le_of_ble_eq_true rfl⟩) (tg_preV hw hK hSD hA (ci := 3) (q := (RX3, TX3, 9)) rfl h_p0 rfl) rfl rfl hl.1 rfl (lv_room (Nat.le_of_ble_eq_true rfl)) dX3_read_87 ⟨Nat.le_of_ble_eq_true rfl, Nat.le_of_ble_eq_true rfl⟩) hw hA ⟨by decide, by decide⟩ (fun ws H locs hp_v_36 hw hF9 => ?_)
                      refine lv_goto (tgt := 159) hx hb dX3_read_90 (by decide) ?_
                      refine lv_aload_n hx hb dX3_read_159 rfl (lv_at hl 2 rfl) ?_
                      refine lv_bipush (v := 59) hx hb dX3_read_160 (by decide) ?_
                      refine tk_v (va_runV (As := [.int 59]) (rest := []) ⟨hx, hb, hml, hown, hts⟩ (c_X7_passOnly__2 l D cy z H.size Ps ws hw.1 p1 59 h_p1 (rl_59.to (by decide))) (cwV 1 hts (gV tw_513 tw_514 tw_515 tw_2 tw_516) rfl rfl rfl (by decide +kernel) ⟨Nat.le_of_ble_eq_true rfl, Nat.le_of_ble_eq_true rfl⟩) (tg_preV hw hK hSD hA (ci := 7) (q := (RX7, TX7, 12)) rfl h_p1 rfl) rfl rfl hl.1 rfl (lv_room (Nat.le_of_ble_eq_true rfl)) dX3_read_162 ⟨Nat.le_of_ble_eq_true rfl, Nat.le_of_ble_eq_true rfl⟩) hw hA ⟨by decide, by decide⟩ (fun ws H locs hp_v_37 hw hF9 => ?_)
                      obtain ⟨v_38, e_v_38⟩ : ∃ q9 : Int32, q9 = x3 + Int32.ofInt 1 := ⟨_, rfl⟩
                      obtain ⟨t_v_38, r_v_38⟩ := tq_add (lo := 1) (hi := 900) r_x3 (show RI (Int32.ofInt 1) 1 1 by unfold RI; decide +kernel) (by decide +kernel) e_v_38
                      have t_v_38 : v_38.toInt = x3.toInt + 1 := t_v_38
                      refine lv_iinc (v := v_38) (lv' := [(3, .int v_38), (4, .int vu_3), (0, .ref p0), (1, .ref p1), (2, .ref p2)]) hx hb dX3_read_165 hl (k := 4) rfl e_v_38.symm (by decide) rfl (fun ls hl => ?_)
                      refine lv_goto (tgt := 14) hx hb dX3_read_168 (by decide) ?_
                      exact ih14 v_38 ws _ _ ls (by have q0 := r_v_38.1; have u0 := r_v_38.2; have o0 := r_x3.1; have p0 := r_x3.2; omega) (r_v_38.to (by decide)) hw (lv_sub hl [2, 3, 4, 0] rfl)
                    · exact absurd h_48 (by unfold RI at w_48; omega)
                    · exact absurd h_48 (by unfold RI at w_48; omega)
                    · exact absurd h_48 (by unfold RI at w_48; omega)
                    · exact absurd h_48 (by unfold RI at w_48; omega)
                · have r_v_34 : RI v_34 1 0 := rc_eq1 r_v_34 rl_0 (ti_eq c_41) (by decide)
                  exact (r_v_34.no (by decide)).elim
            · have r_vu_3 : RI vu_3 133 133 := h_9
              refine lv_aload_n hx hb dX3_read_34 rfl (lv_at hl 1 rfl) ?_
              refine lv_aload_n hx hb dX3_read_35 rfl (lv_at hl 2 rfl) ?_
              refine lv_iload hx hb dX3_read_36 (lv_at hl 0 rfl) ?_
              refine tk_i (va_runV (As := [.ref p1, .int vu_3]) (rest := []) ⟨hx, hb, hml, hown, hts⟩ (c_X3_beginsLine__7 l D cy z H.size Ps ws hw.1 p0 p1 vu_3 v_2 h_p0 h_p1 r_vu_3 r_v_2 m_v_2) (cwV 2 hts (gV tw_446 tw_448 ts_1 tw_11 tw_449) rfl rfl rfl (by decide +kernel) ⟨Nat.le_of_ble_eq_true rfl, Nat.le_of_ble_eq_true rfl⟩) (tg_preV hw hK hSD hA (ci := 3) (q := (RX3, TX3, 9)) rfl h_p0 rfl) rfl rfl hl.1 rfl (lv_room (Nat.le_of_ble_eq_true rfl)) dX3_read_38 ⟨Nat.le_of_ble_eq_true rfl, Nat.le_of_ble_eq_true rfl⟩) hw hA ⟨by decide, by decide⟩ (fun v_39 ws H locs hp_v_39 hw hF9 => ?_)
              have m_v_2 := FLD.over hF9 m_v_2 (by decide)
              have r_v_39 : RI v_39 1 1 := hp_v_39.1
              by_cases c9_v_39 : v_39 = 0
              · exact absurd (ti_eq c9_v_39) (by unfold RI at r_v_39; rw [Int32.toInt_zero]; omega)
              · obtain ⟨v_40, m_v_40, r_v_40⟩ := ((hp_v_39.2.2 c9_v_39).1)
                refine lv_if_ne (tgt := 46) hx hb dX3_read_41 (by decide) (fun c_41 => ?_) (fun c_41 => ?_)
                · refine lv_iload hx hb dX3_read_46 (lv_at hl 0 rfl) ?_
                  have w_48 := r_vu_3
                  by_cases cl_48 : vu_3.toInt < 132 ∨ 136 < vu_3.toInt
                  · refine lv_tableOut (tgt := 147) hx hb dX3_read_48 cl_48 (by decide) ?_
                    exact absurd cl_48 (by unfold RI at w_48; omega)
                  · have e_48 : vu_3.toInt = 132 ∨ vu_3.toInt = 133 ∨ vu_3.toInt = 134 ∨ vu_3.toInt = 135 ∨ vu_3.toInt = 136 := by omega
                    rcases e_48 with h_48 | h_48 | h_48 | h_48 | h_48
                    · exact absurd h_48 (by unfold RI at w_48; omega)
                    · refine lv_tableIn (tgt := 93) (off := 45) hx hb dX3_read_48 (by omega) (by omega) (by rw [h_48]; rfl) (by decide) ?_
                      have r_vu_3 : RI vu_3 133 133 := ⟨by omega, by omega⟩
                      refine lv_aload_n hx hb dX3_read_93 rfl (lv_at hl 1 rfl) ?_
                      refine lv_aload_n hx hb dX3_read_94 rfl (lv_at hl 2 rfl) ?_
                      refine lv_aload_n hx hb dX3_read_95 rfl (lv_at hl 3 rfl) ?_
                      refine tk_v (va_runV (As := [.ref p1, .ref p2]) (rest := []) ⟨hx, hb, hml, hown, hts⟩ (c_X3_readHas l D cy z H.size Ps ws hw.1 p0 p1 p2 h_p0 h_p1 h_p2) (cwV 2 hts (gV tw_469 tw_471 ts_3 tw_11 tw_472) rfl rfl rfl (by decide +kernel) ⟨Nat.le_of_ble_eq_true rfl, Nat.le_of_ble_eq_true rfl⟩) (tg_preV hw hK hSD hA (ci := 3) (q := (RX3, TX3, 9)) rfl h_p0 rfl) rfl rfl hl.1 rfl (lv_room (Nat.le_of_ble_eq_true rfl)) dX3_read_96 ⟨Nat.le_of_ble_eq_true rfl, Nat.le_of_ble_eq_true rfl⟩) hw hA ⟨by decide, by decide⟩ (fun ws H locs hp_v_41 hw hF9 => ?_)
                      refine lv_goto (tgt := 159) hx hb dX3_read_99 (by decide) ?_
                      refine lv_aload_n hx hb dX3_read_159 rfl (lv_at hl 2 rfl) ?_
                      refine lv_bipush (v := 59) hx hb dX3_read_160 (by decide) ?_
                      refine tk_v (va_runV (As := [.int 59]) (rest := []) ⟨hx, hb, hml, hown, hts⟩ (c_X7_passOnly__2 l D cy z H.size Ps ws hw.1 p1 59 h_p1 (rl_59.to (by decide))) (cwV 1 hts (gV tw_513 tw_514 tw_515 tw_2 tw_516) rfl rfl rfl (by decide +kernel) ⟨Nat.le_of_ble_eq_true rfl, Nat.le_of_ble_eq_true rfl⟩) (tg_preV hw hK hSD hA (ci := 7) (q := (RX7, TX7, 12)) rfl h_p1 rfl) rfl rfl hl.1 rfl (lv_room (Nat.le_of_ble_eq_true rfl)) dX3_read_162 ⟨Nat.le_of_ble_eq_true rfl, Nat.le_of_ble_eq_true rfl⟩) hw hA ⟨by decide, by decide⟩ (fun ws H locs hp_v_42 hw hF9 => ?_)
                      obtain ⟨v_43, e_v_43⟩ : ∃ q9 : Int32, q9 = x3 + Int32.ofInt 1 := ⟨_, rfl⟩
                      obtain ⟨t_v_43, r_v_43⟩ := tq_add (lo := 1) (hi := 900) r_x3 (show RI (Int32.ofInt 1) 1 1 by unfold RI; decide +kernel) (by decide +kernel) e_v_43
                      have t_v_43 : v_43.toInt = x3.toInt + 1 := t_v_43
                      refine lv_iinc (v := v_43) (lv' := [(3, .int v_43), (4, .int vu_3), (0, .ref p0), (1, .ref p1), (2, .ref p2)]) hx hb dX3_read_165 hl (k := 4) rfl e_v_43.symm (by decide) rfl (fun ls hl => ?_)
                      refine lv_goto (tgt := 14) hx hb dX3_read_168 (by decide) ?_
                      exact ih14 v_43 ws _ _ ls (by have q0 := r_v_43.1; have u0 := r_v_43.2; have o0 := r_x3.1; have p0 := r_x3.2; omega) (r_v_43.to (by decide)) hw (lv_sub hl [2, 3, 4, 0] rfl)
                    · exact absurd h_48 (by unfold RI at w_48; omega)
                    · exact absurd h_48 (by unfold RI at w_48; omega)
                    · exact absurd h_48 (by unfold RI at w_48; omega)
                · have r_v_39 : RI v_39 1 0 := rc_eq1 r_v_39 rl_0 (ti_eq c_41) (by decide)
                  exact (r_v_39.no (by decide)).elim
            · have r_vu_3 : RI vu_3 134 134 := h_9
              refine lv_aload_n hx hb dX3_read_34 rfl (lv_at hl 1 rfl) ?_
              refine lv_aload_n hx hb dX3_read_35 rfl (lv_at hl 2 rfl) ?_
              refine lv_iload hx hb dX3_read_36 (lv_at hl 0 rfl) ?_
              refine tk_i (va_runV (As := [.ref p1, .int vu_3]) (rest := []) ⟨hx, hb, hml, hown, hts⟩ (c_X3_beginsLine__8 l D cy z H.size Ps ws hw.1 p0 p1 vu_3 v_2 h_p0 h_p1 r_vu_3 r_v_2 m_v_2) (cwV 2 hts (gV tw_446 tw_448 ts_1 tw_11 tw_449) rfl rfl rfl (by decide +kernel) ⟨Nat.le_of_ble_eq_true rfl, Nat.le_of_ble_eq_true rfl⟩) (tg_preV hw hK hSD hA (ci := 3) (q := (RX3, TX3, 9)) rfl h_p0 rfl) rfl rfl hl.1 rfl (lv_room (Nat.le_of_ble_eq_true rfl)) dX3_read_38 ⟨Nat.le_of_ble_eq_true rfl, Nat.le_of_ble_eq_true rfl⟩) hw hA ⟨by decide, by decide⟩ (fun v_44 ws H locs hp_v_44 hw hF9 => ?_)
              have m_v_2 := FLD.over hF9 m_v_2 (by decide)
              have r_v_44 : RI v_44 1 1 := hp_v_44.1
              by_cases c9_v_44 : v_44 = 0
              · exact absurd (ti_eq c9_v_44) (by unfold RI at r_v_44; rw [Int32.toInt_zero]; omega)
              · obtain ⟨v_45, m_v_45, r_v_45⟩ := ((hp_v_44.2.2 c9_v_44).1)
                refine lv_if_ne (tgt := 46) hx hb dX3_read_41 (by decide) (fun c_41 => ?_) (fun c_41 => ?_)
                · refine lv_iload hx hb dX3_read_46 (lv_at hl 0 rfl) ?_
                  have w_48 := r_vu_3
                  by_cases cl_48 : vu_3.toInt < 132 ∨ 136 < vu_3.toInt
                  · refine lv_tableOut (tgt := 147) hx hb dX3_read_48 cl_48 (by decide) ?_
                    exact absurd cl_48 (by unfold RI at w_48; omega)
                  · have e_48 : vu_3.toInt = 132 ∨ vu_3.toInt = 133 ∨ vu_3.toInt = 134 ∨ vu_3.toInt = 135 ∨ vu_3.toInt = 136 := by omega
                    rcases e_48 with h_48 | h_48 | h_48 | h_48 | h_48
                    · exact absurd h_48 (by unfold RI at w_48; omega)
                    · exact absurd h_48 (by unfold RI at w_48; omega)
                    · refine lv_tableIn (tgt := 102) (off := 54) hx hb dX3_read_48 (by omega) (by omega) (by rw [h_48]; rfl) (by decide) ?_
                      have r_vu_3 : RI vu_3 134 134 := ⟨by omega, by omega⟩
                      refine lv_aload_n hx hb dX3_read_102 rfl (lv_at hl 1 rfl) ?_
                      refine lv_aload_n hx hb dX3_read_103 rfl (lv_at hl 2 rfl) ?_
                      refine tk_v (va_runV (As := [.ref p1]) (rest := []) ⟨hx, hb, hml, hown, hts⟩ (c_X3_readQuarrel l D cy z H.size Ps ws hw.1 p0 p1 h_p0 h_p1) (cwV 1 hts (gV tw_491 tw_493 ts_4 tw_11 tw_494) rfl rfl rfl (by decide +kernel) ⟨Nat.le_of_ble_eq_true rfl, Nat.le_of_ble_eq_true rfl⟩) (tg_preV hw hK hSD hA (ci := 3) (q := (RX3, TX3, 9)) rfl h_p0 rfl) rfl rfl hl.1 rfl (lv_room (Nat.le_of_ble_eq_true rfl)) dX3_read_104 ⟨Nat.le_of_ble_eq_true rfl, Nat.le_of_ble_eq_true rfl⟩) hw hA ⟨by decide, by decide⟩ (fun ws H locs hp_v_46 hw hF9 => ?_)
                      refine lv_goto (tgt := 159) hx hb dX3_read_107 (by decide) ?_
                      refine lv_aload_n hx hb dX3_read_159 rfl (lv_at hl 2 rfl) ?_
                      refine lv_bipush (v := 59) hx hb dX3_read_160 (by decide) ?_
                      refine tk_v (va_runV (As := [.int 59]) (rest := []) ⟨hx, hb, hml, hown, hts⟩ (c_X7_passOnly__2 l D cy z H.size Ps ws hw.1 p1 59 h_p1 (rl_59.to (by decide))) (cwV 1 hts (gV tw_513 tw_514 tw_515 tw_2 tw_516) rfl rfl rfl (by decide +kernel) ⟨Nat.le_of_ble_eq_true rfl, Nat.le_of_ble_eq_true rfl⟩) (tg_preV hw hK hSD hA (ci := 7) (q := (RX7, TX7, 12)) rfl h_p1 rfl) rfl rfl hl.1 rfl (lv_room (Nat.le_of_ble_eq_true rfl)) dX3_read_162 ⟨Nat.le_of_ble_eq_true rfl, Nat.le_of_ble_eq_true rfl⟩) hw hA ⟨by decide, by decide⟩ (fun ws H locs hp_v_47 hw hF9 => ?_)
                      obtain ⟨v_48, e_v_48⟩ : ∃ q9 : Int32, q9 = x3 + Int32.ofInt 1 := ⟨_, rfl⟩
                      obtain ⟨t_v_48, r_v_48⟩ := tq_add (lo := 1) (hi := 900) r_x3 (show RI (Int32.ofInt 1) 1 1 by unfold RI; decide +kernel) (by decide +kernel) e_v_48
                      have t_v_48 : v_48.toInt = x3.toInt + 1 := t_v_48
                      refine lv_iinc (v := v_48) (lv' := [(3, .int v_48), (4, .int vu_3), (0, .ref p0), (1, .ref p1), (2, .ref p2)]) hx hb dX3_read_165 hl (k := 4) rfl e_v_48.symm (by decide) rfl (fun ls hl => ?_)
                      refine lv_goto (tgt := 14) hx hb dX3_read_168 (by decide) ?_
                      exact ih14 v_48 ws _ _ ls (by have q0 := r_v_48.1; have u0 := r_v_48.2; have o0 := r_x3.1; have p0 := r_x3.2; omega) (r_v_48.to (by decide)) hw (lv_sub hl [2, 3, 4, 0] rfl)
                    · exact absurd h_48 (by unfold RI at w_48; omega)
                    · exact absurd h_48 (by unfold RI at w_48; omega)
                · have r_v_44 : RI v_44 1 0 := rc_eq1 r_v_44 rl_0 (ti_eq c_41) (by decide)
                  exact (r_v_44.no (by decide)).elim
            · have r_vu_3 : RI vu_3 135 135 := h_9
              refine lv_aload_n hx hb dX3_read_34 rfl (lv_at hl 1 rfl) ?_
              refine lv_aload_n hx hb dX3_read_35 rfl (lv_at hl 2 rfl) ?_
              refine lv_iload hx hb dX3_read_36 (lv_at hl 0 rfl) ?_
              refine tk_i (va_runV (As := [.ref p1, .int vu_3]) (rest := []) ⟨hx, hb, hml, hown, hts⟩ (c_X3_beginsLine__9 l D cy z H.size Ps ws hw.1 p0 p1 vu_3 v_2 h_p0 h_p1 r_vu_3 r_v_2 m_v_2) (cwV 2 hts (gV tw_446 tw_448 ts_1 tw_11 tw_449) rfl rfl rfl (by decide +kernel) ⟨Nat.le_of_ble_eq_true rfl, Nat.le_of_ble_eq_true rfl⟩) (tg_preV hw hK hSD hA (ci := 3) (q := (RX3, TX3, 9)) rfl h_p0 rfl) rfl rfl hl.1 rfl (lv_room (Nat.le_of_ble_eq_true rfl)) dX3_read_38 ⟨Nat.le_of_ble_eq_true rfl, Nat.le_of_ble_eq_true rfl⟩) hw hA ⟨by decide, by decide⟩ (fun v_49 ws H locs hp_v_49 hw hF9 => ?_)
              have r_v_49 : RI v_49 0 1 := hp_v_49.1
              by_cases c9_v_49 : v_49 = 0
              · have r_v_49 : RI v_49 0 0 := by rw [c9_v_49]; exact rl_0
                obtain ⟨v_50, m_v_50, r_v_50⟩ := ((hp_v_49.2.1 c9_v_49).1)
                refine lv_if_ne (tgt := 46) hx hb dX3_read_41 (by decide) (fun c_41 => ?_) (fun c_41 => ?_)
                · exact absurd (r_v_49.eq.trans rl_0.eq.symm) ((ti_ne c_41))
                · refine lv_iconst (v := (-1)) hx hb dX3_read_44 (by decide) ?_
                  subst hQ
                  exact W.iret (v := (-1)) hx hb hr (fun t ht hW => ⟨⟨(-1), ws, rfl, ⟨⟨rl_m1.to (by decide), (fun _ => trivial), (fun h0 => trivial)⟩, hw.1, hw.2.2.2.2.1⟩, by rw [ht]; exact hw.2.1, va_K.moved hW.alike hK, hw.2.2.1⟩, hw.2.2.2.1.F ht⟩) hw.2.2.2.1.2.2 dX3_read_45
              · have r_v_49 : RI v_49 1 1 := rc_neL r_v_49 rl_0 (ti_ne c9_v_49) (by decide)
                obtain ⟨v_51, m_v_51, r_v_51⟩ := ((hp_v_49.2.2 c9_v_49).1)
                refine lv_if_ne (tgt := 46) hx hb dX3_read_41 (by decide) (fun c_41 => ?_) (fun c_41 => ?_)
                · refine lv_iload hx hb dX3_read_46 (lv_at hl 0 rfl) ?_
                  have w_48 := r_vu_3
                  by_cases cl_48 : vu_3.toInt < 132 ∨ 136 < vu_3.toInt
                  · refine lv_tableOut (tgt := 147) hx hb dX3_read_48 cl_48 (by decide) ?_
                    exact absurd cl_48 (by unfold RI at w_48; omega)
                  · have e_48 : vu_3.toInt = 132 ∨ vu_3.toInt = 133 ∨ vu_3.toInt = 134 ∨ vu_3.toInt = 135 ∨ vu_3.toInt = 136 := by omega
                    rcases e_48 with h_48 | h_48 | h_48 | h_48 | h_48
                    · exact absurd h_48 (by unfold RI at w_48; omega)
                    · exact absurd h_48 (by unfold RI at w_48; omega)
                    · exact absurd h_48 (by unfold RI at w_48; omega)
                    · refine lv_tableIn (tgt := 110) (off := 62) hx hb dX3_read_48 (by omega) (by omega) (by rw [h_48]; rfl) (by decide) ?_
                      have r_vu_3 : RI vu_3 135 135 := ⟨by omega, by omega⟩
                      refine lv_aload_n hx hb dX3_read_110 rfl (lv_at hl 1 rfl) ?_
                      refine lv_aload_n hx hb dX3_read_111 rfl (lv_at hl 2 rfl) ?_
                      refine lv_iconst (v := 0) hx hb dX3_read_112 (by decide) ?_
                      refine lv_iconst (v := 5) hx hb dX3_read_113 (by decide) ?_
                      refine tk_i (va_runV (As := [.int 0, .int 5]) (rest := [.ref p0]) ⟨hx, hb, hml, hown, hts⟩ (c_X7_takeNumber__2 l D cy z H.size Ps ws hw.1 p1 0 5 v_51 h_p1 (rl_0.to (by decide)) (rl_5.to (by decide)) r_v_51 m_v_51) (cwV 2 hts (gV tw_477 tw_478 tw_479 tw_2 tw_480) rfl rfl rfl (by decide +kernel) ⟨Nat.le_of_ble_eq_true rfl, Nat.le_of_ble_eq_true rfl⟩) (tg_preV hw hK hSD hA (ci := 7) (q := (RX7, TX7, 12)) rfl h_p1 rfl) rfl rfl hl.1 rfl (lv_room (Nat.le_of_ble_eq_true rfl)) dX3_read_114 ⟨Nat.le_of_ble_eq_true rfl, Nat.le_of_ble_eq_true rfl⟩) hw hA ⟨by decide, by decide⟩ (fun v_52 ws H locs hp_v_52 hw hF9 => ?_)
                      have r_v_52 : RI v_52 (-2147483648) 2147483647 := hp_v_52.1
                      refine tg_put (ci := 3) (ts := ty_POST) (v := .int v_52) (ty := .int) (C := RX3) (T := TX3) (N := 9) hx hb hts inX3 tyX3 tyX3_ok nmX3 hown hK hw h_p0 rfl rfl 5 (by decide) (hts _ tw_213) (fun _ h9 => h9) rfl (by decide +kernel) rfl rfl (ft := vI (-2147483648) 2147483647) rfl ⟨_, rfl, r_v_52⟩ (by decide) dX3_read_117 (fun ws H locs hw n_k_53 hF9 => ?_)
                      refine lv_aload_n hx hb dX3_read_120 rfl (lv_at hl 1 rfl) ?_
                      refine lv_iconst (v := 1) hx hb dX3_read_121 (by decide) ?_
                      refine tg_put (ci := 3) (ts := ty_POST) (v := .int 1) (ty := .boolean) (C := RX3) (T := TX3) (N := 9) hx hb hts inX3 tyX3 tyX3_ok nmX3 hown hK hw h_p0 rfl rfl 7 (by decide) (hts _ tw_219) (fun _ h9 => h9) rfl (by decide +kernel) rfl rfl (ft := vI 0 1) rfl ⟨_, rfl, (rl_1.to (by decide))⟩ (by decide) dX3_read_122 (fun ws H locs hw n_k_54 hF9 => ?_)
                      have n_k_53 := FLD.over hF9 n_k_53 (by decide)
                      refine lv_goto (tgt := 159) hx hb dX3_read_125 (by decide) ?_
                      refine lv_aload_n hx hb dX3_read_159 rfl (lv_at hl 2 rfl) ?_
                      refine lv_bipush (v := 59) hx hb dX3_read_160 (by decide) ?_
                      refine tk_v (va_runV (As := [.int 59]) (rest := []) ⟨hx, hb, hml, hown, hts⟩ (c_X7_passOnly__2 l D cy z H.size Ps ws hw.1 p1 59 h_p1 (rl_59.to (by decide))) (cwV 1 hts (gV tw_513 tw_514 tw_515 tw_2 tw_516) rfl rfl rfl (by decide +kernel) ⟨Nat.le_of_ble_eq_true rfl, Nat.le_of_ble_eq_true rfl⟩) (tg_preV hw hK hSD hA (ci := 7) (q := (RX7, TX7, 12)) rfl h_p1 rfl) rfl rfl hl.1 rfl (lv_room (Nat.le_of_ble_eq_true rfl)) dX3_read_162 ⟨Nat.le_of_ble_eq_true rfl, Nat.le_of_ble_eq_true rfl⟩) hw hA ⟨by decide, by decide⟩ (fun ws H locs hp_v_55 hw hF9 => ?_)
                      have n_k_53 := FLD.over hF9 n_k_53 (by decide)
                      have n_k_54 := FLD.over hF9 n_k_54 (by decide)
                      obtain ⟨v_56, e_v_56⟩ : ∃ q9 : Int32, q9 = x3 + Int32.ofInt 1 := ⟨_, rfl⟩
                      obtain ⟨t_v_56, r_v_56⟩ := tq_add (lo := 1) (hi := 900) r_x3 (show RI (Int32.ofInt 1) 1 1 by unfold RI; decide +kernel) (by decide +kernel) e_v_56
                      have t_v_56 : v_56.toInt = x3.toInt + 1 := t_v_56
                      refine lv_iinc (v := v_56) (lv' := [(3, .int v_56), (4, .int vu_3), (0, .ref p0), (1, .ref p1), (2, .ref p2)]) hx hb dX3_read_165 hl (k := 4) rfl e_v_56.symm (by decide) rfl (fun ls hl => ?_)
                      refine lv_goto (tgt := 14) hx hb dX3_read_168 (by decide) ?_
                      exact ih14 v_56 ws _ _ ls (by have q0 := r_v_56.1; have u0 := r_v_56.2; have o0 := r_x3.1; have p0 := r_x3.2; omega) (r_v_56.to (by decide)) hw (lv_sub hl [2, 3, 4, 0] rfl)
                    · exact absurd h_48 (by unfold RI at w_48; omega)
                · have r_v_49 : RI v_49 1 0 := rc_eq1 r_v_49 rl_0 (ti_eq c_41) (by decide)
                  exact (r_v_49.no (by decide)).elim
            · have r_vu_3 : RI vu_3 136 136 := h_9
              refine lv_aload_n hx hb dX3_read_34 rfl (lv_at hl 1 rfl) ?_
              refine lv_aload_n hx hb dX3_read_35 rfl (lv_at hl 2 rfl) ?_
              refine lv_iload hx hb dX3_read_36 (lv_at hl 0 rfl) ?_
              refine tk_i (va_runV (As := [.ref p1, .int vu_3]) (rest := []) ⟨hx, hb, hml, hown, hts⟩ (c_X3_beginsLine__10 l D cy z H.size Ps ws hw.1 p0 p1 vu_3 v_2 h_p0 h_p1 r_vu_3 r_v_2 m_v_2) (cwV 2 hts (gV tw_446 tw_448 ts_1 tw_11 tw_449) rfl rfl rfl (by decide +kernel) ⟨Nat.le_of_ble_eq_true rfl, Nat.le_of_ble_eq_true rfl⟩) (tg_preV hw hK hSD hA (ci := 3) (q := (RX3, TX3, 9)) rfl h_p0 rfl) rfl rfl hl.1 rfl (lv_room (Nat.le_of_ble_eq_true rfl)) dX3_read_38 ⟨Nat.le_of_ble_eq_true rfl, Nat.le_of_ble_eq_true rfl⟩) hw hA ⟨by decide, by decide⟩ (fun v_57 ws H locs hp_v_57 hw hF9 => ?_)
              have r_v_57 : RI v_57 0 1 := hp_v_57.1
              by_cases c9_v_57 : v_57 = 0
              · have r_v_57 : RI v_57 0 0 := by rw [c9_v_57]; exact rl_0
                obtain ⟨v_58, m_v_58, r_v_58⟩ := ((hp_v_57.2.1 c9_v_57).1)
                refine lv_if_ne (tgt := 46) hx hb dX3_read_41 (by decide) (fun c_41 => ?_) (fun c_41 => ?_)
                · exact absurd (r_v_57.eq.trans rl_0.eq.symm) ((ti_ne c_41))
                · refine lv_iconst (v := (-1)) hx hb dX3_read_44 (by decide) ?_
                  subst hQ
                  exact W.iret (v := (-1)) hx hb hr (fun t ht hW => ⟨⟨(-1), ws, rfl, ⟨⟨rl_m1.to (by decide), (fun _ => trivial), (fun h0 => trivial)⟩, hw.1, hw.2.2.2.2.1⟩, by rw [ht]; exact hw.2.1, va_K.moved hW.alike hK, hw.2.2.1⟩, hw.2.2.2.1.F ht⟩) hw.2.2.2.1.2.2 dX3_read_45
              · have r_v_57 : RI v_57 1 1 := rc_neL r_v_57 rl_0 (ti_ne c9_v_57) (by decide)
                obtain ⟨v_59, m_v_59, r_v_59⟩ := ((hp_v_57.2.2 c9_v_57).1)
                refine lv_if_ne (tgt := 46) hx hb dX3_read_41 (by decide) (fun c_41 => ?_) (fun c_41 => ?_)
                · refine lv_iload hx hb dX3_read_46 (lv_at hl 0 rfl) ?_
                  have w_48 := r_vu_3
                  by_cases cl_48 : vu_3.toInt < 132 ∨ 136 < vu_3.toInt
                  · refine lv_tableOut (tgt := 147) hx hb dX3_read_48 cl_48 (by decide) ?_
                    exact absurd cl_48 (by unfold RI at w_48; omega)
                  · have e_48 : vu_3.toInt = 132 ∨ vu_3.toInt = 133 ∨ vu_3.toInt = 134 ∨ vu_3.toInt = 135 ∨ vu_3.toInt = 136 := by omega
                    rcases e_48 with h_48 | h_48 | h_48 | h_48 | h_48
                    · exact absurd h_48 (by unfold RI at w_48; omega)
                    · exact absurd h_48 (by unfold RI at w_48; omega)
                    · exact absurd h_48 (by unfold RI at w_48; omega)
                    · exact absurd h_48 (by unfold RI at w_48; omega)
                    · refine lv_tableIn (tgt := 128) (off := 80) hx hb dX3_read_48 (by omega) (by omega) (by rw [h_48]; rfl) (by decide) ?_
                      have r_vu_3 : RI vu_3 136 136 := ⟨by omega, by omega⟩
                      refine lv_aload_n hx hb dX3_read_128 rfl (lv_at hl 1 rfl) ?_
                      refine lv_aload_n hx hb dX3_read_129 rfl (lv_at hl 2 rfl) ?_
                      refine lv_iconst (v := 1) hx hb dX3_read_130 (by decide) ?_
                      refine lv_bipush (v := 20) hx hb dX3_read_131 (by decide) ?_
                      refine tk_i (va_runV (As := [.int 1, .int 20]) (rest := [.ref p0]) ⟨hx, hb, hml, hown, hts⟩ (c_X7_takeNumber__2 l D cy z H.size Ps ws hw.1 p1 1 20 v_59 h_p1 (rl_1.to (by decide)) (rl_20.to (by decide)) r_v_59 m_v_59) (cwV 2 hts (gV tw_477 tw_478 tw_479 tw_2 tw_480) rfl rfl rfl (by decide +kernel) ⟨Nat.le_of_ble_eq_true rfl, Nat.le_of_ble_eq_true rfl⟩) (tg_preV hw hK hSD hA (ci := 7) (q := (RX7, TX7, 12)) rfl h_p1 rfl) rfl rfl hl.1 rfl (lv_room (Nat.le_of_ble_eq_true rfl)) dX3_read_133 ⟨Nat.le_of_ble_eq_true rfl, Nat.le_of_ble_eq_true rfl⟩) hw hA ⟨by decide, by decide⟩ (fun v_60 ws H locs hp_v_60 hw hF9 => ?_)
                      have r_v_60 : RI v_60 (-2147483648) 2147483647 := hp_v_60.1
                      refine tg_put (ci := 3) (ts := ty_POST) (v := .int v_60) (ty := .int) (C := RX3) (T := TX3) (N := 9) hx hb hts inX3 tyX3 tyX3_ok nmX3 hown hK hw h_p0 rfl rfl 6 (by decide) (hts _ tw_216) (fun _ h9 => h9) rfl (by decide +kernel) rfl rfl (ft := vI (-2147483648) 2147483647) rfl ⟨_, rfl, r_v_60⟩ (by decide) dX3_read_136 (fun ws H locs hw n_k_61 hF9 => ?_)
                      refine lv_aload_n hx hb dX3_read_139 rfl (lv_at hl 1 rfl) ?_
                      refine lv_iconst (v := 1) hx hb dX3_read_140 (by decide) ?_
                      refine tg_put (ci := 3) (ts := ty_POST) (v := .int 1) (ty := .boolean) (C := RX3) (T := TX3) (N := 9) hx hb hts inX3 tyX3 tyX3_ok nmX3 hown hK hw h_p0 rfl rfl 8 (by decide) (hts _ tw_220) (fun _ h9 => h9) rfl (by decide +kernel) rfl rfl (ft := vI 0 1) rfl ⟨_, rfl, (rl_1.to (by decide))⟩ (by decide) dX3_read_141 (fun ws H locs hw n_k_62 hF9 => ?_)
                      have n_k_61 := FLD.over hF9 n_k_61 (by decide)
                      refine lv_goto (tgt := 159) hx hb dX3_read_144 (by decide) ?_
                      refine lv_aload_n hx hb dX3_read_159 rfl (lv_at hl 2 rfl) ?_
                      refine lv_bipush (v := 59) hx hb dX3_read_160 (by decide) ?_
                      refine tk_v (va_runV (As := [.int 59]) (rest := []) ⟨hx, hb, hml, hown, hts⟩ (c_X7_passOnly__2 l D cy z H.size Ps ws hw.1 p1 59 h_p1 (rl_59.to (by decide))) (cwV 1 hts (gV tw_513 tw_514 tw_515 tw_2 tw_516) rfl rfl rfl (by decide +kernel) ⟨Nat.le_of_ble_eq_true rfl, Nat.le_of_ble_eq_true rfl⟩) (tg_preV hw hK hSD hA (ci := 7) (q := (RX7, TX7, 12)) rfl h_p1 rfl) rfl rfl hl.1 rfl (lv_room (Nat.le_of_ble_eq_true rfl)) dX3_read_162 ⟨Nat.le_of_ble_eq_true rfl, Nat.le_of_ble_eq_true rfl⟩) hw hA ⟨by decide, by decide⟩ (fun ws H locs hp_v_63 hw hF9 => ?_)
                      have n_k_61 := FLD.over hF9 n_k_61 (by decide)
                      have n_k_62 := FLD.over hF9 n_k_62 (by decide)
                      obtain ⟨v_64, e_v_64⟩ : ∃ q9 : Int32, q9 = x3 + Int32.ofInt 1 := ⟨_, rfl⟩
                      obtain ⟨t_v_64, r_v_64⟩ := tq_add (lo := 1) (hi := 900) r_x3 (show RI (Int32.ofInt 1) 1 1 by unfold RI; decide +kernel) (by decide +kernel) e_v_64
                      have t_v_64 : v_64.toInt = x3.toInt + 1 := t_v_64
                      refine lv_iinc (v := v_64) (lv' := [(3, .int v_64), (4, .int vu_3), (0, .ref p0), (1, .ref p1), (2, .ref p2)]) hx hb dX3_read_165 hl (k := 4) rfl e_v_64.symm (by decide) rfl (fun ls hl => ?_)
                      refine lv_goto (tgt := 14) hx hb dX3_read_168 (by decide) ?_
                      exact ih14 v_64 ws _ _ ls (by have q0 := r_v_64.1; have u0 := r_v_64.2; have o0 := r_x3.1; have p0 := r_x3.2; omega) (r_v_64.to (by decide)) hw (lv_sub hl [2, 3, 4, 0] rfl)
                · have r_v_57 : RI v_57 1 0 := rc_eq1 r_v_57 rl_0 (ti_eq c_41) (by decide)
                  exact (r_v_57.no (by decide)).elim
            · have r_vu_3 : RI vu_3 137 2147483647 := h_9
              refine lv_aload_n hx hb dX3_read_34 rfl (lv_at hl 1 rfl) ?_
              refine lv_aload_n hx hb dX3_read_35 rfl (lv_at hl 2 rfl) ?_
              refine lv_iload hx hb dX3_read_36 (lv_at hl 0 rfl) ?_
              refine tk_i (va_runV (As := [.ref p1, .int vu_3]) (rest := []) ⟨hx, hb, hml, hown, hts⟩ (c_X3_beginsLine__11 l D cy z H.size Ps ws hw.1 p0 p1 vu_3 v_2 h_p0 h_p1 r_vu_3 r_v_2 m_v_2) (cwV 2 hts (gV tw_446 tw_448 ts_1 tw_11 tw_449) rfl rfl rfl (by decide +kernel) ⟨Nat.le_of_ble_eq_true rfl, Nat.le_of_ble_eq_true rfl⟩) (tg_preV hw hK hSD hA (ci := 3) (q := (RX3, TX3, 9)) rfl h_p0 rfl) rfl rfl hl.1 rfl (lv_room (Nat.le_of_ble_eq_true rfl)) dX3_read_38 ⟨Nat.le_of_ble_eq_true rfl, Nat.le_of_ble_eq_true rfl⟩) hw hA ⟨by decide, by decide⟩ (fun v_65 ws H locs hp_v_65 hw hF9 => ?_)
              have m_u_3 := FLD.over hF9 m_u_3 (by decide)
              have r_v_65 : RI v_65 0 0 := hp_v_65.1
              by_cases c9_v_65 : v_65 = 0
              · have r_v_65 : RI v_65 0 0 := by rw [c9_v_65]; exact rl_0
                obtain ⟨v_66, m_v_66, r_v_66⟩ := ((hp_v_65.2.1 c9_v_65).1)
                refine lv_if_ne (tgt := 46) hx hb dX3_read_41 (by decide) (fun c_41 => ?_) (fun c_41 => ?_)
                · exact absurd (r_v_65.eq.trans rl_0.eq.symm) ((ti_ne c_41))
                · refine lv_iconst (v := (-1)) hx hb dX3_read_44 (by decide) ?_
                  subst hQ
                  exact W.iret (v := (-1)) hx hb hr (fun t ht hW => ⟨⟨(-1), ws, rfl, ⟨⟨rl_m1.to (by decide), (fun _ => trivial), (fun h0 => trivial)⟩, hw.1, hw.2.2.2.2.1⟩, by rw [ht]; exact hw.2.1, va_K.moved hW.alike hK, hw.2.2.1⟩, hw.2.2.2.1.F ht⟩) hw.2.2.2.1.2.2 dX3_read_45
              · exact absurd (Int32.toInt_inj.mp (by rw [Int32.toInt_zero]; unfold RI at r_v_65; omega)) c9_v_65
  refine lv_aload_n hx hb dX3_read_0 rfl (lv_at hl 2 rfl) ?_
  refine lv_aload_n hx hb dX3_read_1 rfl (lv_at hl 0 rfl) ?_
  refine tk_v (va_runV (As := [.ref p0]) (rest := []) ⟨hx, hb, hml, hown, hts⟩ (c_X8_begin l D cy z s.heap.size Ps w0 hw.1 p2 p0 h_p2 h_p0) (cwV 1 hts (gV tw_416 tw_417 tw_418 tw_12 tw_419) rfl rfl rfl (by decide +kernel) ⟨Nat.le_of_ble_eq_true rfl, Nat.le_of_ble_eq_true rfl⟩) (tg_preV hw hK hSD hA (ci := 8) (q := (RX8, TX8, 13)) rfl h_p2 rfl) rfl rfl hl.1 rfl (lv_room (Nat.le_of_ble_eq_true rfl)) dX3_read_2 ⟨Nat.le_of_ble_eq_true rfl, Nat.le_of_ble_eq_true rfl⟩) hw hA ⟨by decide, by decide⟩ (fun ws H locs hp_v_67 hw hF9 => ?_)
  refine lv_aload_n hx hb dX3_read_5 rfl (lv_at hl 1 rfl) ?_
  refine lv_sipush (v := 900) hx hb dX3_read_6 (by decide) ?_
  refine tk_v (va_runV (As := [.int 900]) (rest := []) ⟨hx, hb, hml, hown, hts⟩ (c_X7_startText l D cy z H.size Ps ws hw.1 p1 900 h_p1 rl_900) (cwV 1 hts (gV tw_420 tw_421 tw_422 tw_2 tw_423) rfl rfl rfl (by decide +kernel) ⟨Nat.le_of_ble_eq_true rfl, Nat.le_of_ble_eq_true rfl⟩) (tg_preV hw hK hSD hA (ci := 7) (q := (RX7, TX7, 12)) rfl h_p1 rfl) rfl rfl hl.1 rfl (lv_room (Nat.le_of_ble_eq_true rfl)) dX3_read_9 ⟨Nat.le_of_ble_eq_true rfl, Nat.le_of_ble_eq_true rfl⟩) hw hA ⟨by decide, by decide⟩ (fun ws H locs hp_v_68 hw hF9 => ?_)
  obtain ⟨v_69, m_v_69, r_v_69⟩ := (hp_v_68.1)
  refine lv_iconst (v := 0) hx hb dX3_read_12 (by decide) ?_
  refine lv_istore_n (lv' := [(3, .int 0), (0, .ref p0), (1, .ref p1), (2, .ref p2)]) hx hb dX3_read_13 rfl hl (by decide) rfl (fun ls hl => ?_)
  exact B14 4294967298 0 ws _ _ ls (by have q0 := rl_0.1; have u0 := rl_0.2; omega) (rl_0.to (by decide)) hw (lv_sub hl [1, 2, 3, 0] rfl)
abbrev wr_X9_nearestToHalf : List (Nat × Nat) := []
abbrev wa_X9_nearestToHalf : List Nat := []
set_option maxHeartbeats 4000000 in
set_option maxRecDepth 100000 in
theorem c_X9_nearestToHalf (l : Launch) (D : va_G) (cy : Nat → ClassId) (z : Nat → Nat) (sz : Nat) (Ps : PSI) (w0 : va_W) (hT : HT cy GG Ps w0) (p0 : Nat) (p1 : Int32) (p2 : Int32) (h_p0 : (p0, 13) ∈ Ps) (r_p1 : RI p1 0 8) (r_p2 : RI p2 (-2147483648) 2147483647) : Met l yX9_nearestToHalf (Cond.code yX9_nearestToHalf cX9_nearestToHalf 7 (some .int) :: gT) ({ frames := 2, cells := 0, slots := 0, locals := 400 } : Room) (va_Pc [.ref p0, .int p1, .int p2] (PRE D cy z w0 sz)) (va_Qi (fun (r : Int32) (u : Unit) => RI r (-1) 7 ∧ (r = 0 → True) ∧ (¬ r = 0 → True)) (BB D cy (va_A w0 sz) (fun (u : Unit) => w0)) (va_A w0 sz)) 0 0 (va_A w0 sz) := by
  refine Met.ofW (cc := cX9_nearestToHalf) (maxL := 7) (ret := (some .int)) (by decide) rfl ?_
  intro p e s m args below meth c s₁ B hml hv
  obtain ⟨rfl, hsz, hP, hK, hD0, hSD⟩ := hv
  have hx := B.exec
  have hb := B.bytes
  have hr := B.returns
  have hlocks := B.notSynchronized
  have hts : ∀ w ∈ gT, w.before _ s = true := fun w h => atoms_spec (ws := Cond.code yX9_nearestToHalf cX9_nearestToHalf 7 (some .int) :: gT) B.pre w (List.mem_cons_of_mem _ h)
  have hown : s.vm.findClass RX9 = some m.cls := findClass_of_methodNamed B.named
  subst hsz
  have hD := hD0.self (sz := s.heap.size)
  generalize hAe : va_A w0 s.heap.size = A at hD hSD ⊢
  have hA : ∀ q : Nat, s.heap.size ≤ q → A q := fun q h => by rw [← hAe]; exact Or.inr h
  have hl := lv_entry ([.ref p0, .int p1, .int p2]) (n := 7) (Nat.le_of_ble_eq_true rfl)
  rw [lg_entry_eq]
  generalize (lg_sl ([.ref p0, .int p1, .int p2]) ++ List.replicate (7 - (lg_sl ([.ref p0, .int p1, .int p2])).length) Slot.unset).toArray = ls at hl ⊢
  have hl : lv_has ls 7 [(0, .ref p0), (1, .int p1), (2, .int p2)] := hl
  refine nameQ (fun Q hQ => ?_)
  have hw : WD D cy GG A s wr_X9_nearestToHalf wa_X9_nearestToHalf Ps w0 Ps w0 s.heap [] := ⟨hT, hP, hD, va_S.rf, FR.rf, hT.1, [], (List.append_nil _).symm⟩
  have B8 : ∀ (nf : Nat) (x3 : Int32) (x4 : Int32) (x5 : Int32) (H : Heap) (locs : List Loc) (ls : Array Slot), 8 - x5.toInt < (nf : Int) → RI p1 0 8 → RI p2 (-2147483648) 2147483647 → RI x3 (-1) 7 → RI x4 (-2147483648) 2147483647 → RI x5 0 8 → WD D cy GG A s wr_X9_nearestToHalf wa_X9_nearestToHalf Ps w0 Ps w0 H locs → lv_has ls 7 [(0, .ref p0), (1, .int p1), (2, .int p2), (3, .int x3), (4, .int x4), (5, .int x5)] → W p l e (headSpec (Cond.code yX9_nearestToHalf cX9_nearestToHalf 7 (some .int) :: gT) ({ frames := 2, cells := 0, slots := 0, locals := 400 } : Room)).room s m ([.ref p0, .int p1, .int p2] : List Value).toArray below meth c H locs 0 0 Q (F0 m 8 ls []) := by
    intro nf8
    induction nf8 with
    | zero =>
      intro x3 x4 x5 H locs ls hn8 r_p1 r_p2 r_x3 r_x4 r_x5 hw hl
      exact absurd hn8 (by have q0 := r_x5.1; have u0 := r_x5.2; omega)
    | succ nf8 ih8 =>
      have B46 : ∀ (x3 : Int32) (x4 : Int32) (x5 : Int32) (x6 : Int32) (H : Heap) (locs : List Loc) (ls : Array Slot), RI p1 1 8 → RI p2 (-2147483648) 2147483647 → RI x3 (-1) 7 → RI x4 (-2147483648) 2147483647 → RI x5 0 7 → RI x6 (-2147483648) 2147483647 → 8 - x5.toInt < ((nf8 + 1 : Nat) : Int) → WD D cy GG A s wr_X9_nearestToHalf wa_X9_nearestToHalf Ps w0 Ps w0 H locs → lv_has ls 7 [(0, .ref p0), (1, .int p1), (2, .int p2), (3, .int x3), (4, .int x4), (5, .int x5), (6, .int x6)] → W p l e (headSpec (Cond.code yX9_nearestToHalf cX9_nearestToHalf 7 (some .int) :: gT) ({ frames := 2, cells := 0, slots := 0, locals := 400 } : Room)).room s m ([.ref p0, .int p1, .int p2] : List Value).toArray below meth c H locs 0 0 Q (F0 m 46 ls []) := by
        intro x3 x4 x5 x6 H locs ls r_p1 r_p2 r_x3 r_x4 r_x5 r_x6 hn8 hw hl
        refine lv_iload hx hb dX9_nearestToHalf_46 (lv_at hl 5 rfl) ?_
        refine lv_istore_n (lv' := [(3, .int x5), (0, .ref p0), (1, .int p1), (2, .int p2), (4, .int x4), (5, .int x5), (6, .int x6)]) hx hb dX9_nearestToHalf_48 rfl hl (by decide) rfl (fun ls hl => ?_)
        refine lv_iload hx hb dX9_nearestToHalf_49 (lv_at hl 6 rfl) ?_
        refine lv_istore (lv' := [(4, .int x6), (3, .int x5), (0, .ref p0), (1, .int p1), (2, .int p2), (5, .int x5), (6, .int x6)]) hx hb dX9_nearestToHalf_51 hl (by decide) rfl (fun ls hl => ?_)
        obtain ⟨v_1, e_v_1⟩ : ∃ q9 : Int32, q9 = x5 + Int32.ofInt 1 := ⟨_, rfl⟩
        obtain ⟨t_v_1, r_v_1⟩ := tq_add (lo := 1) (hi := 8) r_x5 (show RI (Int32.ofInt 1) 1 1 by unfold RI; decide +kernel) (by decide +kernel) e_v_1
        have t_v_1 : v_1.toInt = x5.toInt + 1 := t_v_1
        refine lv_iinc (v := v_1) (lv' := [(5, .int v_1), (4, .int x6), (3, .int x5), (0, .ref p0), (1, .int p1), (2, .int p2), (6, .int x6)]) hx hb dX9_nearestToHalf_53 hl (k := 5) rfl e_v_1.symm (by decide) rfl (fun ls hl => ?_)
        refine lv_goto (tgt := 8) hx hb dX9_nearestToHalf_56 (by decide) ?_
        exact ih8 x5 x6 v_1 _ _ ls (by have q0 := r_v_1.1; have u0 := r_v_1.2; have o0 := r_x5.1; have p0 := r_x5.2; omega) (r_p1.to (by decide)) r_p2 (r_x5.to (by decide)) r_x6 (r_v_1.to (by decide)) hw (lv_sub hl [3, 4, 5, 2, 1, 0] rfl)
      intro x3 x4 x5 H locs ls hn8 r_p1 r_p2 r_x3 r_x4 r_x5 hw hl
      refine lv_iload hx hb dX9_nearestToHalf_8 (lv_at hl 5 rfl) ?_
      refine lv_iload_n hx hb dX9_nearestToHalf_10 rfl (lv_at hl 1 rfl) ?_
      refine lv_icmp_ge (tgt := 59) hx hb dX9_nearestToHalf_11 (by decide) (fun c_11 => ?_) (fun c_11 => ?_)
      · refine lv_iload_n hx hb dX9_nearestToHalf_59 rfl (lv_at hl 3 rfl) ?_
        subst hQ
        exact W.iret (v := x3) hx hb hr (fun t ht hW => ⟨⟨x3, (), rfl, ⟨r_x3.to (by decide), (fun h0 => trivial), (fun h0 => trivial)⟩, by rw [ht]; exact hw.2.1, va_K.moved hW.alike hK, hw.2.2.1⟩, hw.2.2.2.1.F ht⟩) hw.2.2.2.1.2.2 dX9_nearestToHalf_60
      · have r_x5 : RI x5 0 7 := rc_lt1 r_x5 r_p1 (ti_nle c_11) (by decide)
        have r_p1 : RI p1 1 8 := rc_lt2 r_x5 r_p1 (ti_nle c_11) (by decide)
        refine lv_iload hx hb dX9_nearestToHalf_14 (lv_at hl 5 rfl) ?_
        refine lv_aload_n hx hb dX9_nearestToHalf_16 rfl (lv_at hl 0 rfl) ?_
        refine tg_alenI (t0 := 1) (v := 8) hx hb hK hw h_p0 rfl rfl rfl dX9_nearestToHalf_17 ?_
        refine lv_icmp_ge (tgt := 59) hx hb dX9_nearestToHalf_18 (by decide) (fun c_18 => ?_) (fun c_18 => ?_)
        · have r_x5 : RI x5 8 7 := rc_le2 rl_8 r_x5 (ti_le c_18) (by decide)
          exact (r_x5.no (by decide)).elim
        · refine lv_iconst (v := 2) hx hb dX9_nearestToHalf_21 (by decide) ?_
          refine lv_aload_n hx hb dX9_nearestToHalf_22 rfl (lv_at hl 0 rfl) ?_
          refine lv_iload hx hb dX9_nearestToHalf_23 (lv_at hl 5 rfl) ?_
          refine tg_iald (lo := (-2147483648)) (hi := 2147483647) hx hb hK hw h_p0 rfl 0 7 r_x5 (by decide) (by exact fun _ _ _ => ⟨Int.le_refl _, Int.le_refl _⟩) dX9_nearestToHalf_25 (fun v_2 r_v_2 m_v_2 o_v_2 => ?_)
          refine lv_imul hx hb dX9_nearestToHalf_26 (lv_topi (fun v_3 e_v_3 => ?_))
          have r_v_3 := ri_any v_3
          refine lv_iload_n hx hb dX9_nearestToHalf_27 rfl (lv_at hl 2 rfl) ?_
          refine lv_isub hx hb dX9_nearestToHalf_28 (lv_topi (fun v_4 e_v_4 => ?_))
          have r_v_4 := ri_any v_4
          refine va_mabs hx hb (hml.trans hl.1.symm) hown (hts _ tw_768) (hts _ tw_769) (hts _ tw_16) (hts _ tw_770) (Nat.le_of_ble_eq_true rfl) (Nat.le_of_ble_eq_true rfl) (Nat.le_of_ble_eq_true rfl) (Nat.le_of_ble_eq_true rfl) dX9_nearestToHalf_29 (lv_topi (fun v_5 e_v_5 => ?_))
          have r_v_5 := ri_any v_5
          refine lv_istore (lv' := [(6, .int v_5), (0, .ref p0), (1, .int p1), (2, .int p2), (3, .int x3), (4, .int x4), (5, .int x5)]) hx hb dX9_nearestToHalf_32 hl (by decide) rfl (fun ls hl => ?_)
          refine lv_iload_n hx hb dX9_nearestToHalf_34 rfl (lv_at hl 4 rfl) ?_
          refine lv_iconst (v := (-1)) hx hb dX9_nearestToHalf_35 (by decide) ?_
          refine lv_icmp_eq (tgt := 46) hx hb dX9_nearestToHalf_36 (by decide) (fun c_36 => ?_) (fun c_36 => ?_)
          · have r_x3 : RI x3 (-1) (-1) := rc_eq1 r_x3 rl_m1 (ti_eq c_36) (by decide)
            exact B46 x3 x4 x5 v_5 _ _ ls r_p1 r_p2 (r_x3.to (by decide)) r_x4 r_x5 r_v_5 (by have q0 := r_x5.1; have u0 := r_x5.2; omega) hw (lv_sub hl [1, 2, 3, 4, 5, 6, 0] rfl)
          · have r_x3 : RI x3 0 7 := rc_neL r_x3 rl_m1 (ti_ne c_36) (by decide)
            refine lv_iload hx hb dX9_nearestToHalf_39 (lv_at hl 0 rfl) ?_
            refine lv_iload hx hb dX9_nearestToHalf_41 (lv_at hl 5 rfl) ?_
            refine lv_icmp_ge (tgt := 53) hx hb dX9_nearestToHalf_43 (by decide) (fun c_43 => ?_) (fun c_43 => ?_)
            · obtain ⟨v_6, e_v_6⟩ : ∃ q9 : Int32, q9 = x5 + Int32.ofInt 1 := ⟨_, rfl⟩
              obtain ⟨t_v_6, r_v_6⟩ := tq_add (lo := 1) (hi := 8) r_x5 (show RI (Int32.ofInt 1) 1 1 by unfold RI; decide +kernel) (by decide +kernel) e_v_6
              have t_v_6 : v_6.toInt = x5.toInt + 1 := t_v_6
              refine lv_iinc (v := v_6) (lv' := [(5, .int v_6), (6, .int v_5), (0, .ref p0), (1, .int p1), (2, .int p2), (3, .int x3), (4, .int x4)]) hx hb dX9_nearestToHalf_53 hl (k := 6) rfl e_v_6.symm (by decide) rfl (fun ls hl => ?_)
              refine lv_goto (tgt := 8) hx hb dX9_nearestToHalf_56 (by decide) ?_
              exact ih8 x3 x4 v_6 _ _ ls (by have q0 := r_v_6.1; have u0 := r_v_6.2; have o0 := r_x5.1; have p0 := r_x5.2; omega) (r_p1.to (by decide)) r_p2 (r_x3.to (by decide)) r_x4 (r_v_6.to (by decide)) hw (lv_sub hl [2, 3, 4, 5, 6, 0] rfl)
            · have r_v_5 : RI v_5 (-2147483648) 2147483646 := rc_lt1 r_v_5 r_x4 (ti_nle c_43) (by decide)
              have r_x4 : RI x4 (-2147483647) 2147483647 := rc_lt2 r_v_5 r_x4 (ti_nle c_43) (by decide)
              exact B46 x3 x4 x5 v_5 _ _ ls r_p1 r_p2 (r_x3.to (by decide)) (r_x4.to (by decide)) r_x5 (r_v_5.to (by decide)) (by have q0 := r_x5.1; have u0 := r_x5.2; omega) hw (lv_sub hl [1, 2, 3, 4, 5, 6, 0] rfl)
  refine lv_iconst (v := (-1)) hx hb dX9_nearestToHalf_0 (by decide) ?_
  refine lv_istore_n (lv' := [(3, .int (-1)), (0, .ref p0), (1, .int p1), (2, .int p2)]) hx hb dX9_nearestToHalf_1 rfl hl (by decide) rfl (fun ls hl => ?_)
  refine lv_iconst (v := 0) hx hb dX9_nearestToHalf_2 (by decide) ?_
  refine lv_istore (lv' := [(4, .int 0), (3, .int (-1)), (0, .ref p0), (1, .int p1), (2, .int p2)]) hx hb dX9_nearestToHalf_3 hl (by decide) rfl (fun ls hl => ?_)
  refine lv_iconst (v := 0) hx hb dX9_nearestToHalf_5 (by decide) ?_
  refine lv_istore (lv' := [(5, .int 0), (4, .int 0), (3, .int (-1)), (0, .ref p0), (1, .int p1), (2, .int p2)]) hx hb dX9_nearestToHalf_6 hl (by decide) rfl (fun ls hl => ?_)
  exact B8 4294967298 (-1) 0 0 _ _ ls (by have q0 := rl_0.1; have u0 := rl_0.2; omega) r_p1 r_p2 (rl_m1.to (by decide)) (rl_0.to (by decide)) (rl_0.to (by decide)) hw (lv_sub hl [3, 4, 5, 2, 1, 0] rfl)
