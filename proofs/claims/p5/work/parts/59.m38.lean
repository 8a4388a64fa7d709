/-! p4: contracts said otherwise; the bytes on the tapes -/
theorem Met.monoQ {l : Launch} {y : MethodName} {ws : List Cond} {rm : Room} {Pc : Array Value → State → Prop} {Qc Qd : Array Value → State → Outcome → State → Prop} {mc ms : Nat} {free : Addr → Prop} (h : Met l y ws rm Pc Qc mc ms free) (hq : ∀ a st o t, Qc a st o t → Qd a st o t) : Met l y ws rm Pc Qd mc ms free := by
  intro p e h1 h2 h3 s m args below h4 h5 h6 h7
  obtain ⟨n, o, a, b, c, d, f⟩ := h p e h1 h2 h3 s m args below h4 h5 h6 h7
  exact ⟨n, o, a, b, c, hq _ _ _ _ d, f⟩
theorem Met.ofP {l : Launch} {y : MethodName} {ws : List Cond} {rm : Room} {Pc : Array Value → State → Prop} {Qc : Array Value → State → Outcome → State → Prop} {mc ms : Nat} {free : Addr → Prop} {φ : Prop} (hφ : ∀ a st, Pc a st → φ) (h : φ → Met l y ws rm Pc Qc mc ms free) : Met l y ws rm Pc Qc mc ms free := by
  intro p e h1 h2 h3 s m args below h4 h5 h6 h7
  exact h (hφ _ _ h6) p e h1 h2 h3 s m args below h4 h5 h6 h7
theorem bq_b (x : Int32) : (x &&& 255).toInt8.toInt32 = x.toInt8.toInt32 := by
  have e : (x &&& 255).toInt8 = x.toInt8 := by
    apply Int8.toBitVec_inj.mp
    rw [Int32.toBitVec_toInt8, Int32.toBitVec_toInt8, Int32.toBitVec_and]
    apply BitVec.eq_of_getLsbD_eq
    intro i hi
    have hm : ∀ i < 8, (255 : Int32).toBitVec.getLsbD i = true := by decide
    rw [BitVec.getLsbD_signExtend, BitVec.getLsbD_signExtend, if_pos (show i < 32 by omega), if_pos (show i < 32 by omega), BitVec.getLsbD_and, hm i hi, Bool.and_true]
  rw [e]
/-- a byte of a number -/
def bT (x : Int32) : Nat := (x &&& 255).toNatClampNeg
theorem bT_ (x : Int32) : nI (bT x) = x &&& 255 ∧ bT x < 256 := by
  obtain ⟨j, h1, h2, h3⟩ := ri_nat (ri_and (x := x) (y := 255) (d := 255) (by unfold RI; decide) (by decide))
  unfold bT
  rw [h3, nI_clamp h2]
  exact ⟨rfl, by omega⟩
theorem sgb_bT (x : Int32) : sgb (bT x) = x.toInt8.toInt32 := by
  unfold sgb
  rw [(bT_ x).1]
  exact bq_b x
abbrev us (v sh : Int32) : Int32 := (Int32.toUInt32 v >>> (Int32.toUInt32 sh &&& Int32.toUInt32 31)).toInt32
def put4 (T : Nat → Nat) (n : Nat) (v : Int32) : Nat → Nat := ud (ud (ud (ud T n (bT (us v 24))) (n + 1) (bT (us v 16))) (n + 2) (bT (us v 8))) (n + 3) (bT (us v 0))
/-- the text behind feed, and its length -/
def fT (T : Nat → Nat) (n : Nat) (a b c d e : Int32) : Nat → Nat := if n ≤ 920 then put4 (put4 (put4 (put4 (put4 T n a) (n + 4) b) (n + 8) c) (n + 12) d) (n + 16) e else T
def fN (n : Nat) : Nat := if n ≤ 920 then n + 20 else n
def fG (g : Int) : Int := if g ≤ 920 then g + 20 else g
theorem fG_fN {g : Int} (h : 0 ≤ g) : ((fN g.toNat : Nat) : Int) = fG g := by
  unfold fN fG
  by_cases e : g ≤ 920
  · rw [if_pos e, if_pos (by omega)]; omega
  · rw [if_neg e, if_neg (by omega)]; omega
theorem ud_lt {T : Nat → Nat} {j v : Nat} (h : ∀ k, T k < 256) (hv : v < 256) : ∀ k, ud T j v k < 256 := by
  intro k
  unfold ud
  by_cases e : k = j
  · rw [if_pos e]; exact hv
  · rw [if_neg e]; exact h k
theorem ud_at {T : Nat → Nat} {j v : Nat} : ud T j v j = v := if_pos rfl
theorem ud_no {T : Nat → Nat} {j v k : Nat} (h : k ≠ j) : ud T j v k = T k := if_neg h
/-- all that lies in the reference's tape -/
def RXF (o : OS) (T : Nat → Nat) (n : Nat) : Prop := n ≤ 940 ∧ o.1 2 = nI n ∧ (∀ k, o.2.2.1 1 k = nI (T k)) ∧ ∀ k, T k < 256
theorem RXF.step {o : OS} {T : Nat → Nat} {n : Nat} (x : Int32) (h : RXF o T n) (hn : n < 940) : RXF (sI (sA o 1 (Int32.toNatClampNeg (o.1 2)) (x &&& 255)) 2 (o.1 2 + 1)) (ud T n (bT x)) (n + 1) := by
  obtain ⟨h1, h2, h3, h4⟩ := h
  refine ⟨hn, ?_, fun k => ?_, ud_lt h4 (bT_ x).2⟩
  · rw [sI_get, h2, nI_1]
  · show upd (o.2.2.1 1) (Int32.toNatClampNeg (o.1 2)) (x &&& 255) k = nI (ud T n (bT x) k)
    rw [h2, nI_clamp (by omega)]
    by_cases e : k = n
    · rw [e, pk_us, ud_at, (bT_ x).1]
    · rw [pk_un e, h3 k, ud_no e]
theorem come_ {o : OS} {T : Nat → Nat} {n : Nat} (p1 : Int32) (h : RXF o T n) (hn : n ≤ 936) : RXF (f_X10_come__5 p1 o) (put4 T n p1) (n + 4) := by
  unfold f_X10_come__5 put4
  have h1 := h.step (us p1 24) (by omega)
  have h2 := h1.step (us p1 16) (by omega)
  have h3 := h2.step (us p1 8) (by omega)
  exact h3.step (us p1 0) (by omega)
theorem fd_le {n : Nat} (h : n ≤ 940) : (nI n + 20 ≤ (940 : Int32)) ↔ n ≤ 920 := by
  rw [show nI n + (20 : Int32) = nI (n + 20) from nI_add n 20]
  have := nI_leI (a := n + 20) (b := 940) (by omega) (by decide)
  exact this.trans (by omega)
theorem feedM_ {o : OS} {T : Nat → Nat} {n : Nat} (a b c d e : Int32) (h : RXF o T n) : RXF (f_X10_feed__1 a b c d e o).1 (fT T n a b c d e) (fN n) := by
  unfold f_X10_feed__1 fT fN
  rw [h.2.1]
  by_cases q : n ≤ 920
  · rw [if_pos ((fd_le h.1).mpr q), if_pos q, if_pos q]
    exact come_ e (come_ d (come_ c (come_ b (come_ a h (by omega)) (by omega)) (by omega)) (by omega)) (by omega)
  · rw [if_neg (fun z => q ((fd_le h.1).mp z)), if_neg q, if_neg q]
    exact h
/-- all that lies in the class's tape -/
def CXF (o : OS) (T : Nat → Nat) (n : Nat) : Prop := n ≤ 940 ∧ o.1 2 = nI n ∧ (∀ k, o.2.2.1 0 k = sgb (T k)) ∧ (∀ k, T k < 256) ∧ ∀ k, k < 28 → o.2.2.2 1 k = lN (KW.getD k 0)
theorem CXF.step {o : OS} {T : Nat → Nat} {n : Nat} (x : Int32) (h : CXF o T n) (hn : n < 940) : CXF (sI (sA o 0 (Int32.toNatClampNeg (o.1 2)) (vp_nar .byte ((Int32.toInt8 x).toInt32))) 2 (o.1 2 + 1)) (ud T n (bT x)) (n + 1) := by
  obtain ⟨h1, h2, h3, h4, h5⟩ := h
  refine ⟨hn, ?_, fun k => ?_, ud_lt h4 (bT_ x).2, h5⟩
  · rw [sI_get, h2, nI_1]
  · show upd (o.2.2.1 0) (Int32.toNatClampNeg (o.1 2)) (vp_nar .byte ((Int32.toInt8 x).toInt32)) k = sgb (ud T n (bT x) k)
    rw [h2, nI_clamp (by omega), pk_vb]
    by_cases e : k = n
    · rw [e, pk_us, ud_at, sgb_bT]
    · rw [pk_un e, h3 k, ud_no e]
theorem CXF.nle {o : OS} {T : Nat → Nat} {n : Nat} (h : CXF o T n) (hn : n < 940) : ¬ (940 : Int32) ≤ o.1 2 := by
  rw [h.2.1]
  exact nI_ge (b := 940) hn (by decide)
theorem pf_step {p1 x2 : Int32} {s : OS} (f : Nat) (h1 : ¬ x2 < 0) (h2 : ¬ (940 : Int32) ≤ s.1 2) : f_X7_putFour__1_3 p1 (f + 1) x2 s = f_X7_putFour__1_3 p1 f (x2 + ((-8) : Int32)) (sI (sA s 0 (Int32.toNatClampNeg (s.1 2)) (vp_nar .byte ((Int32.toInt8 (us p1 x2)).toInt32))) 2 ((s.1 2) + (1 : Int32))) := by
  rw [f_X7_putFour__1_3, if_neg h1, if_neg h2]
theorem pf_end {p1 x2 : Int32} {s : OS} (f : Nat) (h1 : x2 < 0) : f_X7_putFour__1_3 p1 (f + 1) x2 s = s := by
  rw [f_X7_putFour__1_3, if_pos h1]
theorem putFour_ {o : OS} {T : Nat → Nat} {n : Nat} (p1 : Int32) (h : CXF o T n) (hn : n ≤ 936) : CXF (f_X7_putFour__1 p1 o) (put4 T n p1) (n + 4) := by
  have h1 := h.step (us p1 24) (by omega)
  have h2 := h1.step (us p1 16) (by omega)
  have h3 := h2.step (us p1 8) (by omega)
  have h4 := h3.step (us p1 0) (by omega)
  have e : ∀ f : Nat, CXF (f_X7_putFour__1_3 p1 (f + 1 + 1 + 1 + 1 + 1) (24 : Int32) o) (put4 T n p1) (n + 4) := by
    intro f
    rw [pf_step _ (by decide) (h.nle (by omega)), show (24 : Int32) + ((-8) : Int32) = 16 by decide]
    rw [pf_step _ (by decide) (h1.nle (by omega)), show (16 : Int32) + ((-8) : Int32) = 8 by decide]
    rw [pf_step _ (by decide) (h2.nle (by omega)), show (8 : Int32) + ((-8) : Int32) = 0 by decide]
    rw [pf_step _ (by decide) (h3.nle (by omega)), show (0 : Int32) + ((-8) : Int32) = -8 by decide]
    rw [pf_end _ (by decide)]
    exact h4
  exact e 4294967293
theorem hp20_ {o : OS} {T : Nat → Nat} {n : Nat} (h : CXF o T n) : f_X7_hasPlaceForTwenty__1 o = 0 ↔ 920 < n := by
  unfold f_X7_hasPlaceForTwenty__1
  rw [h.2.1]
  have q := nI_ltI (a := 940) (b := n + 20) (by decide) (by have := h.1; omega)
  rw [show nI n + (20 : Int32) = nI (n + 20) from nI_add n 20]
  by_cases e : 920 < n
  · rw [if_pos (show (940 : Int32) < nI (n + 20) from q.mpr (by omega))]
    exact ⟨fun _ => e, fun _ => rfl⟩
  · rw [if_neg (show ¬ (940 : Int32) < nI (n + 20) from fun z => e (by have := q.mp z; omega))]
    exact ⟨fun z => absurd z (by decide), fun z => absurd z e⟩
theorem put20_ {o : OS} {T : Nat → Nat} {n : Nat} (a b c d e : Int32) (h : CXF o T n) (q : n ≤ 920) : CXF (f_X7_putFour__1 e (f_X7_putFour__1 d (f_X7_putFour__1 c (f_X7_putFour__1 b (f_X7_putFour__1 a o))))) (fT T n a b c d e) (fN n) := by
  unfold fT fN
  rw [if_pos q, if_pos q]
  exact putFour_ e (putFour_ d (putFour_ c (putFour_ b (putFour_ a h (by omega)) (by omega)) (by omega)) (by omega)) (by omega)
/-! the same of the cells -/
def BYF (T : Nat → Nat) (f : Nat → Int32) : Prop := (∀ k, f k = sgb (T k)) ∧ ∀ k, T k < 256
def BYG (T : Nat → Nat) (f : Nat → Int32) : Prop := (∀ k, f k = nI (T k)) ∧ ∀ k, T k < 256
/-- the bytes of the class's tape -/
def BYX (Ps : PSI) (ws : va_W) (x : Nat) (T : Nat → Nat) : Prop := ∃ (t r : Nat) (f : Nat → Int32), FLD ws x 9 0 (.ref t) ∧ FLD ws t 7 0 (.ref r) ∧ ARR Ps ws r 2 f ∧ BYF T f
/-- the words of the class's tape -/
def WKX (Ps : PSI) (ws : va_W) (x : Nat) : Prop := ∃ (t r : Nat) (f : Nat → Int64), FLD ws x 9 0 (.ref t) ∧ FLD ws t 7 1 (.ref r) ∧ ARL Ps ws r 0 f ∧ ∀ k, k < 28 → f k = lN (KW.getD k 0)
/-- the bytes of the reference's tape -/
def BYM (Ps : PSI) (ws : va_W) (y : Nat) (T : Nat → Nat) : Prop := ∃ (r : Nat) (f : Nat → Int32), FLD ws y 10 1 (.ref r) ∧ ARR Ps ws r 40 f ∧ BYG T f
def FDX (Ps : PSI) (ws : va_W) (x : Nat) (T : Nat → Nat) (g : Int) (a b c d e : Int32) : Prop := TLX ws x (fG g) ∧ BYX Ps ws x (fT T g.toNat a b c d e)
def FDM (Ps : PSI) (ws : va_W) (y : Nat) (T : Nat → Nat) (g : Int) (a b c d e : Int32) : Prop := TLM ws y (fG g) ∧ BYM Ps ws y (fT T g.toNat a b c d e)
section FACTS44
variable {s : State} {H : Heap} {locs : List Loc} {D : va_G} {cy : Nat → ClassId} {A : Nat → Prop} {ws ws' w0 wx : va_W} {G : Nat → Nat → CTy} {Ps P0 X : PSI} {wr : List (Nat × Nat)} {wa : List Nat} {x y t : Nat} {T : Nat → Nat} {g : Int} {a b c d e : Int32}
theorem BYX.over (h : FR wr wa Ps ws ws') (q : BYX Ps ws x T) (hn : (9, 0) ∉ wr ∧ (7, 0) ∉ wr ∧ 2 ∉ wa) : BYX Ps ws' x T := by
  obtain ⟨t, r, f, h1, h2, h3, h4⟩ := q
  exact ⟨t, r, f, FLD.over h h1 hn.1, FLD.over h h2 hn.2.1, ARR.over h h3 hn.2.2, h4⟩
theorem WKX.over (h : FR wr wa Ps ws ws') (q : WKX Ps ws x) (hn : (9, 0) ∉ wr ∧ (7, 1) ∉ wr ∧ 0 ∉ wa) : WKX Ps ws' x := by
  obtain ⟨t, r, f, h1, h2, h3, h4⟩ := q
  exact ⟨t, r, f, FLD.over h h1 hn.1, FLD.over h h2 hn.2.1, ARL.over h h3 hn.2.2, h4⟩
theorem BYM.over (h : FR wr wa Ps ws ws') (q : BYM Ps ws y T) (hn : (10, 1) ∉ wr ∧ 40 ∉ wa) : BYM Ps ws' y T := by
  obtain ⟨r, f, h2, h3, h4⟩ := q
  exact ⟨r, f, FLD.over h h2 hn.1, ARR.over h h3 hn.2, h4⟩
theorem FDX.over (h : FR wr wa Ps ws ws') (q : FDX Ps ws x T g a b c d e) (hn : ((9, 0) ∉ wr ∧ (7, 2) ∉ wr) ∧ (9, 0) ∉ wr ∧ (7, 0) ∉ wr ∧ 2 ∉ wa) : FDX Ps ws' x T g a b c d e := ⟨TLX.over h q.1 hn.1, BYX.over h q.2 hn.2⟩
theorem FDM.over (h : FR wr wa Ps ws ws') (q : FDM Ps ws y T g a b c d e) (hn : (10, 2) ∉ wr ∧ (10, 1) ∉ wr ∧ 40 ∉ wa) : FDM Ps ws' y T g a b c d e := ⟨TLM.over h q.1 hn.1, BYM.over h q.2 hn.2⟩
theorem gapp {α : Type} {l m : List α} {q : Nat} {v : α} (h : l[q]? = some v) : (l ++ m)[q]? = some v := by
  rw [List.getElem?_append_left (List.getElem?_eq_some_iff.mp h).1]
  exact h
theorem ARR.app {r u : Nat} {f : Nat → Int32} (h : ARR Ps ws r u f) : ARR (Ps ++ X) (ws ++ wx) r u f := by
  obtain ⟨q, cA, n, h1, h2⟩ := h
  exact ⟨q, cA, n, gapp h1, gapp h2⟩
theorem ARL.app {r u : Nat} {f : Nat → Int64} (h : ARL Ps ws r u f) : ARL (Ps ++ X) (ws ++ wx) r u f := by
  obtain ⟨q, cA, n, h1, h2⟩ := h
  exact ⟨q, cA, n, gapp h1, gapp h2⟩
theorem BYX.app (q : BYX Ps ws x T) : BYX (Ps ++ X) (ws ++ wx) x T := by
  obtain ⟨t, r, f, h1, h2, h3, h4⟩ := q
  exact ⟨t, r, f, FLD.app h1, FLD.app h2, ARR.app h3, h4⟩
theorem WKX.app (q : WKX Ps ws x) : WKX (Ps ++ X) (ws ++ wx) x := by
  obtain ⟨t, r, f, h1, h2, h3, h4⟩ := q
  exact ⟨t, r, f, FLD.app h1, FLD.app h2, ARL.app h3, h4⟩
theorem BYM.app (q : BYM Ps ws y T) : BYM (Ps ++ X) (ws ++ wx) y T := by
  obtain ⟨r, f, h2, h3, h4⟩ := q
  exact ⟨r, f, FLD.app h2, ARR.app h3, h4⟩
theorem ARR.up {P1 : PSI} {r u : Nat} {f : Nat → Int32} (hup : ∀ q ∈ P1, q ∈ Ps) (hw : WD D cy G A s wr wa P0 w0 Ps ws H locs) (h : ARR P1 ws r u f) : ARR Ps ws r u f := by
  obtain ⟨q, cA, n, hp, h3⟩ := h
  obtain ⟨k, e, g1, g2, -⟩ := hw.1.find (hup _ (List.mem_of_getElem? hp))
  have eq := hw.2.2.1.1 q k _ _ h3 g2 rfl
  subst eq
  exact ⟨q, cA, n, g1, h3⟩
theorem ARL.up {P1 : PSI} {r u : Nat} {f : Nat → Int64} (hup : ∀ q ∈ P1, q ∈ Ps) (hw : WD D cy G A s wr wa P0 w0 Ps ws H locs) (h : ARL P1 ws r u f) : ARL Ps ws r u f := by
  obtain ⟨q, cA, n, hp, h3⟩ := h
  obtain ⟨k, e, g1, g2, -⟩ := hw.1.find (hup _ (List.mem_of_getElem? hp))
  have eq := hw.2.2.1.1 q k _ _ h3 g2 rfl
  subst eq
  exact ⟨q, cA, n, g1, h3⟩
theorem BYX.up {P1 : PSI} (hup : ∀ q ∈ P1, q ∈ Ps) (hw : WD D cy G A s wr wa P0 w0 Ps ws H locs) (q : BYX P1 ws x T) : BYX Ps ws x T := by
  obtain ⟨t, r, f, h1, h2, h3, h4⟩ := q
  exact ⟨t, r, f, h1, h2, ARR.up hup hw h3, h4⟩
theorem WKX.up {P1 : PSI} (hup : ∀ q ∈ P1, q ∈ Ps) (hw : WD D cy G A s wr wa P0 w0 Ps ws H locs) (q : WKX P1 ws x) : WKX Ps ws x := by
  obtain ⟨t, r, f, h1, h2, h3, h4⟩ := q
  exact ⟨t, r, f, h1, h2, ARL.up hup hw h3, h4⟩
theorem BYM.up {P1 : PSI} (hup : ∀ q ∈ P1, q ∈ Ps) (hw : WD D cy G A s wr wa P0 w0 Ps ws H locs) (q : BYM P1 ws y T) : BYM Ps ws y T := by
  obtain ⟨r, f, h2, h3, h4⟩ := q
  exact ⟨r, f, h2, ARR.up hup hw h3, h4⟩
theorem ht_fld (hT : HT cy G Ps ws) {u t ci k : Nat} (ha : (u, t) ∈ Ps) {ts : List VT} (hG : G u t = .inl (ci, ts)) {lo hi : Int} (hft : ts[k]? = some (vI lo hi)) : ∃ v : Int32, FLD ws u ci k (.int v) ∧ RI v lo hi := by
  obtain ⟨q, e1, -, h2, h3⟩ := hT.find ha
  rw [hG] at h3
  obtain ⟨fs, rfl, h4⟩ := h3
  obtain ⟨v, h5, v2, rfl, h6⟩ := h4 k _ hft
  exact ⟨v2, ⟨q, fs, h2, h5⟩, h6⟩
/-- what is known of the tape, as an object -/
theorem cx_get (hT : HT cy GG Ps ws) (hD : va_D A ws) (h1 : TLX ws x g) (h2 : BYX Ps ws x T) (h3 : WKX Ps ws x) (ht : FLD ws x 9 0 (.ref t)) (hp : (t, 26) ∈ Ps) : ∃ o, OV vw_TT Ps ws t o ∧ CXF o T g.toNat ∧ 0 ≤ g := by
  obtain ⟨t1, a1, v, a2, a3⟩ := h1
  obtain ⟨t2, r, f, b1, b2, b3, b4, b5⟩ := h2
  obtain ⟨t3, r2, f2, c1, c2, c3, c4⟩ := h3
  cases FLD.inj hD a1 ht
  cases FLD.inj hD b1 ht
  cases FLD.inj hD c1 ht
  obtain ⟨v', d1, d2⟩ := ht_fld (k := 2) (ci := 7) (ts := ty_TAPE) (lo := 0) (hi := 940) hT hp rfl rfl
  cases FLD.inj hD d1 a2
  have e1 := d2.1
  have e2 := d2.2
  refine ⟨(fun _ => v, fun _ => 0, fun _ => f, fun _ => f2), ⟨fun k hk => ?_, fun k hk => absurd hk List.not_mem_nil, fun q hq => ?_, fun q hq => ?_⟩, ⟨by omega, ?_, b4, b5, c4⟩, by omega⟩
  · cases List.mem_singleton.mp hk; exact a2
  · cases List.mem_singleton.mp hq; exact ⟨r, b2, b3⟩
  · cases List.mem_singleton.mp hq; exact ⟨r2, c2, c3⟩
  · show v = nI g.toNat
    apply Int32.toInt_inj.mp
    rw [nI_toInt (by omega)]
    omega
theorem fdx_mk {o : OS} {n : Nat} (ht : FLD ws x 9 0 (.ref t)) (ho : OV vw_TT Ps ws t o) (h : CXF o (fT T g.toNat a b c d e) n) (hn : (n : Int) = fG g) : FDX Ps ws x T g a b c d e := by
  obtain ⟨r, h1, h2⟩ := ho.2.2.1 (0, 2) (by decide)
  refine ⟨⟨t, ht, o.1 2, ho.1 2 (by decide), ?_⟩, t, r, _, ht, h1, h2, h.2.2.1, h.2.2.2.1⟩
  rw [h.2.1, nI_toInt (by have := h.1; omega)]
  exact hn
theorem fdx_no {o : OS} (ht : FLD ws x 9 0 (.ref t)) (ho : OV vw_TT Ps ws t o) (h : CXF o T g.toNat) (h0 : 0 ≤ g) (q : f_X7_hasPlaceForTwenty__1 o = 0) : FDX Ps ws x T g a b c d e := by
  have q := (hp20_ h).mp q
  refine fdx_mk ht ho (n := fN g.toNat) ?_ (fG_fN h0)
  unfold fT fN
  rw [if_neg (by omega), if_neg (by omega)]
  exact h
theorem fdx_yes {o : OS} (ht : FLD ws x 9 0 (.ref t)) (ho : OV vw_TT Ps ws t (f_X7_putFour__1 e (f_X7_putFour__1 d (f_X7_putFour__1 c (f_X7_putFour__1 b (f_X7_putFour__1 a o)))))) (h : CXF o T g.toNat) (h0 : 0 ≤ g) (q : ¬ f_X7_hasPlaceForTwenty__1 o = 0) : FDX Ps ws x T g a b c d e :=
  fdx_mk ht ho (put20_ a b c d e h (Nat.le_of_not_lt (fun z => q ((hp20_ h).mpr z)))) (fG_fN h0)
theorem mx_get (hT : HT cy GG Ps ws) (hD : va_D A ws) (h1 : TLM ws y g) (h2 : BYM Ps ws y T) (hp : (y, 55) ∈ Ps) : ∃ o, OV vw_MT Ps ws y o ∧ RXF o T g.toNat ∧ 0 ≤ g := by
  obtain ⟨v, a2, a3⟩ := h1
  obtain ⟨r, f, b2, b3, b4, b5⟩ := h2
  obtain ⟨v', d1, d2⟩ := ht_fld (k := 2) (ci := 10) (ts := ty_MODEL) (lo := 0) (hi := 940) hT hp rfl rfl
  cases FLD.inj hD d1 a2
  have e1 := d2.1
  have e2 := d2.2
  refine ⟨(fun _ => v, fun _ => 0, fun _ => f, fun _ _ => 0), ⟨fun k hk => ?_, fun k hk => absurd hk List.not_mem_nil, fun q hq => ?_, fun q hq => absurd hq List.not_mem_nil⟩, ⟨by omega, ?_, b4, b5⟩, by omega⟩
  · cases List.mem_singleton.mp hk; exact a2
  · cases List.mem_singleton.mp hq; exact ⟨r, b2, b3⟩
  · show v = nI g.toNat
    apply Int32.toInt_inj.mp
    rw [nI_toInt (by omega)]
    omega
theorem fdm_mk {o : OS} (ho : OV vw_MT Ps ws y (f_X10_feed__1 a b c d e o).1) (h : RXF o T g.toNat) (h0 : 0 ≤ g) : FDM Ps ws y T g a b c d e := by
  have h := feedM_ a b c d e h
  obtain ⟨r, h1, h2⟩ := ho.2.2.1 (1, 40) (by decide)
  refine ⟨⟨_, ho.1 2 (by decide), ?_⟩, r, _, h1, h2, h.2.2.1, h.2.2.2⟩
  rw [h.2.1, nI_toInt (by have := h.1; omega)]
  exact fG_fN h0
end FACTS44
abbrev wr_X9_feed__1 : List (Nat × Nat) := [(7, 2)]
abbrev wa_X9_feed__1 : List Nat := [2]
set_option maxHeartbeats 4000000 in
set_option maxRecDepth 100000 in
theorem c_X9_feed__1 (l : Launch) (D : va_G) (cy : Nat → ClassId) (z : Nat → Nat) (sz : Nat) (Ps : PSI) (w0 : va_W) (hT : HT cy GG Ps w0) (p0 : Nat) (p1 : Int32) (p2 : Int32) (p3 : Int32) (p4 : Int32) (p5 : Int32) (gh : Int) (gdT : Nat → Nat) (h_p0 : (p0, 33) ∈ Ps) (r_p1 : RI p1 (-2147483648) 2147483647) (r_p2 : RI p2 (-2147483648) 2147483647) (r_p3 : RI p3 (-2147483648) 2147483647) (r_p4 : RI p4 (-2147483648) 2147483647) (r_p5 : RI p5 (-2147483648) 2147483647) (x_TLX_p0_gh : TLX w0 p0 (gh)) (x_BYX_p0_gdT : BYX Ps w0 p0 gdT) (x_WKX_p0 : WKX Ps w0 p0) : Met l yX9_feed (Cond.code yX9_feed cX9_feed 6 (some .int) :: gT) ({ frames := 2, cells := 0, slots := 0, locals := 400 } : Room) (va_Pc [.ref p0, .int p1, .int p2, .int p3, .int p4, .int p5] (PRE D cy z w0 sz)) (va_Qi (fun (r : Int32) (u : va_W) => (RI r (-1) 940 ∧ (r = 0 → True) ∧ (¬ r = 0 → True) ∧ (FDX Ps u p0 gdT gh p1 p2 p3 p4 p5 ∧ True) ∧ (r.toInt < 0 → True) ∧ (0 ≤ r.toInt → True)) ∧ HT cy GG Ps u ∧ FR wr_X9_feed__1 wa_X9_feed__1 Ps w0 u) (BB D cy (va_A w0 sz) (fun (u : va_W) => u)) (va_A w0 sz)) 0 0 (va_A w0 sz) := by
  refine Met.ofW (cc := cX9_feed) (maxL := 6) (ret := (some .int)) (by decide) rfl ?_
  intro p e s m args below meth c s₁ B hml hv
  obtain ⟨rfl, hsz, hP, hK, hD0, hSD⟩ := hv
  have hx := B.exec
  have hb := B.bytes
  have hr := B.returns
  have hlocks := B.notSynchronized
  have hts : ∀ w ∈ gT, w.before _ s = true := fun w h => atoms_spec (ws := Cond.code yX9_feed cX9_feed 6 (some .int) :: gT) B.pre w (List.mem_cons_of_mem _ h)
  have hown : s.vm.findClass RX9 = some m.cls := findClass_of_methodNamed B.named
  subst hsz
  have hD := hD0.self (sz := s.heap.size)
  generalize hAe : va_A w0 s.heap.size = A at hD hSD ⊢
  have hA : ∀ q : Nat, s.heap.size ≤ q → A q := fun q h => by rw [← hAe]; exact Or.inr h
  have hl := lv_entry ([.ref p0, .int p1, .int p2, .int p3, .int p4, .int p5]) (n := 6) (Nat.le_of_ble_eq_true rfl)
  rw [lg_entry_eq]
  generalize (lg_sl ([.ref p0, .int p1, .int p2, .int p3, .int p4, .int p5]) ++ List.replicate (6 - (lg_sl ([.ref p0, .int p1, .int p2, .int p3, .int p4, .int p5])).length) Slot.unset).toArray = ls at hl ⊢
  have hl : lv_has ls 6 [(0, .ref p0), (1, .int p1), (2, .int p2), (3, .int p3), (4, .int p4), (5, .int p5)] := hl
  refine nameQ (fun Q hQ => ?_)
  have hw : WD D cy GG A s wr_X9_feed__1 wa_X9_feed__1 Ps w0 Ps w0 s.heap [] := ⟨hT, hP, hD, va_S.rf, FR.rf, hT.1, [], (List.append_nil _).symm⟩
  refine lv_aload_n hx hb dX9_feed_0 rfl (lv_at hl 0 rfl) ?_
  refine tg_get (ci := 9) (ts := ty_WP) (C := RX9) (T := TX9) (N := 15) hx hb hts inX9 hown hK hw h_p0 rfl rfl 0 (by decide) (hts _ tw_346) (fun _ h9 => h9) (ft := vR 26) rfl dX9_feed_1 (fun u_1 hv_u_1 m_u_1 => ?_)
  obtain ⟨vu_1, rfl, h_vu_1⟩ := hv_u_1
  obtain ⟨so, o_t, hCX, hg0⟩ := cx_get hw.1 hw.2.2.1 x_TLX_p0_gh x_BYX_p0_gdT x_WKX_p0 m_u_1 h_vu_1
  refine tk_ir (va_runV (As := []) (rest := []) ⟨hx, hb, hml, hown, hts⟩ (c_X7_hasPlaceForTwenty__1 l D cy z s.heap.size Ps w0 hw.1 vu_1 so h_vu_1 o_t) (cwV 0 hts (gV tw_396 tw_397 tw_398 tw_2 tw_399) rfl rfl rfl (by decide +kernel) ⟨Nat.le_of_ble_eq_true rfl, Nat.le_of_ble_eq_true rfl⟩) (tg_preV hw hK hSD hA (ci := 7) (q := (RX7, TX7, 12)) rfl h_vu_1 rfl) rfl rfl hl.1 rfl (lv_room (Nat.le_of_ble_eq_true rfl)) dX9_feed_4 ⟨Nat.le_of_ble_eq_true rfl, Nat.le_of_ble_eq_true rfl⟩) hw hA (fun v_2  H locs hp_v_2 hw => ?_)
  obtain ⟨hfn, hp_v_2⟩ := hp_v_2
  have hfr_v_2 : (f_X7_hasPlaceForTwenty__1 so) = v_2 := hfn.1
  have r_v_2 : RI v_2 0 1 := hp_v_2.1
  refine lv_if_ne (tgt := 12) hx hb dX9_feed_7 (by decide) (fun c_7 => ?_) (fun c_7 => ?_)
  · have r_v_2 : RI v_2 1 1 := rc_neL r_v_2 rl_0 (ti_ne c_7) (by decide)
    refine lv_aload_n hx hb dX9_feed_12 rfl (lv_at hl 0 rfl) ?_
    refine tg_mem (ci := 9) (C := RX9) (T := TX9) (N := 15) hx hb hts inX9 hown hK hw 0 m_u_1 rfl (by decide) (hts _ tw_346) (fun _ h9 => h9) dX9_feed_13 ?_
    refine lv_iload_n hx hb dX9_feed_16 rfl (lv_at hl 1 rfl) ?_
    refine tk_v (va_runV (As := [.int p1]) (rest := []) ⟨hx, hb, hml, hown, hts⟩ (c_X7_putFour__1 l D cy z H.size Ps w0 hw.1 vu_1 p1 so h_vu_1 r_p1 o_t) (cwV 1 hts (gV tw_400 tw_401 tw_402 tw_2 tw_403) rfl rfl rfl (by decide +kernel) ⟨Nat.le_of_ble_eq_true rfl, Nat.le_of_ble_eq_true rfl⟩) (tg_preV hw hK hSD hA (ci := 7) (q := (RX7, TX7, 12)) rfl h_vu_1 rfl) rfl rfl hl.1 rfl (lv_room (Nat.le_of_ble_eq_true rfl)) dX9_feed_17 ⟨Nat.le_of_ble_eq_true rfl, Nat.le_of_ble_eq_true rfl⟩) hw hA ⟨by decide, by decide⟩ (fun ws H locs hp_v_3 hw hF9 => ?_)
    have m_u_1 := FLD.over hF9 m_u_1 (by decide)
    have x_WKX_p0 := WKX.over hF9 x_WKX_p0 (by decide)
    obtain ⟨hfn, hp_v_3⟩ := hp_v_3
    have o_t : OV vw_TT Ps ws vu_1 ((f_X7_putFour__1 p1 so)) := hfn.1
    refine lv_aload_n hx hb dX9_feed_20 rfl (lv_at hl 0 rfl) ?_
    refine tg_mem (ci := 9) (C := RX9) (T := TX9) (N := 15) hx hb hts inX9 hown hK hw 0 m_u_1 rfl (by decide) (hts _ tw_346) (fun _ h9 => h9) dX9_feed_21 ?_
    refine lv_iload_n hx hb dX9_feed_24 rfl (lv_at hl 2 rfl) ?_
    refine tk_v (va_runV (As := [.int p2]) (rest := []) ⟨hx, hb, hml, hown, hts⟩ (c_X7_putFour__1 l D cy z H.size Ps ws hw.1 vu_1 p2 ((f_X7_putFour__1 p1 so)) h_vu_1 r_p2 o_t) (cwV 1 hts (gV tw_400 tw_401 tw_402 tw_2 tw_403) rfl rfl rfl (by decide +kernel) ⟨Nat.le_of_ble_eq_true rfl, Nat.le_of_ble_eq_true rfl⟩) (tg_preV hw hK hSD hA (ci := 7) (q := (RX7, TX7, 12)) rfl h_vu_1 rfl) rfl rfl hl.1 rfl (lv_room (Nat.le_of_ble_eq_true rfl)) dX9_feed_25 ⟨Nat.le_of_ble_eq_true rfl, Nat.le_of_ble_eq_true rfl⟩) hw hA ⟨by decide, by decide⟩ (fun ws H locs hp_v_4 hw hF9 => ?_)
    have m_u_1 := FLD.over hF9 m_u_1 (by decide)
    have x_WKX_p0 := WKX.over hF9 x_WKX_p0 (by decide)
    obtain ⟨hfn, hp_v_4⟩ := hp_v_4
    have o_t : OV vw_TT Ps ws vu_1 ((f_X7_putFour__1 p2 ((f_X7_putFour__1 p1 so)))) := hfn.1
    refine lv_aload_n hx hb dX9_feed_28 rfl (lv_at hl 0 rfl) ?_
    refine tg_mem (ci := 9) (C := RX9) (T := TX9) (N := 15) hx hb hts inX9 hown hK hw 0 m_u_1 rfl (by decide) (hts _ tw_346) (fun _ h9 => h9) dX9_feed_29 ?_
    refine lv_iload_n hx hb dX9_feed_32 rfl (lv_at hl 3 rfl) ?_
    refine tk_v (va_runV (As := [.int p3]) (rest := []) ⟨hx, hb, hml, hown, hts⟩ (c_X7_putFour__1 l D cy z H.size Ps ws hw.1 vu_1 p3 ((f_X7_putFour__1 p2 ((f_X7_putFour__1 p1 so)))) h_vu_1 r_p3 o_t) (cwV 1 hts (gV tw_400 tw_401 tw_402 tw_2 tw_403) rfl rfl rfl (by decide +kernel) ⟨Nat.le_of_ble_eq_true rfl, Nat.le_of_ble_eq_true rfl⟩) (tg_preV hw hK hSD hA (ci := 7) (q := (RX7, TX7, 12)) rfl h_vu_1 rfl) rfl rfl hl.1 rfl (lv_room (Nat.le_of_ble_eq_true rfl)) dX9_feed_33 ⟨Nat.le_of_ble_eq_true rfl, Nat.le_of_ble_eq_true rfl⟩) hw hA ⟨by decide, by decide⟩ (fun ws H locs hp_v_5 hw hF9 => ?_)
    have m_u_1 := FLD.over hF9 m_u_1 (by decide)
    have x_WKX_p0 := WKX.over hF9 x_WKX_p0 (by decide)
    obtain ⟨hfn, hp_v_5⟩ := hp_v_5
    have o_t : OV vw_TT Ps ws vu_1 ((f_X7_putFour__1 p3 ((f_X7_putFour__1 p2 ((f_X7_putFour__1 p1 so)))))) := hfn.1
    refine lv_aload_n hx hb dX9_feed_36 rfl (lv_at hl 0 rfl) ?_
    refine tg_mem (ci := 9) (C := RX9) (T := TX9) (N := 15) hx hb hts inX9 hown hK hw 0 m_u_1 rfl (by decide) (hts _ tw_346) (fun _ h9 => h9) dX9_feed_37 ?_
    refine lv_iload hx hb dX9_feed_40 (lv_at hl 4 rfl) ?_
    refine tk_v (va_runV (As := [.int p4]) (rest := []) ⟨hx, hb, hml, hown, hts⟩ (c_X7_putFour__1 l D cy z H.size Ps ws hw.1 vu_1 p4 ((f_X7_putFour__1 p3 ((f_X7_putFour__1 p2 ((f_X7_putFour__1 p1 so)))))) h_vu_1 r_p4 o_t) (cwV 1 hts (gV tw_400 tw_401 tw_402 tw_2 tw_403) rfl rfl rfl (by decide +kernel) ⟨Nat.le_of_ble_eq_true rfl, Nat.le_of_ble_eq_true rfl⟩) (tg_preV hw hK hSD hA (ci := 7) (q := (RX7, TX7, 12)) rfl h_vu_1 rfl) rfl rfl hl.1 rfl (lv_room (Nat.le_of_ble_eq_true rfl)) dX9_feed_42 ⟨Nat.le_of_ble_eq_true rfl, Nat.le_of_ble_eq_true rfl⟩) hw hA ⟨by decide, by decide⟩ (fun ws H locs hp_v_6 hw hF9 => ?_)
    have m_u_1 := FLD.over hF9 m_u_1 (by decide)
    have x_WKX_p0 := WKX.over hF9 x_WKX_p0 (by decide)
    obtain ⟨hfn, hp_v_6⟩ := hp_v_6
    have o_t : OV vw_TT Ps ws vu_1 ((f_X7_putFour__1 p4 ((f_X7_putFour__1 p3 ((f_X7_putFour__1 p2 ((f_X7_putFour__1 p1 so)))))))) := hfn.1
    refine lv_aload_n hx hb dX9_feed_45 rfl (lv_at hl 0 rfl) ?_
    refine tg_mem (ci := 9) (C := RX9) (T := TX9) (N := 15) hx hb hts inX9 hown hK hw 0 m_u_1 rfl (by decide) (hts _ tw_346) (fun _ h9 => h9) dX9_feed_46 ?_
    refine lv_iload hx hb dX9_feed_49 (lv_at hl 5 rfl) ?_
    refine tk_v (va_runV (As := [.int p5]) (rest := []) ⟨hx, hb, hml, hown, hts⟩ (c_X7_putFour__1 l D cy z H.size Ps ws hw.1 vu_1 p5 ((f_X7_putFour__1 p4 ((f_X7_putFour__1 p3 ((f_X7_putFour__1 p2 ((f_X7_putFour__1 p1 so)))))))) h_vu_1 r_p5 o_t) (cwV 1 hts (gV tw_400 tw_401 tw_402 tw_2 tw_403) rfl rfl rfl (by decide +kernel) ⟨Nat.le_of_ble_eq_true rfl, Nat.le_of_ble_eq_true rfl⟩) (tg_preV hw hK hSD hA (ci := 7) (q := (RX7, TX7, 12)) rfl h_vu_1 rfl) rfl rfl hl.1 rfl (lv_room (Nat.le_of_ble_eq_true rfl)) dX9_feed_51 ⟨Nat.le_of_ble_eq_true rfl, Nat.le_of_ble_eq_true rfl⟩) hw hA ⟨by decide, by decide⟩ (fun ws H locs hp_v_7 hw hF9 => ?_)
    have m_u_1 := FLD.over hF9 m_u_1 (by decide)
    have x_WKX_p0 := WKX.over hF9 x_WKX_p0 (by decide)
    obtain ⟨hfn, hp_v_7⟩ := hp_v_7
    have o_t : OV vw_TT Ps ws vu_1 ((f_X7_putFour__1 p5 ((f_X7_putFour__1 p4 ((f_X7_putFour__1 p3 ((f_X7_putFour__1 p2 ((f_X7_putFour__1 p1 so)))))))))) := hfn.1
    refine lv_aload_n hx hb dX9_feed_54 rfl (lv_at hl 0 rfl) ?_
    refine tg_mem (ci := 9) (C := RX9) (T := TX9) (N := 15) hx hb hts inX9 hown hK hw 0 m_u_1 rfl (by decide) (hts _ tw_346) (fun _ h9 => h9) dX9_feed_55 ?_
    refine tg_getN (ci := 7) (ts := ty_TAPE) (C := RX7) (T := TX7) (N := 12) hx hb hts inX7 hown hK hw h_vu_1 rfl rfl 2 (by decide) (hSD.nest tn_90) (fun _ h9 => h9) (ft := vI 0 940) rfl dX9_feed_58 (fun u_8 hv_u_8 m_u_8 => ?_)
    obtain ⟨vu_8, rfl, r_vu_8⟩ := hv_u_8
    subst hQ
    exact W.iret (v := vu_8) hx hb hr (fun t ht hW => ⟨⟨vu_8, ws, rfl, ⟨⟨r_vu_8.to (by decide), (fun h0 => trivial), (fun h0 => trivial), ⟨(fdx_yes m_u_1 o_t hCX hg0 (fun h9 => c_7 (hfr_v_2.symm.trans h9))), trivial⟩, (fun _ => trivial), (fun _ => trivial)⟩, hw.1, hw.2.2.2.2.1⟩, by rw [ht]; exact hw.2.1, va_K.moved hW.alike hK, hw.2.2.1⟩, hw.2.2.2.1.F ht⟩) hw.2.2.2.1.2.2 dX9_feed_61
  · have r_v_2 : RI v_2 0 0 := rc_eq1 r_v_2 rl_0 (ti_eq c_7) (by decide)
    refine lv_iconst (v := (-1)) hx hb dX9_feed_10 (by decide) ?_
    subst hQ
    exact W.iret (v := (-1)) hx hb hr (fun t ht hW => ⟨⟨(-1), w0, rfl, ⟨⟨rl_m1.to (by decide), (fun _ => trivial), (fun h0 => trivial), ⟨(fdx_no m_u_1 o_t hCX hg0 (hfr_v_2.trans c_7)), trivial⟩, (fun _ => trivial), (fun _ => trivial)⟩, hw.1, hw.2.2.2.2.1⟩, by rw [ht]; exact hw.2.1, va_K.moved hW.alike hK, hw.2.2.1⟩, hw.2.2.2.1.F ht⟩) hw.2.2.2.1.2.2 dX9_feed_11
set_option maxHeartbeats 4000000 in
set_option maxRecDepth 100000 in
theorem c_X10_feed__1_by (l : Launch) (D : va_G) (cy : Nat → ClassId) (z : Nat → Nat) (sz : Nat) (Ps : PSI) (w0 : va_W) (hT : HT cy GG Ps w0) (p0 : Nat) (p1 : Int32) (p2 : Int32) (p3 : Int32) (p4 : Int32) (p5 : Int32) (gh : Int) (gdT : Nat → Nat) (h_p0 : (p0, 55) ∈ Ps) (r_p1 : RI p1 (-2147483648) 2147483647) (r_p2 : RI p2 (-2147483648) 2147483647) (r_p3 : RI p3 (-2147483648) 2147483647) (r_p4 : RI p4 (-2147483648) 2147483647) (r_p5 : RI p5 (-2147483648) 2147483647) (x_TLM_p0_gh : TLM w0 p0 (gh)) (x_BYM_p0_gdT : BYM Ps w0 p0 gdT) : Met l yX10_feed (Cond.code yX10_feed cX10_feed 6 (some .int) :: gT) ({ frames := 2, cells := 0, slots := 0, locals := 400 } : Room) (va_Pc [.ref p0, .int p1, .int p2, .int p3, .int p4, .int p5] (PRE D cy z w0 sz)) (va_Qi (fun (r : Int32) (u : va_W) => (RI r (-1) 940 ∧ (r = 0 → True) ∧ (¬ r = 0 → True) ∧ (FDM Ps u p0 gdT gh p1 p2 p3 p4 p5 ∧ True) ∧ (r.toInt < 0 → True) ∧ (0 ≤ r.toInt → True)) ∧ HT cy GG Ps u ∧ FR wr_X10_feed__1 wa_X10_feed__1 Ps w0 u) (BB D cy (va_A w0 sz) (fun (u : va_W) => u)) (va_A w0 sz)) 0 0 (va_A w0 sz) := by
  refine Met.ofP (φ := ∃ o, OV vw_MT Ps w0 p0 o ∧ RXF o gdT gh.toNat ∧ 0 ≤ gh) (fun a st hv => ?_) (fun hφ => ?_)
  · obtain ⟨-, -, -, -, hD0, -⟩ := hv
    exact mx_get hT hD0 x_TLM_p0_gh x_BYM_p0_gdT h_p0
  · obtain ⟨s0, o_p0, hφ⟩ := hφ
    refine Met.monoQ (c_X10_feed__1 l D cy z sz Ps w0 hT p0 p1 p2 p3 p4 p5 s0 h_p0 r_p1 r_p2 r_p3 r_p4 r_p5 o_p0) (fun a st oc t hq => ?_)
    obtain ⟨⟨r, u, e1, ⟨⟨hfn, hp⟩, hT1, hF1⟩, hB⟩, hF⟩ := hq
    exact ⟨⟨r, u, e1, ⟨⟨hp.1, fun _ => trivial, fun _ => trivial, ⟨fdm_mk hfn.1 hφ.1 hφ.2, trivial⟩, fun _ => trivial, fun _ => trivial⟩, hT1, hF1⟩, hB⟩, hF⟩
