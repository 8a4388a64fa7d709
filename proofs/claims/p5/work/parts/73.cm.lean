/-! the class: images, and post -/
def FLP (ws : va_W) (q : Nat → Nat) (a b : Int32) : Prop := FLD ws (q 5) 2 2 (.int a) ∧ FLD ws (q 6) 2 2 (.int b)
/-- world and images, whatever the history holds -/
def HZ (Ps : PSI) (ws : va_W) (q : Nat → Nat) (o oA oB : OS) : Prop := ∃ n c, NC ws (q 2) n c ∧ WR Ps ws (q 0) o ∧ WR Ps ws (q 7) oA ∧ WR Ps ws (q 8) oB
/-- what a post is, by its view -/
def PDO (o : OS) (R : Nat → Int32) (N : Nat → Nat) : Prop := CN o R N ∧ AE 6 6 (o.2.2.1 2) R ∧ AE 6 12 (o.2.2.1 3) R ∧ o.1 5 = R 4 ∧ o.1 6 = R 5
theorem CP.pdo {s0 s2 : OS} {R : Nat → Int32} {N : Nat → Nat} (h : CP s0 s2 R N) : PDO s0 R N := ⟨h.1, h.2.1, h.2.2.1, h.2.2.2.2.1.1, h.2.2.2.2.1.2.1⟩
abbrev SP (T : Nat → Nat) (g : Int) : (Nat × Nat) ⊕ (Nat × (Nat → Int32) × (Nat → Nat)) := sPost T g.toNat 900 4294967298 R0 N0 0 0
/-- what post leaves in the class -/
def PX (Ps : PSI) (ws : va_W) (q g : Nat → Nat) (o oA oB : OS) (T : Nat → Nat) (gh : Int) : Prop := (∀ e, SP T gh = .inl e → HE Ps ws q g o oA oB false false) ∧ ∀ l R N, SP T gh = .inr (l, R, N) → ∃ o', HE Ps ws q g o' oA oB false false ∧ PDO o' R N
section FACTS51
variable {A : Nat → Prop} {ws ws' w0 w1 w2 wx : va_W} {Ps Pn X : PSI} {wr : List (Nat × Nat)} {wa : List Nat} {x a b k tr : Nat} {q g : Nat → Nat} {o oA oB o' : OS} {p t : Bool}
theorem FLP.over {u v : Int32} (hF : FR wr wa Ps ws ws') (h : FLP ws q u v) (hn : (2, 2) ∉ wr) : FLP ws' q u v := ⟨FLD.over hF h.1 hn, FLD.over hF h.2 hn⟩
theorem FLP.app {u v : Int32} (h : FLP ws q u v) : FLP (ws ++ wx) q u v := ⟨FLD.app h.1, FLD.app h.2⟩
theorem HZ.over (hF : FR wr wa Ps ws ws') (h : HZ Ps ws q o oA oB) (hn : ((1, 1) ∉ wr ∧ (1, 2) ∉ wr) ∧ (8, 0) ∉ wr ∧ NPp wr wa) : HZ Ps ws' q o oA oB := by
  obtain ⟨n, c, h1, h2, h3, h4⟩ := h
  exact ⟨n, c, NC.over hF h1 hn.1, WR.over hF hn.2 h2, WR.over hF hn.2 h3, WR.over hF hn.2 h4⟩
theorem HE.imgA (hD : va_D A ws) (hF : FR wr wa Ps ws ws') (hn : ((1, 1) ∉ wr ∧ (1, 2) ∉ wr) ∧ NPp wr wa) (hd : GD q g) (h : HE Ps ws q g o oA oB p t) (hT : TKF ws ws' (q 7) (q 0)) : HE Ps ws' q g o o oB p t := by
  obtain ⟨n, c, h1, b1, b2, b3, b4, b5, b6⟩ := h
  obtain ⟨⟨d1, d2, d3, d4, d5, d6, d7⟩, dg⟩ := hd
  have N := hn.2
  exact ⟨n, c, NC.over hF h1 hn.1, WR.ne hT hF N d2.symm b1, fun m hm => WR.ne hT hF N (dg _ (m9 _)).2.2.1 (b2 m hm), fun e => WR.ne hT hF N (dg n h1.2.1).2.2.1 (b3 e), fun e => WR.ne hT hF N d4.symm (b4 e), WR.tk hD hT hF N b1, WR.ne hT hF N d6.symm b6⟩
theorem HE.imgB (hD : va_D A ws) (hF : FR wr wa Ps ws ws') (hn : ((1, 1) ∉ wr ∧ (1, 2) ∉ wr) ∧ NPp wr wa) (hd : GD q g) (h : HE Ps ws q g o oA oB p t) (hT : TKF ws ws' (q 8) (q 0)) : HE Ps ws' q g o oA o p t := by
  obtain ⟨n, c, h1, b1, b2, b3, b4, b5, b6⟩ := h
  obtain ⟨⟨d1, d2, d3, d4, d5, d6, d7⟩, dg⟩ := hd
  have N := hn.2
  exact ⟨n, c, NC.over hF h1 hn.1, WR.ne hT hF N d3.symm b1, fun m hm => WR.ne hT hF N (dg _ (m9 _)).2.2.2 (b2 m hm), fun e => WR.ne hT hF N (dg n h1.2.1).2.2.2 (b3 e), fun e => WR.ne hT hF N d5.symm (b4 e), WR.ne hT hF N d6 b5, WR.tk hD hT hF N b1⟩
theorem HE.restA (hD : va_D A ws) (hF : FR wr wa Ps ws ws') (hn : ((1, 1) ∉ wr ∧ (1, 2) ∉ wr) ∧ NPp wr wa) (hd : GD q g) (h : HE Ps ws q g o oA oB p t) (hT : TKF ws ws' (q 0) (q 7)) : HZ Ps ws' q oA oA oB := by
  obtain ⟨n, c, h1, b1, b2, b3, b4, b5, b6⟩ := h
  obtain ⟨⟨d1, d2, d3, d4, d5, d6, d7⟩, dg⟩ := hd
  have N := hn.2
  exact ⟨n, c, NC.over hF h1 hn.1, WR.tk hD hT hF N b5, WR.ne hT hF N d2 b5, WR.ne hT hF N d3 b6⟩
theorem HE.restB (hD : va_D A ws) (hF : FR wr wa Ps ws ws') (hn : ((1, 1) ∉ wr ∧ (1, 2) ∉ wr) ∧ NPp wr wa) (hd : GD q g) (h : HE Ps ws q g o oA oB p t) (hT : TKF ws ws' (q 0) (q 8)) : HZ Ps ws' q oB oA oB := by
  obtain ⟨n, c, h1, b1, b2, b3, b4, b5, b6⟩ := h
  obtain ⟨⟨d1, d2, d3, d4, d5, d6, d7⟩, dg⟩ := hd
  have N := hn.2
  exact ⟨n, c, NC.over hF h1 hn.1, WR.tk hD hT hF N b6, WR.ne hT hF N d2 b5, WR.ne hT hF N d3 b6⟩
/-- the world takes trial, which has a new post -/
theorem HE.newp (hD : va_D A ws) (hF : FR wr wa Ps ws ws') (hn : ((1, 1) ∉ wr ∧ (1, 2) ∉ wr) ∧ NPp wr wa) (hd : GD q g) (h : HE Ps ws q g o oA oB p t) (hT : TKF ws ws' (q 0) (q 1)) (hw : WR Ps ws (q 1) o') : HZ Ps ws' q o' oA oB := by
  obtain ⟨n, c, h1, b1, b2, b3, b4, b5, b6⟩ := h
  obtain ⟨⟨d1, d2, d3, d4, d5, d6, d7⟩, dg⟩ := hd
  have N := hn.2
  exact ⟨n, c, NC.over hF h1 hn.1, WR.tk hD hT hF N hw, WR.ne hT hF N d2 b5, WR.ne hT hF N d3 b6⟩
theorem HE.w (h : HE Ps ws q g o oA oB p t) : WR Ps ws (q 0) o := by
  obtain ⟨n, c, -, h2⟩ := h
  exact h2.1
/-- the images at a place -/
theorem GQ.im {i : Int32} {r k9 : Nat} (hD : va_D A ws) (h : GQ Ps ws q g) (e : r = q 4) (he : RFE ws r i b) (hi : i.toInt = (k9 : Int)) (hk : k9 < 2) : b = q (5 + k9) := by
  rw [e] at he
  have e1 : i.toNatClampNeg = k9 := by
    have z := (show RI i 0 1 from ⟨by omega, by omega⟩).cl (by decide)
    omega
  have z := QRF.get hD h.2.2.1 he (by omega)
  rw [z, e1]
theorem apart {i j : Nat} {e e' : va_E} (hD : va_D A (w0 ++ wx)) (h1 : w0[i]? = some (a, e)) (h2 : wx[j]? = some (b, e')) : a ≠ b := fun z => by
  have y := hD.1 i (w0.length + j) _ _ (gapp h1) (gmid j h2) z
  have := (List.getElem?_eq_some_iff.mp h1).1
  omega
/-- an elder post beside a new one -/
theorem VN.new {u0 u1 u2 u3 u4 b0 : Nat} {c0 : va_E} {e0 e1 e2 e3 e4 : ClassId × vp_A} {vs : List Value} (hl : Ps.length = w0.length) (hX : X = [(k, b0), (u0, 1), (u1, 4), (u2, 5), (u3, 6), (u4, 7)]) (hx : wx = [(k, .inr (3, .ref u0 :: .ref u1 :: .ref u2 :: .ref u3 :: .ref u4 :: vs)), (u0, .inl e0), (u1, .inl e1), (u2, .inl e2), (u3, .inl e3), (u4, .inl e4)]) (hD : va_D A (w0 ++ wx)) (h : OV vw_POST Ps w0 b o) : VN (Ps ++ X) (w0 ++ wx) b k o := by
  have z5 := h.1 5 (by decide)
  obtain ⟨i, fs, y1, y2⟩ := z5
  refine ⟨apart (wx := wx) (j := 0) hD y1 (by rw [hx]; rfl), OV.app h, fun j hj => ?_⟩
  simp only [List.mem_cons, List.not_mem_nil, or_false] at hj
  rcases hj with rfl | rfl | rfl | rfl | rfl
  · obtain ⟨r, f1, i2, cA, m, -, f3⟩ := h.2.2.2 (0, 1) (by decide)
    exact ⟨r, u0, FLD.app f1, by rw [hx]; exact FLD.mid rfl, apart (wx := wx) (j := 1) hD f3 (by rw [hx]; rfl)⟩
  · obtain ⟨r, f1, i2, cA, m, -, f3⟩ := h.2.2.1 (1, 4) (by decide)
    exact ⟨r, u1, FLD.app f1, by rw [hx]; exact FLD.mid rfl, apart (wx := wx) (j := 2) hD f3 (by rw [hx]; rfl)⟩
  · obtain ⟨r, f1, i2, cA, m, -, f3⟩ := h.2.2.1 (2, 5) (by decide)
    exact ⟨r, u2, FLD.app f1, by rw [hx]; exact FLD.mid rfl, apart (wx := wx) (j := 3) hD f3 (by rw [hx]; rfl)⟩
  · obtain ⟨r, f1, i2, cA, m, -, f3⟩ := h.2.2.1 (3, 6) (by decide)
    exact ⟨r, u3, FLD.app f1, by rw [hx]; exact FLD.mid rfl, apart (wx := wx) (j := 4) hD f3 (by rw [hx]; rfl)⟩
  · obtain ⟨r, f1, i2, cA, m, -, f3⟩ := h.2.2.1 (4, 7) (by decide)
    exact ⟨r, u4, FLD.app f1, by rw [hx]; exact FLD.mid rfl, apart (wx := wx) (j := 5) hD f3 (by rw [hx]; rfl)⟩
theorem HE.map1 (hd : GD q g) (hN : ∀ n c, NC ws (q 2) n c → NC ws' (q 2) n c) (hf : ∀ v z, v ≠ q 1 → WR Ps ws v z → WR Pn ws' v z) (h : HE Ps ws q g o oA oB false false) : HE Pn ws' q g o oA oB false false := by
  obtain ⟨n, c, h1, b1, b2, b3, b4, b5, b6⟩ := h
  obtain ⟨⟨d1, d2, d3, d4, d5, d6, d7⟩, dg⟩ := hd
  exact ⟨n, c, hN n c h1, hf _ _ d1.symm b1, fun m hm => hf _ _ (dg _ (m9 _)).2.1 (b2 m hm), fun e => (by cases e), fun e => (by cases e), hf _ _ d4 b5, hf _ _ d5 b6⟩
/-- a post was read: what the worlds but trial have is as it was -/
theorem HE.read {u0 u1 u2 u3 u4 b0 : Nat} {e0 e1 e2 e3 e4 : ClassId × vp_A} {vs : List Value} (hl : Ps.length = w0.length) (hPn : Pn = Ps ++ [(k, b0), (u0, 1), (u1, 4), (u2, 5), (u3, 6), (u4, 7)]) (hws : w1 = w0 ++ [(k, .inr (3, .ref u0 :: .ref u1 :: .ref u2 :: .ref u3 :: .ref u4 :: vs)), (u0, .inl e0), (u1, .inl e1), (u2, .inl e2), (u3, .inl e3), (u4, .inl e4)]) (hD : va_D A w1) (hd : GD q g) (hot : OTR Pn w1 w2 k) (hbg : BGF w1 w2 tr k) (htr : tr = q 1) (hF : FR wr wa Pn w1 w2) (hn : (1, 1) ∉ wr ∧ (1, 2) ∉ wr) (h : HE Ps w0 q g o oA oB false false) : HE Pn w2 q g o oA oB false false := by
  subst hws
  subst hPn
  refine HE.map1 hd (fun n c z => ⟨FLD.over hF (FLD.app z.1) hn.1, z.2.1, FLD.over hF (FLD.app z.2.2.1) hn.2, z.2.2.2⟩) (fun v z hv hz => ?_) h
  obtain ⟨pt, h1, h2⟩ := hz
  exact ⟨pt, hbg.2 v pt (by rw [htr]; exact hv) (FLD.app h1), (hot pt z (VN.new (c0 := .inl e0) hl rfl rfl hD h2)).2.1⟩
/-- the numbers of a world's post -/
theorem WR.arr {w pt r j u : Nat} {i v : Int32} (hD : va_D A ws) (h : WR Ps ws (q 0) o) (hx : GWX ws x q) (h1 : FLD ws x 9 1 (.ref w)) (h2 : FLD ws w 8 0 (.ref pt)) (h3 : FLD ws pt 3 j (.ref r)) (h4 : AEL ws r i v) (hj : (j, u) ∈ vw_POST.2.2.2.1) : o.2.2.1 j i.toNatClampNeg = v := by
  have e := GWX.wo hD hx h1
  subst e
  obtain ⟨p2, k1, k2⟩ := h
  cases FLD.inj hD k1 h2
  exact OV.eqA (V := vw_POST) (t := u) hD k2 h3 h4 hj
theorem WR.fld {w pt j : Nat} {v : Int32} (hD : va_D A ws) (h : WR Ps ws (q 0) o) (hx : GWX ws x q) (h1 : FLD ws x 9 1 (.ref w)) (h2 : FLD ws w 8 0 (.ref pt)) (h3 : FLD ws pt 3 j (.int v)) (hj : j ∈ vw_POST.2.1) : o.1 j = v := by
  have e := GWX.wo hD hx h1
  subst e
  obtain ⟨p2, k1, k2⟩ := h
  cases FLD.inj hD k1 h2
  exact OV.eqI (V := vw_POST) hD k2 h3 hj
end FACTS51
theorem PX.bad {Ps : PSI} {ws : va_W} {q g : Nat → Nat} {o oA oB : OS} {T : Nat → Nat} {gh : Int} {r : OS × OS × OS × Int32} (hRO : RO r (SP T gh)) (hf : ¬ r.2.1.1 10 = 0) (h : HE Ps ws q g o oA oB false false) : PX Ps ws q g o oA oB T gh := ⟨fun _ _ => h, fun l R N e => absurd (hRO.2 l R N e).1 hf⟩
theorem PX.ok {Ps : PSI} {ws : va_W} {q g : Nat → Nat} {o oA oB : OS} {T : Nat → Nat} {gh : Int} {r : OS × OS × OS × Int32} (hRO : RO r (SP T gh)) (hf : r.2.1.1 10 = 0) (h : HE Ps ws q g r.1 oA oB false false) : PX Ps ws q g o oA oB T gh := by
  refine ⟨fun e z => ?_, fun l R N e => ⟨r.1, h, CP.pdo (hRO.2 l R N e).2.2⟩⟩
  obtain ⟨a, b, c, d⟩ := hRO.1 e z
  rw [a] at hf
  exact absurd hf (nI_ne0 c (by omega))
/-- what count answers -/
def CNT (k : Int32) (m : Nat → Int32) (lk gs : Int32) (g : Int) (r : Int32) : Prop := (∀ j : Nat, j < 4 → k.toInt = j → r = m j) ∧ (k.toInt = 4 → r = lk) ∧ (k.toInt = 5 → r = gs) ∧ (k.toInt = 6 → r.toInt = g) ∧ (¬ (0 ≤ k.toInt ∧ k.toInt ≤ 6) → r = -1)
theorem CNT.eq {k : Int32} {m m' : Nat → Int32} {lk gs : Int32} {g : Int} {r r' : Int32} (h : CNT k m lk gs g r) (h' : CNT k m' lk gs g r') (e : ∀ j, j < 4 → m j = m' j) : r = r' := by
  by_cases z : 0 ≤ k.toInt ∧ k.toInt ≤ 6
  · by_cases z4 : k.toInt < 4
    · have y : k.toInt = ((k.toInt.toNat : Nat) : Int) := by omega
      rw [h.1 _ (by omega) y, h'.1 _ (by omega) y, e _ (by omega)]
    · rcases (show k.toInt = 4 ∨ k.toInt = 5 ∨ k.toInt = 6 by omega) with y | y | y
      · rw [h.2.1 y, h'.2.1 y]
      · rw [h.2.2.1 y, h'.2.2.1 y]
      · exact Int32.toInt_inj.mp ((h.2.2.2.1 y).trans (h'.2.2.2.1 y).symm)
  · rw [h.2.2.2.2 z, h'.2.2.2.2 z]
theorem PDO.many {o : OS} {R : Nat → Int32} {N : Nat → Nat} (h : PDO o R N) : ∀ j, j < 4 → o.2.2.1 1 j = R j := fun j hj => by
  have key : ∀ s b M, SORT s b M → o.2.2.1 1 s = R s := fun s b M z => (h.1 s b M z).1.trans (h.1 s b M z).2.1.symm
  rcases (show j = 0 ∨ j = 1 ∨ j = 2 ∨ j = 3 by omega) with rfl | rfl | rfl | rfl
  · exact key 0 0 6 (by decide)
  · exact key 1 6 4 (by decide)
  · exact key 2 10 6 (by decide)
  · exact key 3 16 8 (by decide)
theorem hd_at {A : Nat → Prop} {Ps : PSI} {ws : va_W} {t y r : Nat} {R : Nat → Int32} {i v : Int32} (hD : va_D A ws) (h : AX 14 t (HDp R) Ps ws y) (hf : FLD ws y 10 14 (.ref r)) (he : AEL ws r i v) (hi : i.toNatClampNeg < 84) : v = R i.toNatClampNeg := by
  obtain ⟨a, f, h1, h2, h3⟩ := h
  cases FLD.inj hD h1 hf
  rw [← h3 _ hi]
  exact (ARR.ael hD h2 he).symm
abbrev wr_X9_count__1 : List (Nat × Nat) := []
abbrev wa_X9_count__1 : List Nat := []
set_option maxHeartbeats 4000000 in
set_option maxRecDepth 100000 in
theorem c_X9_count__1 (l : Launch) (D : va_G) (cy : Nat → ClassId) (z : Nat → Nat) (sz : Nat) (Ps : PSI) (w0 : va_W) (hT : HT cy GG Ps w0) (p0 : Nat) (p1 : Int32) (gdq : Nat → Nat) (gdg : Nat → Nat) (gdo : OS) (gdA : OS) (gdB : OS) (gh : Int) (h_p0 : (p0, 33) ∈ Ps) (r_p1 : RI p1 (-2147483648) 2147483647) (x_GWX_p0_gdq : GWX w0 p0 gdq) (x_HE_gdq_gdg_gdo_gdA_gdB_false_false : HE Ps w0 gdq gdg gdo gdA gdB false false) (x_TLX_p0_gh : TLX w0 p0 (gh)) : Met l yX9_count (Cond.code yX9_count cX9_count 2 (some .int) :: gT) ({ frames := 0, cells := 0, slots := 0, locals := 200 } : Room) (va_Pc [.ref p0, .int p1] (PRE D cy z w0 sz)) (va_Qi (fun (r : Int32) (u : Unit) => RI r (-2147483648) 2147483647 ∧ (r = 0 → True) ∧ (¬ r = 0 → True) ∧ ((CNT p1 (gdo.2.2.1 1) (gdo.1 5) (gdo.1 6) gh r) ∧ True) ∧ (r.toInt < 0 → True) ∧ (0 ≤ r.toInt → True)) (BB D cy (va_A w0 sz) (fun (u : Unit) => w0)) (va_A w0 sz)) 0 0 (va_A w0 sz) := by
  refine Met.ofW (cc := cX9_count) (maxL := 2) (ret := (some .int)) (by decide) rfl ?_
  intro p e s m args below meth c s₁ B hml hv
  obtain ⟨rfl, hsz, hP, hK, hD0, hSD⟩ := hv
  have hx := B.exec
  have hb := B.bytes
  have hr := B.returns
  have hlocks := B.notSynchronized
  have hts : ∀ w ∈ gT, w.before _ s = true := fun w h => atoms_spec (ws := Cond.code yX9_count cX9_count 2 (some .int) :: gT) B.pre w (List.mem_cons_of_mem _ h)
  have hown : s.vm.findClass RX9 = some m.cls := findClass_of_methodNamed B.named
  subst hsz
  have hD := hD0.self (sz := s.heap.size)
  generalize hAe : va_A w0 s.heap.size = A at hD hSD ⊢
  have hA : ∀ q : Nat, s.heap.size ≤ q → A q := fun q h => by rw [← hAe]; exact Or.inr h
  have hl := lv_entry ([.ref p0, .int p1]) (n := 2) (Nat.le_of_ble_eq_true rfl)
  rw [lg_entry_eq]
  generalize (lg_sl ([.ref p0, .int p1]) ++ List.replicate (2 - (lg_sl ([.ref p0, .int p1])).length) Slot.unset).toArray = ls at hl ⊢
  have hl : lv_has ls 2 [(0, .ref p0), (1, .int p1)] := hl
  refine nameQ (fun Q hQ => ?_)
  have hw : WD D cy GG A s wr_X9_count__1 wa_X9_count__1 Ps w0 Ps w0 s.heap [] := ⟨hT, hP, hD, va_S.rf, FR.rf, hT.1, [], (List.append_nil _).symm⟩
  refine lv_iload_n hx hb dX9_count_0 rfl (lv_at hl 1 rfl) ?_
  have w_1 := r_p1
  by_cases cl_1 : p1.toInt < 0 ∨ 6 < p1.toInt
  · refine lv_tableOut (tgt := 126) hx hb dX9_count_1 cl_1 (by decide) ?_
    refine lv_iconst (v := (-1)) hx hb dX9_count_126 (by decide) ?_
    subst hQ
    exact W.iret (v := (-1)) hx hb hr (fun t ht hW => ⟨⟨(-1), (), rfl, ⟨rl_m1.to (by decide), (fun _ => trivial), (fun h0 => trivial), ⟨⟨(fun j9 h8 h9 => absurd h9 (by have k1 := r_p1.1; have k2 := r_p1.2; omega)), (fun h9 => absurd h9 (by have k1 := r_p1.1; have k2 := r_p1.2; omega)), (fun h9 => absurd h9 (by have k1 := r_p1.1; have k2 := r_p1.2; omega)), (fun h9 => absurd h9 (by have k1 := r_p1.1; have k2 := r_p1.2; omega)), (fun _ => rfl)⟩, trivial⟩, (fun _ => trivial), (fun _ => trivial)⟩, by rw [ht]; exact hw.2.1, va_K.moved hW.alike hK, hw.2.2.1⟩, hw.2.2.2.1.F ht⟩) hw.2.2.2.1.2.2 dX9_count_127
  · have e_1 : p1.toInt = 0 ∨ p1.toInt = 1 ∨ p1.toInt = 2 ∨ p1.toInt = 3 ∨ p1.toInt = 4 ∨ p1.toInt = 5 ∨ p1.toInt = 6 := by omega
    rcases e_1 with h_1 | h_1 | h_1 | h_1 | h_1 | h_1 | h_1
    · refine lv_tableIn (tgt := 44) (off := 43) hx hb dX9_count_1 (by omega) (by omega) (by rw [h_1]; rfl) (by decide) ?_
      have r_p1 : RI p1 0 0 := ⟨by omega, by omega⟩
      refine lv_aload_n hx hb dX9_count_44 rfl (lv_at hl 0 rfl) ?_
      refine tg_get (ci := 9) (ts := ty_WP) (C := RX9) (T := TX9) (N := 15) hx hb hts inX9 hown hK hw h_p0 rfl rfl 1 (by decide) (hts _ tw_347) (fun _ h9 => h9) (ft := vR 24) rfl dX9_count_45 (fun u_1 hv_u_1 m_u_1 => ?_)
      obtain ⟨vu_1, rfl, h_vu_1⟩ := hv_u_1
      refine tg_getN (ci := 8) (ts := ty_WORLD) (C := RX8) (T := TX8) (N := 13) hx hb hts inX8 hown hK hw h_vu_1 rfl rfl 0 (by decide) (hSD.nest tn_249) (fun _ h9 => h9) (ft := vR 25) rfl dX9_count_48 (fun u_2 hv_u_2 m_u_2 => ?_)
      obtain ⟨vu_2, rfl, h_vu_2⟩ := hv_u_2
      refine tg_getN (ci := 3) (ts := ty_POST) (C := RX3) (T := TX3) (N := 9) hx hb hts inX3 hown hK hw h_vu_2 rfl rfl 1 (by decide) (hSD.nest tn_204) (fun _ h9 => h9) (ft := vR 4) rfl dX9_count_51 (fun u_3 hv_u_3 m_u_3 => ?_)
      obtain ⟨vu_3, rfl, h_vu_3⟩ := hv_u_3
      refine lv_iconst (v := 0) hx hb dX9_count_54 (by decide) ?_
      refine tg_iald (lo := 0) (hi := 6) hx hb hK hw h_vu_3 rfl 0 0 rl_0 (by decide) (by decide +kernel) dX9_count_55 (fun v_4 r_v_4 m_v_4 o_v_4 => ?_)
      subst hQ
      exact W.iret (v := v_4) hx hb hr (fun t ht hW => ⟨⟨v_4, (), rfl, ⟨r_v_4.to (by decide), (fun h0 => trivial), (fun h0 => trivial), ⟨⟨(fun j9 h8 h9 => by rcases (show j9 = 0 by have k1 := r_p1.1; have k2 := r_p1.2; omega) with rfl; exact (WR.arr (u := 4) hw.2.2.1 (HE.w x_HE_gdq_gdg_gdo_gdA_gdB_false_false) x_GWX_p0_gdq m_u_1 m_u_2 m_u_3 m_v_4 (by decide)).symm), (fun h9 => absurd h9 (by have k1 := r_p1.1; have k2 := r_p1.2; omega)), (fun h9 => absurd h9 (by have k1 := r_p1.1; have k2 := r_p1.2; omega)), (fun h9 => absurd h9 (by have k1 := r_p1.1; have k2 := r_p1.2; omega)), (fun h9 => absurd (show 0 ≤ Int32.toInt p1 ∧ Int32.toInt p1 ≤ 6 from (by have k1 := r_p1.1; have k2 := r_p1.2; omega)) h9)⟩, trivial⟩, (fun _ => trivial), (fun _ => trivial)⟩, by rw [ht]; exact hw.2.1, va_K.moved hW.alike hK, hw.2.2.1⟩, hw.2.2.2.1.F ht⟩) hw.2.2.2.1.2.2 dX9_count_56
    · refine lv_tableIn (tgt := 57) (off := 56) hx hb dX9_count_1 (by omega) (by omega) (by rw [h_1]; rfl) (by decide) ?_
      have r_p1 : RI p1 1 1 := ⟨by omega, by omega⟩
      refine lv_aload_n hx hb dX9_count_57 rfl (lv_at hl 0 rfl) ?_
      refine tg_get (ci := 9) (ts := ty_WP) (C := RX9) (T := TX9) (N := 15) hx hb hts inX9 hown hK hw h_p0 rfl rfl 1 (by decide) (hts _ tw_347) (fun _ h9 => h9) (ft := vR 24) rfl dX9_count_58 (fun u_5 hv_u_5 m_u_5 => ?_)
      obtain ⟨vu_5, rfl, h_vu_5⟩ := hv_u_5
      refine tg_getN (ci := 8) (ts := ty_WORLD) (C := RX8) (T := TX8) (N := 13) hx hb hts inX8 hown hK hw h_vu_5 rfl rfl 0 (by decide) (hSD.nest tn_249) (fun _ h9 => h9) (ft := vR 25) rfl dX9_count_61 (fun u_6 hv_u_6 m_u_6 => ?_)
      obtain ⟨vu_6, rfl, h_vu_6⟩ := hv_u_6
      refine tg_getN (ci := 3) (ts := ty_POST) (C := RX3) (T := TX3) (N := 9) hx hb hts inX3 hown hK hw h_vu_6 rfl rfl 1 (by decide) (hSD.nest tn_204) (fun _ h9 => h9) (ft := vR 4) rfl dX9_count_64 (fun u_7 hv_u_7 m_u_7 => ?_)
      obtain ⟨vu_7, rfl, h_vu_7⟩ := hv_u_7
      refine lv_iconst (v := 1) hx hb dX9_count_67 (by decide) ?_
      refine tg_iald (lo := 0) (hi := 4) hx hb hK hw h_vu_7 rfl 1 1 rl_1 (by decide) (by decide +kernel) dX9_count_68 (fun v_8 r_v_8 m_v_8 o_v_8 => ?_)
      subst hQ
      exact W.iret (v := v_8) hx hb hr (fun t ht hW => ⟨⟨v_8, (), rfl, ⟨r_v_8.to (by decide), (fun h0 => trivial), (fun h0 => trivial), ⟨⟨(fun j9 h8 h9 => by rcases (show j9 = 1 by have k1 := r_p1.1; have k2 := r_p1.2; omega) with rfl; exact (WR.arr (u := 4) hw.2.2.1 (HE.w x_HE_gdq_gdg_gdo_gdA_gdB_false_false) x_GWX_p0_gdq m_u_5 m_u_6 m_u_7 m_v_8 (by decide)).symm), (fun h9 => absurd h9 (by have k1 := r_p1.1; have k2 := r_p1.2; omega)), (fun h9 => absurd h9 (by have k1 := r_p1.1; have k2 := r_p1.2; omega)), (fun h9 => absurd h9 (by have k1 := r_p1.1; have k2 := r_p1.2; omega)), (fun h9 => absurd (show 0 ≤ Int32.toInt p1 ∧ Int32.toInt p1 ≤ 6 from (by have k1 := r_p1.1; have k2 := r_p1.2; omega)) h9)⟩, trivial⟩, (fun _ => trivial), (fun _ => trivial)⟩, by rw [ht]; exact hw.2.1, va_K.moved hW.alike hK, hw.2.2.1⟩, hw.2.2.2.1.F ht⟩) hw.2.2.2.1.2.2 dX9_count_69
    · refine lv_tableIn (tgt := 70) (off := 69) hx hb dX9_count_1 (by omega) (by omega) (by rw [h_1]; rfl) (by decide) ?_
      have r_p1 : RI p1 2 2 := ⟨by omega, by omega⟩
      refine lv_aload_n hx hb dX9_count_70 rfl (lv_at hl 0 rfl) ?_
      refine tg_get (ci := 9) (ts := ty_WP) (C := RX9) (T := TX9) (N := 15) hx hb hts inX9 hown hK hw h_p0 rfl rfl 1 (by decide) (hts _ tw_347) (fun _ h9 => h9) (ft := vR 24) rfl dX9_count_71 (fun u_9 hv_u_9 m_u_9 => ?_)
      obtain ⟨vu_9, rfl, h_vu_9⟩ := hv_u_9
      refine tg_getN (ci := 8) (ts := ty_WORLD) (C := RX8) (T := TX8) (N := 13) hx hb hts inX8 hown hK hw h_vu_9 rfl rfl 0 (by decide) (hSD.nest tn_249) (fun _ h9 => h9) (ft := vR 25) rfl dX9_count_74 (fun u_10 hv_u_10 m_u_10 => ?_)
      obtain ⟨vu_10, rfl, h_vu_10⟩ := hv_u_10
      refine tg_getN (ci := 3) (ts := ty_POST) (C := RX3) (T := TX3) (N := 9) hx hb hts inX3 hown hK hw h_vu_10 rfl rfl 1 (by decide) (hSD.nest tn_204) (fun _ h9 => h9) (ft := vR 4) rfl dX9_count_77 (fun u_11 hv_u_11 m_u_11 => ?_)
      obtain ⟨vu_11, rfl, h_vu_11⟩ := hv_u_11
      refine lv_iconst (v := 2) hx hb dX9_count_80 (by decide) ?_
      refine tg_iald (lo := 0) (hi := 6) hx hb hK hw h_vu_11 rfl 2 2 rl_2 (by decide) (by decide +kernel) dX9_count_81 (fun v_12 r_v_12 m_v_12 o_v_12 => ?_)
      subst hQ
      exact W.iret (v := v_12) hx hb hr (fun t ht hW => ⟨⟨v_12, (), rfl, ⟨r_v_12.to (by decide), (fun h0 => trivial), (fun h0 => trivial), ⟨⟨(fun j9 h8 h9 => by rcases (show j9 = 2 by have k1 := r_p1.1; have k2 := r_p1.2; omega) with rfl; exact (WR.arr (u := 4) hw.2.2.1 (HE.w x_HE_gdq_gdg_gdo_gdA_gdB_false_false) x_GWX_p0_gdq m_u_9 m_u_10 m_u_11 m_v_12 (by decide)).symm), (fun h9 => absurd h9 (by have k1 := r_p1.1; have k2 := r_p1.2; omega)), (fun h9 => absurd h9 (by have k1 := r_p1.1; have k2 := r_p1.2; omega)), (fun h9 => absurd h9 (by have k1 := r_p1.1; have k2 := r_p1.2; omega)), (fun h9 => absurd (show 0 ≤ Int32.toInt p1 ∧ Int32.toInt p1 ≤ 6 from (by have k1 := r_p1.1; have k2 := r_p1.2; omega)) h9)⟩, trivial⟩, (fun _ => trivial), (fun _ => trivial)⟩, by rw [ht]; exact hw.2.1, va_K.moved hW.alike hK, hw.2.2.1⟩, hw.2.2.2.1.F ht⟩) hw.2.2.2.1.2.2 dX9_count_82
    · refine lv_tableIn (tgt := 83) (off := 82) hx hb dX9_count_1 (by omega) (by omega) (by rw [h_1]; rfl) (by decide) ?_
      have r_p1 : RI p1 3 3 := ⟨by omega, by omega⟩
      refine lv_aload_n hx hb dX9_count_83 rfl (lv_at hl 0 rfl) ?_
      refine tg_get (ci := 9) (ts := ty_WP) (C := RX9) (T := TX9) (N := 15) hx hb hts inX9 hown hK hw h_p0 rfl rfl 1 (by decide) (hts _ tw_347) (fun _ h9 => h9) (ft := vR 24) rfl dX9_count_84 (fun u_13 hv_u_13 m_u_13 => ?_)
      obtain ⟨vu_13, rfl, h_vu_13⟩ := hv_u_13
      refine tg_getN (ci := 8) (ts := ty_WORLD) (C := RX8) (T := TX8) (N := 13) hx hb hts inX8 hown hK hw h_vu_13 rfl rfl 0 (by decide) (hSD.nest tn_249) (fun _ h9 => h9) (ft := vR 25) rfl dX9_count_87 (fun u_14 hv_u_14 m_u_14 => ?_)
      obtain ⟨vu_14, rfl, h_vu_14⟩ := hv_u_14
      refine tg_getN (ci := 3) (ts := ty_POST) (C := RX3) (T := TX3) (N := 9) hx hb hts inX3 hown hK hw h_vu_14 rfl rfl 1 (by decide) (hSD.nest tn_204) (fun _ h9 => h9) (ft := vR 4) rfl dX9_count_90 (fun u_15 hv_u_15 m_u_15 => ?_)
      obtain ⟨vu_15, rfl, h_vu_15⟩ := hv_u_15
      refine lv_iconst (v := 3) hx hb dX9_count_93 (by decide) ?_
      refine tg_iald (lo := 0) (hi := 8) hx hb hK hw h_vu_15 rfl 3 3 rl_3 (by decide) (by decide +kernel) dX9_count_94 (fun v_16 r_v_16 m_v_16 o_v_16 => ?_)
      subst hQ
      exact W.iret (v := v_16) hx hb hr (fun t ht hW => ⟨⟨v_16, (), rfl, ⟨r_v_16.to (by decide), (fun h0 => trivial), (fun h0 => trivial), ⟨⟨(fun j9 h8 h9 => by rcases (show j9 = 3 by have k1 := r_p1.1; have k2 := r_p1.2; omega) with rfl; exact (WR.arr (u := 4) hw.2.2.1 (HE.w x_HE_gdq_gdg_gdo_gdA_gdB_false_false) x_GWX_p0_gdq m_u_13 m_u_14 m_u_15 m_v_16 (by decide)).symm), (fun h9 => absurd h9 (by have k1 := r_p1.1; have k2 := r_p1.2; omega)), (fun h9 => absurd h9 (by have k1 := r_p1.1; have k2 := r_p1.2; omega)), (fun h9 => absurd h9 (by have k1 := r_p1.1; have k2 := r_p1.2; omega)), (fun h9 => absurd (show 0 ≤ Int32.toInt p1 ∧ Int32.toInt p1 ≤ 6 from (by have k1 := r_p1.1; have k2 := r_p1.2; omega)) h9)⟩, trivial⟩, (fun _ => trivial), (fun _ => trivial)⟩, by rw [ht]; exact hw.2.1, va_K.moved hW.alike hK, hw.2.2.1⟩, hw.2.2.2.1.F ht⟩) hw.2.2.2.1.2.2 dX9_count_95
    · refine lv_tableIn (tgt := 96) (off := 95) hx hb dX9_count_1 (by omega) (by omega) (by rw [h_1]; rfl) (by decide) ?_
      have r_p1 : RI p1 4 4 := ⟨by omega, by omega⟩
      refine lv_aload_n hx hb dX9_count_96 rfl (lv_at hl 0 rfl) ?_
      refine tg_get (ci := 9) (ts := ty_WP) (C := RX9) (T := TX9) (N := 15) hx hb hts inX9 hown hK hw h_p0 rfl rfl 1 (by decide) (hts _ tw_347) (fun _ h9 => h9) (ft := vR 24) rfl dX9_count_97 (fun u_17 hv_u_17 m_u_17 => ?_)
      obtain ⟨vu_17, rfl, h_vu_17⟩ := hv_u_17
      refine tg_getN (ci := 8) (ts := ty_WORLD) (C := RX8) (T := TX8) (N := 13) hx hb hts inX8 hown hK hw h_vu_17 rfl rfl 0 (by decide) (hSD.nest tn_249) (fun _ h9 => h9) (ft := vR 25) rfl dX9_count_100 (fun u_18 hv_u_18 m_u_18 => ?_)
      obtain ⟨vu_18, rfl, h_vu_18⟩ := hv_u_18
      refine tg_getN (ci := 3) (ts := ty_POST) (C := RX3) (T := TX3) (N := 9) hx hb hts inX3 hown hK hw h_vu_18 rfl rfl 5 (by decide) (hSD.nest tn_215) (fun _ h9 => h9) (ft := vI (-2147483648) 2147483647) rfl dX9_count_103 (fun u_19 hv_u_19 m_u_19 => ?_)
      obtain ⟨vu_19, rfl, r_vu_19⟩ := hv_u_19
      subst hQ
      exact W.iret (v := vu_19) hx hb hr (fun t ht hW => ⟨⟨vu_19, (), rfl, ⟨r_vu_19.to (by decide), (fun h0 => trivial), (fun h0 => trivial), ⟨⟨(fun j9 h8 h9 => absurd h9 (by have k1 := r_p1.1; have k2 := r_p1.2; omega)), (fun _ => (WR.fld hw.2.2.1 (HE.w x_HE_gdq_gdg_gdo_gdA_gdB_false_false) x_GWX_p0_gdq m_u_17 m_u_18 m_u_19 (by decide)).symm), (fun h9 => absurd h9 (by have k1 := r_p1.1; have k2 := r_p1.2; omega)), (fun h9 => absurd h9 (by have k1 := r_p1.1; have k2 := r_p1.2; omega)), (fun h9 => absurd (show 0 ≤ Int32.toInt p1 ∧ Int32.toInt p1 ≤ 6 from (by have k1 := r_p1.1; have k2 := r_p1.2; omega)) h9)⟩, trivial⟩, (fun _ => trivial), (fun _ => trivial)⟩, by rw [ht]; exact hw.2.1, va_K.moved hW.alike hK, hw.2.2.1⟩, hw.2.2.2.1.F ht⟩) hw.2.2.2.1.2.2 dX9_count_106
    · refine lv_tableIn (tgt := 107) (off := 106) hx hb dX9_count_1 (by omega) (by omega) (by rw [h_1]; rfl) (by decide) ?_
      have r_p1 : RI p1 5 5 := ⟨by omega, by omega⟩
      refine lv_aload_n hx hb dX9_count_107 rfl (lv_at hl 0 rfl) ?_
      refine tg_get (ci := 9) (ts := ty_WP) (C := RX9) (T := TX9) (N := 15) hx hb hts inX9 hown hK hw h_p0 rfl rfl 1 (by decide) (hts _ tw_347) (fun _ h9 => h9) (ft := vR 24) rfl dX9_count_108 (fun u_20 hv_u_20 m_u_20 => ?_)
      obtain ⟨vu_20, rfl, h_vu_20⟩ := hv_u_20
      refine tg_getN (ci := 8) (ts := ty_WORLD) (C := RX8) (T := TX8) (N := 13) hx hb hts inX8 hown hK hw h_vu_20 rfl rfl 0 (by decide) (hSD.nest tn_249) (fun _ h9 => h9) (ft := vR 25) rfl dX9_count_111 (fun u_21 hv_u_21 m_u_21 => ?_)
      obtain ⟨vu_21, rfl, h_vu_21⟩ := hv_u_21
      refine tg_getN (ci := 3) (ts := ty_POST) (C := RX3) (T := TX3) (N := 9) hx hb hts inX3 hown hK hw h_vu_21 rfl rfl 6 (by decide) (hSD.nest tn_218) (fun _ h9 => h9) (ft := vI (-2147483648) 2147483647) rfl dX9_count_114 (fun u_22 hv_u_22 m_u_22 => ?_)
      obtain ⟨vu_22, rfl, r_vu_22⟩ := hv_u_22
      subst hQ
      exact W.iret (v := vu_22) hx hb hr (fun t ht hW => ⟨⟨vu_22, (), rfl, ⟨r_vu_22.to (by decide), (fun h0 => trivial), (fun h0 => trivial), ⟨⟨(fun j9 h8 h9 => absurd h9 (by have k1 := r_p1.1; have k2 := r_p1.2; omega)), (fun h9 => absurd h9 (by have k1 := r_p1.1; have k2 := r_p1.2; omega)), (fun _ => (WR.fld hw.2.2.1 (HE.w x_HE_gdq_gdg_gdo_gdA_gdB_false_false) x_GWX_p0_gdq m_u_20 m_u_21 m_u_22 (by decide)).symm), (fun h9 => absurd h9 (by have k1 := r_p1.1; have k2 := r_p1.2; omega)), (fun h9 => absurd (show 0 ≤ Int32.toInt p1 ∧ Int32.toInt p1 ≤ 6 from (by have k1 := r_p1.1; have k2 := r_p1.2; omega)) h9)⟩, trivial⟩, (fun _ => trivial), (fun _ => trivial)⟩, by rw [ht]; exact hw.2.1, va_K.moved hW.alike hK, hw.2.2.1⟩, hw.2.2.2.1.F ht⟩) hw.2.2.2.1.2.2 dX9_count_117
    · refine lv_tableIn (tgt := 118) (off := 117) hx hb dX9_count_1 (by omega) (by omega) (by rw [h_1]; rfl) (by decide) ?_
      have r_p1 : RI p1 6 6 := ⟨by omega, by omega⟩
      refine lv_aload_n hx hb dX9_count_118 rfl (lv_at hl 0 rfl) ?_
      refine tg_get (ci := 9) (ts := ty_WP) (C := RX9) (T := TX9) (N := 15) hx hb hts inX9 hown hK hw h_p0 rfl rfl 0 (by decide) (hts _ tw_346) (fun _ h9 => h9) (ft := vR 26) rfl dX9_count_119 (fun u_23 hv_u_23 m_u_23 => ?_)
      obtain ⟨vu_23, rfl, h_vu_23⟩ := hv_u_23
      refine tg_getN (ci := 7) (ts := ty_TAPE) (C := RX7) (T := TX7) (N := 12) hx hb hts inX7 hown hK hw h_vu_23 rfl rfl 2 (by decide) (hSD.nest tn_90) (fun _ h9 => h9) (ft := vI 0 940) rfl dX9_count_122 (fun u_24 hv_u_24 m_u_24 => ?_)
      obtain ⟨vu_24, rfl, r_vu_24⟩ := hv_u_24
      subst hQ
      exact W.iret (v := vu_24) hx hb hr (fun t ht hW => ⟨⟨vu_24, (), rfl, ⟨r_vu_24.to (by decide), (fun h0 => trivial), (fun h0 => trivial), ⟨⟨(fun j9 h8 h9 => absurd h9 (by have k1 := r_p1.1; have k2 := r_p1.2; omega)), (fun h9 => absurd h9 (by have k1 := r_p1.1; have k2 := r_p1.2; omega)), (fun h9 => absurd h9 (by have k1 := r_p1.1; have k2 := r_p1.2; omega)), (fun _ => TLN.get hw (TLX.tape hw x_TLX_p0_gh m_u_23) m_u_24), (fun h9 => absurd (show 0 ≤ Int32.toInt p1 ∧ Int32.toInt p1 ≤ 6 from (by have k1 := r_p1.1; have k2 := r_p1.2; omega)) h9)⟩, trivial⟩, (fun _ => trivial), (fun _ => trivial)⟩, by rw [ht]; exact hw.2.1, va_K.moved hW.alike hK, hw.2.2.1⟩, hw.2.2.2.1.F ht⟩) hw.2.2.2.1.2.2 dX9_count_125
abbrev wr_X2_take__2 : List (Nat × Nat) := [(2, 1), (2, 2), (8, 0), (8, 1)]
abbrev wa_X2_take__2 : List Nat := [8, 9, 10, 11, 12, 13]
set_option maxHeartbeats 4000000 in
set_option maxRecDepth 100000 in
theorem c_X2_take__2 (l : Launch) (D : va_G) (cy : Nat → ClassId) (z : Nat → Nat) (sz : Nat) (Ps : PSI) (w0 : va_W) (hT : HT cy GG Ps w0) (p0 : Nat) (p1 : Nat) (gdq : Nat → Nat) (gdg : Nat → Nat) (gdo : OS) (gdA : OS) (gdB : OS) (gda : Int32) (gdb : Int32) (h_p0 : (p0, 28) ∈ Ps) (h_p1 : (p1, 24) ∈ Ps) (x_AT_p0_gdq_5 : (p0 = gdq 5)) (x_AT_p1_gdq_0 : (p1 = gdq 0)) (x_GQ_gdq_gdg : GQ Ps w0 gdq gdg) (x_HE_gdq_gdg_gdo_gdA_gdB_false_false : HE Ps w0 gdq gdg gdo gdA gdB false false) (x_FLP_gdq_gda_gdb : FLP w0 gdq gda gdb) : Met l yX2_take (Cond.code yX2_take cX2_take 3 none :: gT) ({ frames := 3, cells := 0, slots := 0, locals := 600 } : Room) (va_Pc [.ref p0, .ref p1, .null] (PRE D cy z w0 sz)) (va_Qv (fun (u : va_W) => (HE Ps u gdq gdg gdo gdo gdB false false ∧ FLP u gdq 1 gdb ∧ True) ∧ HT cy GG Ps u ∧ FR wr_X2_take__2 wa_X2_take__2 Ps w0 u) (BB D cy (va_A w0 sz) (fun (u : va_W) => u)) (va_A w0 sz)) 0 0 (va_A w0 sz) := by
  refine Met.ofW (cc := cX2_take) (maxL := 3) (ret := none) (by decide) rfl ?_
  intro p e s m args below meth c s₁ B hml hv
  obtain ⟨rfl, hsz, hP, hK, hD0, hSD⟩ := hv
  have hx := B.exec
  have hb := B.bytes
  have hr := B.returns
  have hlocks := B.notSynchronized
  have hts : ∀ w ∈ gT, w.before _ s = true := fun w h => atoms_spec (ws := Cond.code yX2_take cX2_take 3 none :: gT) B.pre w (List.mem_cons_of_mem _ h)
  have hown : s.vm.findClass RX2 = some m.cls := findClass_of_methodNamed B.named
  subst hsz
  have hD := hD0.self (sz := s.heap.size)
  generalize hAe : va_A w0 s.heap.size = A at hD hSD ⊢
  have hA : ∀ q : Nat, s.heap.size ≤ q → A q := fun q h => by rw [← hAe]; exact Or.inr h
  have hl := lv_entry ([.ref p0, .ref p1, .null]) (n := 3) (Nat.le_of_ble_eq_true rfl)
  rw [lg_entry_eq]
  generalize (lg_sl ([.ref p0, .ref p1, .null]) ++ List.replicate (3 - (lg_sl ([.ref p0, .ref p1, .null])).length) Slot.unset).toArray = ls at hl ⊢
  have hl : lv_has ls 3 [(0, .ref p0), (1, .ref p1), (2, .null)] := hl
  refine nameQ (fun Q hQ => ?_)
  have hw : WD D cy GG A s wr_X2_take__2 wa_X2_take__2 Ps w0 Ps w0 s.heap [] := ⟨hT, hP, hD, va_S.rf, FR.rf, hT.1, [], (List.append_nil _).symm⟩
  refine lv_aload_n hx hb dX2_take_0 rfl (lv_at hl 0 rfl) ?_
  refine tg_get (ci := 2) (ts := ty_IMAGE) (C := RX2) (T := TX2) (N := 3) hx hb hts inX2 hown hK hw h_p0 rfl rfl 0 (by decide) (hts _ tw_332) (fun _ h9 => h9) (ft := vR 24) rfl dX2_take_1 (fun u_1 hv_u_1 m_u_1 => ?_)
  obtain ⟨vu_1, rfl, h_vu_1⟩ := hv_u_1
  refine lv_aload_n hx hb dX2_take_4 rfl (lv_at hl 1 rfl) ?_
  have hD8 := hw.2.2.1
  refine tk_v (va_runV (As := [.ref p1]) (rest := []) ⟨hx, hb, hml, hown, hts⟩ (c_X8_takeFrom__1 l D cy z s.heap.size Ps w0 hw.1 vu_1 p1 h_vu_1 h_p1) (cwV 1 hts (gV tw_1026 tw_522 tw_523 tw_12 tw_524) rfl rfl rfl (by decide +kernel) ⟨Nat.le_of_ble_eq_true rfl, Nat.le_of_ble_eq_true rfl⟩) (tg_preV hw hK hSD hA (ci := 8) (q := (RX8, TX8, 13)) rfl h_vu_1 rfl) rfl rfl hl.1 rfl (lv_room (Nat.le_of_ble_eq_true rfl)) dX2_take_5 ⟨Nat.le_of_ble_eq_true rfl, Nat.le_of_ble_eq_true rfl⟩) hw hA ⟨by decide, by decide⟩ (fun ws H locs hp_v_2 hw hF9 => ?_)
  have m_u_1 := FLD.over hF9 m_u_1 (by decide)
  have x_GQ_gdq_gdg := GQ.over hF9 x_GQ_gdq_gdg (by decide)
  have x_FLP_gdq_gda_gdb := FLP.over hF9 x_FLP_gdq_gda_gdb (by decide)
  have x_TKF_vu_1_p1 := (hp_v_2.1)
  have x_HE_gdq_gdg_gdo_gdo_gdB_false_false : HE Ps ws gdq gdg gdo gdo gdB false false := HE.imgA hD8 hF9 (by decide) x_GQ_gdq_gdg.2.2.2.2.2 x_HE_gdq_gdg_gdo_gdA_gdB_false_false (by have z9 := FLD.inj hw.2.2.1 x_GQ_gdq_gdg.2.2.2.1 (by rw [← x_AT_p0_gdq_5]; exact m_u_1); injection z9 with z9; rw [z9, ← x_AT_p1_gdq_0]; exact x_TKF_vu_1_p1)
  refine lv_aload_n hx hb dX2_take_8 rfl (lv_at hl 0 rfl) ?_
  refine lv_aload_nN hx hb dX2_take_9 rfl (lv_at hl 2 rfl) ?_
  refine tg_put (ci := 2) (ts := ty_IMAGE) (v := .null) (ty := .object "WonderParcels$Sentence") (C := RX2) (T := TX2) (N := 3) hx hb hts inX2 tyX2 tyX2_ok nmX2 hown hK hw h_p0 rfl rfl 1 (by decide) (hts _ tw_334) (fun _ h9 => h9) rfl (by decide +kernel) rfl rfl (ft := vN 32) rfl (Or.inl rfl) (by decide) dX2_take_10 (fun ws H locs hw n_k_3 hF9 => ?_)
  have m_u_1 := FLD.over hF9 m_u_1 (by decide)
  have x_GQ_gdq_gdg := GQ.over hF9 x_GQ_gdq_gdg (by decide)
  have x_FLP_gdq_gda_gdb := FLP.over hF9 x_FLP_gdq_gda_gdb (by decide)
  have x_HE_gdq_gdg_gdo_gdo_gdB_false_false := HE.over hF9 x_HE_gdq_gdg_gdo_gdo_gdB_false_false (by decide)
  refine lv_aload_n hx hb dX2_take_13 rfl (lv_at hl 0 rfl) ?_
  refine lv_iconst (v := 1) hx hb dX2_take_14 (by decide) ?_
  refine tg_putE (ci := 2) (ts := ty_IMAGE) (v := .int 1) (ty := .boolean) (C := RX2) (T := TX2) (N := 3) hx hb hts inX2 tyX2 tyX2_ok nmX2 hown hK hw h_p0 rfl rfl 2 (by decide) (hts _ tw_336) (fun _ h9 => h9) rfl (by decide +kernel) rfl rfl (ft := vI 0 1) rfl ⟨_, rfl, (rl_1.to (by decide))⟩ (by decide) dX2_take_15 (fun ws H locs hw n_k_4 hF9 hO9 => ?_)
  have m_u_1 := FLD.over hF9 m_u_1 (by decide)
  have x_GQ_gdq_gdg := GQ.over hF9 x_GQ_gdq_gdg (by decide)
  have x_HE_gdq_gdg_gdo_gdo_gdB_false_false := HE.over hF9 x_HE_gdq_gdg_gdo_gdo_gdB_false_false (by decide)
  have x_FLP_gdq_1_gdb : FLP ws gdq 1 gdb := ⟨(by rw [← x_AT_p0_gdq_5]; exact n_k_4), (hO9 _ _ (by rw [x_AT_p0_gdq_5]; exact x_GQ_gdq_gdg.2.2.2.2.2.1.2.2.2.2.2.2.symm) x_FLP_gdq_gda_gdb.2)⟩
  subst hQ
  exact W.vret hx hb hr (fun t ht hW => ⟨⟨ws, rfl, ⟨⟨x_HE_gdq_gdg_gdo_gdo_gdB_false_false, x_FLP_gdq_1_gdb, trivial⟩, hw.1, hw.2.2.2.2.1⟩, by rw [ht]; exact hw.2.1, va_K.moved hW.alike hK, hw.2.2.1⟩, hw.2.2.2.1.F ht⟩) hw.2.2.2.1.2.2 dX2_take_18
abbrev wr_X2_take__3 : List (Nat × Nat) := [(2, 1), (2, 2), (8, 0), (8, 1)]
abbrev wa_X2_take__3 : List Nat := [8, 9, 10, 11, 12, 13]
set_option maxHeartbeats 4000000 in
set_option maxRecDepth 100000 in
theorem c_X2_take__3 (l : Launch) (D : va_G) (cy : Nat → ClassId) (z : Nat → Nat) (sz : Nat) (Ps : PSI) (w0 : va_W) (hT : HT cy GG Ps w0) (p0 : Nat) (p1 : Nat) (p2 : Nat) (gdq : Nat → Nat) (gdg : Nat → Nat) (gdo : OS) (gdA : OS) (gdB : OS) (gda : Int32) (gdb : Int32) (h_p0 : (p0, 28) ∈ Ps) (h_p1 : (p1, 24) ∈ Ps) (h_p2 : (p2, 32) ∈ Ps) (x_AT_p0_gdq_5 : (p0 = gdq 5)) (x_AT_p1_gdq_0 : (p1 = gdq 0)) (x_GQ_gdq_gdg : GQ Ps w0 gdq gdg) (x_HE_gdq_gdg_gdo_gdA_gdB_false_false : HE Ps w0 gdq gdg gdo gdA gdB false false) (x_FLP_gdq_gda_gdb : FLP w0 gdq gda gdb) : Met l yX2_take (Cond.code yX2_take cX2_take 3 none :: gT) ({ frames := 3, cells := 0, slots := 0, locals := 600 } : Room) (va_Pc [.ref p0, .ref p1, .ref p2] (PRE D cy z w0 sz)) (va_Qv (fun (u : va_W) => (HE Ps u gdq gdg gdo gdo gdB false false ∧ FLP u gdq 1 gdb ∧ True) ∧ HT cy GG Ps u ∧ FR wr_X2_take__3 wa_X2_take__3 Ps w0 u) (BB D cy (va_A w0 sz) (fun (u : va_W) => u)) (va_A w0 sz)) 0 0 (va_A w0 sz) := by
  refine Met.ofW (cc := cX2_take) (maxL := 3) (ret := none) (by decide) rfl ?_
  intro p e s m args below meth c s₁ B hml hv
  obtain ⟨rfl, hsz, hP, hK, hD0, hSD⟩ := hv
  have hx := B.exec
  have hb := B.bytes
  have hr := B.returns
  have hlocks := B.notSynchronized
  have hts : ∀ w ∈ gT, w.before _ s = true := fun w h => atoms_spec (ws := Cond.code yX2_take cX2_take 3 none :: gT) B.pre w (List.mem_cons_of_mem _ h)
  have hown : s.vm.findClass RX2 = some m.cls := findClass_of_methodNamed B.named
  subst hsz
  have hD := hD0.self (sz := s.heap.size)
  generalize hAe : va_A w0 s.heap.size = A at hD hSD ⊢
  have hA : ∀ q : Nat, s.heap.size ≤ q → A q := fun q h => by rw [← hAe]; exact Or.inr h
  have hl := lv_entry ([.ref p0, .ref p1, .ref p2]) (n := 3) (Nat.le_of_ble_eq_true rfl)
  rw [lg_entry_eq]
  generalize (lg_sl ([.ref p0, .ref p1, .ref p2]) ++ List.replicate (3 - (lg_sl ([.ref p0, .ref p1, .ref p2])).length) Slot.unset).toArray = ls at hl ⊢
  have hl : lv_has ls 3 [(0, .ref p0), (1, .ref p1), (2, .ref p2)] := hl
  refine nameQ (fun Q hQ => ?_)
  have hw : WD D cy GG A s wr_X2_take__3 wa_X2_take__3 Ps w0 Ps w0 s.heap [] := ⟨hT, hP, hD, va_S.rf, FR.rf, hT.1, [], (List.append_nil _).symm⟩
  refine lv_aload_n hx hb dX2_take_0 rfl (lv_at hl 0 rfl) ?_
  refine tg_get (ci := 2) (ts := ty_IMAGE) (C := RX2) (T := TX2) (N := 3) hx hb hts inX2 hown hK hw h_p0 rfl rfl 0 (by decide) (hts _ tw_332) (fun _ h9 => h9) (ft := vR 24) rfl dX2_take_1 (fun u_1 hv_u_1 m_u_1 => ?_)
  obtain ⟨vu_1, rfl, h_vu_1⟩ := hv_u_1
  refine lv_aload_n hx hb dX2_take_4 rfl (lv_at hl 1 rfl) ?_
  have hD8 := hw.2.2.1
  refine tk_v (va_runV (As := [.ref p1]) (rest := []) ⟨hx, hb, hml, hown, hts⟩ (c_X8_takeFrom__1 l D cy z s.heap.size Ps w0 hw.1 vu_1 p1 h_vu_1 h_p1) (cwV 1 hts (gV tw_1026 tw_522 tw_523 tw_12 tw_524) rfl rfl rfl (by decide +kernel) ⟨Nat.le_of_ble_eq_true rfl, Nat.le_of_ble_eq_true rfl⟩) (tg_preV hw hK hSD hA (ci := 8) (q := (RX8, TX8, 13)) rfl h_vu_1 rfl) rfl rfl hl.1 rfl (lv_room (Nat.le_of_ble_eq_true rfl)) dX2_take_5 ⟨Nat.le_of_ble_eq_true rfl, Nat.le_of_ble_eq_true rfl⟩) hw hA ⟨by decide, by decide⟩ (fun ws H locs hp_v_2 hw hF9 => ?_)
  have m_u_1 := FLD.over hF9 m_u_1 (by decide)
  have x_GQ_gdq_gdg := GQ.over hF9 x_GQ_gdq_gdg (by decide)
  have x_FLP_gdq_gda_gdb := FLP.over hF9 x_FLP_gdq_gda_gdb (by decide)
  have x_TKF_vu_1_p1 := (hp_v_2.1)
  have x_HE_gdq_gdg_gdo_gdo_gdB_false_false : HE Ps ws gdq gdg gdo gdo gdB false false := HE.imgA hD8 hF9 (by decide) x_GQ_gdq_gdg.2.2.2.2.2 x_HE_gdq_gdg_gdo_gdA_gdB_false_false (by have z9 := FLD.inj hw.2.2.1 x_GQ_gdq_gdg.2.2.2.1 (by rw [← x_AT_p0_gdq_5]; exact m_u_1); injection z9 with z9; rw [z9, ← x_AT_p1_gdq_0]; exact x_TKF_vu_1_p1)
  refine lv_aload_n hx hb dX2_take_8 rfl (lv_at hl 0 rfl) ?_
  refine lv_aload_n hx hb dX2_take_9 rfl (lv_at hl 2 rfl) ?_
  refine tg_put (ci := 2) (ts := ty_IMAGE) (v := .ref p2) (ty := .object "WonderParcels$Sentence") (C := RX2) (T := TX2) (N := 3) hx hb hts inX2 tyX2 tyX2_ok nmX2 hown hK hw h_p0 rfl rfl 1 (by decide) (hts _ tw_334) (fun _ h9 => h9) rfl (by decide +kernel) rfl rfl (ft := vN 32) rfl (Or.inr ⟨_, rfl, h_p2⟩) (by decide) dX2_take_10 (fun ws H locs hw n_k_3 hF9 => ?_)
  have m_u_1 := FLD.over hF9 m_u_1 (by decide)
  have x_GQ_gdq_gdg := GQ.over hF9 x_GQ_gdq_gdg (by decide)
  have x_FLP_gdq_gda_gdb := FLP.over hF9 x_FLP_gdq_gda_gdb (by decide)
  have x_HE_gdq_gdg_gdo_gdo_gdB_false_false := HE.over hF9 x_HE_gdq_gdg_gdo_gdo_gdB_false_false (by decide)
  refine lv_aload_n hx hb dX2_take_13 rfl (lv_at hl 0 rfl) ?_
  refine lv_iconst (v := 1) hx hb dX2_take_14 (by decide) ?_
  refine tg_putE (ci := 2) (ts := ty_IMAGE) (v := .int 1) (ty := .boolean) (C := RX2) (T := TX2) (N := 3) hx hb hts inX2 tyX2 tyX2_ok nmX2 hown hK hw h_p0 rfl rfl 2 (by decide) (hts _ tw_336) (fun _ h9 => h9) rfl (by decide +kernel) rfl rfl (ft := vI 0 1) rfl ⟨_, rfl, (rl_1.to (by decide))⟩ (by decide) dX2_take_15 (fun ws H locs hw n_k_4 hF9 hO9 => ?_)
  have m_u_1 := FLD.over hF9 m_u_1 (by decide)
  have x_GQ_gdq_gdg := GQ.over hF9 x_GQ_gdq_gdg (by decide)
  have x_HE_gdq_gdg_gdo_gdo_gdB_false_false := HE.over hF9 x_HE_gdq_gdg_gdo_gdo_gdB_false_false (by decide)
  have x_FLP_gdq_1_gdb : FLP ws gdq 1 gdb := ⟨(by rw [← x_AT_p0_gdq_5]; exact n_k_4), (hO9 _ _ (by rw [x_AT_p0_gdq_5]; exact x_GQ_gdq_gdg.2.2.2.2.2.1.2.2.2.2.2.2.symm) x_FLP_gdq_gda_gdb.2)⟩
  subst hQ
  exact W.vret hx hb hr (fun t ht hW => ⟨⟨ws, rfl, ⟨⟨x_HE_gdq_gdg_gdo_gdo_gdB_false_false, x_FLP_gdq_1_gdb, trivial⟩, hw.1, hw.2.2.2.2.1⟩, by rw [ht]; exact hw.2.1, va_K.moved hW.alike hK, hw.2.2.1⟩, hw.2.2.2.1.F ht⟩) hw.2.2.2.1.2.2 dX2_take_18
abbrev wr_X2_take__4 : List (Nat × Nat) := [(2, 1), (2, 2), (8, 0), (8, 1)]
abbrev wa_X2_take__4 : List Nat := [8, 9, 10, 11, 12, 13]
set_option maxHeartbeats 4000000 in
set_option maxRecDepth 100000 in
theorem c_X2_take__4 (l : Launch) (D : va_G) (cy : Nat → ClassId) (z : Nat → Nat) (sz : Nat) (Ps : PSI) (w0 : va_W) (hT : HT cy GG Ps w0) (p0 : Nat) (p1 : Nat) (gdq : Nat → Nat) (gdg : Nat → Nat) (gdo : OS) (gdA : OS) (gdB : OS) (gda : Int32) (gdb : Int32) (h_p0 : (p0, 28) ∈ Ps) (h_p1 : (p1, 24) ∈ Ps) (x_AT_p0_gdq_6 : (p0 = gdq 6)) (x_AT_p1_gdq_0 : (p1 = gdq 0)) (x_GQ_gdq_gdg : GQ Ps w0 gdq gdg) (x_HE_gdq_gdg_gdo_gdA_gdB_false_false : HE Ps w0 gdq gdg gdo gdA gdB false false) (x_FLP_gdq_gda_gdb : FLP w0 gdq gda gdb) : Met l yX2_take (Cond.code yX2_take cX2_take 3 none :: gT) ({ frames := 3, cells := 0, slots := 0, locals := 600 } : Room) (va_Pc [.ref p0, .ref p1, .null] (PRE D cy z w0 sz)) (va_Qv (fun (u : va_W) => (HE Ps u gdq gdg gdo gdA gdo false false ∧ FLP u gdq gda 1 ∧ True) ∧ HT cy GG Ps u ∧ FR wr_X2_take__4 wa_X2_take__4 Ps w0 u) (BB D cy (va_A w0 sz) (fun (u : va_W) => u)) (va_A w0 sz)) 0 0 (va_A w0 sz) := by
  refine Met.ofW (cc := cX2_take) (maxL := 3) (ret := none) (by decide) rfl ?_
  intro p e s m args below meth c s₁ B hml hv
  obtain ⟨rfl, hsz, hP, hK, hD0, hSD⟩ := hv
  have hx := B.exec
  have hb := B.bytes
  have hr := B.returns
  have hlocks := B.notSynchronized
  have hts : ∀ w ∈ gT, w.before _ s = true := fun w h => atoms_spec (ws := Cond.code yX2_take cX2_take 3 none :: gT) B.pre w (List.mem_cons_of_mem _ h)
  have hown : s.vm.findClass RX2 = some m.cls := findClass_of_methodNamed B.named
  subst hsz
  have hD := hD0.self (sz := s.heap.size)
  generalize hAe : va_A w0 s.heap.size = A at hD hSD ⊢
  have hA : ∀ q : Nat, s.heap.size ≤ q → A q := fun q h => by rw [← hAe]; exact Or.inr h
  have hl := lv_entry ([.ref p0, .ref p1, .null]) (n := 3) (Nat.le_of_ble_eq_true rfl)
  rw [lg_entry_eq]
  generalize (lg_sl ([.ref p0, .ref p1, .null]) ++ List.replicate (3 - (lg_sl ([.ref p0, .ref p1, .null])).length) Slot.unset).toArray = ls at hl ⊢
  have hl : lv_has ls 3 [(0, .ref p0), (1, .ref p1), (2, .null)] := hl
  refine nameQ (fun Q hQ => ?_)
  have hw : WD D cy GG A s wr_X2_take__4 wa_X2_take__4 Ps w0 Ps w0 s.heap [] := ⟨hT, hP, hD, va_S.rf, FR.rf, hT.1, [], (List.append_nil _).symm⟩
  refine lv_aload_n hx hb dX2_take_0 rfl (lv_at hl 0 rfl) ?_
  refine tg_get (ci := 2) (ts := ty_IMAGE) (C := RX2) (T := TX2) (N := 3) hx hb hts inX2 hown hK hw h_p0 rfl rfl 0 (by decide) (hts _ tw_332) (fun _ h9 => h9) (ft := vR 24) rfl dX2_take_1 (fun u_1 hv_u_1 m_u_1 => ?_)
  obtain ⟨vu_1, rfl, h_vu_1⟩ := hv_u_1
  refine lv_aload_n hx hb dX2_take_4 rfl (lv_at hl 1 rfl) ?_
  have hD8 := hw.2.2.1
  refine tk_v (va_runV (As := [.ref p1]) (rest := []) ⟨hx, hb, hml, hown, hts⟩ (c_X8_takeFrom__1 l D cy z s.heap.size Ps w0 hw.1 vu_1 p1 h_vu_1 h_p1) (cwV 1 hts (gV tw_1026 tw_522 tw_523 tw_12 tw_524) rfl rfl rfl (by decide +kernel) ⟨Nat.le_of_ble_eq_true rfl, Nat.le_of_ble_eq_true rfl⟩) (tg_preV hw hK hSD hA (ci := 8) (q := (RX8, TX8, 13)) rfl h_vu_1 rfl) rfl rfl hl.1 rfl (lv_room (Nat.le_of_ble_eq_true rfl)) dX2_take_5 ⟨Nat.le_of_ble_eq_true rfl, Nat.le_of_ble_eq_true rfl⟩) hw hA ⟨by decide, by decide⟩ (fun ws H locs hp_v_2 hw hF9 => ?_)
  have m_u_1 := FLD.over hF9 m_u_1 (by decide)
  have x_GQ_gdq_gdg := GQ.over hF9 x_GQ_gdq_gdg (by decide)
  have x_FLP_gdq_gda_gdb := FLP.over hF9 x_FLP_gdq_gda_gdb (by decide)
  have x_TKF_vu_1_p1 := (hp_v_2.1)
  have x_HE_gdq_gdg_gdo_gdA_gdo_false_false : HE Ps ws gdq gdg gdo gdA gdo false false := HE.imgB hD8 hF9 (by decide) x_GQ_gdq_gdg.2.2.2.2.2 x_HE_gdq_gdg_gdo_gdA_gdB_false_false (by have z9 := FLD.inj hw.2.2.1 x_GQ_gdq_gdg.2.2.2.2.1 (by rw [← x_AT_p0_gdq_6]; exact m_u_1); injection z9 with z9; rw [z9, ← x_AT_p1_gdq_0]; exact x_TKF_vu_1_p1)
  refine lv_aload_n hx hb dX2_take_8 rfl (lv_at hl 0 rfl) ?_
  refine lv_aload_nN hx hb dX2_take_9 rfl (lv_at hl 2 rfl) ?_
  refine tg_put (ci := 2) (ts := ty_IMAGE) (v := .null) (ty := .object "WonderParcels$Sentence") (C := RX2) (T := TX2) (N := 3) hx hb hts inX2 tyX2 tyX2_ok nmX2 hown hK hw h_p0 rfl rfl 1 (by decide) (hts _ tw_334) (fun _ h9 => h9) rfl (by decide +kernel) rfl rfl (ft := vN 32) rfl (Or.inl rfl) (by decide) dX2_take_10 (fun ws H locs hw n_k_3 hF9 => ?_)
  have m_u_1 := FLD.over hF9 m_u_1 (by decide)
  have x_GQ_gdq_gdg := GQ.over hF9 x_GQ_gdq_gdg (by decide)
  have x_FLP_gdq_gda_gdb := FLP.over hF9 x_FLP_gdq_gda_gdb (by decide)
  have x_HE_gdq_gdg_gdo_gdA_gdo_false_false := HE.over hF9 x_HE_gdq_gdg_gdo_gdA_gdo_false_false (by decide)
  refine lv_aload_n hx hb dX2_take_13 rfl (lv_at hl 0 rfl) ?_
  refine lv_iconst (v := 1) hx hb dX2_take_14 (by decide) ?_
  refine tg_putE (ci := 2) (ts := ty_IMAGE) (v := .int 1) (ty := .boolean) (C := RX2) (T := TX2) (N := 3) hx hb hts inX2 tyX2 tyX2_ok nmX2 hown hK hw h_p0 rfl rfl 2 (by decide) (hts _ tw_336) (fun _ h9 => h9) rfl (by decide +kernel) rfl rfl (ft := vI 0 1) rfl ⟨_, rfl, (rl_1.to (by decide))⟩ (by decide) dX2_take_15 (fun ws H locs hw n_k_4 hF9 hO9 => ?_)
  have m_u_1 := FLD.over hF9 m_u_1 (by decide)
  have x_GQ_gdq_gdg := GQ.over hF9 x_GQ_gdq_gdg (by decide)
  have x_HE_gdq_gdg_gdo_gdA_gdo_false_false := HE.over hF9 x_HE_gdq_gdg_gdo_gdA_gdo_false_false (by decide)
  have x_FLP_gdq_gda_1 : FLP ws gdq gda 1 := ⟨(hO9 _ _ (by rw [x_AT_p0_gdq_6]; exact x_GQ_gdq_gdg.2.2.2.2.2.1.2.2.2.2.2.2) x_FLP_gdq_gda_gdb.1), (by rw [← x_AT_p0_gdq_6]; exact n_k_4)⟩
  subst hQ
  exact W.vret hx hb hr (fun t ht hW => ⟨⟨ws, rfl, ⟨⟨x_HE_gdq_gdg_gdo_gdA_gdo_false_false, x_FLP_gdq_gda_1, trivial⟩, hw.1, hw.2.2.2.2.1⟩, by rw [ht]; exact hw.2.1, va_K.moved hW.alike hK, hw.2.2.1⟩, hw.2.2.2.1.F ht⟩) hw.2.2.2.1.2.2 dX2_take_18
abbrev wr_X2_take__5 : List (Nat × Nat) := [(2, 1), (2, 2), (8, 0), (8, 1)]
abbrev wa_X2_take__5 : List Nat := [8, 9, 10, 11, 12, 13]
set_option maxHeartbeats 4000000 in
set_option maxRecDepth 100000 in
theorem c_X2_take__5 (l : Launch) (D : va_G) (cy : Nat → ClassId) (z : Nat → Nat) (sz : Nat) (Ps : PSI) (w0 : va_W) (hT : HT cy GG Ps w0) (p0 : Nat) (p1 : Nat) (p2 : Nat) (gdq : Nat → Nat) (gdg : Nat → Nat) (gdo : OS) (gdA : OS) (gdB : OS) (gda : Int32) (gdb : Int32) (h_p0 : (p0, 28) ∈ Ps) (h_p1 : (p1, 24) ∈ Ps) (h_p2 : (p2, 32) ∈ Ps) (x_AT_p0_gdq_6 : (p0 = gdq 6)) (x_AT_p1_gdq_0 : (p1 = gdq 0)) (x_GQ_gdq_gdg : GQ Ps w0 gdq gdg) (x_HE_gdq_gdg_gdo_gdA_gdB_false_false : HE Ps w0 gdq gdg gdo gdA gdB false false) (x_FLP_gdq_gda_gdb : FLP w0 gdq gda gdb) : Met l yX2_take (Cond.code yX2_take cX2_take 3 none :: gT) ({ frames := 3, cells := 0, slots := 0, locals := 600 } : Room) (va_Pc [.ref p0, .ref p1, .ref p2] (PRE D cy z w0 sz)) (va_Qv (fun (u : va_W) => (HE Ps u gdq gdg gdo gdA gdo false false ∧ FLP u gdq gda 1 ∧ True) ∧ HT cy GG Ps u ∧ FR wr_X2_take__5 wa_X2_take__5 Ps w0 u) (BB D cy (va_A w0 sz) (fun (u : va_W) => u)) (va_A w0 sz)) 0 0 (va_A w0 sz) := by
  refine Met.ofW (cc := cX2_take) (maxL := 3) (ret := none) (by decide) rfl ?_
  intro p e s m args below meth c s₁ B hml hv
  obtain ⟨rfl, hsz, hP, hK, hD0, hSD⟩ := hv
  have hx := B.exec
  have hb := B.bytes
  have hr := B.returns
  have hlocks := B.notSynchronized
  have hts : ∀ w ∈ gT, w.before _ s = true := fun w h => atoms_spec (ws := Cond.code yX2_take cX2_take 3 none :: gT) B.pre w (List.mem_cons_of_mem _ h)
  have hown : s.vm.findClass RX2 = some m.cls := findClass_of_methodNamed B.named
  subst hsz
  have hD := hD0.self (sz := s.heap.size)
  generalize hAe : va_A w0 s.heap.size = A at hD hSD ⊢
  have hA : ∀ q : Nat, s.heap.size ≤ q → A q := fun q h => by rw [← hAe]; exact Or.inr h
  have hl := lv_entry ([.ref p0, .ref p1, .ref p2]) (n := 3) (Nat.le_of_ble_eq_true rfl)
  rw [lg_entry_eq]
  generalize (lg_sl ([.ref p0, .ref p1, .ref p2]) ++ List.replicate (3 - (lg_sl ([.ref p0, .ref p1, .ref p2])).length) Slot.unset).toArray = ls at hl ⊢
  have hl : lv_has ls 3 [(0, .ref p0), (1, .ref p1), (2, .ref p2)] := hl
  refine nameQ (fun Q hQ => ?_)
  have hw : WD D cy GG A s wr_X2_take__5 wa_X2_take__5 Ps w0 Ps w0 s.heap [] := ⟨hT, hP, hD, va_S.rf, FR.rf, hT.1, [], (List.append_nil _).symm⟩
  refine lv_aload_n hx hb dX2_take_0 rfl (lv_at hl 0 rfl) ?_
  refine tg_get (ci := 2) (ts := ty_IMAGE) (C := RX2) (T := TX2) (N := 3) hx hb hts inX2 hown hK hw h_p0 rfl rfl 0 (by decide) (hts _ tw_332) (fun _ h9 => h9) (ft := vR 24) rfl dX2_take_1 (fun u_1 hv_u_1 m_u_1 => ?_)
  obtain ⟨vu_1, rfl, h_vu_1⟩ := hv_u_1
  refine lv_aload_n hx hb dX2_take_4 rfl (lv_at hl 1 rfl) ?_
  have hD8 := hw.2.2.1
  refine tk_v (va_runV (As := [.ref p1]) (rest := []) ⟨hx, hb, hml, hown, hts⟩ (c_X8_takeFrom__1 l D cy z s.heap.size Ps w0 hw.1 vu_1 p1 h_vu_1 h_p1) (cwV 1 hts (gV tw_1026 tw_522 tw_523 tw_12 tw_524) rfl rfl rfl (by decide +kernel) ⟨Nat.le_of_ble_eq_true rfl, Nat.le_of_ble_eq_true rfl⟩) (tg_preV hw hK hSD hA (ci := 8) (q := (RX8, TX8, 13)) rfl h_vu_1 rfl) rfl rfl hl.1 rfl (lv_room (Nat.le_of_ble_eq_true rfl)) dX2_take_5 ⟨Nat.le_of_ble_eq_true rfl, Nat.le_of_ble_eq_true rfl⟩) hw hA ⟨by decide, by decide⟩ (fun ws H locs hp_v_2 hw hF9 => ?_)
  have m_u_1 := FLD.over hF9 m_u_1 (by decide)
  have x_GQ_gdq_gdg := GQ.over hF9 x_GQ_gdq_gdg (by decide)
  have x_FLP_gdq_gda_gdb := FLP.over hF9 x_FLP_gdq_gda_gdb (by decide)
  have x_TKF_vu_1_p1 := (hp_v_2.1)
  have x_HE_gdq_gdg_gdo_gdA_gdo_false_false : HE Ps ws gdq gdg gdo gdA gdo false false := HE.imgB hD8 hF9 (by decide) x_GQ_gdq_gdg.2.2.2.2.2 x_HE_gdq_gdg_gdo_gdA_gdB_false_false (by have z9 := FLD.inj hw.2.2.1 x_GQ_gdq_gdg.2.2.2.2.1 (by rw [← x_AT_p0_gdq_6]; exact m_u_1); injection z9 with z9; rw [z9, ← x_AT_p1_gdq_0]; exact x_TKF_vu_1_p1)
  refine lv_aload_n hx hb dX2_take_8 rfl (lv_at hl 0 rfl) ?_
  refine lv_aload_n hx hb dX2_take_9 rfl (lv_at hl 2 rfl) ?_
  refine tg_put (ci := 2) (ts := ty_IMAGE) (v := .ref p2) (ty := .object "WonderParcels$Sentence") (C := RX2) (T := TX2) (N := 3) hx hb hts inX2 tyX2 tyX2_ok nmX2 hown hK hw h_p0 rfl rfl 1 (by decide) (hts _ tw_334) (fun _ h9 => h9) rfl (by decide +kernel) rfl rfl (ft := vN 32) rfl (Or.inr ⟨_, rfl, h_p2⟩) (by decide) dX2_take_10 (fun ws H locs hw n_k_3 hF9 => ?_)
  have m_u_1 := FLD.over hF9 m_u_1 (by decide)
  have x_GQ_gdq_gdg := GQ.over hF9 x_GQ_gdq_gdg (by decide)
  have x_FLP_gdq_gda_gdb := FLP.over hF9 x_FLP_gdq_gda_gdb (by decide)
  have x_HE_gdq_gdg_gdo_gdA_gdo_false_false := HE.over hF9 x_HE_gdq_gdg_gdo_gdA_gdo_false_false (by decide)
  refine lv_aload_n hx hb dX2_take_13 rfl (lv_at hl 0 rfl) ?_
  refine lv_iconst (v := 1) hx hb dX2_take_14 (by decide) ?_
  refine tg_putE (ci := 2) (ts := ty_IMAGE) (v := .int 1) (ty := .boolean) (C := RX2) (T := TX2) (N := 3) hx hb hts inX2 tyX2 tyX2_ok nmX2 hown hK hw h_p0 rfl rfl 2 (by decide) (hts _ tw_336) (fun _ h9 => h9) rfl (by decide +kernel) rfl rfl (ft := vI 0 1) rfl ⟨_, rfl, (rl_1.to (by decide))⟩ (by decide) dX2_take_15 (fun ws H locs hw n_k_4 hF9 hO9 => ?_)
  have m_u_1 := FLD.over hF9 m_u_1 (by decide)
  have x_GQ_gdq_gdg := GQ.over hF9 x_GQ_gdq_gdg (by decide)
  have x_HE_gdq_gdg_gdo_gdA_gdo_false_false := HE.over hF9 x_HE_gdq_gdg_gdo_gdA_gdo_false_false (by decide)
  have x_FLP_gdq_gda_1 : FLP ws gdq gda 1 := ⟨(hO9 _ _ (by rw [x_AT_p0_gdq_6]; exact x_GQ_gdq_gdg.2.2.2.2.2.1.2.2.2.2.2.2) x_FLP_gdq_gda_gdb.1), (by rw [← x_AT_p0_gdq_6]; exact n_k_4)⟩
  subst hQ
  exact W.vret hx hb hr (fun t ht hW => ⟨⟨ws, rfl, ⟨⟨x_HE_gdq_gdg_gdo_gdA_gdo_false_false, x_FLP_gdq_gda_1, trivial⟩, hw.1, hw.2.2.2.2.1⟩, by rw [ht]; exact hw.2.1, va_K.moved hW.alike hK, hw.2.2.1⟩, hw.2.2.2.1.F ht⟩) hw.2.2.2.1.2.2 dX2_take_18
abbrev wr_X9_image__1 : List (Nat × Nat) := [(2, 1), (2, 2), (8, 0), (8, 1)]
abbrev wa_X9_image__1 : List Nat := [8, 9, 10, 11, 12, 13]
set_option maxHeartbeats 4000000 in
set_option maxRecDepth 100000 in
theorem c_X9_image__1 (l : Launch) (D : va_G) (cy : Nat → ClassId) (z : Nat → Nat) (sz : Nat) (Ps : PSI) (w0 : va_W) (hT : HT cy GG Ps w0) (p0 : Nat) (p1 : Int32) (gdq : Nat → Nat) (gdg : Nat → Nat) (gdo : OS) (gdA : OS) (gdB : OS) (gda : Int32) (gdb : Int32) (h_p0 : (p0, 33) ∈ Ps) (r_p1 : RI p1 (-2147483648) 2147483647) (x_GWX_p0_gdq : GWX w0 p0 gdq) (x_GQ_gdq_gdg : GQ Ps w0 gdq gdg) (x_HE_gdq_gdg_gdo_gdA_gdB_false_false : HE Ps w0 gdq gdg gdo gdA gdB false false) (x_FLP_gdq_gda_gdb : FLP w0 gdq gda gdb) : Met l yX9_image (Cond.code yX9_image cX9_image 2 (some .boolean) :: gT) ({ frames := 4, cells := 0, slots := 0, locals := 800 } : Room) (va_Pc [.ref p0, .int p1] (PRE D cy z w0 sz)) (va_Qi (fun (r : Int32) (u : va_W) => (RI r 0 1 ∧ (r = 0 → True) ∧ (¬ r = 0 → True) ∧ (HE Ps u gdq gdg gdo (pick p1 0 gdo gdA) (pick p1 1 gdo gdB) false false ∧ FLP u gdq (pick p1 0 1 gda) (pick p1 1 1 gdb) ∧ True) ∧ (r.toInt < 0 → True) ∧ (0 ≤ r.toInt → True)) ∧ HT cy GG Ps u ∧ FR wr_X9_image__1 wa_X9_image__1 Ps w0 u) (BB D cy (va_A w0 sz) (fun (u : va_W) => u)) (va_A w0 sz)) 0 0 (va_A w0 sz) := by
  refine Met.ofW (cc := cX9_image) (maxL := 2) (ret := (some .boolean)) (by decide) rfl ?_
  intro p e s m args below meth c s₁ B hml hv
  obtain ⟨rfl, hsz, hP, hK, hD0, hSD⟩ := hv
  have hx := B.exec
  have hb := B.bytes
  have hr := B.returns
  have hlocks := B.notSynchronized
  have hts : ∀ w ∈ gT, w.before _ s = true := fun w h => atoms_spec (ws := Cond.code yX9_image cX9_image 2 (some .boolean) :: gT) B.pre w (List.mem_cons_of_mem _ h)
  have hown : s.vm.findClass RX9 = some m.cls := findClass_of_methodNamed B.named
  subst hsz
  have hD := hD0.self (sz := s.heap.size)
  generalize hAe : va_A w0 s.heap.size = A at hD hSD ⊢
  have hA : ∀ q : Nat, s.heap.size ≤ q → A q := fun q h => by rw [← hAe]; exact Or.inr h
  have hl := lv_entry ([.ref p0, .int p1]) (n := 2) (Nat.le_of_ble_eq_true rfl)
  rw [lg_entry_eq]
  generalize (lg_sl ([.ref p0, .int p1]) ++ List.replicate (2 - (lg_sl ([.ref p0, .int p1])).length) Slot.unset).toArray = ls at hl ⊢
  have hl : lv_has ls 2 [(0, .ref p0), (1, .int p1)] := hl
  refine nameQ (fun Q hQ => ?_)
  have hw : WD D cy GG A s wr_X9_image__1 wa_X9_image__1 Ps w0 Ps w0 s.heap [] := ⟨hT, hP, hD, va_S.rf, FR.rf, hT.1, [], (List.append_nil _).symm⟩
  refine lv_iload_n hx hb dX9_image_0 rfl (lv_at hl 1 rfl) ?_
  refine lv_if_lt (tgt := 13) hx hb dX9_image_1 (by decide) (fun c_1 => ?_) (fun c_1 => ?_)
  · have r_p1 : RI p1 (-2147483648) (-1) := rc_lt1 r_p1 rl_0 (ti_lt c_1) (by decide)
    refine lv_iconst (v := 0) hx hb dX9_image_13 (by decide) ?_
    subst hQ
    exact W.zret (v := 0) hx hb hr (rfl) (fun t ht hW => ⟨⟨0, w0, rfl, ⟨⟨rl_0.to (by decide), (fun h0 => trivial), (fun _ => trivial), ⟨(by rw [pick_ne (n := 0) (by have k1 := r_p1.1; have k2 := r_p1.2; omega), pick_ne (n := 1) (by have k1 := r_p1.1; have k2 := r_p1.2; omega)]; exact x_HE_gdq_gdg_gdo_gdA_gdB_false_false), (by rw [pick_ne (n := 0) (by have k1 := r_p1.1; have k2 := r_p1.2; omega), pick_ne (n := 1) (by have k1 := r_p1.1; have k2 := r_p1.2; omega)]; exact x_FLP_gdq_gda_gdb), trivial⟩, (fun _ => trivial), (fun _ => trivial)⟩, hw.1, hw.2.2.2.2.1⟩, by rw [ht]; exact hw.2.1, va_K.moved hW.alike hK, hw.2.2.1⟩, hw.2.2.2.1.F ht⟩) hw.2.2.2.1.2.2 dX9_image_14
  · have r_p1 : RI p1 0 2147483647 := rc_le2 rl_0 r_p1 (ti_nlt c_1) (by decide)
    refine lv_iload_n hx hb dX9_image_4 rfl (lv_at hl 1 rfl) ?_
    refine lv_aload_n hx hb dX9_image_5 rfl (lv_at hl 0 rfl) ?_
    refine tg_get (ci := 9) (ts := ty_WP) (C := RX9) (T := TX9) (N := 15) hx hb hts inX9 hown hK hw h_p0 rfl rfl 4 (by decide) (hts _ tw_350) (fun _ h9 => h9) (ft := vR 23) rfl dX9_image_6 (fun u_1 hv_u_1 m_u_1 => ?_)
    obtain ⟨vu_1, rfl, h_vu_1⟩ := hv_u_1
    refine tg_alenQ (t0 := 5) (v := 2) hx hb hK hw h_vu_1 rfl rfl rfl dX9_image_9 ?_
    refine lv_icmp_lt (tgt := 15) hx hb dX9_image_10 (by decide) (fun c_10 => ?_) (fun c_10 => ?_)
    · have r_p1 : RI p1 0 1 := rc_lt1 r_p1 rl_2 (ti_lt c_10) (by decide)
      refine lv_aload_n hx hb dX9_image_15 rfl (lv_at hl 0 rfl) ?_
      refine tg_mem (ci := 9) (C := RX9) (T := TX9) (N := 15) hx hb hts inX9 hown hK hw 4 m_u_1 rfl (by decide) (hts _ tw_350) (fun _ h9 => h9) dX9_image_16 ?_
      refine lv_iload_n hx hb dX9_image_19 rfl (lv_at hl 1 rfl) ?_
      rcases (show (0 ≤ p1.toInt ∧ p1.toInt ≤ 0) ∨ (1 ≤ p1.toInt ∧ p1.toInt ≤ 1) by have k1 := r_p1.1; have k2 := r_p1.2; omega) with h_9 | h_9
      · have r_p1 : RI p1 0 0 := h_9
        refine tg_aaldE (u := 28) hx hb hK hw h_vu_1 rfl rfl 0 0 r_p1 (by decide) (fun _ _ _ => rfl) dX9_image_20 (fun b_2 h_b_2 e_b_2 => ?_)
        have eb9 : b_2 = gdq 5 := GQ.im hw.2.2.1 x_GQ_gdq_gdg (GWX.im hw.2.2.1 x_GWX_p0_gdq m_u_1) e_b_2 (k9 := 0) (by have k1 := r_p1.1; have k2 := r_p1.2; omega) (by decide)
        have x_AT_b_2_gdq_5 : (b_2 = gdq 5) := eb9
        refine lv_aload_n hx hb dX9_image_21 rfl (lv_at hl 0 rfl) ?_
        refine tg_get (ci := 9) (ts := ty_WP) (C := RX9) (T := TX9) (N := 15) hx hb hts inX9 hown hK hw h_p0 rfl rfl 1 (by decide) (hts _ tw_347) (fun _ h9 => h9) (ft := vR 24) rfl dX9_image_22 (fun u_3 hv_u_3 m_u_3 => ?_)
        obtain ⟨vu_3, rfl, h_vu_3⟩ := hv_u_3
        refine lv_aload_n hx hb dX9_image_25 rfl (lv_at hl 0 rfl) ?_
        refine tg_get (ci := 9) (ts := ty_WP) (C := RX9) (T := TX9) (N := 15) hx hb hts inX9 hown hK hw h_p0 rfl rfl 5 (by decide) (hts _ tw_351) (fun _ h9 => h9) (ft := vN 32) rfl dX9_image_26 (fun u_4 hv_u_4 m_u_4 => ?_)
        rcases hv_u_4 with rfl | ⟨vu_4, rfl, h_vu_4⟩
        · have x_AT_vu_3_gdq_0 : (vu_3 = gdq 0) := GWX.wo hw.2.2.1 x_GWX_p0_gdq m_u_3
          refine tk_v (va_runV (As := [.ref vu_3, .null]) (rest := []) ⟨hx, hb, hml, hown, hts⟩ (c_X2_take__2 l D cy z s.heap.size Ps w0 hw.1 b_2 vu_3 (gdq) (gdg) (gdo) (gdA) (gdB) (gda) (gdb) h_b_2 h_vu_3 x_AT_b_2_gdq_5 x_AT_vu_3_gdq_0 x_GQ_gdq_gdg x_HE_gdq_gdg_gdo_gdA_gdB_false_false x_FLP_gdq_gda_gdb) (cwV 2 hts (gV tw_1022 tw_1023 tw_1024 tw_14 tw_1025) rfl rfl rfl (by decide +kernel) ⟨Nat.le_of_ble_eq_true rfl, Nat.le_of_ble_eq_true rfl⟩) (tg_preV hw hK hSD hA (ci := 2) (q := (RX2, TX2, 3)) rfl h_b_2 rfl) rfl rfl hl.1 rfl (lv_room (Nat.le_of_ble_eq_true rfl)) dX9_image_29 ⟨Nat.le_of_ble_eq_true rfl, Nat.le_of_ble_eq_true rfl⟩) hw hA ⟨by decide, by decide⟩ (fun ws H locs hp_v_5 hw hF9 => ?_)
          have m_u_1 := FLD.over hF9 m_u_1 (by decide)
          have m_u_3 := FLD.over hF9 m_u_3 (by decide)
          have x_GWX_p0_gdq := GWX.over hF9 x_GWX_p0_gdq (by decide)
          have x_GQ_gdq_gdg := GQ.over hF9 x_GQ_gdq_gdg (by decide)
          have x_HE_gdq_gdg_gdo_gdo_gdB_false_false := (hp_v_5.1)
          have x_FLP_gdq_1_gdb := (hp_v_5.2.1)
          refine lv_iconst (v := 1) hx hb dX9_image_32 (by decide) ?_
          subst hQ
          exact W.zret (v := 1) hx hb hr (rfl) (fun t ht hW => ⟨⟨1, ws, rfl, ⟨⟨rl_1.to (by decide), (fun _ => trivial), (fun h0 => trivial), ⟨(by rw [pick_eq (n := 0) (by have k1 := r_p1.1; have k2 := r_p1.2; omega), pick_ne (n := 1) (by have k1 := r_p1.1; have k2 := r_p1.2; omega)]; exact x_HE_gdq_gdg_gdo_gdo_gdB_false_false), (by rw [pick_eq (n := 0) (by have k1 := r_p1.1; have k2 := r_p1.2; omega), pick_ne (n := 1) (by have k1 := r_p1.1; have k2 := r_p1.2; omega)]; exact x_FLP_gdq_1_gdb), trivial⟩, (fun _ => trivial), (fun _ => trivial)⟩, hw.1, hw.2.2.2.2.1⟩, by rw [ht]; exact hw.2.1, va_K.moved hW.alike hK, hw.2.2.1⟩, hw.2.2.2.1.F ht⟩) hw.2.2.2.1.2.2 dX9_image_33
        · have x_AT_vu_3_gdq_0 : (vu_3 = gdq 0) := GWX.wo hw.2.2.1 x_GWX_p0_gdq m_u_3
          refine tk_v (va_runV (As := [.ref vu_3, .ref vu_4]) (rest := []) ⟨hx, hb, hml, hown, hts⟩ (c_X2_take__3 l D cy z s.heap.size Ps w0 hw.1 b_2 vu_3 vu_4 (gdq) (gdg) (gdo) (gdA) (gdB) (gda) (gdb) h_b_2 h_vu_3 h_vu_4 x_AT_b_2_gdq_5 x_AT_vu_3_gdq_0 x_GQ_gdq_gdg x_HE_gdq_gdg_gdo_gdA_gdB_false_false x_FLP_gdq_gda_gdb) (cwV 2 hts (gV tw_1022 tw_1023 tw_1024 tw_14 tw_1025) rfl rfl rfl (by decide +kernel) ⟨Nat.le_of_ble_eq_true rfl, Nat.le_of_ble_eq_true rfl⟩) (tg_preV hw hK hSD hA (ci := 2) (q := (RX2, TX2, 3)) rfl h_b_2 rfl) rfl rfl hl.1 rfl (lv_room (Nat.le_of_ble_eq_true rfl)) dX9_image_29 ⟨Nat.le_of_ble_eq_true rfl, Nat.le_of_ble_eq_true rfl⟩) hw hA ⟨by decide, by decide⟩ (fun ws H locs hp_v_6 hw hF9 => ?_)
          have m_u_1 := FLD.over hF9 m_u_1 (by decide)
          have m_u_3 := FLD.over hF9 m_u_3 (by decide)
          have x_GWX_p0_gdq := GWX.over hF9 x_GWX_p0_gdq (by decide)
          have x_GQ_gdq_gdg := GQ.over hF9 x_GQ_gdq_gdg (by decide)
          have x_HE_gdq_gdg_gdo_gdo_gdB_false_false := (hp_v_6.1)
          have x_FLP_gdq_1_gdb := (hp_v_6.2.1)
          refine lv_iconst (v := 1) hx hb dX9_image_32 (by decide) ?_
          subst hQ
          exact W.zret (v := 1) hx hb hr (rfl) (fun t ht hW => ⟨⟨1, ws, rfl, ⟨⟨rl_1.to (by decide), (fun _ => trivial), (fun h0 => trivial), ⟨(by rw [pick_eq (n := 0) (by have k1 := r_p1.1; have k2 := r_p1.2; omega), pick_ne (n := 1) (by have k1 := r_p1.1; have k2 := r_p1.2; omega)]; exact x_HE_gdq_gdg_gdo_gdo_gdB_false_false), (by rw [pick_eq (n := 0) (by have k1 := r_p1.1; have k2 := r_p1.2; omega), pick_ne (n := 1) (by have k1 := r_p1.1; have k2 := r_p1.2; omega)]; exact x_FLP_gdq_1_gdb), trivial⟩, (fun _ => trivial), (fun _ => trivial)⟩, hw.1, hw.2.2.2.2.1⟩, by rw [ht]; exact hw.2.1, va_K.moved hW.alike hK, hw.2.2.1⟩, hw.2.2.2.1.F ht⟩) hw.2.2.2.1.2.2 dX9_image_33
      · have r_p1 : RI p1 1 1 := h_9
        refine tg_aaldE (u := 28) hx hb hK hw h_vu_1 rfl rfl 1 1 r_p1 (by decide) (fun _ _ _ => rfl) dX9_image_20 (fun b_7 h_b_7 e_b_7 => ?_)
        have eb9 : b_7 = gdq 6 := GQ.im hw.2.2.1 x_GQ_gdq_gdg (GWX.im hw.2.2.1 x_GWX_p0_gdq m_u_1) e_b_7 (k9 := 1) (by have k1 := r_p1.1; have k2 := r_p1.2; omega) (by decide)
        have x_AT_b_7_gdq_6 : (b_7 = gdq 6) := eb9
        refine lv_aload_n hx hb dX9_image_21 rfl (lv_at hl 0 rfl) ?_
        refine tg_get (ci := 9) (ts := ty_WP) (C := RX9) (T := TX9) (N := 15) hx hb hts inX9 hown hK hw h_p0 rfl rfl 1 (by decide) (hts _ tw_347) (fun _ h9 => h9) (ft := vR 24) rfl dX9_image_22 (fun u_8 hv_u_8 m_u_8 => ?_)
        obtain ⟨vu_8, rfl, h_vu_8⟩ := hv_u_8
        refine lv_aload_n hx hb dX9_image_25 rfl (lv_at hl 0 rfl) ?_
        refine tg_get (ci := 9) (ts := ty_WP) (C := RX9) (T := TX9) (N := 15) hx hb hts inX9 hown hK hw h_p0 rfl rfl 5 (by decide) (hts _ tw_351) (fun _ h9 => h9) (ft := vN 32) rfl dX9_image_26 (fun u_9 hv_u_9 m_u_9 => ?_)
        rcases hv_u_9 with rfl | ⟨vu_9, rfl, h_vu_9⟩
        · have x_AT_vu_8_gdq_0 : (vu_8 = gdq 0) := GWX.wo hw.2.2.1 x_GWX_p0_gdq m_u_8
          refine tk_v (va_runV (As := [.ref vu_8, .null]) (rest := []) ⟨hx, hb, hml, hown, hts⟩ (c_X2_take__4 l D cy z s.heap.size Ps w0 hw.1 b_7 vu_8 (gdq) (gdg) (gdo) (gdA) (gdB) (gda) (gdb) h_b_7 h_vu_8 x_AT_b_7_gdq_6 x_AT_vu_8_gdq_0 x_GQ_gdq_gdg x_HE_gdq_gdg_gdo_gdA_gdB_false_false x_FLP_gdq_gda_gdb) (cwV 2 hts (gV tw_1022 tw_1023 tw_1024 tw_14 tw_1025) rfl rfl rfl (by decide +kernel) ⟨Nat.le_of_ble_eq_true rfl, Nat.le_of_ble_eq_true rfl⟩) (tg_preV hw hK hSD hA (ci := 2) (q := (RX2, TX2, 3)) rfl h_b_7 rfl) rfl rfl hl.1 rfl (lv_room (Nat.le_of_ble_eq_true rfl)) dX9_image_29 ⟨Nat.le_of_ble_eq_true rfl, Nat.le_of_ble_eq_true rfl⟩) hw hA ⟨by decide, by decide⟩ (fun ws H locs hp_v_10 hw hF9 => ?_)
          have m_u_1 := FLD.over hF9 m_u_1 (by decide)
          have m_u_8 := FLD.over hF9 m_u_8 (by decide)
          have x_GWX_p0_gdq := GWX.over hF9 x_GWX_p0_gdq (by decide)
          have x_GQ_gdq_gdg := GQ.over hF9 x_GQ_gdq_gdg (by decide)
          have x_HE_gdq_gdg_gdo_gdA_gdo_false_false := (hp_v_10.1)
          have x_FLP_gdq_gda_1 := (hp_v_10.2.1)
          refine lv_iconst (v := 1) hx hb dX9_image_32 (by decide) ?_
          subst hQ
          exact W.zret (v := 1) hx hb hr (rfl) (fun t ht hW => ⟨⟨1, ws, rfl, ⟨⟨rl_1.to (by decide), (fun _ => trivial), (fun h0 => trivial), ⟨(by rw [pick_ne (n := 0) (by have k1 := r_p1.1; have k2 := r_p1.2; omega), pick_eq (n := 1) (by have k1 := r_p1.1; have k2 := r_p1.2; omega)]; exact x_HE_gdq_gdg_gdo_gdA_gdo_false_false), (by rw [pick_ne (n := 0) (by have k1 := r_p1.1; have k2 := r_p1.2; omega), pick_eq (n := 1) (by have k1 := r_p1.1; have k2 := r_p1.2; omega)]; exact x_FLP_gdq_gda_1), trivial⟩, (fun _ => trivial), (fun _ => trivial)⟩, hw.1, hw.2.2.2.2.1⟩, by rw [ht]; exact hw.2.1, va_K.moved hW.alike hK, hw.2.2.1⟩, hw.2.2.2.1.F ht⟩) hw.2.2.2.1.2.2 dX9_image_33
        · have x_AT_vu_8_gdq_0 : (vu_8 = gdq 0) := GWX.wo hw.2.2.1 x_GWX_p0_gdq m_u_8
          refine tk_v (va_runV (As := [.ref vu_8, .ref vu_9]) (rest := []) ⟨hx, hb, hml, hown, hts⟩ (c_X2_take__5 l D cy z s.heap.size Ps w0 hw.1 b_7 vu_8 vu_9 (gdq) (gdg) (gdo) (gdA) (gdB) (gda) (gdb) h_b_7 h_vu_8 h_vu_9 x_AT_b_7_gdq_6 x_AT_vu_8_gdq_0 x_GQ_gdq_gdg x_HE_gdq_gdg_gdo_gdA_gdB_false_false x_FLP_gdq_gda_gdb) (cwV 2 hts (gV tw_1022 tw_1023 tw_1024 tw_14 tw_1025) rfl rfl rfl (by decide +kernel) ⟨Nat.le_of_ble_eq_true rfl, Nat.le_of_ble_eq_true rfl⟩) (tg_preV hw hK hSD hA (ci := 2) (q := (RX2, TX2, 3)) rfl h_b_7 rfl) rfl rfl hl.1 rfl (lv_room (Nat.le_of_ble_eq_true rfl)) dX9_image_29 ⟨Nat.le_of_ble_eq_true rfl, Nat.le_of_ble_eq_true rfl⟩) hw hA ⟨by decide, by decide⟩ (fun ws H locs hp_v_11 hw hF9 => ?_)
          have m_u_1 := FLD.over hF9 m_u_1 (by decide)
          have m_u_8 := FLD.over hF9 m_u_8 (by decide)
          have x_GWX_p0_gdq := GWX.over hF9 x_GWX_p0_gdq (by decide)
          have x_GQ_gdq_gdg := GQ.over hF9 x_GQ_gdq_gdg (by decide)
          have x_HE_gdq_gdg_gdo_gdA_gdo_false_false := (hp_v_11.1)
          have x_FLP_gdq_gda_1 := (hp_v_11.2.1)
          refine lv_iconst (v := 1) hx hb dX9_image_32 (by decide) ?_
          subst hQ
          exact W.zret (v := 1) hx hb hr (rfl) (fun t ht hW => ⟨⟨1, ws, rfl, ⟨⟨rl_1.to (by decide), (fun _ => trivial), (fun h0 => trivial), ⟨(by rw [pick_ne (n := 0) (by have k1 := r_p1.1; have k2 := r_p1.2; omega), pick_eq (n := 1) (by have k1 := r_p1.1; have k2 := r_p1.2; omega)]; exact x_HE_gdq_gdg_gdo_gdA_gdo_false_false), (by rw [pick_ne (n := 0) (by have k1 := r_p1.1; have k2 := r_p1.2; omega), pick_eq (n := 1) (by have k1 := r_p1.1; have k2 := r_p1.2; omega)]; exact x_FLP_gdq_gda_1), trivial⟩, (fun _ => trivial), (fun _ => trivial)⟩, hw.1, hw.2.2.2.2.1⟩, by rw [ht]; exact hw.2.1, va_K.moved hW.alike hK, hw.2.2.1⟩, hw.2.2.2.1.F ht⟩) hw.2.2.2.1.2.2 dX9_image_33
    · have r_p1 : RI p1 2 2147483647 := rc_le2 rl_2 r_p1 (ti_nlt c_10) (by decide)
      refine lv_iconst (v := 0) hx hb dX9_image_13 (by decide) ?_
      subst hQ
      exact W.zret (v := 0) hx hb hr (rfl) (fun t ht hW => ⟨⟨0, w0, rfl, ⟨⟨rl_0.to (by decide), (fun h0 => trivial), (fun _ => trivial), ⟨(by rw [pick_ne (n := 0) (by have k1 := r_p1.1; have k2 := r_p1.2; omega), pick_ne (n := 1) (by have k1 := r_p1.1; have k2 := r_p1.2; omega)]; exact x_HE_gdq_gdg_gdo_gdA_gdB_false_false), (by rw [pick_ne (n := 0) (by have k1 := r_p1.1; have k2 := r_p1.2; omega), pick_ne (n := 1) (by have k1 := r_p1.1; have k2 := r_p1.2; omega)]; exact x_FLP_gdq_gda_gdb), trivial⟩, (fun _ => trivial), (fun _ => trivial)⟩, hw.1, hw.2.2.2.2.1⟩, by rw [ht]; exact hw.2.1, va_K.moved hW.alike hK, hw.2.2.1⟩, hw.2.2.2.1.F ht⟩) hw.2.2.2.1.2.2 dX9_image_14
abbrev wr_X1_forget__1 : List (Nat × Nat) := [(1, 2)]
abbrev wa_X1_forget__1 : List Nat := []
set_option maxHeartbeats 4000000 in
set_option maxRecDepth 100000 in
theorem c_X1_forget__1 (l : Launch) (D : va_G) (cy : Nat → ClassId) (z : Nat → Nat) (sz : Nat) (Ps : PSI) (w0 : va_W) (hT : HT cy GG Ps w0) (p0 : Nat) (gdq : Nat → Nat) (gdg : Nat → Nat) (gdo : OS) (gdA : OS) (gdB : OS) (h_p0 : (p0, 27) ∈ Ps) (x_AT_p0_gdq_2 : (p0 = gdq 2)) (x_GQ_gdq_gdg : GQ Ps w0 gdq gdg) (x_HZ_gdq_gdo_gdA_gdB : HZ Ps w0 gdq gdo gdA gdB) : Met l yX1_forget (Cond.code yX1_forget cX1_forget 1 none :: gT) ({ frames := 0, cells := 0, slots := 0, locals := 200 } : Room) (va_Pc [.ref p0] (PRE D cy z w0 sz)) (va_Qv (fun (u : va_W) => (HE Ps u gdq gdg gdo gdA gdB false false ∧ True) ∧ HT cy GG Ps u ∧ FR wr_X1_forget__1 wa_X1_forget__1 Ps w0 u) (BB D cy (va_A w0 sz) (fun (u : va_W) => u)) (va_A w0 sz)) 0 0 (va_A w0 sz) := by
  refine Met.ofW (cc := cX1_forget) (maxL := 1) (ret := none) (by decide) rfl ?_
  intro p e s m args below meth c s₁ B hml hv
  obtain ⟨rfl, hsz, hP, hK, hD0, hSD⟩ := hv
  have hx := B.exec
  have hb := B.bytes
  have hr := B.returns
  have hlocks := B.notSynchronized
  have hts : ∀ w ∈ gT, w.before _ s = true := fun w h => atoms_spec (ws := Cond.code yX1_forget cX1_forget 1 none :: gT) B.pre w (List.mem_cons_of_mem _ h)
  have hown : s.vm.findClass RX1 = some m.cls := findClass_of_methodNamed B.named
  subst hsz
  have hD := hD0.self (sz := s.heap.size)
  generalize hAe : va_A w0 s.heap.size = A at hD hSD ⊢
  have hA : ∀ q : Nat, s.heap.size ≤ q → A q := fun q h => by rw [← hAe]; exact Or.inr h
  have hl := lv_entry ([.ref p0]) (n := 1) (Nat.le_of_ble_eq_true rfl)
  rw [lg_entry_eq]
  generalize (lg_sl ([.ref p0]) ++ List.replicate (1 - (lg_sl ([.ref p0])).length) Slot.unset).toArray = ls at hl ⊢
  have hl : lv_has ls 1 [(0, .ref p0)] := hl
  refine nameQ (fun Q hQ => ?_)
  have hw : WD D cy GG A s wr_X1_forget__1 wa_X1_forget__1 Ps w0 Ps w0 s.heap [] := ⟨hT, hP, hD, va_S.rf, FR.rf, hT.1, [], (List.append_nil _).symm⟩
  obtain ⟨n9, c9, hNC, hW0, hW1, hW2⟩ := x_HZ_gdq_gdo_gdA_gdB
  refine lv_aload_n hx hb dX1_forget_0 rfl (lv_at hl 0 rfl) ?_
  refine lv_iconst (v := 0) hx hb dX1_forget_1 (by decide) ?_
  refine tg_put (ci := 1) (ts := ty_HIST) (v := .int 0) (ty := .int) (C := RX1) (T := TX1) (N := 3) hx hb hts inX1 tyX1 tyX1_ok nmX1 hown hK hw h_p0 rfl rfl 2 (by decide) (hts _ tw_315) (fun _ h9 => h9) rfl (by decide +kernel) rfl rfl (ft := vI (-2147483648) 2147483647) rfl ⟨_, rfl, (rl_0.to (by decide))⟩ (by decide) dX1_forget_2 (fun ws H locs hw n_k_1 hF9 => ?_)
  have x_GQ_gdq_gdg := GQ.over hF9 x_GQ_gdq_gdg (by decide)
  have x_HE_gdq_gdg_gdo_gdA_gdB_false_false : HE Ps ws gdq gdg gdo gdA gdB false false := ⟨n9, 0, ⟨FLD.over hF9 hNC.1 (by decide), hNC.2.1, by rw [← x_AT_p0_gdq_2]; exact n_k_1, Nat.zero_le _⟩, WR.over hF9 (by decide) hW0, (fun m9_ h9 => absurd h9 (Nat.not_lt_zero _)), (fun e9 => by cases e9), (fun e9 => by cases e9), WR.over hF9 (by decide) hW1, WR.over hF9 (by decide) hW2⟩
  subst hQ
  exact W.vret hx hb hr (fun t ht hW => ⟨⟨ws, rfl, ⟨⟨x_HE_gdq_gdg_gdo_gdA_gdB_false_false, trivial⟩, hw.1, hw.2.2.2.2.1⟩, by rw [ht]; exact hw.2.1, va_K.moved hW.alike hK, hw.2.2.1⟩, hw.2.2.2.1.F ht⟩) hw.2.2.2.1.2.2 dX1_forget_5
abbrev wr_X9_post__3 : List (Nat × Nat) := [(1, 2), (3, 5), (3, 6), (3, 7), (3, 8), (7, 2), (7, 3), (7, 4), (7, 5), (7, 6), (7, 7), (7, 8), (7, 9), (7, 10), (7, 11), (8, 0), (8, 1), (9, 5), (9, 11)]
abbrev wa_X9_post__3 : List Nat := [1, 4, 5, 6, 7, 8, 9, 10, 11, 12, 13]
set_option maxHeartbeats 4000000 in
set_option maxRecDepth 100000 in
theorem c_X9_post__3 (l : Launch) (D : va_G) (cy : Nat → ClassId) (z : Nat → Nat) (sz : Nat) (Ps : PSI) (w0 : va_W) (hT : HT cy GG Ps w0) (p0 : Nat) (gh : Int) (gdT : Nat → Nat) (gdq : Nat → Nat) (gdg : Nat → Nat) (gdo : OS) (gdA : OS) (gdB : OS) (h_p0 : (p0, 33) ∈ Ps) (x_TLX_p0_gh : TLX w0 p0 (gh)) (x_BYX_p0_gdT : BYX Ps w0 p0 gdT) (x_WKX_p0 : WKX Ps w0 p0) (x_GWX_p0_gdq : GWX w0 p0 gdq) (x_GQ_gdq_gdg : GQ Ps w0 gdq gdg) (x_HE_gdq_gdg_gdo_gdA_gdB_false_false : HE Ps w0 gdq gdg gdo gdA gdB false false) : Met l yX9_post (Cond.code yX9_post cX9_post 3 (some .int) :: gT) ({ frames := 6, cells := 6, slots := 65, locals := 1200 } : Room) (va_Pc [.ref p0] (PRE D cy z w0 sz)) (va_Qi (fun (r : Int32) (u : PSI × va_W) => (RI r (-2147483648) 2147483647 ∧ (r = 0 → True) ∧ (¬ r = 0 → True) ∧ (TLX u.2 p0 (0) ∧ (r = PAN gdT gh) ∧ PX u.1 u.2 gdq gdg gdo gdA gdB gdT gh ∧ True) ∧ (r.toInt < 0 → True) ∧ (0 ≤ r.toInt → True)) ∧ (∃ X, u.1 = Ps ++ X) ∧ HT cy GG u.1 u.2 ∧ FR wr_X9_post__3 wa_X9_post__3 Ps w0 u.2) (BB D cy (va_A w0 sz) (fun (u : PSI × va_W) => u.2)) (va_A w0 sz)) 6 65 (va_A w0 sz) := by
  refine Met.ofW (cc := cX9_post) (maxL := 3) (ret := (some .int)) (by decide) rfl ?_
  intro p e s m args below meth c s₁ B hml hv
  obtain ⟨rfl, hsz, hP, hK, hD0, hSD⟩ := hv
  have hx := B.exec
  have hb := B.bytes
  have hr := B.returns
  have hlocks := B.notSynchronized
  have hts : ∀ w ∈ gT, w.before _ s = true := fun w h => atoms_spec (ws := Cond.code yX9_post cX9_post 3 (some .int) :: gT) B.pre w (List.mem_cons_of_mem _ h)
  have hown : s.vm.findClass RX9 = some m.cls := findClass_of_methodNamed B.named
  subst hsz
  have hD := hD0.self (sz := s.heap.size)
  generalize hAe : va_A w0 s.heap.size = A at hD hSD ⊢
  have hA : ∀ q : Nat, s.heap.size ≤ q → A q := fun q h => by rw [← hAe]; exact Or.inr h
  have hl := lv_entry ([.ref p0]) (n := 3) (Nat.le_of_ble_eq_true rfl)
  rw [lg_entry_eq]
  generalize (lg_sl ([.ref p0]) ++ List.replicate (3 - (lg_sl ([.ref p0])).length) Slot.unset).toArray = ls at hl ⊢
  have hl : lv_has ls 3 [(0, .ref p0)] := hl
  refine nameQ (fun Q hQ => ?_)
  have hw : WD D cy GG A s wr_X9_post__3 wa_X9_post__3 Ps w0 Ps w0 s.heap [] := ⟨hT, hP, hD, va_S.rf, FR.rf, hT.1, [], (List.append_nil _).symm⟩
  refine va_new (ci := 3) (fs := [.null, .null, .null, .null, .null, .int 0, .int 0, .int 0, .int 0]) (C := RX3) (T := TX3) (N := 9) hx hb hts inX3 tyX3 tyX3_ok hown (hts _ tw_192) (hts _ tw_193) (hts _ tw_11) hK hw.2.1 hw.2.2.1 hw.2.2.2.1 hA rfl (dfX3) (Nat.le_of_ble_eq_true rfl) (Nat.le_of_ble_eq_true rfl) dX9_post_0 (fun q_1 H hP9 hD9 hS9 => ?_)
  refine lv_dup hx hb dX9_post_3 rfl ?_
  refine tkN (va_runIN (As := []) (rest := [.ref q_1]) ⟨hx, hb, hml, hown, hts⟩ (c_Post_init l D cy z H.size q_1) ⟨va_cnB 0 hts (gC tw_196) rfl rfl rfl (va_Nw.of rfl (hSD.nest (args := #[]) tn_194)) (hts _ tw_11) (by decide +kernel) ⟨Nat.le_of_ble_eq_true rfl, Nat.le_of_ble_eq_true rfl⟩, rfl, hts _ tw_195⟩ (preS hP9 hD9 hK hSD hS9 hA [w0.length] last1 rfl) rfl rfl hl.1 rfl (lv_room (Nat.le_of_ble_eq_true rfl)) dX9_post_4 ⟨Nat.le_of_ble_eq_true rfl, Nat.le_of_ble_eq_true rfl⟩) hP9 hD9 hS9 hA (fun u9 H locs hp9 hP9 hD9 hS9 => ?_)
  obtain ⟨u0_1, u1_1, u2_1, u3_1, u4_1⟩ := u9
  have hw := WD.app (X := [(q_1, 25), (u0_1, 1), (u1_1, 4), (u2_1, 5), (u3_1, 6), (u4_1, 7)]) (wx := [(q_1, .inr (3, [.ref u0_1, .ref u1_1, .ref u2_1, .ref u3_1, .ref u4_1, .int 0, .int 5, .int 0, .int 0])), (u0_1, .inl (cy 2, 32, .inr (.inl (fun _ => 0)))), (u1_1, .inl (cy 1, 4, .inl (fun _ => 0))), (u2_1, .inl (cy 1, 6, .inl (fun _ => 0))), (u3_1, .inl (cy 1, 6, .inl (fun _ => 0))), (u4_1, .inl (cy 1, 8, .inl (fun _ => 0)))]) hw ⟨⟨rfl, ok_POST (List.mem_append_right _ (by simp)) (List.mem_append_right _ (by simp)) (List.mem_append_right _ (by simp)) (List.mem_append_right _ (by simp)) (List.mem_append_right _ (by simp)) (rl_0.to (by decide)) (rl_5.to (by decide)) (rl_0.to (by decide)) (rl_0.to (by decide))⟩, ⟨rfl, z_lon (fun _ => 0)⟩, ⟨rfl, z_arr (fun _ => 0) (by decide +kernel) trivial⟩, ⟨rfl, z_arr (fun _ => 0) (fun j9 _ => (by show ((-2147483648) : Int) ≤ (0 : Int32).toInt ∧ (0 : Int32).toInt ≤ 2147483647; decide)) trivial⟩, ⟨rfl, z_arr (fun _ => 0) (fun j9 _ => (by show ((-2147483648) : Int) ≤ (0 : Int32).toInt ∧ (0 : Int32).toInt ≤ 2147483647; decide)) trivial⟩, ⟨rfl, z_arr (fun _ => 0) (fun j9 _ => (by show ((-2147483648) : Int) ≤ (0 : Int32).toInt ∧ (0 : Int32).toInt ≤ 2147483647; decide)) trivial⟩, trivial⟩ hP9 hD9 hS9
  obtain ⟨Pn, hPn⟩ : ∃ q9 : PSI, q9 = Ps ++ [(q_1, 25), (u0_1, 1), (u1_1, 4), (u2_1, 5), (u3_1, 6), (u4_1, 7)] := ⟨_, rfl⟩
  have hup : ∀ x9 ∈ Ps, x9 ∈ Pn := fun x9 h9 => by rw [hPn]; exact List.mem_append_left _ h9
  obtain ⟨ws, hws⟩ : ∃ q9 : va_W, q9 = w0 ++ [(q_1, .inr (3, [.ref u0_1, .ref u1_1, .ref u2_1, .ref u3_1, .ref u4_1, .int 0, .int 5, .int 0, .int 0])), (u0_1, .inl (cy 2, 32, .inr (.inl (fun _ => 0)))), (u1_1, .inl (cy 1, 4, .inl (fun _ => 0))), (u2_1, .inl (cy 1, 6, .inl (fun _ => 0))), (u3_1, .inl (cy 1, 6, .inl (fun _ => 0))), (u4_1, .inl (cy 1, 8, .inl (fun _ => 0)))] := ⟨_, rfl⟩
  rw [← hPn, ← hws] at hw
  have h_p0 := hup _ h_p0
  have h_q_1 : (q_1, 25) ∈ Pn := by rw [hPn]; exact List.mem_append_right _ (by simp)
  have h_u0_1 : (u0_1, 1) ∈ Pn := by rw [hPn]; exact List.mem_append_right _ (by simp)
  have h_u1_1 : (u1_1, 4) ∈ Pn := by rw [hPn]; exact List.mem_append_right _ (by simp)
  have h_u2_1 : (u2_1, 5) ∈ Pn := by rw [hPn]; exact List.mem_append_right _ (by simp)
  have h_u3_1 : (u3_1, 6) ∈ Pn := by rw [hPn]; exact List.mem_append_right _ (by simp)
  have h_u4_1 : (u4_1, 7) ∈ Pn := by rw [hPn]; exact List.mem_append_right _ (by simp)
  refine W.widen (k := 6) (n := 65) (Nat.le_of_ble_eq_true rfl) (Nat.le_of_ble_eq_true rfl) ?_
  have x_TLX_p0_gh : TLX ws p0 (gh) := by rw [hws]; exact TLX.app x_TLX_p0_gh
  have x_BYX_p0_gdT : BYX Pn ws p0 gdT := by rw [hPn, hws]; exact BYX.app x_BYX_p0_gdT
  have x_WKX_p0 : WKX Pn ws p0 := by rw [hPn, hws]; exact WKX.app x_WKX_p0
  have o_n : OV vw_POST Pn ws q_1 OP0 := by rw [hPn, hws]; exact post_new hT.1
  have x_GWX_p0_gdq : GWX ws p0 gdq := by rw [hws]; exact GWX.app x_GWX_p0_gdq
  have x_GQ_gdq_gdg : GQ Pn ws gdq gdg := by rw [hPn, hws]; exact GQ.app x_GQ_gdq_gdg
  refine lv_astore_n (lv' := [(1, .ref q_1), (0, .ref p0)]) hx hb dX9_post_7 rfl hl (by decide) rfl (fun ls hl => ?_)
  refine lv_aload_n hx hb dX9_post_8 rfl (lv_at hl 0 rfl) ?_
  refine lv_aload_n hx hb dX9_post_9 rfl (lv_at hl 1 rfl) ?_
  refine tg_get (ci := 9) (ts := ty_WP) (C := RX9) (T := TX9) (N := 15) hx hb hts inX9 hown hK hw h_p0 rfl rfl 0 (by decide) (hts _ tw_346) (fun _ h9 => h9) (ft := vR 26) rfl dX9_post_10 (fun u_2 hv_u_2 m_u_2 => ?_)
  obtain ⟨vu_2, rfl, h_vu_2⟩ := hv_u_2
  refine lv_aload_n hx hb dX9_post_13 rfl (lv_at hl 1 rfl) ?_
  refine tg_get (ci := 9) (ts := ty_WP) (C := RX9) (T := TX9) (N := 15) hx hb hts inX9 hown hK hw h_p0 rfl rfl 2 (by decide) (hts _ tw_348) (fun _ h9 => h9) (ft := vR 24) rfl dX9_post_14 (fun u_3 hv_u_3 m_u_3 => ?_)
  obtain ⟨vu_3, rfl, h_vu_3⟩ := hv_u_3
  obtain ⟨so, o_t, hCX⟩ := tp_full hw.1 hw.2.2.1 x_TLX_p0_gh x_BYX_p0_gdT x_WKX_p0 m_u_2 h_vu_2
  obtain ⟨sw, o_w⟩ := wd_full hw.1 h_vu_3
  have hD8 := hw.2.2.1
  refine tk_i (va_runV (As := [.ref vu_2, .ref vu_3]) (rest := []) ⟨hx, hb, hml, hown, hts⟩ (c_X3_read__2 l D cy z H.size Pn ws hw.1 q_1 vu_2 vu_3 OP0 so sw h_q_1 h_vu_2 h_vu_3 o_n o_t o_w) (cwV 2 hts (gV tw_412 tw_413 tw_414 tw_11 tw_415) rfl rfl rfl (by decide +kernel) ⟨Nat.le_of_ble_eq_true rfl, Nat.le_of_ble_eq_true rfl⟩) (tg_preV hw hK hSD hA (ci := 3) (q := (RX3, TX3, 9)) rfl h_q_1 rfl) rfl rfl hl.1 rfl (lv_room (Nat.le_of_ble_eq_true rfl)) dX9_post_17 ⟨Nat.le_of_ble_eq_true rfl, Nat.le_of_ble_eq_true rfl⟩) hw hA ⟨by decide, by decide⟩ (fun v_4 ws H locs hp_v_4 hw hF9 => ?_)
  have m_u_2 := FLD.over hF9 m_u_2 (by decide)
  have m_u_3 := FLD.over hF9 m_u_3 (by decide)
  have x_TLX_p0_gh := TLX.over hF9 x_TLX_p0_gh (by decide)
  have x_BYX_p0_gdT := BYX.over hF9 x_BYX_p0_gdT (by decide)
  have x_WKX_p0 := WKX.over hF9 x_WKX_p0 (by decide)
  have x_GWX_p0_gdq := GWX.over hF9 x_GWX_p0_gdq (by decide)
  have x_GQ_gdq_gdg := GQ.over hF9 x_GQ_gdq_gdg (by decide)
  obtain ⟨hot9, hp_v_4⟩ := hp_v_4
  obtain ⟨hfn, hp_v_4⟩ := hp_v_4
  have o_n : OV vw_POST Pn ws q_1 ((f_X3_read__1 OP0 so sw).1) := hfn.1
  have o_t : OV vw_TAPE Pn ws vu_2 ((f_X3_read__1 OP0 so sw).2.1) := hfn.2.1
  have o_w : OV vw_WORLD Pn ws vu_3 ((f_X3_read__1 OP0 so sw).2.2.1) := hfn.2.2.1
  have hfr_v_4 : (f_X3_read__1 OP0 so sw).2.2.2 = v_4 := hfn.2.2.2.1
  have r_v_4 : RI v_4 (-1) 900 := hp_v_4.1
  have x_BGF_vu_3_q_1 := hp_v_4.2.2.2.1.1
  obtain ⟨fv, e_fv⟩ : ∃ q9 : Int32, (((f_X3_read__1 OP0 so sw).2.1)).1 10 = q9 := ⟨_, rfl⟩
  have m_fv : FLD ws vu_2 7 10 (.int fv) := by rw [← e_fv]; exact o_t.1 10 (by decide)
  obtain ⟨pv, e_pv⟩ : ∃ q9 : Int32, (((f_X3_read__1 OP0 so sw).2.1)).1 11 = q9 := ⟨_, rfl⟩
  have m_pv : FLD ws vu_2 7 11 (.int pv) := by rw [← e_pv]; exact o_t.1 11 (by decide)
  have hPA : (fv = 0 → v_4 = PAN gdT gh) ∧ (¬ fv = 0 → -1 - pv = PAN gdT gh) := by
    have h9 := PA_ (read_ (s2 := sw) hCX P0_OP0)
    rw [e_fv, e_pv, hfr_v_4] at h9
    exact h9
  have r_fv : RI fv 0 4 := by
    obtain ⟨v9, a9, b9⟩ := ht_fld (k := 10) (ci := 7) (ts := ty_TAPE) (lo := 0) (hi := 4) hw.1 h_vu_2 rfl rfl
    cases FLD.inj hw.2.2.1 a9 m_fv
    exact b9
  have r_pv := ri_any pv
  have x_HE_gdq_gdg_gdo_gdA_gdB_false_false : HE Pn ws gdq gdg gdo gdA gdB false false := HE.read hT.1 hPn hws hD8 x_GQ_gdq_gdg.2.2.2.2.2 hot9 x_BGF_vu_3_q_1 (GWX.tr hw.2.2.1 x_GWX_p0_gdq m_u_3) hF9 (by decide) x_HE_gdq_gdg_gdo_gdA_gdB_false_false
  have hRO := read_ (s2 := sw) hCX P0_OP0
  obtain ⟨gdn, e_gdn⟩ : ∃ q9 : OS, ((f_X3_read__1 OP0 so sw).1) = q9 := ⟨_, rfl⟩
  have o_n : OV vw_POST Pn ws q_1 gdn := by rw [← e_gdn]; exact o_n
  refine lv_istore_n (lv' := [(2, .int v_4), (1, .ref q_1), (0, .ref p0)]) hx hb dX9_post_20 rfl hl (by decide) rfl (fun ls hl => ?_)
  refine lv_aload_n hx hb dX9_post_21 rfl (lv_at hl 2 rfl) ?_
  refine tk_v (va_runV (As := []) (rest := []) ⟨hx, hb, hml, hown, hts⟩ (c_X9_noteFault__2 l D cy z H.size Pn ws hw.1 p0 h_p0) (cwV 0 hts (gV tw_517 tw_519 ts_9 tw_1 tw_520) rfl rfl rfl (by decide +kernel) ⟨Nat.le_of_ble_eq_true rfl, Nat.le_of_ble_eq_true rfl⟩) (tg_preV hw hK hSD hA (ci := 9) (q := (RX9, TX9, 15)) rfl h_p0 rfl) rfl rfl hl.1 rfl (lv_room (Nat.le_of_ble_eq_true rfl)) dX9_post_22 ⟨Nat.le_of_ble_eq_true rfl, Nat.le_of_ble_eq_true rfl⟩) hw hA ⟨by decide, by decide⟩ (fun ws H locs hp_v_5 hw hF9 => ?_)
  have m_u_2 := FLD.over hF9 m_u_2 (by decide)
  have m_u_3 := FLD.over hF9 m_u_3 (by decide)
  have m_fv := FLD.over hF9 m_fv (by decide)
  have m_pv := FLD.over hF9 m_pv (by decide)
  have x_BYX_p0_gdT := BYX.over hF9 x_BYX_p0_gdT (by decide)
  have x_WKX_p0 := WKX.over hF9 x_WKX_p0 (by decide)
  have x_GWX_p0_gdq := GWX.over hF9 x_GWX_p0_gdq (by decide)
  have x_GQ_gdq_gdg := GQ.over hF9 x_GQ_gdq_gdg (by decide)
  have x_BGF_vu_3_q_1 := BGF.over hF9 x_BGF_vu_3_q_1 (by decide)
  have x_HE_gdq_gdg_gdo_gdA_gdB_false_false := HE.over hF9 x_HE_gdq_gdg_gdo_gdA_gdB_false_false (by decide)
  have o_n := OV.over (V := vw_POST) hF9 o_n (by decide)
  have x_EQF_p0 := (hp_v_5.1)
  have x_TLX_p0_0 := (hp_v_5.2.1)
  have m_lf : FLD ws p0 9 11 (.int fv) := EQF.lf hw.2.2.1 x_EQF_p0 m_u_2 m_fv
  refine lv_aload_n hx hb dX9_post_25 rfl (lv_at hl 2 rfl) ?_
  refine tg_mem (ci := 9) (C := RX9) (T := TX9) (N := 15) hx hb hts inX9 hown hK hw 11 m_lf rfl (by decide) (hts _ tw_357) (fun _ h9 => h9) dX9_post_26 ?_
  refine lv_if_eq (tgt := 42) hx hb dX9_post_29 (by decide) (fun c_29 => ?_) (fun c_29 => ?_)
  · have r_fv : RI fv 0 0 := rc_eq1 r_fv rl_0 (ti_eq c_29) (by decide)
    refine lv_aload_n hx hb dX9_post_42 rfl (lv_at hl 2 rfl) ?_
    refine tg_get (ci := 9) (ts := ty_WP) (C := RX9) (T := TX9) (N := 15) hx hb hts inX9 hown hK hw h_p0 rfl rfl 1 (by decide) (hts _ tw_347) (fun _ h9 => h9) (ft := vR 24) rfl dX9_post_43 (fun u_6 hv_u_6 m_u_6 => ?_)
    obtain ⟨vu_6, rfl, h_vu_6⟩ := hv_u_6
    refine lv_aload_n hx hb dX9_post_46 rfl (lv_at hl 2 rfl) ?_
    refine tg_mem (ci := 9) (C := RX9) (T := TX9) (N := 15) hx hb hts inX9 hown hK hw 2 m_u_3 rfl (by decide) (hts _ tw_348) (fun _ h9 => h9) dX9_post_47 ?_
    have wn9 : WR Pn ws vu_3 gdn := ⟨_, x_BGF_vu_3_q_1.1, o_n⟩
    have hD8 := hw.2.2.1
    refine tk_v (va_runV (As := [.ref vu_3]) (rest := []) ⟨hx, hb, hml, hown, hts⟩ (c_X8_takeFrom__1 l D cy z H.size Pn ws hw.1 vu_6 vu_3 h_vu_6 h_vu_3) (cwV 1 hts (gV tw_521 tw_522 tw_523 tw_12 tw_524) rfl rfl rfl (by decide +kernel) ⟨Nat.le_of_ble_eq_true rfl, Nat.le_of_ble_eq_true rfl⟩) (tg_preV hw hK hSD hA (ci := 8) (q := (RX8, TX8, 13)) rfl h_vu_6 rfl) rfl rfl hl.1 rfl (lv_room (Nat.le_of_ble_eq_true rfl)) dX9_post_50 ⟨Nat.le_of_ble_eq_true rfl, Nat.le_of_ble_eq_true rfl⟩) hw hA ⟨by decide, by decide⟩ (fun ws H locs hp_v_7 hw hF9 => ?_)
    have m_u_2 := FLD.over hF9 m_u_2 (by decide)
    have m_u_3 := FLD.over hF9 m_u_3 (by decide)
    have m_fv := FLD.over hF9 m_fv (by decide)
    have m_pv := FLD.over hF9 m_pv (by decide)
    have m_lf := FLD.over hF9 m_lf (by decide)
    have m_u_6 := FLD.over hF9 m_u_6 (by decide)
    have x_BYX_p0_gdT := BYX.over hF9 x_BYX_p0_gdT (by decide)
    have x_WKX_p0 := WKX.over hF9 x_WKX_p0 (by decide)
    have x_GWX_p0_gdq := GWX.over hF9 x_GWX_p0_gdq (by decide)
    have x_GQ_gdq_gdg := GQ.over hF9 x_GQ_gdq_gdg (by decide)
    have x_EQF_p0 := EQF.over hF9 x_EQF_p0 (by decide)
    have x_TLX_p0_0 := TLX.over hF9 x_TLX_p0_0 (by decide)
    have o_n := OV.over (V := vw_POST) hF9 o_n (by decide)
    have x_TKF_vu_6_vu_3 := (hp_v_7.1)
    have x_HZ_gdq_gdn_gdA_gdB : HZ Pn ws gdq gdn gdA gdB := HE.newp hD8 hF9 (by decide) x_GQ_gdq_gdg.2.2.2.2.2 x_HE_gdq_gdg_gdo_gdA_gdB_false_false (by rw [← GWX.wo hw.2.2.1 x_GWX_p0_gdq m_u_6, ← GWX.tr hw.2.2.1 x_GWX_p0_gdq m_u_3]; exact x_TKF_vu_6_vu_3) (by rw [← GWX.tr hw.2.2.1 x_GWX_p0_gdq m_u_3]; exact wn9)
    refine lv_aload_n hx hb dX9_post_53 rfl (lv_at hl 2 rfl) ?_
    refine lv_null hx hb dX9_post_54 ?_
    refine tg_put (ci := 9) (ts := ty_WP) (v := .null) (ty := .object "WonderParcels$Sentence") (C := RX9) (T := TX9) (N := 15) hx hb hts inX9 tyX9 tyX9_ok nmX9 hown hK hw h_p0 rfl rfl 5 (by decide) (hts _ tw_351) (fun _ h9 => h9) rfl (by decide +kernel) rfl rfl (ft := vN 32) rfl (Or.inl rfl) (by decide) dX9_post_55 (fun ws H locs hw n_k_8 hF9 => ?_)
    have m_u_2 := FLD.over hF9 m_u_2 (by decide)
    have m_u_3 := FLD.over hF9 m_u_3 (by decide)
    have m_fv := FLD.over hF9 m_fv (by decide)
    have m_pv := FLD.over hF9 m_pv (by decide)
    have m_lf := FLD.over hF9 m_lf (by decide)
    have m_u_6 := FLD.over hF9 m_u_6 (by decide)
    have x_BYX_p0_gdT := BYX.over hF9 x_BYX_p0_gdT (by decide)
    have x_WKX_p0 := WKX.over hF9 x_WKX_p0 (by decide)
    have x_GWX_p0_gdq := GWX.over hF9 x_GWX_p0_gdq (by decide)
    have x_GQ_gdq_gdg := GQ.over hF9 x_GQ_gdq_gdg (by decide)
    have x_EQF_p0 := EQF.over hF9 x_EQF_p0 (by decide)
    have x_TLX_p0_0 := TLX.over hF9 x_TLX_p0_0 (by decide)
    have x_HZ_gdq_gdn_gdA_gdB := HZ.over hF9 x_HZ_gdq_gdn_gdA_gdB (by decide)
    have o_n := OV.over (V := vw_POST) hF9 o_n (by decide)
    refine lv_aload_n hx hb dX9_post_58 rfl (lv_at hl 2 rfl) ?_
    refine tg_get (ci := 9) (ts := ty_WP) (C := RX9) (T := TX9) (N := 15) hx hb hts inX9 hown hK hw h_p0 rfl rfl 3 (by decide) (hts _ tw_349) (fun _ h9 => h9) (ft := vR 27) rfl dX9_post_59 (fun u_9 hv_u_9 m_u_9 => ?_)
    obtain ⟨vu_9, rfl, h_vu_9⟩ := hv_u_9
    have x_AT_vu_9_gdq_2 : (vu_9 = gdq 2) := GWX.hi hw.2.2.1 x_GWX_p0_gdq m_u_9
    refine tk_v (va_runV (As := []) (rest := []) ⟨hx, hb, hml, hown, hts⟩ (c_X1_forget__1 l D cy z H.size Pn ws hw.1 vu_9 (gdq) (gdg) (gdn) (gdA) (gdB) h_vu_9 x_AT_vu_9_gdq_2 x_GQ_gdq_gdg x_HZ_gdq_gdn_gdA_gdB) (cwV 0 hts (gV tw_528 tw_529 tw_530 tw_13 tw_531) rfl rfl rfl (by decide +kernel) ⟨Nat.le_of_ble_eq_true rfl, Nat.le_of_ble_eq_true rfl⟩) (tg_preV hw hK hSD hA (ci := 1) (q := (RX1, TX1, 3)) rfl h_vu_9 rfl) rfl rfl hl.1 rfl (lv_room (Nat.le_of_ble_eq_true rfl)) dX9_post_62 ⟨Nat.le_of_ble_eq_true rfl, Nat.le_of_ble_eq_true rfl⟩) hw hA ⟨by decide, by decide⟩ (fun ws H locs hp_v_10 hw hF9 => ?_)
    have m_u_2 := FLD.over hF9 m_u_2 (by decide)
    have m_u_3 := FLD.over hF9 m_u_3 (by decide)
    have m_fv := FLD.over hF9 m_fv (by decide)
    have m_pv := FLD.over hF9 m_pv (by decide)
    have m_lf := FLD.over hF9 m_lf (by decide)
    have m_u_6 := FLD.over hF9 m_u_6 (by decide)
    have m_u_9 := FLD.over hF9 m_u_9 (by decide)
    have x_BYX_p0_gdT := BYX.over hF9 x_BYX_p0_gdT (by decide)
    have x_WKX_p0 := WKX.over hF9 x_WKX_p0 (by decide)
    have x_GWX_p0_gdq := GWX.over hF9 x_GWX_p0_gdq (by decide)
    have x_GQ_gdq_gdg := GQ.over hF9 x_GQ_gdq_gdg (by decide)
    have x_EQF_p0 := EQF.over hF9 x_EQF_p0 (by decide)
    have x_TLX_p0_0 := TLX.over hF9 x_TLX_p0_0 (by decide)
    have o_n := OV.over (V := vw_POST) hF9 o_n (by decide)
    have x_HE_gdq_gdg_gdn_gdA_gdB_false_false := (hp_v_10.1)
    refine lv_iload_n hx hb dX9_post_65 rfl (lv_at hl 0 rfl) ?_
    subst hQ
    exact W.iret (v := v_4) hx hb hr (fun t ht hW => ⟨⟨v_4, (Pn, ws), rfl, ⟨⟨r_v_4.to (by decide), (fun h0 => trivial), (fun h0 => trivial), ⟨x_TLX_p0_0, (hPA.1 c_29), (PX.ok hRO (e_fv.trans c_29) (by rw [e_gdn]; exact x_HE_gdq_gdg_gdn_gdA_gdB_false_false)), trivial⟩, (fun _ => trivial), (fun _ => trivial)⟩, hw.2.2.2.2.2.2, hw.1, hw.2.2.2.2.1⟩, by rw [ht]; exact hw.2.1, va_K.moved hW.alike hK, hw.2.2.1⟩, hw.2.2.2.1.F ht⟩) hw.2.2.2.1.2.2 dX9_post_66
  · have r_fv : RI fv 1 4 := rc_neL r_fv rl_0 (ti_ne c_29) (by decide)
    refine lv_iconst (v := (-1)) hx hb dX9_post_32 (by decide) ?_
    refine lv_aload_n hx hb dX9_post_33 rfl (lv_at hl 2 rfl) ?_
    refine tg_mem (ci := 9) (C := RX9) (T := TX9) (N := 15) hx hb hts inX9 hown hK hw 0 m_u_2 rfl (by decide) (hts _ tw_346) (fun _ h9 => h9) dX9_post_34 ?_
    refine tg_memN (ci := 7) (C := RX7) (T := TX7) (N := 12) hx hb hts inX7 hown hK hw 11 m_pv rfl (by decide) (hSD.nest tn_107) (fun _ h9 => h9) dX9_post_37 ?_
    refine lv_isub hx hb dX9_post_40 (lv_topi (fun v_11 e_v_11 => ?_))
    obtain ⟨t_v_11, r_v_11⟩ := tq_sub (lo := (-2147483648)) (hi := 2147483647) rl_m1 r_pv (by decide +kernel) e_v_11
    have t_v_11 : v_11.toInt = (-1) - pv.toInt := t_v_11
    subst hQ
    exact W.iret (v := v_11) hx hb hr (fun t ht hW => ⟨⟨v_11, (Pn, ws), rfl, ⟨⟨r_v_11.to (by decide), (fun h0 => trivial), (fun h0 => trivial), ⟨x_TLX_p0_0, (e_v_11.trans (hPA.2 c_29)), (PX.bad hRO (fun h9 => c_29 (e_fv.symm.trans h9)) x_HE_gdq_gdg_gdo_gdA_gdB_false_false), trivial⟩, (fun _ => trivial), (fun _ => trivial)⟩, hw.2.2.2.2.2.2, hw.1, hw.2.2.2.2.1⟩, by rw [ht]; exact hw.2.1, va_K.moved hW.alike hK, hw.2.2.1⟩, hw.2.2.2.1.F ht⟩) hw.2.2.2.1.2.2 dX9_post_41
abbrev wr_X9_restore__1 : List (Nat × Nat) := [(1, 2), (8, 0), (8, 1), (9, 5)]
abbrev wa_X9_restore__1 : List Nat := [8, 9, 10, 11, 12, 13]
set_option maxHeartbeats 4000000 in
set_option maxRecDepth 100000 in
theorem c_X9_restore__1 (l : Launch) (D : va_G) (cy : Nat → ClassId) (z : Nat → Nat) (sz : Nat) (Ps : PSI) (w0 : va_W) (hT : HT cy GG Ps w0) (p0 : Nat) (p1 : Int32) (gdq : Nat → Nat) (gdg : Nat → Nat) (gdo : OS) (gdA : OS) (gdB : OS) (gda : Int32) (gdb : Int32) (h_p0 : (p0, 33) ∈ Ps) (r_p1 : RI p1 (-2147483648) 2147483647) (x_GWX_p0_gdq : GWX w0 p0 gdq) (x_GQ_gdq_gdg : GQ Ps w0 gdq gdg) (x_HE_gdq_gdg_gdo_gdA_gdB_false_false : HE Ps w0 gdq gdg gdo gdA gdB false false) (x_FLP_gdq_gda_gdb : FLP w0 gdq gda gdb) : Met l yX9_restore (Cond.code yX9_restore cX9_restore 2 (some .boolean) :: gT) ({ frames := 3, cells := 0, slots := 0, locals := 600 } : Room) (va_Pc [.ref p0, .int p1] (PRE D cy z w0 sz)) (va_Qi (fun (r : Int32) (u : va_W) => (RI r 0 1 ∧ (r = 0 → (¬ RSP p1 gda gdb) ∧ HE Ps u gdq gdg gdo gdA gdB false false ∧ FLP u gdq gda gdb ∧ True) ∧ (¬ r = 0 → RSP p1 gda gdb ∧ HE Ps u gdq gdg (pick p1 0 gdA gdB) gdA gdB false false ∧ FLP u gdq gda gdb ∧ True)) ∧ HT cy GG Ps u ∧ FR wr_X9_restore__1 wa_X9_restore__1 Ps w0 u) (BB D cy (va_A w0 sz) (fun (u : va_W) => u)) (va_A w0 sz)) 0 0 (va_A w0 sz) := by
  refine Met.ofW (cc := cX9_restore) (maxL := 2) (ret := (some .boolean)) (by decide) rfl ?_
  intro p e s m args below meth c s₁ B hml hv
  obtain ⟨rfl, hsz, hP, hK, hD0, hSD⟩ := hv
  have hx := B.exec
  have hb := B.bytes
  have hr := B.returns
  have hlocks := B.notSynchronized
  have hts : ∀ w ∈ gT, w.before _ s = true := fun w h => atoms_spec (ws := Cond.code yX9_restore cX9_restore 2 (some .boolean) :: gT) B.pre w (List.mem_cons_of_mem _ h)
  have hown : s.vm.findClass RX9 = some m.cls := findClass_of_methodNamed B.named
  subst hsz
  have hD := hD0.self (sz := s.heap.size)
  generalize hAe : va_A w0 s.heap.size = A at hD hSD ⊢
  have hA : ∀ q : Nat, s.heap.size ≤ q → A q := fun q h => by rw [← hAe]; exact Or.inr h
  have hl := lv_entry ([.ref p0, .int p1]) (n := 2) (Nat.le_of_ble_eq_true rfl)
  rw [lg_entry_eq]
  generalize (lg_sl ([.ref p0, .int p1]) ++ List.replicate (2 - (lg_sl ([.ref p0, .int p1])).length) Slot.unset).toArray = ls at hl ⊢
  have hl : lv_has ls 2 [(0, .ref p0), (1, .int p1)] := hl
  refine nameQ (fun Q hQ => ?_)
  have hw : WD D cy GG A s wr_X9_restore__1 wa_X9_restore__1 Ps w0 Ps w0 s.heap [] := ⟨hT, hP, hD, va_S.rf, FR.rf, hT.1, [], (List.append_nil _).symm⟩
  refine lv_iload_n hx hb dX9_restore_0 rfl (lv_at hl 1 rfl) ?_
  refine lv_if_lt (tgt := 25) hx hb dX9_restore_1 (by decide) (fun c_1 => ?_) (fun c_1 => ?_)
  · have r_p1 : RI p1 (-2147483648) (-1) := rc_lt1 r_p1 rl_0 (ti_lt c_1) (by decide)
    have x_RS0_p1_gda_gdb : (¬ RSP p1 gda gdb) := RSP.out (by have k1 := r_p1.1; have k2 := r_p1.2; omega)
    refine lv_iconst (v := 0) hx hb dX9_restore_25 (by decide) ?_
    subst hQ
    exact W.zret (v := 0) hx hb hr (rfl) (fun t ht hW => ⟨⟨0, w0, rfl, ⟨⟨rl_0.to (by decide), (fun h0 => ⟨x_RS0_p1_gda_gdb, x_HE_gdq_gdg_gdo_gdA_gdB_false_false, x_FLP_gdq_gda_gdb, trivial⟩), (fun h0 => absurd rfl h0)⟩, hw.1, hw.2.2.2.2.1⟩, by rw [ht]; exact hw.2.1, va_K.moved hW.alike hK, hw.2.2.1⟩, hw.2.2.2.1.F ht⟩) hw.2.2.2.1.2.2 dX9_restore_26
  · have r_p1 : RI p1 0 2147483647 := rc_le2 rl_0 r_p1 (ti_nlt c_1) (by decide)
    refine lv_iload_n hx hb dX9_restore_4 rfl (lv_at hl 1 rfl) ?_
    refine lv_aload_n hx hb dX9_restore_5 rfl (lv_at hl 0 rfl) ?_
    refine tg_get (ci := 9) (ts := ty_WP) (C := RX9) (T := TX9) (N := 15) hx hb hts inX9 hown hK hw h_p0 rfl rfl 4 (by decide) (hts _ tw_350) (fun _ h9 => h9) (ft := vR 23) rfl dX9_restore_6 (fun u_1 hv_u_1 m_u_1 => ?_)
    obtain ⟨vu_1, rfl, h_vu_1⟩ := hv_u_1
    refine tg_alenQ (t0 := 5) (v := 2) hx hb hK hw h_vu_1 rfl rfl rfl dX9_restore_9 ?_
    refine lv_icmp_ge (tgt := 25) hx hb dX9_restore_10 (by decide) (fun c_10 => ?_) (fun c_10 => ?_)
    · have r_p1 : RI p1 2 2147483647 := rc_le2 rl_2 r_p1 (ti_le c_10) (by decide)
      have x_RS0_p1_gda_gdb : (¬ RSP p1 gda gdb) := RSP.out (by have k1 := r_p1.1; have k2 := r_p1.2; omega)
      refine lv_iconst (v := 0) hx hb dX9_restore_25 (by decide) ?_
      subst hQ
      exact W.zret (v := 0) hx hb hr (rfl) (fun t ht hW => ⟨⟨0, w0, rfl, ⟨⟨rl_0.to (by decide), (fun h0 => ⟨x_RS0_p1_gda_gdb, x_HE_gdq_gdg_gdo_gdA_gdB_false_false, x_FLP_gdq_gda_gdb, trivial⟩), (fun h0 => absurd rfl h0)⟩, hw.1, hw.2.2.2.2.1⟩, by rw [ht]; exact hw.2.1, va_K.moved hW.alike hK, hw.2.2.1⟩, hw.2.2.2.1.F ht⟩) hw.2.2.2.1.2.2 dX9_restore_26
    · have r_p1 : RI p1 0 1 := rc_lt1 r_p1 rl_2 (ti_nle c_10) (by decide)
      refine lv_aload_n hx hb dX9_restore_13 rfl (lv_at hl 0 rfl) ?_
      refine tg_mem (ci := 9) (C := RX9) (T := TX9) (N := 15) hx hb hts inX9 hown hK hw 4 m_u_1 rfl (by decide) (hts _ tw_350) (fun _ h9 => h9) dX9_restore_14 ?_
      refine lv_iload_n hx hb dX9_restore_17 rfl (lv_at hl 1 rfl) ?_
      rcases (show (0 ≤ p1.toInt ∧ p1.toInt ≤ 0) ∨ (1 ≤ p1.toInt ∧ p1.toInt ≤ 1) by have k1 := r_p1.1; have k2 := r_p1.2; omega) with h_9 | h_9
      · have r_p1 : RI p1 0 0 := h_9
        refine tg_aaldE (u := 28) hx hb hK hw h_vu_1 rfl rfl 0 0 r_p1 (by decide) (fun _ _ _ => rfl) dX9_restore_18 (fun b_2 h_b_2 e_b_2 => ?_)
        have eb9 : b_2 = gdq 5 := GQ.im hw.2.2.1 x_GQ_gdq_gdg (GWX.im hw.2.2.1 x_GWX_p0_gdq m_u_1) e_b_2 (k9 := 0) (by have k1 := r_p1.1; have k2 := r_p1.2; omega) (by decide)
        have x_AT_b_2_gdq_5 : (b_2 = gdq 5) := eb9
        refine tg_getN (ci := 2) (ts := ty_IMAGE) (C := RX2) (T := TX2) (N := 3) hx hb hts inX2 hown hK hw h_b_2 rfl rfl 2 (by decide) (hSD.nest tn_337) (fun _ h9 => h9) (ft := vI 0 1) rfl dX9_restore_19 (fun u_3 hv_u_3 m_u_3 => ?_)
        obtain ⟨vu_3, rfl, r_vu_3⟩ := hv_u_3
        have ef9 : vu_3 = gda := FLD.eqI hw.2.2.1 x_FLP_gdq_gda_gdb.1 (by rw [← eb9]; exact m_u_3)
        refine lv_if_ne (tgt := 27) hx hb dX9_restore_22 (by decide) (fun c_22 => ?_) (fun c_22 => ?_)
        · have r_vu_3 : RI vu_3 1 1 := rc_neL r_vu_3 rl_0 (ti_ne c_22) (by decide)
          have x_RS1_p1_gda_gdb : RSP p1 gda gdb := Or.inl ⟨(by have k1 := r_p1.1; have k2 := r_p1.2; omega), fun h9 => c_22 (ef9.trans h9)⟩
          refine lv_aload_n hx hb dX9_restore_27 rfl (lv_at hl 0 rfl) ?_
          refine tg_get (ci := 9) (ts := ty_WP) (C := RX9) (T := TX9) (N := 15) hx hb hts inX9 hown hK hw h_p0 rfl rfl 1 (by decide) (hts _ tw_347) (fun _ h9 => h9) (ft := vR 24) rfl dX9_restore_28 (fun u_4 hv_u_4 m_u_4 => ?_)
          obtain ⟨vu_4, rfl, h_vu_4⟩ := hv_u_4
          refine lv_aload_n hx hb dX9_restore_31 rfl (lv_at hl 0 rfl) ?_
          refine tg_mem (ci := 9) (C := RX9) (T := TX9) (N := 15) hx hb hts inX9 hown hK hw 4 m_u_1 rfl (by decide) (hts _ tw_350) (fun _ h9 => h9) dX9_restore_32 ?_
          refine lv_iload_n hx hb dX9_restore_35 rfl (lv_at hl 1 rfl) ?_
          refine tg_aaldE (u := 28) hx hb hK hw h_vu_1 rfl rfl 0 0 r_p1 (by decide) (fun _ _ _ => rfl) dX9_restore_36 (fun b_5 h_b_5 e_b_5 => ?_)
          have eb9 : b_5 = gdq 5 := GQ.im hw.2.2.1 x_GQ_gdq_gdg (GWX.im hw.2.2.1 x_GWX_p0_gdq m_u_1) e_b_5 (k9 := 0) (by have k1 := r_p1.1; have k2 := r_p1.2; omega) (by decide)
          have x_AT_b_5_gdq_5 : (b_5 = gdq 5) := eb9
          refine tg_getN (ci := 2) (ts := ty_IMAGE) (C := RX2) (T := TX2) (N := 3) hx hb hts inX2 hown hK hw h_b_5 rfl rfl 0 (by decide) (hSD.nest tn_333) (fun _ h9 => h9) (ft := vR 24) rfl dX9_restore_37 (fun u_6 hv_u_6 m_u_6 => ?_)
          obtain ⟨vu_6, rfl, h_vu_6⟩ := hv_u_6
          have hD8 := hw.2.2.1
          refine tk_v (va_runV (As := [.ref vu_6]) (rest := []) ⟨hx, hb, hml, hown, hts⟩ (c_X8_takeFrom__1 l D cy z s.heap.size Ps w0 hw.1 vu_4 vu_6 h_vu_4 h_vu_6) (cwV 1 hts (gV tw_521 tw_522 tw_523 tw_12 tw_524) rfl rfl rfl (by decide +kernel) ⟨Nat.le_of_ble_eq_true rfl, Nat.le_of_ble_eq_true rfl⟩) (tg_preV hw hK hSD hA (ci := 8) (q := (RX8, TX8, 13)) rfl h_vu_4 rfl) rfl rfl hl.1 rfl (lv_room (Nat.le_of_ble_eq_true rfl)) dX9_restore_40 ⟨Nat.le_of_ble_eq_true rfl, Nat.le_of_ble_eq_true rfl⟩) hw hA ⟨by decide, by decide⟩ (fun ws H locs hp_v_7 hw hF9 => ?_)
          have m_u_1 := FLD.over hF9 m_u_1 (by decide)
          have m_u_3 := FLD.over hF9 m_u_3 (by decide)
          have m_u_4 := FLD.over hF9 m_u_4 (by decide)
          have m_u_6 := FLD.over hF9 m_u_6 (by decide)
          have x_GWX_p0_gdq := GWX.over hF9 x_GWX_p0_gdq (by decide)
          have x_GQ_gdq_gdg := GQ.over hF9 x_GQ_gdq_gdg (by decide)
          have x_FLP_gdq_gda_gdb := FLP.over hF9 x_FLP_gdq_gda_gdb (by decide)
          have x_TKF_vu_4_vu_6 := (hp_v_7.1)
          have x_HZ_gdq_gdA_gdA_gdB : HZ Ps ws gdq gdA gdA gdB := HE.restA hD8 hF9 (by decide) x_GQ_gdq_gdg.2.2.2.2.2 x_HE_gdq_gdg_gdo_gdA_gdB_false_false (by have z9 := FLD.inj hw.2.2.1 x_GQ_gdq_gdg.2.2.2.1 (by rw [← eb9]; exact m_u_6); injection z9 with z9; rw [z9, ← GWX.wo hw.2.2.1 x_GWX_p0_gdq m_u_4]; exact x_TKF_vu_4_vu_6)
          refine lv_aload_n hx hb dX9_restore_43 rfl (lv_at hl 0 rfl) ?_
          refine lv_aload_n hx hb dX9_restore_44 rfl (lv_at hl 0 rfl) ?_
          refine tg_mem (ci := 9) (C := RX9) (T := TX9) (N := 15) hx hb hts inX9 hown hK hw 4 m_u_1 rfl (by decide) (hts _ tw_350) (fun _ h9 => h9) dX9_restore_45 ?_
          refine lv_iload_n hx hb dX9_restore_48 rfl (lv_at hl 1 rfl) ?_
          refine tg_aaldE (u := 28) hx hb hK hw h_vu_1 rfl rfl 0 0 r_p1 (by decide) (fun _ _ _ => rfl) dX9_restore_49 (fun b_8 h_b_8 e_b_8 => ?_)
          have eb9 : b_8 = gdq 5 := GQ.im hw.2.2.1 x_GQ_gdq_gdg (GWX.im hw.2.2.1 x_GWX_p0_gdq m_u_1) e_b_8 (k9 := 0) (by have k1 := r_p1.1; have k2 := r_p1.2; omega) (by decide)
          have x_AT_b_8_gdq_5 : (b_8 = gdq 5) := eb9
          refine tg_getN (ci := 2) (ts := ty_IMAGE) (C := RX2) (T := TX2) (N := 3) hx hb hts inX2 hown hK hw h_b_8 rfl rfl 1 (by decide) (hSD.nest tn_335) (fun _ h9 => h9) (ft := vN 32) rfl dX9_restore_50 (fun u_9 hv_u_9 m_u_9 => ?_)
          rcases hv_u_9 with rfl | ⟨vu_9, rfl, h_vu_9⟩
          · refine tg_put (ci := 9) (ts := ty_WP) (v := .null) (ty := .object "WonderParcels$Sentence") (C := RX9) (T := TX9) (N := 15) hx hb hts inX9 tyX9 tyX9_ok nmX9 hown hK hw h_p0 rfl rfl 5 (by decide) (hts _ tw_351) (fun _ h9 => h9) rfl (by decide +kernel) rfl rfl (ft := vN 32) rfl (Or.inl rfl) (by decide) dX9_restore_53 (fun ws H locs hw n_k_10 hF9 => ?_)
            have m_u_1 := FLD.over hF9 m_u_1 (by decide)
            have m_u_3 := FLD.over hF9 m_u_3 (by decide)
            have m_u_4 := FLD.over hF9 m_u_4 (by decide)
            have m_u_6 := FLD.over hF9 m_u_6 (by decide)
            have x_GWX_p0_gdq := GWX.over hF9 x_GWX_p0_gdq (by decide)
            have x_GQ_gdq_gdg := GQ.over hF9 x_GQ_gdq_gdg (by decide)
            have x_FLP_gdq_gda_gdb := FLP.over hF9 x_FLP_gdq_gda_gdb (by decide)
            have x_HZ_gdq_gdA_gdA_gdB := HZ.over hF9 x_HZ_gdq_gdA_gdA_gdB (by decide)
            refine lv_aload_n hx hb dX9_restore_56 rfl (lv_at hl 0 rfl) ?_
            refine tg_get (ci := 9) (ts := ty_WP) (C := RX9) (T := TX9) (N := 15) hx hb hts inX9 hown hK hw h_p0 rfl rfl 3 (by decide) (hts _ tw_349) (fun _ h9 => h9) (ft := vR 27) rfl dX9_restore_57 (fun u_11 hv_u_11 m_u_11 => ?_)
            obtain ⟨vu_11, rfl, h_vu_11⟩ := hv_u_11
            have x_AT_vu_11_gdq_2 : (vu_11 = gdq 2) := GWX.hi hw.2.2.1 x_GWX_p0_gdq m_u_11
            refine tk_v (va_runV (As := []) (rest := []) ⟨hx, hb, hml, hown, hts⟩ (c_X1_forget__1 l D cy z H.size Ps ws hw.1 vu_11 (gdq) (gdg) (gdA) (gdA) (gdB) h_vu_11 x_AT_vu_11_gdq_2 x_GQ_gdq_gdg x_HZ_gdq_gdA_gdA_gdB) (cwV 0 hts (gV tw_528 tw_529 tw_530 tw_13 tw_531) rfl rfl rfl (by decide +kernel) ⟨Nat.le_of_ble_eq_true rfl, Nat.le_of_ble_eq_true rfl⟩) (tg_preV hw hK hSD hA (ci := 1) (q := (RX1, TX1, 3)) rfl h_vu_11 rfl) rfl rfl hl.1 rfl (lv_room (Nat.le_of_ble_eq_true rfl)) dX9_restore_60 ⟨Nat.le_of_ble_eq_true rfl, Nat.le_of_ble_eq_true rfl⟩) hw hA ⟨by decide, by decide⟩ (fun ws H locs hp_v_12 hw hF9 => ?_)
            have m_u_1 := FLD.over hF9 m_u_1 (by decide)
            have m_u_3 := FLD.over hF9 m_u_3 (by decide)
            have m_u_4 := FLD.over hF9 m_u_4 (by decide)
            have m_u_6 := FLD.over hF9 m_u_6 (by decide)
            have m_u_11 := FLD.over hF9 m_u_11 (by decide)
            have x_GWX_p0_gdq := GWX.over hF9 x_GWX_p0_gdq (by decide)
            have x_GQ_gdq_gdg := GQ.over hF9 x_GQ_gdq_gdg (by decide)
            have x_FLP_gdq_gda_gdb := FLP.over hF9 x_FLP_gdq_gda_gdb (by decide)
            have x_HE_gdq_gdg_gdA_gdA_gdB_false_false := (hp_v_12.1)
            have x_HER_gdq_gdg_gdA_gdB_p1 : HE Ps ws gdq gdg (pick p1 0 gdA gdB) gdA gdB false false := by rw [pick_eq (n := 0) (by have k1 := r_p1.1; have k2 := r_p1.2; omega)]; exact x_HE_gdq_gdg_gdA_gdA_gdB_false_false
            refine lv_iconst (v := 1) hx hb dX9_restore_63 (by decide) ?_
            subst hQ
            exact W.zret (v := 1) hx hb hr (rfl) (fun t ht hW => ⟨⟨1, ws, rfl, ⟨⟨rl_1.to (by decide), (fun h0 => absurd h0 (by decide)), (fun h0 => ⟨x_RS1_p1_gda_gdb, x_HER_gdq_gdg_gdA_gdB_p1, x_FLP_gdq_gda_gdb, trivial⟩)⟩, hw.1, hw.2.2.2.2.1⟩, by rw [ht]; exact hw.2.1, va_K.moved hW.alike hK, hw.2.2.1⟩, hw.2.2.2.1.F ht⟩) hw.2.2.2.1.2.2 dX9_restore_64
          · refine tg_put (ci := 9) (ts := ty_WP) (v := .ref vu_9) (ty := .object "WonderParcels$Sentence") (C := RX9) (T := TX9) (N := 15) hx hb hts inX9 tyX9 tyX9_ok nmX9 hown hK hw h_p0 rfl rfl 5 (by decide) (hts _ tw_351) (fun _ h9 => h9) rfl (by decide +kernel) rfl rfl (ft := vN 32) rfl (Or.inr ⟨_, rfl, h_vu_9⟩) (by decide) dX9_restore_53 (fun ws H locs hw n_k_13 hF9 => ?_)
            have m_u_1 := FLD.over hF9 m_u_1 (by decide)
            have m_u_3 := FLD.over hF9 m_u_3 (by decide)
            have m_u_4 := FLD.over hF9 m_u_4 (by decide)
            have m_u_6 := FLD.over hF9 m_u_6 (by decide)
            have x_GWX_p0_gdq := GWX.over hF9 x_GWX_p0_gdq (by decide)
            have x_GQ_gdq_gdg := GQ.over hF9 x_GQ_gdq_gdg (by decide)
            have x_FLP_gdq_gda_gdb := FLP.over hF9 x_FLP_gdq_gda_gdb (by decide)
            have x_HZ_gdq_gdA_gdA_gdB := HZ.over hF9 x_HZ_gdq_gdA_gdA_gdB (by decide)
            refine lv_aload_n hx hb dX9_restore_56 rfl (lv_at hl 0 rfl) ?_
            refine tg_get (ci := 9) (ts := ty_WP) (C := RX9) (T := TX9) (N := 15) hx hb hts inX9 hown hK hw h_p0 rfl rfl 3 (by decide) (hts _ tw_349) (fun _ h9 => h9) (ft := vR 27) rfl dX9_restore_57 (fun u_14 hv_u_14 m_u_14 => ?_)
            obtain ⟨vu_14, rfl, h_vu_14⟩ := hv_u_14
            have x_AT_vu_14_gdq_2 : (vu_14 = gdq 2) := GWX.hi hw.2.2.1 x_GWX_p0_gdq m_u_14
            refine tk_v (va_runV (As := []) (rest := []) ⟨hx, hb, hml, hown, hts⟩ (c_X1_forget__1 l D cy z H.size Ps ws hw.1 vu_14 (gdq) (gdg) (gdA) (gdA) (gdB) h_vu_14 x_AT_vu_14_gdq_2 x_GQ_gdq_gdg x_HZ_gdq_gdA_gdA_gdB) (cwV 0 hts (gV tw_528 tw_529 tw_530 tw_13 tw_531) rfl rfl rfl (by decide +kernel) ⟨Nat.le_of_ble_eq_true rfl, Nat.le_of_ble_eq_true rfl⟩) (tg_preV hw hK hSD hA (ci := 1) (q := (RX1, TX1, 3)) rfl h_vu_14 rfl) rfl rfl hl.1 rfl (lv_room (Nat.le_of_ble_eq_true rfl)) dX9_restore_60 ⟨Nat.le_of_ble_eq_true rfl, Nat.le_of_ble_eq_true rfl⟩) hw hA ⟨by decide, by decide⟩ (fun ws H locs hp_v_15 hw hF9 => ?_)
            have m_u_1 := FLD.over hF9 m_u_1 (by decide)
            have m_u_3 := FLD.over hF9 m_u_3 (by decide)
            have m_u_4 := FLD.over hF9 m_u_4 (by decide)
            have m_u_6 := FLD.over hF9 m_u_6 (by decide)
            have m_u_14 := FLD.over hF9 m_u_14 (by decide)
            have x_GWX_p0_gdq := GWX.over hF9 x_GWX_p0_gdq (by decide)
            have x_GQ_gdq_gdg := GQ.over hF9 x_GQ_gdq_gdg (by decide)
            have x_FLP_gdq_gda_gdb := FLP.over hF9 x_FLP_gdq_gda_gdb (by decide)
            have x_HE_gdq_gdg_gdA_gdA_gdB_false_false := (hp_v_15.1)
            have x_HER_gdq_gdg_gdA_gdB_p1 : HE Ps ws gdq gdg (pick p1 0 gdA gdB) gdA gdB false false := by rw [pick_eq (n := 0) (by have k1 := r_p1.1; have k2 := r_p1.2; omega)]; exact x_HE_gdq_gdg_gdA_gdA_gdB_false_false
            refine lv_iconst (v := 1) hx hb dX9_restore_63 (by decide) ?_
            subst hQ
            exact W.zret (v := 1) hx hb hr (rfl) (fun t ht hW => ⟨⟨1, ws, rfl, ⟨⟨rl_1.to (by decide), (fun h0 => absurd h0 (by decide)), (fun h0 => ⟨x_RS1_p1_gda_gdb, x_HER_gdq_gdg_gdA_gdB_p1, x_FLP_gdq_gda_gdb, trivial⟩)⟩, hw.1, hw.2.2.2.2.1⟩, by rw [ht]; exact hw.2.1, va_K.moved hW.alike hK, hw.2.2.1⟩, hw.2.2.2.1.F ht⟩) hw.2.2.2.1.2.2 dX9_restore_64
        · have r_vu_3 : RI vu_3 0 0 := rc_eq1 r_vu_3 rl_0 (ti_eq c_22) (by decide)
          have x_RS0_p1_gda_gdb : (¬ RSP p1 gda gdb) := (fun h9 => h9.elim (fun h9 => h9.2 (ef9.symm.trans c_22)) (fun h9 => absurd h9.1 (by have k1 := r_p1.1; have k2 := r_p1.2; omega)))
          refine lv_iconst (v := 0) hx hb dX9_restore_25 (by decide) ?_
          subst hQ
          exact W.zret (v := 0) hx hb hr (rfl) (fun t ht hW => ⟨⟨0, w0, rfl, ⟨⟨rl_0.to (by decide), (fun h0 => ⟨x_RS0_p1_gda_gdb, x_HE_gdq_gdg_gdo_gdA_gdB_false_false, x_FLP_gdq_gda_gdb, trivial⟩), (fun h0 => absurd rfl h0)⟩, hw.1, hw.2.2.2.2.1⟩, by rw [ht]; exact hw.2.1, va_K.moved hW.alike hK, hw.2.2.1⟩, hw.2.2.2.1.F ht⟩) hw.2.2.2.1.2.2 dX9_restore_26
      · have r_p1 : RI p1 1 1 := h_9
        refine tg_aaldE (u := 28) hx hb hK hw h_vu_1 rfl rfl 1 1 r_p1 (by decide) (fun _ _ _ => rfl) dX9_restore_18 (fun b_16 h_b_16 e_b_16 => ?_)
        have eb9 : b_16 = gdq 6 := GQ.im hw.2.2.1 x_GQ_gdq_gdg (GWX.im hw.2.2.1 x_GWX_p0_gdq m_u_1) e_b_16 (k9 := 1) (by have k1 := r_p1.1; have k2 := r_p1.2; omega) (by decide)
        have x_AT_b_16_gdq_6 : (b_16 = gdq 6) := eb9
        refine tg_getN (ci := 2) (ts := ty_IMAGE) (C := RX2) (T := TX2) (N := 3) hx hb hts inX2 hown hK hw h_b_16 rfl rfl 2 (by decide) (hSD.nest tn_337) (fun _ h9 => h9) (ft := vI 0 1) rfl dX9_restore_19 (fun u_17 hv_u_17 m_u_17 => ?_)
        obtain ⟨vu_17, rfl, r_vu_17⟩ := hv_u_17
        have ef9 : vu_17 = gdb := FLD.eqI hw.2.2.1 x_FLP_gdq_gda_gdb.2 (by rw [← eb9]; exact m_u_17)
        refine lv_if_ne (tgt := 27) hx hb dX9_restore_22 (by decide) (fun c_22 => ?_) (fun c_22 => ?_)
        · have r_vu_17 : RI vu_17 1 1 := rc_neL r_vu_17 rl_0 (ti_ne c_22) (by decide)
          have x_RS1_p1_gda_gdb : RSP p1 gda gdb := Or.inr ⟨(by have k1 := r_p1.1; have k2 := r_p1.2; omega), fun h9 => c_22 (ef9.trans h9)⟩
          refine lv_aload_n hx hb dX9_restore_27 rfl (lv_at hl 0 rfl) ?_
          refine tg_get (ci := 9) (ts := ty_WP) (C := RX9) (T := TX9) (N := 15) hx hb hts inX9 hown hK hw h_p0 rfl rfl 1 (by decide) (hts _ tw_347) (fun _ h9 => h9) (ft := vR 24) rfl dX9_restore_28 (fun u_18 hv_u_18 m_u_18 => ?_)
          obtain ⟨vu_18, rfl, h_vu_18⟩ := hv_u_18
          refine lv_aload_n hx hb dX9_restore_31 rfl (lv_at hl 0 rfl) ?_
          refine tg_mem (ci := 9) (C := RX9) (T := TX9) (N := 15) hx hb hts inX9 hown hK hw 4 m_u_1 rfl (by decide) (hts _ tw_350) (fun _ h9 => h9) dX9_restore_32 ?_
          refine lv_iload_n hx hb dX9_restore_35 rfl (lv_at hl 1 rfl) ?_
          refine tg_aaldE (u := 28) hx hb hK hw h_vu_1 rfl rfl 1 1 r_p1 (by decide) (fun _ _ _ => rfl) dX9_restore_36 (fun b_19 h_b_19 e_b_19 => ?_)
          have eb9 : b_19 = gdq 6 := GQ.im hw.2.2.1 x_GQ_gdq_gdg (GWX.im hw.2.2.1 x_GWX_p0_gdq m_u_1) e_b_19 (k9 := 1) (by have k1 := r_p1.1; have k2 := r_p1.2; omega) (by decide)
          have x_AT_b_19_gdq_6 : (b_19 = gdq 6) := eb9
          refine tg_getN (ci := 2) (ts := ty_IMAGE) (C := RX2) (T := TX2) (N := 3) hx hb hts inX2 hown hK hw h_b_19 rfl rfl 0 (by decide) (hSD.nest tn_333) (fun _ h9 => h9) (ft := vR 24) rfl dX9_restore_37 (fun u_20 hv_u_20 m_u_20 => ?_)
          obtain ⟨vu_20, rfl, h_vu_20⟩ := hv_u_20
          have hD8 := hw.2.2.1
          refine tk_v (va_runV (As := [.ref vu_20]) (rest := []) ⟨hx, hb, hml, hown, hts⟩ (c_X8_takeFrom__1 l D cy z s.heap.size Ps w0 hw.1 vu_18 vu_20 h_vu_18 h_vu_20) (cwV 1 hts (gV tw_521 tw_522 tw_523 tw_12 tw_524) rfl rfl rfl (by decide +kernel) ⟨Nat.le_of_ble_eq_true rfl, Nat.le_of_ble_eq_true rfl⟩) (tg_preV hw hK hSD hA (ci := 8) (q := (RX8, TX8, 13)) rfl h_vu_18 rfl) rfl rfl hl.1 rfl (lv_room (Nat.le_of_ble_eq_true rfl)) dX9_restore_40 ⟨Nat.le_of_ble_eq_true rfl, Nat.le_of_ble_eq_true rfl⟩) hw hA ⟨by decide, by decide⟩ (fun ws H locs hp_v_21 hw hF9 => ?_)
          have m_u_1 := FLD.over hF9 m_u_1 (by decide)
          have m_u_17 := FLD.over hF9 m_u_17 (by decide)
          have m_u_18 := FLD.over hF9 m_u_18 (by decide)
          have m_u_20 := FLD.over hF9 m_u_20 (by decide)
          have x_GWX_p0_gdq := GWX.over hF9 x_GWX_p0_gdq (by decide)
          have x_GQ_gdq_gdg := GQ.over hF9 x_GQ_gdq_gdg (by decide)
          have x_FLP_gdq_gda_gdb := FLP.over hF9 x_FLP_gdq_gda_gdb (by decide)
          have x_TKF_vu_18_vu_20 := (hp_v_21.1)
          have x_HZ_gdq_gdB_gdA_gdB : HZ Ps ws gdq gdB gdA gdB := HE.restB hD8 hF9 (by decide) x_GQ_gdq_gdg.2.2.2.2.2 x_HE_gdq_gdg_gdo_gdA_gdB_false_false (by have z9 := FLD.inj hw.2.2.1 x_GQ_gdq_gdg.2.2.2.2.1 (by rw [← eb9]; exact m_u_20); injection z9 with z9; rw [z9, ← GWX.wo hw.2.2.1 x_GWX_p0_gdq m_u_18]; exact x_TKF_vu_18_vu_20)
          refine lv_aload_n hx hb dX9_restore_43 rfl (lv_at hl 0 rfl) ?_
          refine lv_aload_n hx hb dX9_restore_44 rfl (lv_at hl 0 rfl) ?_
          refine tg_mem (ci := 9) (C := RX9) (T := TX9) (N := 15) hx hb hts inX9 hown hK hw 4 m_u_1 rfl (by decide) (hts _ tw_350) (fun _ h9 => h9) dX9_restore_45 ?_
          refine lv_iload_n hx hb dX9_restore_48 rfl (lv_at hl 1 rfl) ?_
          refine tg_aaldE (u := 28) hx hb hK hw h_vu_1 rfl rfl 1 1 r_p1 (by decide) (fun _ _ _ => rfl) dX9_restore_49 (fun b_22 h_b_22 e_b_22 => ?_)
          have eb9 : b_22 = gdq 6 := GQ.im hw.2.2.1 x_GQ_gdq_gdg (GWX.im hw.2.2.1 x_GWX_p0_gdq m_u_1) e_b_22 (k9 := 1) (by have k1 := r_p1.1; have k2 := r_p1.2; omega) (by decide)
          have x_AT_b_22_gdq_6 : (b_22 = gdq 6) := eb9
          refine tg_getN (ci := 2) (ts := ty_IMAGE) (C := RX2) (T := TX2) (N := 3) hx hb hts inX2 hown hK hw h_b_22 rfl rfl 1 (by decide) (hSD.nest tn_335) (fun _ h9 => h9) (ft := vN 32) rfl dX9_restore_50 (fun u_23 hv_u_23 m_u_23 => ?_)
          rcases hv_u_23 with rfl | ⟨vu_23, rfl, h_vu_23⟩
          · refine tg_put (ci := 9) (ts := ty_WP) (v := .null) (ty := .object "WonderParcels$Sentence") (C := RX9) (T := TX9) (N := 15) hx hb hts inX9 tyX9 tyX9_ok nmX9 hown hK hw h_p0 rfl rfl 5 (by decide) (hts _ tw_351) (fun _ h9 => h9) rfl (by decide +kernel) rfl rfl (ft := vN 32) rfl (Or.inl rfl) (by decide) dX9_restore_53 (fun ws H locs hw n_k_24 hF9 => ?_)
            have m_u_1 := FLD.over hF9 m_u_1 (by decide)
            have m_u_17 := FLD.over hF9 m_u_17 (by decide)
            have m_u_18 := FLD.over hF9 m_u_18 (by decide)
            have m_u_20 := FLD.over hF9 m_u_20 (by decide)
            have x_GWX_p0_gdq := GWX.over hF9 x_GWX_p0_gdq (by decide)
            have x_GQ_gdq_gdg := GQ.over hF9 x_GQ_gdq_gdg (by decide)
            have x_FLP_gdq_gda_gdb := FLP.over hF9 x_FLP_gdq_gda_gdb (by decide)
            have x_HZ_gdq_gdB_gdA_gdB := HZ.over hF9 x_HZ_gdq_gdB_gdA_gdB (by decide)
            refine lv_aload_n hx hb dX9_restore_56 rfl (lv_at hl 0 rfl) ?_
            refine tg_get (ci := 9) (ts := ty_WP) (C := RX9) (T := TX9) (N := 15) hx hb hts inX9 hown hK hw h_p0 rfl rfl 3 (by decide) (hts _ tw_349) (fun _ h9 => h9) (ft := vR 27) rfl dX9_restore_57 (fun u_25 hv_u_25 m_u_25 => ?_)
            obtain ⟨vu_25, rfl, h_vu_25⟩ := hv_u_25
            have x_AT_vu_25_gdq_2 : (vu_25 = gdq 2) := GWX.hi hw.2.2.1 x_GWX_p0_gdq m_u_25
            refine tk_v (va_runV (As := []) (rest := []) ⟨hx, hb, hml, hown, hts⟩ (c_X1_forget__1 l D cy z H.size Ps ws hw.1 vu_25 (gdq) (gdg) (gdB) (gdA) (gdB) h_vu_25 x_AT_vu_25_gdq_2 x_GQ_gdq_gdg x_HZ_gdq_gdB_gdA_gdB) (cwV 0 hts (gV tw_528 tw_529 tw_530 tw_13 tw_531) rfl rfl rfl (by decide +kernel) ⟨Nat.le_of_ble_eq_true rfl, Nat.le_of_ble_eq_true rfl⟩) (tg_preV hw hK hSD hA (ci := 1) (q := (RX1, TX1, 3)) rfl h_vu_25 rfl) rfl rfl hl.1 rfl (lv_room (Nat.le_of_ble_eq_true rfl)) dX9_restore_60 ⟨Nat.le_of_ble_eq_true rfl, Nat.le_of_ble_eq_true rfl⟩) hw hA ⟨by decide, by decide⟩ (fun ws H locs hp_v_26 hw hF9 => ?_)
            have m_u_1 := FLD.over hF9 m_u_1 (by decide)
            have m_u_17 := FLD.over hF9 m_u_17 (by decide)
            have m_u_18 := FLD.over hF9 m_u_18 (by decide)
            have m_u_20 := FLD.over hF9 m_u_20 (by decide)
            have m_u_25 := FLD.over hF9 m_u_25 (by decide)
            have x_GWX_p0_gdq := GWX.over hF9 x_GWX_p0_gdq (by decide)
            have x_GQ_gdq_gdg := GQ.over hF9 x_GQ_gdq_gdg (by decide)
            have x_FLP_gdq_gda_gdb := FLP.over hF9 x_FLP_gdq_gda_gdb (by decide)
            have x_HE_gdq_gdg_gdB_gdA_gdB_false_false := (hp_v_26.1)
            have x_HER_gdq_gdg_gdA_gdB_p1 : HE Ps ws gdq gdg (pick p1 0 gdA gdB) gdA gdB false false := by rw [pick_ne (n := 0) (by have k1 := r_p1.1; have k2 := r_p1.2; omega)]; exact x_HE_gdq_gdg_gdB_gdA_gdB_false_false
            refine lv_iconst (v := 1) hx hb dX9_restore_63 (by decide) ?_
            subst hQ
            exact W.zret (v := 1) hx hb hr (rfl) (fun t ht hW => ⟨⟨1, ws, rfl, ⟨⟨rl_1.to (by decide), (fun h0 => absurd h0 (by decide)), (fun h0 => ⟨x_RS1_p1_gda_gdb, x_HER_gdq_gdg_gdA_gdB_p1, x_FLP_gdq_gda_gdb, trivial⟩)⟩, hw.1, hw.2.2.2.2.1⟩, by rw [ht]; exact hw.2.1, va_K.moved hW.alike hK, hw.2.2.1⟩, hw.2.2.2.1.F ht⟩) hw.2.2.2.1.2.2 dX9_restore_64
          · refine tg_put (ci := 9) (ts := ty_WP) (v := .ref vu_23) (ty := .object "WonderParcels$Sentence") (C := RX9) (T := TX9) (N := 15) hx hb hts inX9 tyX9 tyX9_ok nmX9 hown hK hw h_p0 rfl rfl 5 (by decide) (hts _ tw_351) (fun _ h9 => h9) rfl (by decide +kernel) rfl rfl (ft := vN 32) rfl (Or.inr ⟨_, rfl, h_vu_23⟩) (by decide) dX9_restore_53 (fun ws H locs hw n_k_27 hF9 => ?_)
            have m_u_1 := FLD.over hF9 m_u_1 (by decide)
            have m_u_17 := FLD.over hF9 m_u_17 (by decide)
            have m_u_18 := FLD.over hF9 m_u_18 (by decide)
            have m_u_20 := FLD.over hF9 m_u_20 (by decide)
            have x_GWX_p0_gdq := GWX.over hF9 x_GWX_p0_gdq (by decide)
            have x_GQ_gdq_gdg := GQ.over hF9 x_GQ_gdq_gdg (by decide)
            have x_FLP_gdq_gda_gdb := FLP.over hF9 x_FLP_gdq_gda_gdb (by decide)
            have x_HZ_gdq_gdB_gdA_gdB := HZ.over hF9 x_HZ_gdq_gdB_gdA_gdB (by decide)
            refine lv_aload_n hx hb dX9_restore_56 rfl (lv_at hl 0 rfl) ?_
            refine tg_get (ci := 9) (ts := ty_WP) (C := RX9) (T := TX9) (N := 15) hx hb hts inX9 hown hK hw h_p0 rfl rfl 3 (by decide) (hts _ tw_349) (fun _ h9 => h9) (ft := vR 27) rfl dX9_restore_57 (fun u_28 hv_u_28 m_u_28 => ?_)
            obtain ⟨vu_28, rfl, h_vu_28⟩ := hv_u_28
            have x_AT_vu_28_gdq_2 : (vu_28 = gdq 2) := GWX.hi hw.2.2.1 x_GWX_p0_gdq m_u_28
            refine tk_v (va_runV (As := []) (rest := []) ⟨hx, hb, hml, hown, hts⟩ (c_X1_forget__1 l D cy z H.size Ps ws hw.1 vu_28 (gdq) (gdg) (gdB) (gdA) (gdB) h_vu_28 x_AT_vu_28_gdq_2 x_GQ_gdq_gdg x_HZ_gdq_gdB_gdA_gdB) (cwV 0 hts (gV tw_528 tw_529 tw_530 tw_13 tw_531) rfl rfl rfl (by decide +kernel) ⟨Nat.le_of_ble_eq_true rfl, Nat.le_of_ble_eq_true rfl⟩) (tg_preV hw hK hSD hA (ci := 1) (q := (RX1, TX1, 3)) rfl h_vu_28 rfl) rfl rfl hl.1 rfl (lv_room (Nat.le_of_ble_eq_true rfl)) dX9_restore_60 ⟨Nat.le_of_ble_eq_true rfl, Nat.le_of_ble_eq_true rfl⟩) hw hA ⟨by decide, by decide⟩ (fun ws H locs hp_v_29 hw hF9 => ?_)
            have m_u_1 := FLD.over hF9 m_u_1 (by decide)
            have m_u_17 := FLD.over hF9 m_u_17 (by decide)
            have m_u_18 := FLD.over hF9 m_u_18 (by decide)
            have m_u_20 := FLD.over hF9 m_u_20 (by decide)
            have m_u_28 := FLD.over hF9 m_u_28 (by decide)
            have x_GWX_p0_gdq := GWX.over hF9 x_GWX_p0_gdq (by decide)
            have x_GQ_gdq_gdg := GQ.over hF9 x_GQ_gdq_gdg (by decide)
            have x_FLP_gdq_gda_gdb := FLP.over hF9 x_FLP_gdq_gda_gdb (by decide)
            have x_HE_gdq_gdg_gdB_gdA_gdB_false_false := (hp_v_29.1)
            have x_HER_gdq_gdg_gdA_gdB_p1 : HE Ps ws gdq gdg (pick p1 0 gdA gdB) gdA gdB false false := by rw [pick_ne (n := 0) (by have k1 := r_p1.1; have k2 := r_p1.2; omega)]; exact x_HE_gdq_gdg_gdB_gdA_gdB_false_false
            refine lv_iconst (v := 1) hx hb dX9_restore_63 (by decide) ?_
            subst hQ
            exact W.zret (v := 1) hx hb hr (rfl) (fun t ht hW => ⟨⟨1, ws, rfl, ⟨⟨rl_1.to (by decide), (fun h0 => absurd h0 (by decide)), (fun h0 => ⟨x_RS1_p1_gda_gdb, x_HER_gdq_gdg_gdA_gdB_p1, x_FLP_gdq_gda_gdb, trivial⟩)⟩, hw.1, hw.2.2.2.2.1⟩, by rw [ht]; exact hw.2.1, va_K.moved hW.alike hK, hw.2.2.1⟩, hw.2.2.2.1.F ht⟩) hw.2.2.2.1.2.2 dX9_restore_64
        · have r_vu_17 : RI vu_17 0 0 := rc_eq1 r_vu_17 rl_0 (ti_eq c_22) (by decide)
          have x_RS0_p1_gda_gdb : (¬ RSP p1 gda gdb) := (fun h9 => h9.elim (fun h9 => absurd h9.1 (by have k1 := r_p1.1; have k2 := r_p1.2; omega)) (fun h9 => h9.2 (ef9.symm.trans c_22)))
          refine lv_iconst (v := 0) hx hb dX9_restore_25 (by decide) ?_
          subst hQ
          exact W.zret (v := 0) hx hb hr (rfl) (fun t ht hW => ⟨⟨0, w0, rfl, ⟨⟨rl_0.to (by decide), (fun h0 => ⟨x_RS0_p1_gda_gdb, x_HE_gdq_gdg_gdo_gdA_gdB_false_false, x_FLP_gdq_gda_gdb, trivial⟩), (fun h0 => absurd rfl h0)⟩, hw.1, hw.2.2.2.2.1⟩, by rw [ht]; exact hw.2.1, va_K.moved hW.alike hK, hw.2.2.1⟩, hw.2.2.2.1.F ht⟩) hw.2.2.2.1.2.2 dX9_restore_26
abbrev wr_X10_count__1 : List (Nat × Nat) := [(10, 0)]
abbrev wa_X10_count__1 : List Nat := []
set_option maxHeartbeats 4000000 in
set_option maxRecDepth 100000 in
theorem c_X10_count__1 (l : Launch) (D : va_G) (cy : Nat → ClassId) (z : Nat → Nat) (sz : Nat) (Ps : PSI) (w0 : va_W) (hT : HT cy GG Ps w0) (p0 : Nat) (p1 : Int32) (gdR : Nat → Int32) (gh : Int) (h_p0 : (p0, 55) ∈ Ps) (r_p1 : RI p1 (-2147483648) 2147483647) (x_HD_p0_gdR : AX 14 34 (HDp gdR) Ps w0 p0) (x_TLM_p0_gh : TLM w0 p0 (gh)) : Met l yX10_count (Cond.code yX10_count cX10_count 2 (some .int) :: gT) ({ frames := 0, cells := 0, slots := 0, locals := 200 } : Room) (va_Pc [.ref p0, .int p1] (PRE D cy z w0 sz)) (va_Qi (fun (r : Int32) (u : va_W) => (RI r (-2147483648) 2147483647 ∧ (r = 0 → True) ∧ (¬ r = 0 → True) ∧ ((CNT p1 gdR (gdR 4) (gdR 5) gh r) ∧ True) ∧ (r.toInt < 0 → True) ∧ (0 ≤ r.toInt → True)) ∧ HT cy GG Ps u ∧ FR wr_X10_count__1 wa_X10_count__1 Ps w0 u) (BB D cy (va_A w0 sz) (fun (u : va_W) => u)) (va_A w0 sz)) 0 0 (va_A w0 sz) := by
  refine Met.ofW (cc := cX10_count) (maxL := 2) (ret := (some .int)) (by decide) rfl ?_
  intro p e s m args below meth c s₁ B hml hv
  obtain ⟨rfl, hsz, hP, hK, hD0, hSD⟩ := hv
  have hx := B.exec
  have hb := B.bytes
  have hr := B.returns
  have hlocks := B.notSynchronized
  have hts : ∀ w ∈ gT, w.before _ s = true := fun w h => atoms_spec (ws := Cond.code yX10_count cX10_count 2 (some .int) :: gT) B.pre w (List.mem_cons_of_mem _ h)
  have hown : s.vm.findClass RX10 = some m.cls := findClass_of_methodNamed B.named
  subst hsz
  have hD := hD0.self (sz := s.heap.size)
  generalize hAe : va_A w0 s.heap.size = A at hD hSD ⊢
  have hA : ∀ q : Nat, s.heap.size ≤ q → A q := fun q h => by rw [← hAe]; exact Or.inr h
  have hl := lv_entry ([.ref p0, .int p1]) (n := 2) (Nat.le_of_ble_eq_true rfl)
  rw [lg_entry_eq]
  generalize (lg_sl ([.ref p0, .int p1]) ++ List.replicate (2 - (lg_sl ([.ref p0, .int p1])).length) Slot.unset).toArray = ls at hl ⊢
  have hl : lv_has ls 2 [(0, .ref p0), (1, .int p1)] := hl
  refine nameQ (fun Q hQ => ?_)
  have hw : WD D cy GG A s wr_X10_count__1 wa_X10_count__1 Ps w0 Ps w0 s.heap [] := ⟨hT, hP, hD, va_S.rf, FR.rf, hT.1, [], (List.append_nil _).symm⟩
  refine lv_aload_n hx hb dX10_count_0 rfl (lv_at hl 0 rfl) ?_
  refine lv_iconst (v := 0) hx hb dX10_count_1 (by decide) ?_
  refine tg_put (ci := 10) (ts := ty_MODEL) (v := .int 0) (ty := .int) (C := RX10) (T := TX10) (N := 49) hx hb hts inX10 tyX10 tyX10_ok nmX10 hown hK hw h_p0 rfl rfl 0 (by decide) (hts _ tw_1137) (fun _ h9 => h9) rfl (by decide +kernel) rfl rfl (ft := vI (-2147483648) 2147483647) rfl ⟨_, rfl, (rl_0.to (by decide))⟩ (by decide) dX10_count_2 (fun ws H locs hw n_k_1 hF9 => ?_)
  have x_HD_p0_gdR := AX.over hF9 x_HD_p0_gdR (by decide)
  have x_TLM_p0_gh := TLM.over hF9 x_TLM_p0_gh (by decide)
  refine lv_iload_n hx hb dX10_count_5 rfl (lv_at hl 1 rfl) ?_
  have w_6 := r_p1
  by_cases cl_6 : p1.toInt < 0 ∨ 6 < p1.toInt
  · refine lv_tableOut (tgt := 95) hx hb dX10_count_6 cl_6 (by decide) ?_
    refine lv_iconst (v := (-1)) hx hb dX10_count_95 (by decide) ?_
    subst hQ
    exact W.iret (v := (-1)) hx hb hr (fun t ht hW => ⟨⟨(-1), ws, rfl, ⟨⟨rl_m1.to (by decide), (fun _ => trivial), (fun h0 => trivial), ⟨⟨(fun j9 h8 h9 => absurd h9 (by have k1 := r_p1.1; have k2 := r_p1.2; omega)), (fun h9 => absurd h9 (by have k1 := r_p1.1; have k2 := r_p1.2; omega)), (fun h9 => absurd h9 (by have k1 := r_p1.1; have k2 := r_p1.2; omega)), (fun h9 => absurd h9 (by have k1 := r_p1.1; have k2 := r_p1.2; omega)), (fun _ => rfl)⟩, trivial⟩, (fun _ => trivial), (fun _ => trivial)⟩, hw.1, hw.2.2.2.2.1⟩, by rw [ht]; exact hw.2.1, va_K.moved hW.alike hK, hw.2.2.1⟩, hw.2.2.2.1.F ht⟩) hw.2.2.2.1.2.2 dX10_count_96
  · have e_6 : p1.toInt = 0 ∨ p1.toInt = 1 ∨ p1.toInt = 2 ∨ p1.toInt = 3 ∨ p1.toInt = 4 ∨ p1.toInt = 5 ∨ p1.toInt = 6 := by omega
    rcases e_6 with h_6 | h_6 | h_6 | h_6 | h_6 | h_6 | h_6
    · refine lv_tableIn (tgt := 48) (off := 42) hx hb dX10_count_6 (by omega) (by omega) (by rw [h_6]; rfl) (by decide) ?_
      have r_p1 : RI p1 0 0 := ⟨by omega, by omega⟩
      refine lv_aload_n hx hb dX10_count_48 rfl (lv_at hl 0 rfl) ?_
      refine tg_get (ci := 10) (ts := ty_MODEL) (C := RX10) (T := TX10) (N := 49) hx hb hts inX10 hown hK hw h_p0 rfl rfl 14 (by decide) (hts _ tw_1151) (fun _ h9 => h9) (ft := vR 34) rfl dX10_count_49 (fun u_2 hv_u_2 m_u_2 => ?_)
      obtain ⟨vu_2, rfl, h_vu_2⟩ := hv_u_2
      refine lv_iconst (v := 0) hx hb dX10_count_52 (by decide) ?_
      refine tg_iald (lo := 0) (hi := 6) hx hb hK hw h_vu_2 rfl 0 0 rl_0 (by decide) (by decide +kernel) dX10_count_53 (fun v_3 r_v_3 m_v_3 o_v_3 => ?_)
      subst hQ
      exact W.iret (v := v_3) hx hb hr (fun t ht hW => ⟨⟨v_3, ws, rfl, ⟨⟨r_v_3.to (by decide), (fun h0 => trivial), (fun h0 => trivial), ⟨⟨(fun j9 h8 h9 => by rcases (show j9 = 0 by have k1 := r_p1.1; have k2 := r_p1.2; omega) with rfl; exact hd_at hw.2.2.1 x_HD_p0_gdR m_u_2 m_v_3 (by decide)), (fun h9 => absurd h9 (by have k1 := r_p1.1; have k2 := r_p1.2; omega)), (fun h9 => absurd h9 (by have k1 := r_p1.1; have k2 := r_p1.2; omega)), (fun h9 => absurd h9 (by have k1 := r_p1.1; have k2 := r_p1.2; omega)), (fun h9 => absurd (show 0 ≤ Int32.toInt p1 ∧ Int32.toInt p1 ≤ 6 from (by have k1 := r_p1.1; have k2 := r_p1.2; omega)) h9)⟩, trivial⟩, (fun _ => trivial), (fun _ => trivial)⟩, hw.1, hw.2.2.2.2.1⟩, by rw [ht]; exact hw.2.1, va_K.moved hW.alike hK, hw.2.2.1⟩, hw.2.2.2.1.F ht⟩) hw.2.2.2.1.2.2 dX10_count_54
    · refine lv_tableIn (tgt := 55) (off := 49) hx hb dX10_count_6 (by omega) (by omega) (by rw [h_6]; rfl) (by decide) ?_
      have r_p1 : RI p1 1 1 := ⟨by omega, by omega⟩
      refine lv_aload_n hx hb dX10_count_55 rfl (lv_at hl 0 rfl) ?_
      refine tg_get (ci := 10) (ts := ty_MODEL) (C := RX10) (T := TX10) (N := 49) hx hb hts inX10 hown hK hw h_p0 rfl rfl 14 (by decide) (hts _ tw_1151) (fun _ h9 => h9) (ft := vR 34) rfl dX10_count_56 (fun u_4 hv_u_4 m_u_4 => ?_)
      obtain ⟨vu_4, rfl, h_vu_4⟩ := hv_u_4
      refine lv_iconst (v := 1) hx hb dX10_count_59 (by decide) ?_
      refine tg_iald (lo := 0) (hi := 4) hx hb hK hw h_vu_4 rfl 1 1 rl_1 (by decide) (by decide +kernel) dX10_count_60 (fun v_5 r_v_5 m_v_5 o_v_5 => ?_)
      subst hQ
      exact W.iret (v := v_5) hx hb hr (fun t ht hW => ⟨⟨v_5, ws, rfl, ⟨⟨r_v_5.to (by decide), (fun h0 => trivial), (fun h0 => trivial), ⟨⟨(fun j9 h8 h9 => by rcases (show j9 = 1 by have k1 := r_p1.1; have k2 := r_p1.2; omega) with rfl; exact hd_at hw.2.2.1 x_HD_p0_gdR m_u_4 m_v_5 (by decide)), (fun h9 => absurd h9 (by have k1 := r_p1.1; have k2 := r_p1.2; omega)), (fun h9 => absurd h9 (by have k1 := r_p1.1; have k2 := r_p1.2; omega)), (fun h9 => absurd h9 (by have k1 := r_p1.1; have k2 := r_p1.2; omega)), (fun h9 => absurd (show 0 ≤ Int32.toInt p1 ∧ Int32.toInt p1 ≤ 6 from (by have k1 := r_p1.1; have k2 := r_p1.2; omega)) h9)⟩, trivial⟩, (fun _ => trivial), (fun _ => trivial)⟩, hw.1, hw.2.2.2.2.1⟩, by rw [ht]; exact hw.2.1, va_K.moved hW.alike hK, hw.2.2.1⟩, hw.2.2.2.1.F ht⟩) hw.2.2.2.1.2.2 dX10_count_61
    · refine lv_tableIn (tgt := 62) (off := 56) hx hb dX10_count_6 (by omega) (by omega) (by rw [h_6]; rfl) (by decide) ?_
      have r_p1 : RI p1 2 2 := ⟨by omega, by omega⟩
      refine lv_aload_n hx hb dX10_count_62 rfl (lv_at hl 0 rfl) ?_
      refine tg_get (ci := 10) (ts := ty_MODEL) (C := RX10) (T := TX10) (N := 49) hx hb hts inX10 hown hK hw h_p0 rfl rfl 14 (by decide) (hts _ tw_1151) (fun _ h9 => h9) (ft := vR 34) rfl dX10_count_63 (fun u_6 hv_u_6 m_u_6 => ?_)
      obtain ⟨vu_6, rfl, h_vu_6⟩ := hv_u_6
      refine lv_iconst (v := 2) hx hb dX10_count_66 (by decide) ?_
      refine tg_iald (lo := 0) (hi := 6) hx hb hK hw h_vu_6 rfl 2 2 rl_2 (by decide) (by decide +kernel) dX10_count_67 (fun v_7 r_v_7 m_v_7 o_v_7 => ?_)
      subst hQ
      exact W.iret (v := v_7) hx hb hr (fun t ht hW => ⟨⟨v_7, ws, rfl, ⟨⟨r_v_7.to (by decide), (fun h0 => trivial), (fun h0 => trivial), ⟨⟨(fun j9 h8 h9 => by rcases (show j9 = 2 by have k1 := r_p1.1; have k2 := r_p1.2; omega) with rfl; exact hd_at hw.2.2.1 x_HD_p0_gdR m_u_6 m_v_7 (by decide)), (fun h9 => absurd h9 (by have k1 := r_p1.1; have k2 := r_p1.2; omega)), (fun h9 => absurd h9 (by have k1 := r_p1.1; have k2 := r_p1.2; omega)), (fun h9 => absurd h9 (by have k1 := r_p1.1; have k2 := r_p1.2; omega)), (fun h9 => absurd (show 0 ≤ Int32.toInt p1 ∧ Int32.toInt p1 ≤ 6 from (by have k1 := r_p1.1; have k2 := r_p1.2; omega)) h9)⟩, trivial⟩, (fun _ => trivial), (fun _ => trivial)⟩, hw.1, hw.2.2.2.2.1⟩, by rw [ht]; exact hw.2.1, va_K.moved hW.alike hK, hw.2.2.1⟩, hw.2.2.2.1.F ht⟩) hw.2.2.2.1.2.2 dX10_count_68
    · refine lv_tableIn (tgt := 69) (off := 63) hx hb dX10_count_6 (by omega) (by omega) (by rw [h_6]; rfl) (by decide) ?_
      have r_p1 : RI p1 3 3 := ⟨by omega, by omega⟩
      refine lv_aload_n hx hb dX10_count_69 rfl (lv_at hl 0 rfl) ?_
      refine tg_get (ci := 10) (ts := ty_MODEL) (C := RX10) (T := TX10) (N := 49) hx hb hts inX10 hown hK hw h_p0 rfl rfl 14 (by decide) (hts _ tw_1151) (fun _ h9 => h9) (ft := vR 34) rfl dX10_count_70 (fun u_8 hv_u_8 m_u_8 => ?_)
      obtain ⟨vu_8, rfl, h_vu_8⟩ := hv_u_8
      refine lv_iconst (v := 3) hx hb dX10_count_73 (by decide) ?_
      refine tg_iald (lo := 0) (hi := 8) hx hb hK hw h_vu_8 rfl 3 3 rl_3 (by decide) (by decide +kernel) dX10_count_74 (fun v_9 r_v_9 m_v_9 o_v_9 => ?_)
      subst hQ
      exact W.iret (v := v_9) hx hb hr (fun t ht hW => ⟨⟨v_9, ws, rfl, ⟨⟨r_v_9.to (by decide), (fun h0 => trivial), (fun h0 => trivial), ⟨⟨(fun j9 h8 h9 => by rcases (show j9 = 3 by have k1 := r_p1.1; have k2 := r_p1.2; omega) with rfl; exact hd_at hw.2.2.1 x_HD_p0_gdR m_u_8 m_v_9 (by decide)), (fun h9 => absurd h9 (by have k1 := r_p1.1; have k2 := r_p1.2; omega)), (fun h9 => absurd h9 (by have k1 := r_p1.1; have k2 := r_p1.2; omega)), (fun h9 => absurd h9 (by have k1 := r_p1.1; have k2 := r_p1.2; omega)), (fun h9 => absurd (show 0 ≤ Int32.toInt p1 ∧ Int32.toInt p1 ≤ 6 from (by have k1 := r_p1.1; have k2 := r_p1.2; omega)) h9)⟩, trivial⟩, (fun _ => trivial), (fun _ => trivial)⟩, hw.1, hw.2.2.2.2.1⟩, by rw [ht]; exact hw.2.1, va_K.moved hW.alike hK, hw.2.2.1⟩, hw.2.2.2.1.F ht⟩) hw.2.2.2.1.2.2 dX10_count_75
    · refine lv_tableIn (tgt := 76) (off := 70) hx hb dX10_count_6 (by omega) (by omega) (by rw [h_6]; rfl) (by decide) ?_
      have r_p1 : RI p1 4 4 := ⟨by omega, by omega⟩
      refine lv_aload_n hx hb dX10_count_76 rfl (lv_at hl 0 rfl) ?_
      refine tg_get (ci := 10) (ts := ty_MODEL) (C := RX10) (T := TX10) (N := 49) hx hb hts inX10 hown hK hw h_p0 rfl rfl 14 (by decide) (hts _ tw_1151) (fun _ h9 => h9) (ft := vR 34) rfl dX10_count_77 (fun u_10 hv_u_10 m_u_10 => ?_)
      obtain ⟨vu_10, rfl, h_vu_10⟩ := hv_u_10
      refine lv_iconst (v := 4) hx hb dX10_count_80 (by decide) ?_
      refine tg_iald (lo := (-2147483648)) (hi := 2147483647) hx hb hK hw h_vu_10 rfl 4 4 rl_4 (by decide) (by decide +kernel) dX10_count_81 (fun v_11 r_v_11 m_v_11 o_v_11 => ?_)
      subst hQ
      exact W.iret (v := v_11) hx hb hr (fun t ht hW => ⟨⟨v_11, ws, rfl, ⟨⟨r_v_11.to (by decide), (fun h0 => trivial), (fun h0 => trivial), ⟨⟨(fun j9 h8 h9 => absurd h9 (by have k1 := r_p1.1; have k2 := r_p1.2; omega)), (fun _ => hd_at hw.2.2.1 x_HD_p0_gdR m_u_10 m_v_11 (by decide)), (fun h9 => absurd h9 (by have k1 := r_p1.1; have k2 := r_p1.2; omega)), (fun h9 => absurd h9 (by have k1 := r_p1.1; have k2 := r_p1.2; omega)), (fun h9 => absurd (show 0 ≤ Int32.toInt p1 ∧ Int32.toInt p1 ≤ 6 from (by have k1 := r_p1.1; have k2 := r_p1.2; omega)) h9)⟩, trivial⟩, (fun _ => trivial), (fun _ => trivial)⟩, hw.1, hw.2.2.2.2.1⟩, by rw [ht]; exact hw.2.1, va_K.moved hW.alike hK, hw.2.2.1⟩, hw.2.2.2.1.F ht⟩) hw.2.2.2.1.2.2 dX10_count_82
    · refine lv_tableIn (tgt := 83) (off := 77) hx hb dX10_count_6 (by omega) (by omega) (by rw [h_6]; rfl) (by decide) ?_
      have r_p1 : RI p1 5 5 := ⟨by omega, by omega⟩
      refine lv_aload_n hx hb dX10_count_83 rfl (lv_at hl 0 rfl) ?_
      refine tg_get (ci := 10) (ts := ty_MODEL) (C := RX10) (T := TX10) (N := 49) hx hb hts inX10 hown hK hw h_p0 rfl rfl 14 (by decide) (hts _ tw_1151) (fun _ h9 => h9) (ft := vR 34) rfl dX10_count_84 (fun u_12 hv_u_12 m_u_12 => ?_)
      obtain ⟨vu_12, rfl, h_vu_12⟩ := hv_u_12
      refine lv_iconst (v := 5) hx hb dX10_count_87 (by decide) ?_
      refine tg_iald (lo := (-2147483648)) (hi := 2147483647) hx hb hK hw h_vu_12 rfl 5 5 rl_5 (by decide) (by decide +kernel) dX10_count_88 (fun v_13 r_v_13 m_v_13 o_v_13 => ?_)
      subst hQ
      exact W.iret (v := v_13) hx hb hr (fun t ht hW => ⟨⟨v_13, ws, rfl, ⟨⟨r_v_13.to (by decide), (fun h0 => trivial), (fun h0 => trivial), ⟨⟨(fun j9 h8 h9 => absurd h9 (by have k1 := r_p1.1; have k2 := r_p1.2; omega)), (fun h9 => absurd h9 (by have k1 := r_p1.1; have k2 := r_p1.2; omega)), (fun _ => hd_at hw.2.2.1 x_HD_p0_gdR m_u_12 m_v_13 (by decide)), (fun h9 => absurd h9 (by have k1 := r_p1.1; have k2 := r_p1.2; omega)), (fun h9 => absurd (show 0 ≤ Int32.toInt p1 ∧ Int32.toInt p1 ≤ 6 from (by have k1 := r_p1.1; have k2 := r_p1.2; omega)) h9)⟩, trivial⟩, (fun _ => trivial), (fun _ => trivial)⟩, hw.1, hw.2.2.2.2.1⟩, by rw [ht]; exact hw.2.1, va_K.moved hW.alike hK, hw.2.2.1⟩, hw.2.2.2.1.F ht⟩) hw.2.2.2.1.2.2 dX10_count_89
    · refine lv_tableIn (tgt := 90) (off := 84) hx hb dX10_count_6 (by omega) (by omega) (by rw [h_6]; rfl) (by decide) ?_
      have r_p1 : RI p1 6 6 := ⟨by omega, by omega⟩
      refine lv_aload_n hx hb dX10_count_90 rfl (lv_at hl 0 rfl) ?_
      refine tg_get (ci := 10) (ts := ty_MODEL) (C := RX10) (T := TX10) (N := 49) hx hb hts inX10 hown hK hw h_p0 rfl rfl 2 (by decide) (hts _ tw_1139) (fun _ h9 => h9) (ft := vI 0 940) rfl dX10_count_91 (fun u_14 hv_u_14 m_u_14 => ?_)
      obtain ⟨vu_14, rfl, r_vu_14⟩ := hv_u_14
      subst hQ
      exact W.iret (v := vu_14) hx hb hr (fun t ht hW => ⟨⟨vu_14, ws, rfl, ⟨⟨r_vu_14.to (by decide), (fun h0 => trivial), (fun h0 => trivial), ⟨⟨(fun j9 h8 h9 => absurd h9 (by have k1 := r_p1.1; have k2 := r_p1.2; omega)), (fun h9 => absurd h9 (by have k1 := r_p1.1; have k2 := r_p1.2; omega)), (fun h9 => absurd h9 (by have k1 := r_p1.1; have k2 := r_p1.2; omega)), (fun _ => TLM.get hw x_TLM_p0_gh m_u_14), (fun h9 => absurd (show 0 ≤ Int32.toInt p1 ∧ Int32.toInt p1 ≤ 6 from (by have k1 := r_p1.1; have k2 := r_p1.2; omega)) h9)⟩, trivial⟩, (fun _ => trivial), (fun _ => trivial)⟩, hw.1, hw.2.2.2.2.1⟩, by rw [ht]; exact hw.2.1, va_K.moved hW.alike hK, hw.2.2.1⟩, hw.2.2.2.1.F ht⟩) hw.2.2.2.1.2.2 dX10_count_94
