/-! the two images: which place is kept, in class and reference -/
def RFE (ws : va_W) (a : Nat) (i : Int32) (b : Nat) : Prop := ∃ (q : Nat) (cA : ClassId) (n : Nat) (g : Nat → Option Nat), ws[q]? = some (a, .inl (cA, n, .inr (.inr (.inr (.inr g))))) ∧ g i.toNatClampNeg = some b
/-- the class's images are i and j -/
def IMS (Ps : PSI) (ws : va_W) (x i j : Nat) : Prop := i ≠ j ∧ ∃ (r q : Nat) (cA : ClassId) (n : Nat) (g : Nat → Option Nat), FLD ws x 9 4 (.ref r) ∧ Ps[q]? = some (r, 23) ∧ ws[q]? = some (r, .inl (cA, n, .inr (.inr (.inr (.inr g))))) ∧ g 0 = some i ∧ g 1 = some j
/-- whether images i and j are taken -/
def FLP (ws : va_W) (i : Nat) (a : Int32) (j : Nat) (b : Int32) : Prop := FLD ws i 2 2 (.int a) ∧ FLD ws j 2 2 (.int b)
/-- place k is kept -/
def RSP (k a b : Int32) : Prop := (k.toInt = 0 ∧ a ≠ 0) ∨ (k.toInt = 1 ∧ b ≠ 0)
def sf (k : Int32) (n : Int) (a : Int32) : Int32 := if k.toInt = n then 1 else a
def st9 (i q : Nat) (a : Int32) : Int32 := if i = q then 1 else a
theorem sf_ne {k : Int32} {n : Int} {a : Int32} (h : k.toInt ≠ n) : sf k n a = a := if_neg h
theorem sf_eq {k : Int32} {n : Int} {a : Int32} (h : k.toInt = n) : sf k n a = 1 := if_pos h
theorem st9_ne {i q : Nat} {a : Int32} (h : i ≠ q) : st9 i q a = a := if_neg h
theorem st9_eq {i q : Nat} {a : Int32} (h : i = q) : st9 i q a = 1 := if_pos h
theorem sf_of {k : Int32} {b i j : Nat} (pk : (k.toInt = 0 ∧ b = i) ∨ (k.toInt = 1 ∧ b = j)) (hij : i ≠ j) (a a' : Int32) : st9 i b a = sf k 0 a ∧ st9 j b a' = sf k 1 a' := by
  rcases pk with ⟨hk, e⟩ | ⟨hk, e⟩
  · exact ⟨by rw [st9_eq e.symm, sf_eq hk], by rw [st9_ne (by rw [e]; exact hij.symm), sf_ne (by omega)]⟩
  · exact ⟨by rw [st9_ne (by rw [e]; exact hij), sf_ne (by omega)], by rw [st9_eq e.symm, sf_eq hk]⟩
theorem vn_one : vp_nar .boolean 1 = 1 := by decide
theorem sk_upd {f : Nat → Int32} {k a b : Int32} (hk : RI k 0 1) (h : f 0 = a ∧ f 1 = b) : upd f k.toNatClampNeg (vp_nar .boolean 1) 0 = sf k 0 a ∧ upd f k.toNatClampNeg (vp_nar .boolean 1) 1 = sf k 1 b := by
  have c1 := hk.cl (by decide)
  have k1 := hk.1
  have k2 := hk.2
  rw [vn_one]
  rcases (show k.toInt = 0 ∨ k.toInt = 1 by omega) with e | e
  · have e0 : k.toNatClampNeg = 0 := by omega
    rw [e0, sf_eq e, sf_ne (show k.toInt ≠ 1 by omega)]
    exact ⟨pk_us, by rw [pk_un (by decide)]; exact h.2⟩
  · have e0 : k.toNatClampNeg = 1 := by omega
    rw [e0, sf_eq e, sf_ne (show k.toInt ≠ 0 by omega)]
    exact ⟨by rw [pk_un (by decide)]; exact h.1, pk_us⟩
theorem FLP.over {wr : List (Nat × Nat)} {wa : List Nat} {Ps : PSI} {ws ws' : va_W} {i j : Nat} {a b : Int32} (h : FR wr wa Ps ws ws') (x : FLP ws i a j b) (hn : (2, 2) ∉ wr) : FLP ws' i a j b := ⟨FLD.over h x.1 hn, FLD.over h x.2 hn⟩
theorem IMS.over {wr : List (Nat × Nat)} {wa : List Nat} {Ps : PSI} {ws ws' : va_W} {x i j : Nat} (hF : FR wr wa Ps ws ws') (h : IMS Ps ws x i j) (hn : (9, 4) ∉ wr ∧ 23 ∉ wa) : IMS Ps ws' x i j := by
  obtain ⟨hne, r, q, cA, n, g, h1, hp, h2, h3, h4⟩ := h
  obtain ⟨e', f1, -, f3⟩ := hF.2 q r _ h2
  have e := f3 _ rfl _ hp hn.2
  subst e
  exact ⟨hne, r, q, cA, n, g, FLD.over hF h1 hn.1, hp, f1, h3, h4⟩
theorem FLD.app {ws wx : va_W} {a ci k : Nat} {v : Value} (h : FLD ws a ci k v) : FLD (ws ++ wx) a ci k v := by
  obtain ⟨q, fs, h1, h2⟩ := h
  exact ⟨q, fs, by rw [List.getElem?_append_left (List.getElem?_eq_some_iff.mp h1).1]; exact h1, h2⟩
theorem FLD.mid {ws wx : va_W} {a ci k : Nat} {fs : List Value} {v : Value} (h : fs[k]? = some v) : FLD (ws ++ (a, .inr (ci, fs)) :: wx) a ci k v :=
  ⟨ws.length, fs, by rw [List.getElem?_append_right (Nat.le_refl _), Nat.sub_self]; rfl, h⟩
theorem FLP.app {ws wx : va_W} {i j : Nat} {a b : Int32} (x : FLP ws i a j b) : FLP (ws ++ wx) i a j b := ⟨FLD.app x.1, FLD.app x.2⟩
theorem IMS.app {Ps X : PSI} {ws wx : va_W} {x i j : Nat} (h : IMS Ps ws x i j) : IMS (Ps ++ X) (ws ++ wx) x i j := by
  obtain ⟨hne, r, q, cA, n, g, h1, hp, h2, h3, h4⟩ := h
  exact ⟨hne, r, q, cA, n, g, FLD.app h1, by rw [List.getElem?_append_left (List.getElem?_eq_some_iff.mp hp).1]; exact hp, by rw [List.getElem?_append_left (List.getElem?_eq_some_iff.mp h2).1]; exact h2, h3, h4⟩
theorem AX.app {Ps X : PSI} {ws wx : va_W} {k t m : Nat} {F : (Nat → Int32) → Prop} (h : AX k t F Ps ws m) : AX k t F (Ps ++ X) (ws ++ wx) m := by
  obtain ⟨a, f, h1, ⟨q, cA, n, h2, h3⟩, h4⟩ := h
  exact ⟨a, f, FLD.app h1, ⟨q, cA, n, by rw [List.getElem?_append_left (List.getElem?_eq_some_iff.mp h2).1]; exact h2, by rw [List.getElem?_append_left (List.getElem?_eq_some_iff.mp h3).1]; exact h3⟩, h4⟩
theorem ARR.mid {Ps X : PSI} {ws wx : va_W} {a t n : Nat} (k : Nat) {cA : ClassId} {f : Nat → Int32} (hl : Ps.length = ws.length) (h1 : X[k]? = some (a, t)) (h2 : wx[k]? = some (a, .inl (cA, n, .inl f))) : ARR (Ps ++ X) (ws ++ wx) a t f :=
  ⟨ws.length + k, cA, n, by rw [← hl, List.getElem?_append_right (Nat.le_add_right _ _), Nat.add_sub_cancel_left]; exact h1, by rw [List.getElem?_append_right (Nat.le_add_right _ _), Nat.add_sub_cancel_left]; exact h2⟩
theorem FLD.other {ws : va_W} {q a ci k b cj j : Nat} {fs : List Value} {v u : Value} (h : ws[q]? = some (a, .inr (ci, fs))) (hn : b ≠ a) (hf : FLD ws b cj j u) : FLD (ws.set q (a, .inr (ci, fs.set k v))) b cj j u := by
  obtain ⟨r, gs, h1, h2⟩ := hf
  have hq : q ≠ r := fun e => by
    subst e
    rw [h] at h1
    exact hn (congrArg (fun x => x.1) (Option.some.inj h1)).symm
  exact ⟨r, gs, by rw [List.getElem?_set_ne hq]; exact h1, h2⟩
theorem FLP.put {ws ws1 : va_W} {q i j : Nat} {a b : Int32} (x : FLP ws i a j b) (h1 : FLD ws1 q 2 2 (.int 1)) (hO : ∀ (b9 : Nat) (u9 : Value), b9 ≠ q → FLD ws b9 2 2 u9 → FLD ws1 b9 2 2 u9) : FLP ws1 i (st9 i q a) j (st9 j q b) := by
  refine ⟨?_, ?_⟩
  · by_cases e : i = q
    · rw [st9_eq e, e]; exact h1
    · rw [st9_ne e]; exact hO i _ e x.1
  · by_cases e : j = q
    · rw [st9_eq e, e]; exact h1
    · rw [st9_ne e]; exact hO j _ e x.2
section FACTS41
variable {p : Program} {l : Launch} {e : Env} {R : Room} {s : State} {m : MethodId} {args : Array Value} {below : List Frame} {meth : Method} {c : Code} {H : Heap} {locs : List Loc} {cells slots : Nat} {Q : State → Prop}
variable {cc : ByteArray} {pc : Nat} {ls : Array Slot} {rest : List Value} {D : va_G} {cy : Nat → ClassId} {z : Nat → Nat} {A : Nat → Prop} {a : Nat} {ws w0 : va_W} {G : Nat → Nat → CTy} {Ps P0 : PSI} {wr : List (Nat × Nat)} {wa : List Nat}
theorem IMS.up {P1 : PSI} {x i j : Nat} (hup : ∀ q ∈ P1, q ∈ Ps) (hw : WD D cy G A s wr wa P0 w0 Ps ws H locs) (h : IMS P1 ws x i j) : IMS Ps ws x i j := by
  obtain ⟨hne, r, q, cA, n, g, h1, hp, h2, h3, h4⟩ := h
  obtain ⟨k, e, g1, g2, -⟩ := hw.1.find (hup _ (List.mem_of_getElem? hp))
  have eq := hw.2.2.1.1 q k _ _ h2 g2 rfl
  subst eq
  exact ⟨hne, r, q, cA, n, g, h1, g1, h2, h3, h4⟩
theorem AX.up {P1 : PSI} {k t mm : Nat} {F : (Nat → Int32) → Prop} (hup : ∀ q ∈ P1, q ∈ Ps) (hw : WD D cy G A s wr wa P0 w0 Ps ws H locs) (h : AX k t F P1 ws mm) : AX k t F Ps ws mm := by
  obtain ⟨a, f, h1, ⟨q, cA, n, hp, h3⟩, h4⟩ := h
  obtain ⟨k, e, g1, g2, -⟩ := hw.1.find (hup _ (List.mem_of_getElem? hp))
  have eq := hw.2.2.1.1 q k _ _ h3 g2 rfl
  subst eq
  exact ⟨a, f, h1, ⟨q, cA, n, g1, h3⟩, h4⟩
theorem IMS.pick {x i j r b : Nat} {k : Int32} (hw : WD D cy G A s wr wa P0 w0 Ps ws H locs) (h : IMS Ps ws x i j) (hf : FLD ws x 9 4 (.ref r)) (he : RFE ws r k b) (hk : RI k 0 1) : (k.toInt = 0 ∧ b = i) ∨ (k.toInt = 1 ∧ b = j) := by
  obtain ⟨-, r', q, cA, n, g, h1, -, h2, h3, h4⟩ := h
  cases FLD.inj hw.2.2.1 h1 hf
  obtain ⟨q', cB, n', g', e1, e2⟩ := he
  have eq := hw.2.2.1.1 q q' _ _ h2 e1 rfl
  subst eq
  cases h2.symm.trans e1
  have c1 := hk.cl (by decide)
  have k1 := hk.1
  have k2 := hk.2
  rcases (show k.toInt = 0 ∨ k.toInt = 1 by omega) with e | e
  · have e0 : k.toNatClampNeg = 0 := by omega
    rw [e0, h3] at e2
    exact Or.inl ⟨e, (Option.some.inj e2).symm⟩
  · have e0 : k.toNatClampNeg = 1 := by omega
    rw [e0, h4] at e2
    exact Or.inr ⟨e, (Option.some.inj e2).symm⟩
theorem FLP.rs {i j q : Nat} {k a b v : Int32} (hw : WD D cy G A s wr wa P0 w0 Ps ws H locs) (pk : (k.toInt = 0 ∧ q = i) ∨ (k.toInt = 1 ∧ q = j)) (x : FLP ws i a j b) (hv : FLD ws q 2 2 (.int v)) : RSP k a b ↔ v ≠ 0 := by
  rcases pk with ⟨hk, e⟩ | ⟨hk, e⟩
  · rw [e] at hv
    cases FLD.inj hw.2.2.1 x.1 hv
    exact ⟨fun h => h.elim (fun h => h.2) (fun h => absurd h.1 (by omega)), fun h => Or.inl ⟨hk, h⟩⟩
  · rw [e] at hv
    cases FLD.inj hw.2.2.1 x.2 hv
    exact ⟨fun h => h.elim (fun h => absurd h.1 (by omega)) (fun h => h.2), fun h => Or.inr ⟨hk, h⟩⟩
theorem AX.rs {k t mm r : Nat} {i u v w : Int32} (hw : WD D cy G A s wr wa P0 w0 Ps ws H locs) (x : AX k t (fun f => f 0 = u ∧ f 1 = v) Ps ws mm) (hf : FLD ws mm 10 k (.ref r)) (he : AEL ws r i w) (hk : RI i 0 1) : RSP i u v ↔ w ≠ 0 := by
  obtain ⟨a, f, h1, h2, h3, h4⟩ := x
  cases FLD.inj hw.2.2.1 h1 hf
  have e1 := ARR.ael hw.2.2.1 h2 he
  have c1 := hk.cl (by decide)
  have k1 := hk.1
  have k2 := hk.2
  rcases (show i.toInt = 0 ∨ i.toInt = 1 by omega) with e | e
  · have e0 : i.toNatClampNeg = 0 := by omega
    rw [e0, h3] at e1
    rw [← e1]
    exact ⟨fun h => h.elim (fun h => h.2) (fun h => absurd h.1 (by omega)), fun h => Or.inl ⟨e, h⟩⟩
  · have e0 : i.toNatClampNeg = 1 := by omega
    rw [e0, h4] at e1
    rw [← e1]
    exact ⟨fun h => h.elim (fun h => absurd h.1 (by omega)) (fun h => h.2), fun h => Or.inr ⟨e, h⟩⟩
theorem RSP.out {k a b : Int32} (h : ¬ (0 ≤ k.toInt ∧ k.toInt ≤ 1)) : ¬ RSP k a b := fun q => q.elim (fun q => h (by have q1 := q.1; omega)) (fun q => h (by have q1 := q.1; omega))
theorem tg_putE (hexec : p.tables.exec = Jvm.exec) (hb : c.code = cc) {own ref C : String} {T : u_T} {N ci index : Nat} (hts : ∀ w ∈ gT, w.before args s = true) (hin : ∀ w ∈ u_ws C T N, w ∈ gT) (ty0 : Nat → FieldType) (hty : ∀ k, k < N → parseFieldDescriptor (T k).2.2.1 = some (ty0 k)) (hnm : ∀ a, a < N → ∀ b, b < N → a ≠ b → (T a).2.1 ≠ (T b).2.1) (hown : s.vm.findClass own = some m.cls) (hK : va_K D classes (TY cy) s) (hw : WD D cy G A s wr wa P0 w0 Ps ws H locs) {t : Nat} (ha : (a, t) ∈ Ps) {ts : List VT} (hG : G a t = .inl (ci, ts)) (hc : classes[ci]? = some (C, T, N)) (k : Nat) (hk : k < N) (hlink : (Cond.fieldLink own index ref (T k).2.1 (T k).2.2.1).before args s = true) (hsame : ∀ x, s.fieldFound? (T k).1 (T k).2.1 (T k).2.2.1 = some x → s.fieldFound? ref (T k).2.1 (T k).2.2.1 = some x) (hfin : (T k).2.2.2 = false) {ty : FieldType} {v : Value} (hd : parseFieldDescriptor (T k).2.2.1 = some ty) (hn : narrow ty v = v) (hfit : fits ty v = true) {ft : VT} (hft : ts[k]? = some ft) (hv : vok Ps ft v) (hm : (ci, k) ∈ wr) (hdg : decode cc pc = .ok (.putfield index, 3))
    (kk : ∀ (ws1 : va_W) (H1 : Heap) (locs1 : List Loc), WD D cy G A s wr wa P0 w0 Ps ws1 H1 locs1 → FLD ws1 a ci k v → FR [(ci, k)] [] Ps ws ws1 → (∀ (b9 : Nat) (u9 : Value), b9 ≠ a → FLD ws b9 ci k u9 → FLD ws1 b9 ci k u9) → W p l e R s m args below meth c H1 locs1 cells slots Q (F0 m (pc + 3) ls rest)) : W p l e R s m args below meth c H locs cells slots Q (F0 m pc ls (v :: .ref a :: rest)) := by
  obtain ⟨q, e1, h1, h2, h3⟩ := hw.1.find ha
  have h9 := h3
  rw [hG] at h9
  obtain ⟨fs, rfl, h4⟩ := h9
  obtain ⟨v0, h5, -⟩ := h4 k ft hft
  have hl := (List.getElem?_eq_some_iff.mp h5).1
  obtain ⟨w1, w2, w3, w4, w5, w6, w7⟩ := hw
  exact va_put hexec hb hts hin ty0 hty hnm hown hK w2 w3 w4 q h2 hc k hk hlink hsame hfin hd hn hfit hl hdg (fun H1 locs1 a1 a2 a3 => kk _ H1 locs1 ⟨w1.set h1 (tg_cokput hG hft hv h4), a1, a2, a3, w5.put h2 hm, w6, w7⟩ (FLD.put h2 hl) (FR.rf.put h2 List.mem_cons_self) (fun b9 u9 hn9 hf9 => FLD.other h2 hn9 hf9))
theorem tg_aaldE (hexec : p.tables.exec = Jvm.exec) (hb : c.code = cc) (hK : va_K D classes (TY cy) s) (hw : WD D cy G A s wr wa P0 w0 Ps ws H locs) {t n t0 u : Nat} {C : String} {el : Nat → Nat} (ha : (a, t) ∈ Ps) (hG : G a t = .inr (.inr (.inr (t0, n, el)))) (ht0 : (TY cy)[t0]? = some (cy t0, .object C)) {i : Int32} {x y : Int} (AA BB : Nat) (hi0 : RI i x y) (hab : (AA : Int) ≤ x ∧ y ≤ (BB : Int) ∧ BB < n) (hel : ∀ j, j < BB + 1 → AA ≤ j → el j = u) (hdg : decode cc pc = .ok (.aaload, 1))
    (kk : ∀ b : Nat, (b, u) ∈ Ps → RFE ws a i b → W p l e R s m args below meth c H locs cells slots Q (F0 m (pc + 1) ls (.ref b :: rest))) : W p l e R s m args below meth c H locs cells slots Q (F0 m pc ls (.int i :: .ref a :: rest)) := by
  obtain ⟨q, e1, -, h2, h3⟩ := hw.1.find ha
  rw [hG] at h3
  obtain ⟨g, rfl, h4⟩ := h3
  obtain ⟨g1, g2, g3⟩ := tg_idx hi0 hab
  obtain ⟨b, h5, h6⟩ := h4 i.toNatClampNeg (by show _ < n; omega)
  rw [show ((t0, n, el) : Nat × Nat × (Nat → Nat)).2.2 i.toNatClampNeg = u from hel _ (by omega) g2] at h6
  refine va_aldq hexec hb hK hw.2.1 q t0 h2 ht0 g1 hdg ?_
  rw [h5]
  exact kk b h6 ⟨q, _, _, g, h2, h5⟩
theorem tg_zaldE (hexec : p.tables.exec = Jvm.exec) (hb : c.code = cc) (hK : va_K D classes (TY cy) s) (hw : WD D cy G A s wr wa P0 w0 Ps ws H locs) {t n : Nat} {el : Nat → Int × Int} {Rl : (Nat → Int32) → Prop} (ha : (a, t) ∈ Ps) (hG : G a t = .inr (.inl (3, n, el, Rl))) {i : Int32} {x y lo hi : Int} (AA BB : Nat) (hi0 : RI i x y) (hab : (AA : Int) ≤ x ∧ y ≤ (BB : Int) ∧ BB < n) (hel : ∀ j, j < BB + 1 → AA ≤ j → lo ≤ (el j).1 ∧ (el j).2 ≤ hi) (hdg : decode cc pc = .ok (.baload, 1))
    (kk : ∀ v : Int32, RI v lo hi → AEL ws a i v → W p l e R s m args below meth c H locs cells slots Q (F0 m (pc + 1) ls (.int v :: rest))) : W p l e R s m args below meth c H locs cells slots Q (F0 m pc ls (.int i :: .ref a :: rest)) := by
  obtain ⟨q, e1, -, h2, h3⟩ := hw.1.find ha
  rw [hG] at h3
  obtain ⟨f, rfl, h4, -⟩ := h3
  obtain ⟨g1, g2, g3⟩ := tg_idx hi0 hab
  exact va_zald hexec hb hK hw.2.1 q 3 h2 rfl g1 hdg (kk _ ((h4 _ (by show _ < n; omega)).to (hel _ (by omega) g2)) ⟨q, _, _, f, h2, rfl⟩)
theorem tg_zastE (hexec : p.tables.exec = Jvm.exec) (hb : c.code = cc) (hK : va_K D classes (TY cy) s) (hw : WD D cy G A s wr wa P0 w0 Ps ws H locs) {t n : Nat} (ha : (a, t) ∈ Ps) (hG : G a t = .inr (.inl (3, n, (fun _ => (-2147483648, 2147483647)), (fun _ => True)))) {i v : Int32} {x y : Int} (AA BB : Nat) (hi0 : RI i x y) (hab : (AA : Int) ≤ x ∧ y ≤ (BB : Int) ∧ BB < n) (hm : t ∈ wa) (hdg : decode cc pc = .ok (.bastore, 1))
    (kk : ∀ (ws1 : va_W) (H1 : Heap) (locs1 : List Loc), WD D cy G A s wr wa P0 w0 Ps ws1 H1 locs1 → FR [] [t] Ps ws ws1 → (va_D A ws ∧ ∀ f, ARR Ps ws a t f → ARR Ps ws1 a t (upd f i.toNatClampNeg (vp_nar .boolean v))) → W p l e R s m args below meth c H1 locs1 cells slots Q (F0 m (pc + 1) ls rest)) : W p l e R s m args below meth c H locs cells slots Q (F0 m pc ls (.int v :: .int i :: .ref a :: rest)) := by
  obtain ⟨q, e1, h1, h2, h3⟩ := hw.1.find ha
  have h9 := h3
  rw [hG] at h9
  obtain ⟨f, rfl, h4, h5⟩ := h9
  obtain ⟨g1, g2, g3⟩ := tg_idx hi0 hab
  obtain ⟨w1, w2, w3, w4, w5, w6, X, w7⟩ := hw
  subst w7
  exact va_zast hexec hb hK w2 w3 w4 q 3 h2 rfl g1 hdg (fun H1 locs1 a1 a2 a3 => kk _ H1 locs1 ⟨w1.set h1 (by rw [hG]; exact ⟨_, rfl, tg_upd h4 (ri_any _), trivial⟩), a1, a2, a3, w5.putA h2 h1 hm, w6, X, rfl⟩ (FR.putA (X := []) FR.rf h2 (by rw [List.append_nil]; exact h1) List.mem_cons_self) ⟨w3, fun f' hf' => by
    obtain ⟨e1, u, e2, e3⟩ := ARR.put (h := upd f i.toNatClampNeg (vp_nar .boolean v)) w3 h2 hf' (fun _ _ => rfl)
    subst e3; rw [e1]; exact e2⟩)
end FACTS41
abbrev wr_X2_take__2 : List (Nat × Nat) := [(2, 1), (2, 2), (8, 0), (8, 1)]
abbrev wa_X2_take__2 : List Nat := [8, 9, 10, 11, 12, 13]
set_option maxHeartbeats 4000000 in
set_option maxRecDepth 100000 in
theorem c_X2_take__2 (l : Launch) (D : va_G) (cy : Nat → ClassId) (z : Nat → Nat) (sz : Nat) (Ps : PSI) (w0 : va_W) (hT : HT cy GG Ps w0) (p0 : Nat) (p1 : Nat) (gdi : Nat) (gdj : Nat) (gda : Int32) (gdb : Int32) (h_p0 : (p0, 28) ∈ Ps) (h_p1 : (p1, 24) ∈ Ps) (x_FLP_gdi_gda_gdj_gdb : FLP w0 gdi gda gdj gdb) : Met l yX2_take (Cond.code yX2_take cX2_take 3 none :: gT) ({ frames := 3, cells := 0, slots := 0, locals := 600 } : Room) (va_Pc [.ref p0, .ref p1, .null] (PRE D cy z w0 sz)) (va_Qv (fun (u : va_W) => (FLP u gdi (st9 gdi p0 gda) gdj (st9 gdj p0 gdb) ∧ True) ∧ HT cy GG Ps u ∧ FR wr_X2_take__2 wa_X2_take__2 Ps w0 u) (BB D cy (va_A w0 sz) (fun (u : va_W) => u)) (va_A w0 sz)) 0 0 (va_A w0 sz) := by
  refine Met.ofW (cc := cX2_take) (maxL := 3) (ret := none) (by decide) rfl ?_
  intro p e s m args below meth c s₁ B hml hv
  obtain ⟨rfl, hsz, hP, hK, hD0, hSD⟩ := hv
  have hx := B.exec
  have hb := B.bytes
  have hr := B.returns
  have hlocks := B.notSynchronized
  have hts : ∀ w ∈ gT, w.before _ s = true := fun w h => atoms_spec (ws := Cond.code yX2_take cX2_take 3 none :: gT) B.pre w (List.mem_cons_of_mem _ h)
  have hown : s.vm.findClass RX2 = some m.cls := findClass_of_methodNamed B.named
  subst hsz
  have hD := hD0.self (sz := s.heap.size)
  generalize hAe : va_A w0 s.heap.size = A at hD hSD ⊢
  have hA : ∀ q : Nat, s.heap.size ≤ q → A q := fun q h => by rw [← hAe]; exact Or.inr h
  have hl := lv_entry ([.ref p0, .ref p1, .null]) (n := 3) (Nat.le_of_ble_eq_true rfl)
  rw [lg_entry_eq]
  generalize (lg_sl ([.ref p0, .ref p1, .null]) ++ List.replicate (3 - (lg_sl ([.ref p0, .ref p1, .null])).length) Slot.unset).toArray = ls at hl ⊢
  have hl : lv_has ls 3 [(0, .ref p0), (1, .ref p1), (2, .null)] := hl
  refine nameQ (fun Q hQ => ?_)
  have hw : WD D cy GG A s wr_X2_take__2 wa_X2_take__2 Ps w0 Ps w0 s.heap [] := ⟨hT, hP, hD, va_S.rf, FR.rf, hT.1, [], (List.append_nil _).symm⟩
  refine lv_aload_n hx hb dX2_take_0 rfl (lv_at hl 0 rfl) ?_
  refine tg_get (ci := 2) (ts := ty_IMAGE) (C := RX2) (T := TX2) (N := 3) hx hb hts inX2 hown hK hw h_p0 rfl rfl 0 (by decide) (hts _ tw_332) (fun _ h9 => h9) (ft := vR 24) rfl dX2_take_1 (fun u_1 hv_u_1 m_u_1 => ?_)
  obtain ⟨vu_1, rfl, h_vu_1⟩ := hv_u_1
  refine lv_aload_n hx hb dX2_take_4 rfl (lv_at hl 1 rfl) ?_
  refine tk_v (va_runV (As := [.ref p1]) (rest := []) ⟨hx, hb, hml, hown, hts⟩ (c_X8_takeFrom l D cy z s.heap.size Ps w0 hw.1 vu_1 p1 h_vu_1 h_p1) (cwV 1 hts (gV tw_1026 tw_522 tw_523 tw_12 tw_524) rfl rfl rfl (by decide +kernel) ⟨Nat.le_of_ble_eq_true rfl, Nat.le_of_ble_eq_true rfl⟩) (tg_preV hw hK hSD hA (ci := 8) (q := (RX8, TX8, 13)) rfl h_vu_1 rfl) rfl rfl hl.1 rfl (lv_room (Nat.le_of_ble_eq_true rfl)) dX2_take_5 ⟨Nat.le_of_ble_eq_true rfl, Nat.le_of_ble_eq_true rfl⟩) hw hA ⟨by decide, by decide⟩ (fun ws H locs hp_v_2 hw hF9 => ?_)
  have m_u_1 := FLD.over hF9 m_u_1 (by decide)
  have x_FLP_gdi_gda_gdj_gdb := FLP.over hF9 x_FLP_gdi_gda_gdj_gdb (by decide)
  refine lv_aload_n hx hb dX2_take_8 rfl (lv_at hl 0 rfl) ?_
  refine lv_aload_nN hx hb dX2_take_9 rfl (lv_at hl 2 rfl) ?_
  refine tg_put (ci := 2) (ts := ty_IMAGE) (v := .null) (ty := .object "WonderParcels$Sentence") (C := RX2) (T := TX2) (N := 3) hx hb hts inX2 tyX2 tyX2_ok nmX2 hown hK hw h_p0 rfl rfl 1 (by decide) (hts _ tw_334) (fun _ h9 => h9) rfl (by decide +kernel) rfl rfl (ft := vN 32) rfl (Or.inl rfl) (by decide) dX2_take_10 (fun ws H locs hw n_k_3 hF9 => ?_)
  have m_u_1 := FLD.over hF9 m_u_1 (by decide)
  have x_FLP_gdi_gda_gdj_gdb := FLP.over hF9 x_FLP_gdi_gda_gdj_gdb (by decide)
  refine lv_aload_n hx hb dX2_take_13 rfl (lv_at hl 0 rfl) ?_
  refine lv_iconst (v := 1) hx hb dX2_take_14 (by decide) ?_
  refine tg_putE (ci := 2) (ts := ty_IMAGE) (v := .int 1) (ty := .boolean) (C := RX2) (T := TX2) (N := 3) hx hb hts inX2 tyX2 tyX2_ok nmX2 hown hK hw h_p0 rfl rfl 2 (by decide) (hts _ tw_336) (fun _ h9 => h9) rfl (by decide +kernel) rfl rfl (ft := vI 0 1) rfl ⟨_, rfl, (rl_1.to (by decide))⟩ (by decide) dX2_take_15 (fun ws H locs hw n_k_4 hF9 hO9 => ?_)
  have m_u_1 := FLD.over hF9 m_u_1 (by decide)
  have x_FLT_p0_gdi_gda_gdj_gdb : FLP ws gdi (st9 gdi p0 gda) gdj (st9 gdj p0 gdb) := FLP.put x_FLP_gdi_gda_gdj_gdb n_k_4 hO9
  subst hQ
  exact W.vret hx hb hr (fun t ht hW => ⟨⟨ws, rfl, ⟨⟨x_FLT_p0_gdi_gda_gdj_gdb, trivial⟩, hw.1, hw.2.2.2.2.1⟩, by rw [ht]; exact hw.2.1, va_K.moved hW.alike hK, hw.2.2.1⟩, hw.2.2.2.1.F ht⟩) hw.2.2.2.1.2.2 dX2_take_18
abbrev wr_X2_take__3 : List (Nat × Nat) := [(2, 1), (2, 2), (8, 0), (8, 1)]
abbrev wa_X2_take__3 : List Nat := [8, 9, 10, 11, 12, 13]
set_option maxHeartbeats 4000000 in
set_option maxRecDepth 100000 in
theorem c_X2_take__3 (l : Launch) (D : va_G) (cy : Nat → ClassId) (z : Nat → Nat) (sz : Nat) (Ps : PSI) (w0 : va_W) (hT : HT cy GG Ps w0) (p0 : Nat) (p1 : Nat) (p2 : Nat) (gdi : Nat) (gdj : Nat) (gda : Int32) (gdb : Int32) (h_p0 : (p0, 28) ∈ Ps) (h_p1 : (p1, 24) ∈ Ps) (h_p2 : (p2, 32) ∈ Ps) (x_FLP_gdi_gda_gdj_gdb : FLP w0 gdi gda gdj gdb) : Met l yX2_take (Cond.code yX2_take cX2_take 3 none :: gT) ({ frames := 3, cells := 0, slots := 0, locals := 600 } : Room) (va_Pc [.ref p0, .ref p1, .ref p2] (PRE D cy z w0 sz)) (va_Qv (fun (u : va_W) => (FLP u gdi (st9 gdi p0 gda) gdj (st9 gdj p0 gdb) ∧ True) ∧ HT cy GG Ps u ∧ FR wr_X2_take__3 wa_X2_take__3 Ps w0 u) (BB D cy (va_A w0 sz) (fun (u : va_W) => u)) (va_A w0 sz)) 0 0 (va_A w0 sz) := by
  refine Met.ofW (cc := cX2_take) (maxL := 3) (ret := none) (by decide) rfl ?_
  intro p e s m args below meth c s₁ B hml hv
  obtain ⟨rfl, hsz, hP, hK, hD0, hSD⟩ := hv
  have hx := B.exec
  have hb := B.bytes
  have hr := B.returns
  have hlocks := B.notSynchronized
  have hts : ∀ w ∈ gT, w.before _ s = true := fun w h => atoms_spec (ws := Cond.code yX2_take cX2_take 3 none :: gT) B.pre w (List.mem_cons_of_mem _ h)
  have hown : s.vm.findClass RX2 = some m.cls := findClass_of_methodNamed B.named
  subst hsz
  have hD := hD0.self (sz := s.heap.size)
  generalize hAe : va_A w0 s.heap.size = A at hD hSD ⊢
  have hA : ∀ q : Nat, s.heap.size ≤ q → A q := fun q h => by rw [← hAe]; exact Or.inr h
  have hl := lv_entry ([.ref p0, .ref p1, .ref p2]) (n := 3) (Nat.le_of_ble_eq_true rfl)
  rw [lg_entry_eq]
  generalize (lg_sl ([.ref p0, .ref p1, .ref p2]) ++ List.replicate (3 - (lg_sl ([.ref p0, .ref p1, .ref p2])).length) Slot.unset).toArray = ls at hl ⊢
  have hl : lv_has ls 3 [(0, .ref p0), (1, .ref p1), (2, .ref p2)] := hl
  refine nameQ (fun Q hQ => ?_)
  have hw : WD D cy GG A s wr_X2_take__3 wa_X2_take__3 Ps w0 Ps w0 s.heap [] := ⟨hT, hP, hD, va_S.rf, FR.rf, hT.1, [], (List.append_nil _).symm⟩
  refine lv_aload_n hx hb dX2_take_0 rfl (lv_at hl 0 rfl) ?_
  refine tg_get (ci := 2) (ts := ty_IMAGE) (C := RX2) (T := TX2) (N := 3) hx hb hts inX2 hown hK hw h_p0 rfl rfl 0 (by decide) (hts _ tw_332) (fun _ h9 => h9) (ft := vR 24) rfl dX2_take_1 (fun u_1 hv_u_1 m_u_1 => ?_)
  obtain ⟨vu_1, rfl, h_vu_1⟩ := hv_u_1
  refine lv_aload_n hx hb dX2_take_4 rfl (lv_at hl 1 rfl) ?_
  refine tk_v (va_runV (As := [.ref p1]) (rest := []) ⟨hx, hb, hml, hown, hts⟩ (c_X8_takeFrom l D cy z s.heap.size Ps w0 hw.1 vu_1 p1 h_vu_1 h_p1) (cwV 1 hts (gV tw_1026 tw_522 tw_523 tw_12 tw_524) rfl rfl rfl (by decide +kernel) ⟨Nat.le_of_ble_eq_true rfl, Nat.le_of_ble_eq_true rfl⟩) (tg_preV hw hK hSD hA (ci := 8) (q := (RX8, TX8, 13)) rfl h_vu_1 rfl) rfl rfl hl.1 rfl (lv_room (Nat.le_of_ble_eq_true rfl)) dX2_take_5 ⟨Nat.le_of_ble_eq_true rfl, Nat.le_of_ble_eq_true rfl⟩) hw hA ⟨by decide, by decide⟩ (fun ws H locs hp_v_2 hw hF9 => ?_)
  have m_u_1 := FLD.over hF9 m_u_1 (by decide)
  have x_FLP_gdi_gda_gdj_gdb := FLP.over hF9 x_FLP_gdi_gda_gdj_gdb (by decide)
  refine lv_aload_n hx hb dX2_take_8 rfl (lv_at hl 0 rfl) ?_
  refine lv_aload_n hx hb dX2_take_9 rfl (lv_at hl 2 rfl) ?_
  refine tg_put (ci := 2) (ts := ty_IMAGE) (v := .ref p2) (ty := .object "WonderParcels$Sentence") (C := RX2) (T := TX2) (N := 3) hx hb hts inX2 tyX2 tyX2_ok nmX2 hown hK hw h_p0 rfl rfl 1 (by decide) (hts _ tw_334) (fun _ h9 => h9) rfl (by decide +kernel) rfl rfl (ft := vN 32) rfl (Or.inr ⟨_, rfl, h_p2⟩) (by decide) dX2_take_10 (fun ws H locs hw n_k_3 hF9 => ?_)
  have m_u_1 := FLD.over hF9 m_u_1 (by decide)
  have x_FLP_gdi_gda_gdj_gdb := FLP.over hF9 x_FLP_gdi_gda_gdj_gdb (by decide)
  refine lv_aload_n hx hb dX2_take_13 rfl (lv_at hl 0 rfl) ?_
  refine lv_iconst (v := 1) hx hb dX2_take_14 (by decide) ?_
  refine tg_putE (ci := 2) (ts := ty_IMAGE) (v := .int 1) (ty := .boolean) (C := RX2) (T := TX2) (N := 3) hx hb hts inX2 tyX2 tyX2_ok nmX2 hown hK hw h_p0 rfl rfl 2 (by decide) (hts _ tw_336) (fun _ h9 => h9) rfl (by decide +kernel) rfl rfl (ft := vI 0 1) rfl ⟨_, rfl, (rl_1.to (by decide))⟩ (by decide) dX2_take_15 (fun ws H locs hw n_k_4 hF9 hO9 => ?_)
  have m_u_1 := FLD.over hF9 m_u_1 (by decide)
  have x_FLT_p0_gdi_gda_gdj_gdb : FLP ws gdi (st9 gdi p0 gda) gdj (st9 gdj p0 gdb) := FLP.put x_FLP_gdi_gda_gdj_gdb n_k_4 hO9
  subst hQ
  exact W.vret hx hb hr (fun t ht hW => ⟨⟨ws, rfl, ⟨⟨x_FLT_p0_gdi_gda_gdj_gdb, trivial⟩, hw.1, hw.2.2.2.2.1⟩, by rw [ht]; exact hw.2.1, va_K.moved hW.alike hK, hw.2.2.1⟩, hw.2.2.2.1.F ht⟩) hw.2.2.2.1.2.2 dX2_take_18
abbrev wr_X9_image__1 : List (Nat × Nat) := [(2, 1), (2, 2), (8, 0), (8, 1)]
abbrev wa_X9_image__1 : List Nat := [8, 9, 10, 11, 12, 13]
set_option maxHeartbeats 4000000 in
set_option maxRecDepth 100000 in
theorem c_X9_image__1 (l : Launch) (D : va_G) (cy : Nat → ClassId) (z : Nat → Nat) (sz : Nat) (Ps : PSI) (w0 : va_W) (hT : HT cy GG Ps w0) (p0 : Nat) (p1 : Int32) (gdi : Nat) (gdj : Nat) (gda : Int32) (gdb : Int32) (h_p0 : (p0, 33) ∈ Ps) (r_p1 : RI p1 (-2147483648) 2147483647) (x_IMS_p0_gdi_gdj : IMS Ps w0 p0 gdi gdj) (x_FLP_gdi_gda_gdj_gdb : FLP w0 gdi gda gdj gdb) : Met l yX9_image (Cond.code yX9_image cX9_image 2 (some .boolean) :: gT) ({ frames := 4, cells := 0, slots := 0, locals := 800 } : Room) (va_Pc [.ref p0, .int p1] (PRE D cy z w0 sz)) (va_Qi (fun (r : Int32) (u : va_W) => (RI r 0 1 ∧ (r = 0 → True) ∧ (¬ r = 0 → True) ∧ (FLP u gdi (sf p1 0 gda) gdj (sf p1 1 gdb) ∧ True) ∧ (r.toInt < 0 → True) ∧ (0 ≤ r.toInt → True)) ∧ HT cy GG Ps u ∧ FR wr_X9_image__1 wa_X9_image__1 Ps w0 u) (BB D cy (va_A w0 sz) (fun (u : va_W) => u)) (va_A w0 sz)) 0 0 (va_A w0 sz) := by
  refine Met.ofW (cc := cX9_image) (maxL := 2) (ret := (some .boolean)) (by decide) rfl ?_
  intro p e s m args below meth c s₁ B hml hv
  obtain ⟨rfl, hsz, hP, hK, hD0, hSD⟩ := hv
  have hx := B.exec
  have hb := B.bytes
  have hr := B.returns
  have hlocks := B.notSynchronized
  have hts : ∀ w ∈ gT, w.before _ s = true := fun w h => atoms_spec (ws := Cond.code yX9_image cX9_image 2 (some .boolean) :: gT) B.pre w (List.mem_cons_of_mem _ h)
  have hown : s.vm.findClass RX9 = some m.cls := findClass_of_methodNamed B.named
  subst hsz
  have hD := hD0.self (sz := s.heap.size)
  generalize hAe : va_A w0 s.heap.size = A at hD hSD ⊢
  have hA : ∀ q : Nat, s.heap.size ≤ q → A q := fun q h => by rw [← hAe]; exact Or.inr h
  have hl := lv_entry ([.ref p0, .int p1]) (n := 2) (Nat.le_of_ble_eq_true rfl)
  rw [lg_entry_eq]
  generalize (lg_sl ([.ref p0, .int p1]) ++ List.replicate (2 - (lg_sl ([.ref p0, .int p1])).length) Slot.unset).toArray = ls at hl ⊢
  have hl : lv_has ls 2 [(0, .ref p0), (1, .int p1)] := hl
  refine nameQ (fun Q hQ => ?_)
  have hw : WD D cy GG A s wr_X9_image__1 wa_X9_image__1 Ps w0 Ps w0 s.heap [] := ⟨hT, hP, hD, va_S.rf, FR.rf, hT.1, [], (List.append_nil _).symm⟩
  refine lv_iload_n hx hb dX9_image_0 rfl (lv_at hl 1 rfl) ?_
  refine lv_if_lt (tgt := 13) hx hb dX9_image_1 (by decide) (fun c_1 => ?_) (fun c_1 => ?_)
  · have r_p1 : RI p1 (-2147483648) (-1) := rc_lt1 r_p1 rl_0 (ti_lt c_1) (by decide)
    have x_FLI_p1_gdi_gda_gdj_gdb : FLP w0 gdi (sf p1 0 gda) gdj (sf p1 1 gdb) := by rw [sf_ne (n := 0) (by have k1 := r_p1.1; have k2 := r_p1.2; omega), sf_ne (n := 1) (by have k1 := r_p1.1; have k2 := r_p1.2; omega)]; exact x_FLP_gdi_gda_gdj_gdb
    refine lv_iconst (v := 0) hx hb dX9_image_13 (by decide) ?_
    subst hQ
    exact W.zret (v := 0) hx hb hr (rfl) (fun t ht hW => ⟨⟨0, w0, rfl, ⟨⟨rl_0.to (by decide), (fun h0 => trivial), (fun _ => trivial), ⟨x_FLI_p1_gdi_gda_gdj_gdb, trivial⟩, (fun _ => trivial), (fun _ => trivial)⟩, hw.1, hw.2.2.2.2.1⟩, by rw [ht]; exact hw.2.1, va_K.moved hW.alike hK, hw.2.2.1⟩, hw.2.2.2.1.F ht⟩) hw.2.2.2.1.2.2 dX9_image_14
  · have r_p1 : RI p1 0 2147483647 := rc_le2 rl_0 r_p1 (ti_nlt c_1) (by decide)
    refine lv_iload_n hx hb dX9_image_4 rfl (lv_at hl 1 rfl) ?_
    refine lv_aload_n hx hb dX9_image_5 rfl (lv_at hl 0 rfl) ?_
    refine tg_get (ci := 9) (ts := ty_WP) (C := RX9) (T := TX9) (N := 15) hx hb hts inX9 hown hK hw h_p0 rfl rfl 4 (by decide) (hts _ tw_350) (fun _ h9 => h9) (ft := vR 23) rfl dX9_image_6 (fun u_1 hv_u_1 m_u_1 => ?_)
    obtain ⟨vu_1, rfl, h_vu_1⟩ := hv_u_1
    refine tg_alenQ (t0 := 5) (v := 2) hx hb hK hw h_vu_1 rfl rfl rfl dX9_image_9 ?_
    refine lv_icmp_lt (tgt := 15) hx hb dX9_image_10 (by decide) (fun c_10 => ?_) (fun c_10 => ?_)
    · have r_p1 : RI p1 0 1 := rc_lt1 r_p1 rl_2 (ti_lt c_10) (by decide)
      refine lv_aload_n hx hb dX9_image_15 rfl (lv_at hl 0 rfl) ?_
      refine tg_mem (ci := 9) (C := RX9) (T := TX9) (N := 15) hx hb hts inX9 hown hK hw 4 m_u_1 rfl (by decide) (hts _ tw_350) (fun _ h9 => h9) dX9_image_16 ?_
      refine lv_iload_n hx hb dX9_image_19 rfl (lv_at hl 1 rfl) ?_
      refine tg_aaldE (u := 28) hx hb hK hw h_vu_1 rfl rfl 0 1 r_p1 (by decide) (fun _ _ _ => rfl) dX9_image_20 (fun b_2 h_b_2 e_b_2 => ?_)
      have pk9 := IMS.pick hw x_IMS_p0_gdi_gdj m_u_1 e_b_2 (r_p1.to (by decide))
      refine lv_aload_n hx hb dX9_image_21 rfl (lv_at hl 0 rfl) ?_
      refine tg_get (ci := 9) (ts := ty_WP) (C := RX9) (T := TX9) (N := 15) hx hb hts inX9 hown hK hw h_p0 rfl rfl 1 (by decide) (hts _ tw_347) (fun _ h9 => h9) (ft := vR 24) rfl dX9_image_22 (fun u_3 hv_u_3 m_u_3 => ?_)
      obtain ⟨vu_3, rfl, h_vu_3⟩ := hv_u_3
      refine lv_aload_n hx hb dX9_image_25 rfl (lv_at hl 0 rfl) ?_
      refine tg_get (ci := 9) (ts := ty_WP) (C := RX9) (T := TX9) (N := 15) hx hb hts inX9 hown hK hw h_p0 rfl rfl 5 (by decide) (hts _ tw_351) (fun _ h9 => h9) (ft := vN 32) rfl dX9_image_26 (fun u_4 hv_u_4 m_u_4 => ?_)
      rcases hv_u_4 with rfl | ⟨vu_4, rfl, h_vu_4⟩
      · refine tk_v (va_runV (As := [.ref vu_3, .null]) (rest := []) ⟨hx, hb, hml, hown, hts⟩ (c_X2_take__2 l D cy z s.heap.size Ps w0 hw.1 b_2 vu_3 (gdi) (gdj) (gda) (gdb) h_b_2 h_vu_3 x_FLP_gdi_gda_gdj_gdb) (cwV 2 hts (gV tw_1022 tw_1023 tw_1024 tw_14 tw_1025) rfl rfl rfl (by decide +kernel) ⟨Nat.le_of_ble_eq_true rfl, Nat.le_of_ble_eq_true rfl⟩) (tg_preV hw hK hSD hA (ci := 2) (q := (RX2, TX2, 3)) rfl h_b_2 rfl) rfl rfl hl.1 rfl (lv_room (Nat.le_of_ble_eq_true rfl)) dX9_image_29 ⟨Nat.le_of_ble_eq_true rfl, Nat.le_of_ble_eq_true rfl⟩) hw hA ⟨by decide, by decide⟩ (fun ws H locs hp_v_5 hw hF9 => ?_)
        have m_u_1 := FLD.over hF9 m_u_1 (by decide)
        have m_u_3 := FLD.over hF9 m_u_3 (by decide)
        have x_IMS_p0_gdi_gdj := IMS.over hF9 x_IMS_p0_gdi_gdj (by decide)
        have x_FLT_b_2_gdi_gda_gdj_gdb := (hp_v_5.1)
        have x_FLI_p1_gdi_gda_gdj_gdb : FLP ws gdi (sf p1 0 gda) gdj (sf p1 1 gdb) := by rw [← (sf_of pk9 x_IMS_p0_gdi_gdj.1 gda gdb).1, ← (sf_of pk9 x_IMS_p0_gdi_gdj.1 gda gdb).2]; exact x_FLT_b_2_gdi_gda_gdj_gdb
        refine lv_iconst (v := 1) hx hb dX9_image_32 (by decide) ?_
        subst hQ
        exact W.zret (v := 1) hx hb hr (rfl) (fun t ht hW => ⟨⟨1, ws, rfl, ⟨⟨rl_1.to (by decide), (fun _ => trivial), (fun h0 => trivial), ⟨x_FLI_p1_gdi_gda_gdj_gdb, trivial⟩, (fun _ => trivial), (fun _ => trivial)⟩, hw.1, hw.2.2.2.2.1⟩, by rw [ht]; exact hw.2.1, va_K.moved hW.alike hK, hw.2.2.1⟩, hw.2.2.2.1.F ht⟩) hw.2.2.2.1.2.2 dX9_image_33
      · refine tk_v (va_runV (As := [.ref vu_3, .ref vu_4]) (rest := []) ⟨hx, hb, hml, hown, hts⟩ (c_X2_take__3 l D cy z s.heap.size Ps w0 hw.1 b_2 vu_3 vu_4 (gdi) (gdj) (gda) (gdb) h_b_2 h_vu_3 h_vu_4 x_FLP_gdi_gda_gdj_gdb) (cwV 2 hts (gV tw_1022 tw_1023 tw_1024 tw_14 tw_1025) rfl rfl rfl (by decide +kernel) ⟨Nat.le_of_ble_eq_true rfl, Nat.le_of_ble_eq_true rfl⟩) (tg_preV hw hK hSD hA (ci := 2) (q := (RX2, TX2, 3)) rfl h_b_2 rfl) rfl rfl hl.1 rfl (lv_room (Nat.le_of_ble_eq_true rfl)) dX9_image_29 ⟨Nat.le_of_ble_eq_true rfl, Nat.le_of_ble_eq_true rfl⟩) hw hA ⟨by decide, by decide⟩ (fun ws H locs hp_v_6 hw hF9 => ?_)
        have m_u_1 := FLD.over hF9 m_u_1 (by decide)
        have m_u_3 := FLD.over hF9 m_u_3 (by decide)
        have x_IMS_p0_gdi_gdj := IMS.over hF9 x_IMS_p0_gdi_gdj (by decide)
        have x_FLT_b_2_gdi_gda_gdj_gdb := (hp_v_6.1)
        have x_FLI_p1_gdi_gda_gdj_gdb : FLP ws gdi (sf p1 0 gda) gdj (sf p1 1 gdb) := by rw [← (sf_of pk9 x_IMS_p0_gdi_gdj.1 gda gdb).1, ← (sf_of pk9 x_IMS_p0_gdi_gdj.1 gda gdb).2]; exact x_FLT_b_2_gdi_gda_gdj_gdb
        refine lv_iconst (v := 1) hx hb dX9_image_32 (by decide) ?_
        subst hQ
        exact W.zret (v := 1) hx hb hr (rfl) (fun t ht hW => ⟨⟨1, ws, rfl, ⟨⟨rl_1.to (by decide), (fun _ => trivial), (fun h0 => trivial), ⟨x_FLI_p1_gdi_gda_gdj_gdb, trivial⟩, (fun _ => trivial), (fun _ => trivial)⟩, hw.1, hw.2.2.2.2.1⟩, by rw [ht]; exact hw.2.1, va_K.moved hW.alike hK, hw.2.2.1⟩, hw.2.2.2.1.F ht⟩) hw.2.2.2.1.2.2 dX9_image_33
    · have r_p1 : RI p1 2 2147483647 := rc_le2 rl_2 r_p1 (ti_nlt c_10) (by decide)
      have x_FLI_p1_gdi_gda_gdj_gdb : FLP w0 gdi (sf p1 0 gda) gdj (sf p1 1 gdb) := by rw [sf_ne (n := 0) (by have k1 := r_p1.1; have k2 := r_p1.2; omega), sf_ne (n := 1) (by have k1 := r_p1.1; have k2 := r_p1.2; omega)]; exact x_FLP_gdi_gda_gdj_gdb
      refine lv_iconst (v := 0) hx hb dX9_image_13 (by decide) ?_
      subst hQ
      exact W.zret (v := 0) hx hb hr (rfl) (fun t ht hW => ⟨⟨0, w0, rfl, ⟨⟨rl_0.to (by decide), (fun h0 => trivial), (fun _ => trivial), ⟨x_FLI_p1_gdi_gda_gdj_gdb, trivial⟩, (fun _ => trivial), (fun _ => trivial)⟩, hw.1, hw.2.2.2.2.1⟩, by rw [ht]; exact hw.2.1, va_K.moved hW.alike hK, hw.2.2.1⟩, hw.2.2.2.1.F ht⟩) hw.2.2.2.1.2.2 dX9_image_14
abbrev wr_X9_restore__1 : List (Nat × Nat) := [(1, 2), (8, 0), (8, 1), (9, 5)]
abbrev wa_X9_restore__1 : List Nat := [8, 9, 10, 11, 12, 13]
set_option maxHeartbeats 4000000 in
set_option maxRecDepth 100000 in
theorem c_X9_restore__1 (l : Launch) (D : va_G) (cy : Nat → ClassId) (z : Nat → Nat) (sz : Nat) (Ps : PSI) (w0 : va_W) (hT : HT cy GG Ps w0) (p0 : Nat) (p1 : Int32) (gdi : Nat) (gdj : Nat) (gda : Int32) (gdb : Int32) (h_p0 : (p0, 33) ∈ Ps) (r_p1 : RI p1 (-2147483648) 2147483647) (x_IMS_p0_gdi_gdj : IMS Ps w0 p0 gdi gdj) (x_FLP_gdi_gda_gdj_gdb : FLP w0 gdi gda gdj gdb) : Met l yX9_restore (Cond.code yX9_restore cX9_restore 2 (some .boolean) :: gT) ({ frames := 3, cells := 0, slots := 0, locals := 600 } : Room) (va_Pc [.ref p0, .int p1] (PRE D cy z w0 sz)) (va_Qi (fun (r : Int32) (u : va_W) => (RI r 0 1 ∧ (r = 0 → (¬ RSP p1 gda gdb) ∧ True) ∧ (¬ r = 0 → RSP p1 gda gdb ∧ True)) ∧ HT cy GG Ps u ∧ FR wr_X9_restore__1 wa_X9_restore__1 Ps w0 u) (BB D cy (va_A w0 sz) (fun (u : va_W) => u)) (va_A w0 sz)) 0 0 (va_A w0 sz) := by
  refine Met.ofW (cc := cX9_restore) (maxL := 2) (ret := (some .boolean)) (by decide) rfl ?_
  intro p e s m args below meth c s₁ B hml hv
  obtain ⟨rfl, hsz, hP, hK, hD0, hSD⟩ := hv
  have hx := B.exec
  have hb := B.bytes
  have hr := B.returns
  have hlocks := B.notSynchronized
  have hts : ∀ w ∈ gT, w.before _ s = true := fun w h => atoms_spec (ws := Cond.code yX9_restore cX9_restore 2 (some .boolean) :: gT) B.pre w (List.mem_cons_of_mem _ h)
  have hown : s.vm.findClass RX9 = some m.cls := findClass_of_methodNamed B.named
  subst hsz
  have hD := hD0.self (sz := s.heap.size)
  generalize hAe : va_A w0 s.heap.size = A at hD hSD ⊢
  have hA : ∀ q : Nat, s.heap.size ≤ q → A q := fun q h => by rw [← hAe]; exact Or.inr h
  have hl := lv_entry ([.ref p0, .int p1]) (n := 2) (Nat.le_of_ble_eq_true rfl)
  rw [lg_entry_eq]
  generalize (lg_sl ([.ref p0, .int p1]) ++ List.replicate (2 - (lg_sl ([.ref p0, .int p1])).length) Slot.unset).toArray = ls at hl ⊢
  have hl : lv_has ls 2 [(0, .ref p0), (1, .int p1)] := hl
  refine nameQ (fun Q hQ => ?_)
  have hw : WD D cy GG A s wr_X9_restore__1 wa_X9_restore__1 Ps w0 Ps w0 s.heap [] := ⟨hT, hP, hD, va_S.rf, FR.rf, hT.1, [], (List.append_nil _).symm⟩
  refine lv_iload_n hx hb dX9_restore_0 rfl (lv_at hl 1 rfl) ?_
  refine lv_if_lt (tgt := 25) hx hb dX9_restore_1 (by decide) (fun c_1 => ?_) (fun c_1 => ?_)
  · have r_p1 : RI p1 (-2147483648) (-1) := rc_lt1 r_p1 rl_0 (ti_lt c_1) (by decide)
    have x_RS0_p1_gda_gdb : (¬ RSP p1 gda gdb) := RSP.out (by have k1 := r_p1.1; have k2 := r_p1.2; omega)
    refine lv_iconst (v := 0) hx hb dX9_restore_25 (by decide) ?_
    subst hQ
    exact W.zret (v := 0) hx hb hr (rfl) (fun t ht hW => ⟨⟨0, w0, rfl, ⟨⟨rl_0.to (by decide), (fun h0 => ⟨x_RS0_p1_gda_gdb, trivial⟩), (fun h0 => absurd rfl h0)⟩, hw.1, hw.2.2.2.2.1⟩, by rw [ht]; exact hw.2.1, va_K.moved hW.alike hK, hw.2.2.1⟩, hw.2.2.2.1.F ht⟩) hw.2.2.2.1.2.2 dX9_restore_26
  · have r_p1 : RI p1 0 2147483647 := rc_le2 rl_0 r_p1 (ti_nlt c_1) (by decide)
    refine lv_iload_n hx hb dX9_restore_4 rfl (lv_at hl 1 rfl) ?_
    refine lv_aload_n hx hb dX9_restore_5 rfl (lv_at hl 0 rfl) ?_
    refine tg_get (ci := 9) (ts := ty_WP) (C := RX9) (T := TX9) (N := 15) hx hb hts inX9 hown hK hw h_p0 rfl rfl 4 (by decide) (hts _ tw_350) (fun _ h9 => h9) (ft := vR 23) rfl dX9_restore_6 (fun u_1 hv_u_1 m_u_1 => ?_)
    obtain ⟨vu_1, rfl, h_vu_1⟩ := hv_u_1
    refine tg_alenQ (t0 := 5) (v := 2) hx hb hK hw h_vu_1 rfl rfl rfl dX9_restore_9 ?_
    refine lv_icmp_ge (tgt := 25) hx hb dX9_restore_10 (by decide) (fun c_10 => ?_) (fun c_10 => ?_)
    · have r_p1 : RI p1 2 2147483647 := rc_le2 rl_2 r_p1 (ti_le c_10) (by decide)
      have x_RS0_p1_gda_gdb : (¬ RSP p1 gda gdb) := RSP.out (by have k1 := r_p1.1; have k2 := r_p1.2; omega)
      refine lv_iconst (v := 0) hx hb dX9_restore_25 (by decide) ?_
      subst hQ
      exact W.zret (v := 0) hx hb hr (rfl) (fun t ht hW => ⟨⟨0, w0, rfl, ⟨⟨rl_0.to (by decide), (fun h0 => ⟨x_RS0_p1_gda_gdb, trivial⟩), (fun h0 => absurd rfl h0)⟩, hw.1, hw.2.2.2.2.1⟩, by rw [ht]; exact hw.2.1, va_K.moved hW.alike hK, hw.2.2.1⟩, hw.2.2.2.1.F ht⟩) hw.2.2.2.1.2.2 dX9_restore_26
    · have r_p1 : RI p1 0 1 := rc_lt1 r_p1 rl_2 (ti_nle c_10) (by decide)
      refine lv_aload_n hx hb dX9_restore_13 rfl (lv_at hl 0 rfl) ?_
      refine tg_mem (ci := 9) (C := RX9) (T := TX9) (N := 15) hx hb hts inX9 hown hK hw 4 m_u_1 rfl (by decide) (hts _ tw_350) (fun _ h9 => h9) dX9_restore_14 ?_
      refine lv_iload_n hx hb dX9_restore_17 rfl (lv_at hl 1 rfl) ?_
      refine tg_aaldE (u := 28) hx hb hK hw h_vu_1 rfl rfl 0 1 r_p1 (by decide) (fun _ _ _ => rfl) dX9_restore_18 (fun b_2 h_b_2 e_b_2 => ?_)
      have pk9 := IMS.pick hw x_IMS_p0_gdi_gdj m_u_1 e_b_2 (r_p1.to (by decide))
      refine tg_getN (ci := 2) (ts := ty_IMAGE) (C := RX2) (T := TX2) (N := 3) hx hb hts inX2 hown hK hw h_b_2 rfl rfl 2 (by decide) (hSD.nest tn_337) (fun _ h9 => h9) (ft := vI 0 1) rfl dX9_restore_19 (fun u_3 hv_u_3 m_u_3 => ?_)
      obtain ⟨vu_3, rfl, r_vu_3⟩ := hv_u_3
      have rs9 := FLP.rs hw pk9 x_FLP_gdi_gda_gdj_gdb m_u_3
      refine lv_if_ne (tgt := 27) hx hb dX9_restore_22 (by decide) (fun c_22 => ?_) (fun c_22 => ?_)
      · have r_vu_3 : RI vu_3 1 1 := rc_neL r_vu_3 rl_0 (ti_ne c_22) (by decide)
        have x_RS1_p1_gda_gdb : RSP p1 gda gdb := rs9.mpr c_22
        refine lv_aload_n hx hb dX9_restore_27 rfl (lv_at hl 0 rfl) ?_
        refine tg_get (ci := 9) (ts := ty_WP) (C := RX9) (T := TX9) (N := 15) hx hb hts inX9 hown hK hw h_p0 rfl rfl 1 (by decide) (hts _ tw_347) (fun _ h9 => h9) (ft := vR 24) rfl dX9_restore_28 (fun u_4 hv_u_4 m_u_4 => ?_)
        obtain ⟨vu_4, rfl, h_vu_4⟩ := hv_u_4
        refine lv_aload_n hx hb dX9_restore_31 rfl (lv_at hl 0 rfl) ?_
        refine tg_mem (ci := 9) (C := RX9) (T := TX9) (N := 15) hx hb hts inX9 hown hK hw 4 m_u_1 rfl (by decide) (hts _ tw_350) (fun _ h9 => h9) dX9_restore_32 ?_
        refine lv_iload_n hx hb dX9_restore_35 rfl (lv_at hl 1 rfl) ?_
        refine tg_aald (u := 28) hx hb hK hw h_vu_1 rfl rfl 0 1 r_p1 (by decide) (fun _ _ _ => rfl) dX9_restore_36 (fun b_5 h_b_5 => ?_)
        refine tg_getN (ci := 2) (ts := ty_IMAGE) (C := RX2) (T := TX2) (N := 3) hx hb hts inX2 hown hK hw h_b_5 rfl rfl 0 (by decide) (hSD.nest tn_333) (fun _ h9 => h9) (ft := vR 24) rfl dX9_restore_37 (fun u_6 hv_u_6 m_u_6 => ?_)
        obtain ⟨vu_6, rfl, h_vu_6⟩ := hv_u_6
        refine tk_v (va_runV (As := [.ref vu_6]) (rest := []) ⟨hx, hb, hml, hown, hts⟩ (c_X8_takeFrom l D cy z s.heap.size Ps w0 hw.1 vu_4 vu_6 h_vu_4 h_vu_6) (cwV 1 hts (gV tw_521 tw_522 tw_523 tw_12 tw_524) rfl rfl rfl (by decide +kernel) ⟨Nat.le_of_ble_eq_true rfl, Nat.le_of_ble_eq_true rfl⟩) (tg_preV hw hK hSD hA (ci := 8) (q := (RX8, TX8, 13)) rfl h_vu_4 rfl) rfl rfl hl.1 rfl (lv_room (Nat.le_of_ble_eq_true rfl)) dX9_restore_40 ⟨Nat.le_of_ble_eq_true rfl, Nat.le_of_ble_eq_true rfl⟩) hw hA ⟨by decide, by decide⟩ (fun ws H locs hp_v_7 hw hF9 => ?_)
        have m_u_1 := FLD.over hF9 m_u_1 (by decide)
        have m_u_3 := FLD.over hF9 m_u_3 (by decide)
        have m_u_4 := FLD.over hF9 m_u_4 (by decide)
        have m_u_6 := FLD.over hF9 m_u_6 (by decide)
        have x_IMS_p0_gdi_gdj := IMS.over hF9 x_IMS_p0_gdi_gdj (by decide)
        have x_FLP_gdi_gda_gdj_gdb := FLP.over hF9 x_FLP_gdi_gda_gdj_gdb (by decide)
        refine lv_aload_n hx hb dX9_restore_43 rfl (lv_at hl 0 rfl) ?_
        refine lv_aload_n hx hb dX9_restore_44 rfl (lv_at hl 0 rfl) ?_
        refine tg_mem (ci := 9) (C := RX9) (T := TX9) (N := 15) hx hb hts inX9 hown hK hw 4 m_u_1 rfl (by decide) (hts _ tw_350) (fun _ h9 => h9) dX9_restore_45 ?_
        refine lv_iload_n hx hb dX9_restore_48 rfl (lv_at hl 1 rfl) ?_
        refine tg_aald (u := 28) hx hb hK hw h_vu_1 rfl rfl 0 1 r_p1 (by decide) (fun _ _ _ => rfl) dX9_restore_49 (fun b_8 h_b_8 => ?_)
        refine tg_getN (ci := 2) (ts := ty_IMAGE) (C := RX2) (T := TX2) (N := 3) hx hb hts inX2 hown hK hw h_b_8 rfl rfl 1 (by decide) (hSD.nest tn_335) (fun _ h9 => h9) (ft := vN 32) rfl dX9_restore_50 (fun u_9 hv_u_9 m_u_9 => ?_)
        rcases hv_u_9 with rfl | ⟨vu_9, rfl, h_vu_9⟩
        · refine tg_put (ci := 9) (ts := ty_WP) (v := .null) (ty := .object "WonderParcels$Sentence") (C := RX9) (T := TX9) (N := 15) hx hb hts inX9 tyX9 tyX9_ok nmX9 hown hK hw h_p0 rfl rfl 5 (by decide) (hts _ tw_351) (fun _ h9 => h9) rfl (by decide +kernel) rfl rfl (ft := vN 32) rfl (Or.inl rfl) (by decide) dX9_restore_53 (fun ws H locs hw n_k_10 hF9 => ?_)
          have m_u_1 := FLD.over hF9 m_u_1 (by decide)
          have m_u_3 := FLD.over hF9 m_u_3 (by decide)
          have m_u_4 := FLD.over hF9 m_u_4 (by decide)
          have m_u_6 := FLD.over hF9 m_u_6 (by decide)
          have x_IMS_p0_gdi_gdj := IMS.over hF9 x_IMS_p0_gdi_gdj (by decide)
          have x_FLP_gdi_gda_gdj_gdb := FLP.over hF9 x_FLP_gdi_gda_gdj_gdb (by decide)
          refine lv_aload_n hx hb dX9_restore_56 rfl (lv_at hl 0 rfl) ?_
          refine tg_get (ci := 9) (ts := ty_WP) (C := RX9) (T := TX9) (N := 15) hx hb hts inX9 hown hK hw h_p0 rfl rfl 3 (by decide) (hts _ tw_349) (fun _ h9 => h9) (ft := vR 27) rfl dX9_restore_57 (fun u_11 hv_u_11 m_u_11 => ?_)
          obtain ⟨vu_11, rfl, h_vu_11⟩ := hv_u_11
          refine tk_v (va_runV (As := []) (rest := []) ⟨hx, hb, hml, hown, hts⟩ (c_X1_forget l D cy z H.size Ps ws hw.1 vu_11 h_vu_11) (cwV 0 hts (gV tw_528 tw_529 tw_530 tw_13 tw_531) rfl rfl rfl (by decide +kernel) ⟨Nat.le_of_ble_eq_true rfl, Nat.le_of_ble_eq_true rfl⟩) (tg_preV hw hK hSD hA (ci := 1) (q := (RX1, TX1, 3)) rfl h_vu_11 rfl) rfl rfl hl.1 rfl (lv_room (Nat.le_of_ble_eq_true rfl)) dX9_restore_60 ⟨Nat.le_of_ble_eq_true rfl, Nat.le_of_ble_eq_true rfl⟩) hw hA ⟨by decide, by decide⟩ (fun ws H locs hp_v_12 hw hF9 => ?_)
          have m_u_1 := FLD.over hF9 m_u_1 (by decide)
          have m_u_3 := FLD.over hF9 m_u_3 (by decide)
          have m_u_4 := FLD.over hF9 m_u_4 (by decide)
          have m_u_6 := FLD.over hF9 m_u_6 (by decide)
          have m_u_11 := FLD.over hF9 m_u_11 (by decide)
          have x_IMS_p0_gdi_gdj := IMS.over hF9 x_IMS_p0_gdi_gdj (by decide)
          have x_FLP_gdi_gda_gdj_gdb := FLP.over hF9 x_FLP_gdi_gda_gdj_gdb (by decide)
          refine lv_iconst (v := 1) hx hb dX9_restore_63 (by decide) ?_
          subst hQ
          exact W.zret (v := 1) hx hb hr (rfl) (fun t ht hW => ⟨⟨1, ws, rfl, ⟨⟨rl_1.to (by decide), (fun h0 => absurd h0 (by decide)), (fun h0 => ⟨x_RS1_p1_gda_gdb, trivial⟩)⟩, hw.1, hw.2.2.2.2.1⟩, by rw [ht]; exact hw.2.1, va_K.moved hW.alike hK, hw.2.2.1⟩, hw.2.2.2.1.F ht⟩) hw.2.2.2.1.2.2 dX9_restore_64
        · refine tg_put (ci := 9) (ts := ty_WP) (v := .ref vu_9) (ty := .object "WonderParcels$Sentence") (C := RX9) (T := TX9) (N := 15) hx hb hts inX9 tyX9 tyX9_ok nmX9 hown hK hw h_p0 rfl rfl 5 (by decide) (hts _ tw_351) (fun _ h9 => h9) rfl (by decide +kernel) rfl rfl (ft := vN 32) rfl (Or.inr ⟨_, rfl, h_vu_9⟩) (by decide) dX9_restore_53 (fun ws H locs hw n_k_13 hF9 => ?_)
          have m_u_1 := FLD.over hF9 m_u_1 (by decide)
          have m_u_3 := FLD.over hF9 m_u_3 (by decide)
          have m_u_4 := FLD.over hF9 m_u_4 (by decide)
          have m_u_6 := FLD.over hF9 m_u_6 (by decide)
          have x_IMS_p0_gdi_gdj := IMS.over hF9 x_IMS_p0_gdi_gdj (by decide)
          have x_FLP_gdi_gda_gdj_gdb := FLP.over hF9 x_FLP_gdi_gda_gdj_gdb (by decide)
          refine lv_aload_n hx hb dX9_restore_56 rfl (lv_at hl 0 rfl) ?_
          refine tg_get (ci := 9) (ts := ty_WP) (C := RX9) (T := TX9) (N := 15) hx hb hts inX9 hown hK hw h_p0 rfl rfl 3 (by decide) (hts _ tw_349) (fun _ h9 => h9) (ft := vR 27) rfl dX9_restore_57 (fun u_14 hv_u_14 m_u_14 => ?_)
          obtain ⟨vu_14, rfl, h_vu_14⟩ := hv_u_14
          refine tk_v (va_runV (As := []) (rest := []) ⟨hx, hb, hml, hown, hts⟩ (c_X1_forget l D cy z H.size Ps ws hw.1 vu_14 h_vu_14) (cwV 0 hts (gV tw_528 tw_529 tw_530 tw_13 tw_531) rfl rfl rfl (by decide +kernel) ⟨Nat.le_of_ble_eq_true rfl, Nat.le_of_ble_eq_true rfl⟩) (tg_preV hw hK hSD hA (ci := 1) (q := (RX1, TX1, 3)) rfl h_vu_14 rfl) rfl rfl hl.1 rfl (lv_room (Nat.le_of_ble_eq_true rfl)) dX9_restore_60 ⟨Nat.le_of_ble_eq_true rfl, Nat.le_of_ble_eq_true rfl⟩) hw hA ⟨by decide, by decide⟩ (fun ws H locs hp_v_15 hw hF9 => ?_)
          have m_u_1 := FLD.over hF9 m_u_1 (by decide)
          have m_u_3 := FLD.over hF9 m_u_3 (by decide)
          have m_u_4 := FLD.over hF9 m_u_4 (by decide)
          have m_u_6 := FLD.over hF9 m_u_6 (by decide)
          have m_u_14 := FLD.over hF9 m_u_14 (by decide)
          have x_IMS_p0_gdi_gdj := IMS.over hF9 x_IMS_p0_gdi_gdj (by decide)
          have x_FLP_gdi_gda_gdj_gdb := FLP.over hF9 x_FLP_gdi_gda_gdj_gdb (by decide)
          refine lv_iconst (v := 1) hx hb dX9_restore_63 (by decide) ?_
          subst hQ
          exact W.zret (v := 1) hx hb hr (rfl) (fun t ht hW => ⟨⟨1, ws, rfl, ⟨⟨rl_1.to (by decide), (fun h0 => absurd h0 (by decide)), (fun h0 => ⟨x_RS1_p1_gda_gdb, trivial⟩)⟩, hw.1, hw.2.2.2.2.1⟩, by rw [ht]; exact hw.2.1, va_K.moved hW.alike hK, hw.2.2.1⟩, hw.2.2.2.1.F ht⟩) hw.2.2.2.1.2.2 dX9_restore_64
      · have r_vu_3 : RI vu_3 0 0 := rc_eq1 r_vu_3 rl_0 (ti_eq c_22) (by decide)
        have x_RS0_p1_gda_gdb : (¬ RSP p1 gda gdb) := (fun h9 => rs9.mp h9 c_22)
        refine lv_iconst (v := 0) hx hb dX9_restore_25 (by decide) ?_
        subst hQ
        exact W.zret (v := 0) hx hb hr (rfl) (fun t ht hW => ⟨⟨0, w0, rfl, ⟨⟨rl_0.to (by decide), (fun h0 => ⟨x_RS0_p1_gda_gdb, trivial⟩), (fun h0 => absurd rfl h0)⟩, hw.1, hw.2.2.2.2.1⟩, by rw [ht]; exact hw.2.1, va_K.moved hW.alike hK, hw.2.2.1⟩, hw.2.2.2.1.F ht⟩) hw.2.2.2.1.2.2 dX9_restore_26
abbrev wr_X10_image__1 : List (Nat × Nat) := [(10, 0)]
abbrev wa_X10_image__1 : List Nat := [36, 43, 44]
set_option maxHeartbeats 4000000 in
set_option maxRecDepth 100000 in
theorem c_X10_image__1 (l : Launch) (D : va_G) (cy : Nat → ClassId) (z : Nat → Nat) (sz : Nat) (Ps : PSI) (w0 : va_W) (hT : HT cy GG Ps w0) (p0 : Nat) (p1 : Int32) (gda : Int32) (gdb : Int32) (h_p0 : (p0, 55) ∈ Ps) (r_p1 : RI p1 (-2147483648) 2147483647) (x_ISA_p0_gda_gdb : AX 23 44 (fun f => f 0 = gda ∧ f 1 = gdb) Ps w0 p0) : Met l yX10_image (Cond.code yX10_image cX10_image 3 (some .boolean) :: gT) ({ frames := 2, cells := 0, slots := 0, locals := 400 } : Room) (va_Pc [.ref p0, .int p1] (PRE D cy z w0 sz)) (va_Qi (fun (r : Int32) (u : va_W) => (RI r 0 1 ∧ (r = 0 → True) ∧ (¬ r = 0 → True) ∧ (AX 23 44 (fun f => f 0 = sf p1 0 gda ∧ f 1 = sf p1 1 gdb) Ps u p0 ∧ True) ∧ (r.toInt < 0 → True) ∧ (0 ≤ r.toInt → True)) ∧ HT cy GG Ps u ∧ FR wr_X10_image__1 wa_X10_image__1 Ps w0 u) (BB D cy (va_A w0 sz) (fun (u : va_W) => u)) (va_A w0 sz)) 0 0 (va_A w0 sz) := by
  refine Met.ofW (cc := cX10_image) (maxL := 3) (ret := (some .boolean)) (by decide) rfl ?_
  intro p e s m args below meth c s₁ B hml hv
  obtain ⟨rfl, hsz, hP, hK, hD0, hSD⟩ := hv
  have hx := B.exec
  have hb := B.bytes
  have hr := B.returns
  have hlocks := B.notSynchronized
  have hts : ∀ w ∈ gT, w.before _ s = true := fun w h => atoms_spec (ws := Cond.code yX10_image cX10_image 3 (some .boolean) :: gT) B.pre w (List.mem_cons_of_mem _ h)
  have hown : s.vm.findClass RX10 = some m.cls := findClass_of_methodNamed B.named
  subst hsz
  have hD := hD0.self (sz := s.heap.size)
  generalize hAe : va_A w0 s.heap.size = A at hD hSD ⊢
  have hA : ∀ q : Nat, s.heap.size ≤ q → A q := fun q h => by rw [← hAe]; exact Or.inr h
  have hl := lv_entry ([.ref p0, .int p1]) (n := 3) (Nat.le_of_ble_eq_true rfl)
  rw [lg_entry_eq]
  generalize (lg_sl ([.ref p0, .int p1]) ++ List.replicate (3 - (lg_sl ([.ref p0, .int p1])).length) Slot.unset).toArray = ls at hl ⊢
  have hl : lv_has ls 3 [(0, .ref p0), (1, .int p1)] := hl
  refine nameQ (fun Q hQ => ?_)
  have hw : WD D cy GG A s wr_X10_image__1 wa_X10_image__1 Ps w0 Ps w0 s.heap [] := ⟨hT, hP, hD, va_S.rf, FR.rf, hT.1, [], (List.append_nil _).symm⟩
  have B51 : ∀ (nf : Nat) (x2 : Int32) (z0_0 : Int32) (ws : va_W) (H : Heap) (locs : List Loc) (ls : Array Slot), 24 - x2.toInt < (nf : Int) → RI p1 0 1 → RI x2 0 24 → RI z0_0 0 0 → FLD ws p0 10 0 (.int z0_0) → (0 ≤ Int32.toInt p1 ∧ Int32.toInt p1 ≤ 1) → AX 23 44 (fun f => f 0 = gda ∧ f 1 = gdb) Ps ws p0 → WD D cy GG A s wr_X10_image__1 wa_X10_image__1 Ps w0 Ps ws H locs → lv_has ls 3 [(0, .ref p0), (1, .int p1), (2, .int x2)] → W p l e (headSpec (Cond.code yX10_image cX10_image 3 (some .boolean) :: gT) ({ frames := 2, cells := 0, slots := 0, locals := 400 } : Room)).room s m ([.ref p0, .int p1] : List Value).toArray below meth c H locs 0 0 Q (F0 m 51 ls []) := by
    intro nf51
    induction nf51 with
    | zero =>
      intro x2 z0_0 ws H locs ls hn51 r_p1 r_x2 r_z0_0 m_z0_0 x_IMG1_p1 x_ISA_p0_gda_gdb hw hl
      exact absurd hn51 (by have q0 := r_x2.1; have u0 := r_x2.2; omega)
    | succ nf51 ih51 =>
      intro x2 z0_0 ws H locs ls hn51 r_p1 r_x2 r_z0_0 m_z0_0 x_IMG1_p1 x_ISA_p0_gda_gdb hw hl
      refine lv_iload_n hx hb dX10_image_51 rfl (lv_at hl 2 rfl) ?_
      refine lv_bipush (v := 24) hx hb dX10_image_52 (by decide) ?_
      refine lv_icmp_ge (tgt := 80) hx hb dX10_image_54 (by decide) (fun c_54 => ?_) (fun c_54 => ?_)
      · have r_x2 : RI x2 24 24 := rc_le2 rl_24 r_x2 (ti_le c_54) (by decide)
        refine lv_aload_n hx hb dX10_image_80 rfl (lv_at hl 0 rfl) ?_
        refine tg_get (ci := 10) (ts := ty_MODEL) (C := RX10) (T := TX10) (N := 49) hx hb hts inX10 hown hK hw h_p0 rfl rfl 23 (by decide) (hts _ tw_1160) (fun _ h9 => h9) (ft := vR 44) rfl dX10_image_81 (fun u_1 hv_u_1 m_u_1 => ?_)
        obtain ⟨vu_1, rfl, h_vu_1⟩ := hv_u_1
        refine lv_iload_n hx hb dX10_image_84 rfl (lv_at hl 1 rfl) ?_
        refine lv_iconst (v := 1) hx hb dX10_image_85 (by decide) ?_
        refine tg_zastE hx hb hK hw h_vu_1 rfl 0 1 r_p1 (by decide) (by decide) dX10_image_86 (fun ws H locs hw hF9 hU9 => ?_)
        have x_ISI_p0_p1_gda_gdb : AX 23 44 (fun f => f 0 = sf p1 0 gda ∧ f 1 = sf p1 1 gdb) Ps ws p0 := AX.ast hF9 hU9 x_ISA_p0_gda_gdb m_u_1 (fun f9 h9 => sk_upd (r_p1.to (by decide)) h9)
        have m_z0_0 := FLD.over hF9 m_z0_0 (by decide)
        have m_u_1 := FLD.over hF9 m_u_1 (by decide)
        refine lv_iconst (v := 1) hx hb dX10_image_87 (by decide) ?_
        subst hQ
        exact W.zret (v := 1) hx hb hr (rfl) (fun t ht hW => ⟨⟨1, ws, rfl, ⟨⟨rl_1.to (by decide), (fun _ => trivial), (fun h0 => trivial), ⟨x_ISI_p0_p1_gda_gdb, trivial⟩, (fun _ => trivial), (fun _ => trivial)⟩, hw.1, hw.2.2.2.2.1⟩, by rw [ht]; exact hw.2.1, va_K.moved hW.alike hK, hw.2.2.1⟩, hw.2.2.2.1.F ht⟩) hw.2.2.2.1.2.2 dX10_image_88
      · have r_x2 : RI x2 0 23 := rc_lt1 r_x2 rl_24 (ti_nle c_54) (by decide)
        refine lv_aload_n hx hb dX10_image_57 rfl (lv_at hl 0 rfl) ?_
        refine tg_get (ci := 10) (ts := ty_MODEL) (C := RX10) (T := TX10) (N := 49) hx hb hts inX10 hown hK hw h_p0 rfl rfl 22 (by decide) (hts _ tw_1159) (fun _ h9 => h9) (ft := vR 43) rfl dX10_image_58 (fun u_2 hv_u_2 m_u_2 => ?_)
        obtain ⟨vu_2, rfl, h_vu_2⟩ := hv_u_2
        refine lv_bipush (v := 24) hx hb dX10_image_61 (by decide) ?_
        refine lv_iload_n hx hb dX10_image_63 rfl (lv_at hl 1 rfl) ?_
        refine lv_imul hx hb dX10_image_64 (lv_topi (fun v_3 e_v_3 => ?_))
        obtain ⟨t_v_3, r_v_3⟩ := tq_mul (lo := 0) (hi := 24) rl_24 r_p1 (by decide +kernel) e_v_3
        have t_v_3 : v_3.toInt = 24 * p1.toInt := t_v_3
        refine lv_iload_n hx hb dX10_image_65 rfl (lv_at hl 2 rfl) ?_
        refine lv_iadd hx hb dX10_image_66 (lv_topi (fun v_4 e_v_4 => ?_))
        obtain ⟨t_v_4, r_v_4⟩ := tq_add (lo := 0) (hi := 47) r_v_3 r_x2 (by decide +kernel) e_v_4
        refine lv_aload_n hx hb dX10_image_67 rfl (lv_at hl 0 rfl) ?_
        refine tg_get (ci := 10) (ts := ty_MODEL) (C := RX10) (T := TX10) (N := 49) hx hb hts inX10 hown hK hw h_p0 rfl rfl 20 (by decide) (hts _ tw_1157) (fun _ h9 => h9) (ft := vR 41) rfl dX10_image_68 (fun u_5 hv_u_5 m_u_5 => ?_)
        obtain ⟨vu_5, rfl, h_vu_5⟩ := hv_u_5
        refine lv_iload_n hx hb dX10_image_71 rfl (lv_at hl 2 rfl) ?_
        refine tg_lald hx hb hK hw h_vu_5 rfl r_x2 (by decide) dX10_image_72 (fun w_6 r_w_6 => ?_)
        refine tg_last hx hb hK hw h_vu_2 rfl r_v_4 (by decide) r_w_6 (by decide) (by decide) dX10_image_73 (fun ws H locs hw hF9 => ?_)
        have x_ISA_p0_gda_gdb := AX.over hF9 x_ISA_p0_gda_gdb (by decide)
        have m_z0_0 := FLD.over hF9 m_z0_0 (by decide)
        have m_u_2 := FLD.over hF9 m_u_2 (by decide)
        have m_u_5 := FLD.over hF9 m_u_5 (by decide)
        obtain ⟨v_7, e_v_7⟩ : ∃ q9 : Int32, q9 = x2 + Int32.ofInt 1 := ⟨_, rfl⟩
        obtain ⟨t_v_7, r_v_7⟩ := tq_add (lo := 1) (hi := 24) r_x2 (show RI (Int32.ofInt 1) 1 1 by unfold RI; decide +kernel) (by decide +kernel) e_v_7
        have t_v_7 : v_7.toInt = x2.toInt + 1 := t_v_7
        refine lv_iinc (v := v_7) (lv' := [(2, .int v_7), (0, .ref p0), (1, .int p1)]) hx hb dX10_image_74 hl (k := 2) rfl e_v_7.symm (by decide) rfl (fun ls hl => ?_)
        refine lv_goto (tgt := 51) hx hb dX10_image_77 (by decide) ?_
        exact ih51 v_7 z0_0 ws _ _ ls (by have q0 := r_v_7.1; have u0 := r_v_7.2; have o0 := r_x2.1; have p0 := r_x2.2; omega) r_p1 (r_v_7.to (by decide)) r_z0_0 m_z0_0 x_IMG1_p1 x_ISA_p0_gda_gdb hw (lv_sub hl [1, 2, 0] rfl)
  have B18 : ∀ (nf : Nat) (x2 : Int32) (z0_0 : Int32) (za16 : Nat) (za14 : Nat) (ws : va_W) (H : Heap) (locs : List Loc) (ls : Array Slot), 414 - x2.toInt < (nf : Int) → RI p1 0 1 → RI x2 0 414 → RI z0_0 0 0 → FLD ws p0 10 0 (.int z0_0) → (0 ≤ Int32.toInt p1 ∧ Int32.toInt p1 ≤ 1) → AX 23 44 (fun f => f 0 = gda ∧ f 1 = gdb) Ps ws p0 → (za16, 36) ∈ Ps → FLD ws p0 10 16 (.ref za16) → (za14, 34) ∈ Ps → FLD ws p0 10 14 (.ref za14) → AX2 16 36 14 34 (fun f g => CIp p1 x2 f g) Ps ws p0 → WD D cy (GX za16) A s wr_X10_image__1 wa_X10_image__1 Ps w0 Ps ws H locs → lv_has ls 3 [(0, .ref p0), (1, .int p1), (2, .int x2)] → W p l e (headSpec (Cond.code yX10_image cX10_image 3 (some .boolean) :: gT) ({ frames := 2, cells := 0, slots := 0, locals := 400 } : Room)).room s m ([.ref p0, .int p1] : List Value).toArray below meth c H locs 0 0 Q (F0 m 18 ls []) := by
    intro nf18
    induction nf18 with
    | zero =>
      intro x2 z0_0 za16 za14 ws H locs ls hn18 r_p1 r_x2 r_z0_0 m_z0_0 x_IMG1_p1 x_ISA_p0_gda_gdb h_za16 m_za16 h_za14 m_za14 x_CIM_p0_p1__2 hw hl
      exact absurd hn18 (by have q0 := r_x2.1; have u0 := r_x2.2; omega)
    | succ nf18 ih18 =>
      intro x2 z0_0 za16 za14 ws H locs ls hn18 r_p1 r_x2 r_z0_0 m_z0_0 x_IMG1_p1 x_ISA_p0_gda_gdb h_za16 m_za16 h_za14 m_za14 x_CIM_p0_p1__2 hw hl
      refine lv_iload_n hx hb dX10_image_18 rfl (lv_at hl 2 rfl) ?_
      refine lv_sipush (v := 414) hx hb dX10_image_19 (by decide) ?_
      refine lv_icmp_ge (tgt := 49) hx hb dX10_image_22 (by decide) (fun c_22 => ?_) (fun c_22 => ?_)
      · have r_x2 : RI x2 414 414 := rc_le2 rl_414 r_x2 (ti_le c_22) (by decide)
        have hw := WD.back hw h_za16 rfl (fun f9 q9 => by obtain ⟨g9, e9⟩ := AX2.arr hw x_CIM_p0_p1__2 m_za16 f9 q9; exact CI_end e9 (r_p1.to (by decide)) (r_x2.to (by decide)))
        refine lv_iconst (v := 0) hx hb dX10_image_49 (by decide) ?_
        refine lv_istore_n (lv' := [(2, .int 0), (0, .ref p0), (1, .int p1)]) hx hb dX10_image_50 rfl hl (by decide) rfl (fun ls hl => ?_)
        exact B51 4294967298 0 z0_0 ws _ _ ls (by have q0 := rl_0.1; have u0 := rl_0.2; omega) r_p1 (rl_0.to (by decide)) r_z0_0 m_z0_0 x_IMG1_p1 x_ISA_p0_gda_gdb hw (lv_sub hl [1, 2, 0] rfl)
      · have r_x2 : RI x2 0 413 := rc_lt1 r_x2 rl_414 (ti_nle c_22) (by decide)
        refine lv_aload_n hx hb dX10_image_25 rfl (lv_at hl 0 rfl) ?_
        refine tg_mem (ci := 10) (C := RX10) (T := TX10) (N := 49) hx hb hts inX10 hown hK hw 16 m_za16 rfl (by decide) (hts _ tw_1153) (fun _ h9 => h9) dX10_image_26 ?_
        refine lv_sipush (v := 414) hx hb dX10_image_29 (by decide) ?_
        refine lv_iload_n hx hb dX10_image_32 rfl (lv_at hl 1 rfl) ?_
        refine lv_imul hx hb dX10_image_33 (lv_topi (fun v_8 e_v_8 => ?_))
        obtain ⟨t_v_8, r_v_8⟩ := tq_mul (lo := 0) (hi := 414) rl_414 r_p1 (by decide +kernel) e_v_8
        have t_v_8 : v_8.toInt = 414 * p1.toInt := t_v_8
        refine lv_iload_n hx hb dX10_image_34 rfl (lv_at hl 2 rfl) ?_
        refine lv_iadd hx hb dX10_image_35 (lv_topi (fun v_9 e_v_9 => ?_))
        obtain ⟨t_v_9, r_v_9⟩ := tq_add (lo := 0) (hi := 827) r_v_8 r_x2 (by decide +kernel) e_v_9
        refine lv_aload_n hx hb dX10_image_36 rfl (lv_at hl 0 rfl) ?_
        refine tg_mem (ci := 10) (C := RX10) (T := TX10) (N := 49) hx hb hts inX10 hown hK hw 14 m_za14 rfl (by decide) (hts _ tw_1151) (fun _ h9 => h9) dX10_image_37 ?_
        refine lv_iload_n hx hb dX10_image_40 rfl (lv_at hl 2 rfl) ?_
        refine tg_iald (lo := (-2147483648)) (hi := 2147483647) hx hb hK hw h_za14 rfl 0 413 r_x2 (by decide) (by decide +kernel) dX10_image_41 (fun v_10 r_v_10 m_v_10 o_v_10 => ?_)
        have x_CIMV_p0_p1_x2_x2_v_10 : AX2 16 36 14 34 (fun f g => CIp p1 x2 f g ∧ g (Int32.toNatClampNeg x2) = v_10) Ps ws p0 := AX2.el hw x_CIM_p0_p1__2 m_za14 m_v_10
        have hw8 := hw
        have e_11 : x2.toNatClampNeg = v_9.toNatClampNeg % 414 := by have k1 := r_x2.cl (by decide); have k2 := r_v_9.cl (by decide); have b10 := r_p1.1; have b20 := r_p1.2; have b11 := r_x2.1; have b21 := r_x2.2; have b12 := r_z0_0.1; have b22 := r_z0_0.2; have b13 := r_v_8.1; have b23 := r_v_8.2; have b14 := r_v_9.1; have b24 := r_v_9.2; have b15 := r_v_10.1; have b25 := r_v_10.2; omega
        refine tg_iasto hx hb hK hw h_za16 rfl 0 827 r_v_9 (by decide) (show RI _ (canon (v_9.toNatClampNeg % 414)).1 (canon (v_9.toNatClampNeg % 414)).2 by rw [← e_11]; exact o_v_10) (fun _ _ _ _ _ => Or.inl rfl) (by decide) dX10_image_42 (fun ws H locs hw hF9 hU9 => ?_)
        have x_CIMT_p0_p1_x2 : AX2 16 36 14 34 (fun f g => ∀ k9 : Int32, k9.toInt = Int32.toInt x2 + 1 → CIp p1 k9 f g) Ps ws p0 := AX2.ast hF9 hU9 x_CIMV_p0_p1_x2_x2_v_10 m_za16 (by decide) (fun f9 g9 h9 => fun k9 e9 => CI_step h9 (r_p1.to (by decide)) (r_x2.to (by decide)) rfl e9 (by have k1 := t_v_9; omega))
        have m_v_10 := AEL.over hw8 hF9 h_za14 m_v_10 (by decide)
        have x_ISA_p0_gda_gdb := AX.over hF9 x_ISA_p0_gda_gdb (by decide)
        have m_z0_0 := FLD.over hF9 m_z0_0 (by decide)
        have m_za16 := FLD.over hF9 m_za16 (by decide)
        have m_za14 := FLD.over hF9 m_za14 (by decide)
        obtain ⟨v_12, e_v_12⟩ : ∃ q9 : Int32, q9 = x2 + Int32.ofInt 1 := ⟨_, rfl⟩
        obtain ⟨t_v_12, r_v_12⟩ := tq_add (lo := 1) (hi := 414) r_x2 (show RI (Int32.ofInt 1) 1 1 by unfold RI; decide +kernel) (by decide +kernel) e_v_12
        have t_v_12 : v_12.toInt = x2.toInt + 1 := t_v_12
        refine lv_iinc (v := v_12) (lv' := [(2, .int v_12), (0, .ref p0), (1, .int p1)]) hx hb dX10_image_43 hl (k := 2) rfl e_v_12.symm (by decide) rfl (fun ls hl => ?_)
        refine lv_goto (tgt := 18) hx hb dX10_image_46 (by decide) ?_
        have x_CIM_p0_p1_v_12 : AX2 16 36 14 34 (fun f g => CIp p1 v_12 f g) Ps ws p0 := AX2.imp x_CIMT_p0_p1_x2 (fun f9 g9 h9 => h9 _ t_v_12)
        exact ih18 v_12 z0_0 za16 za14 ws _ _ ls (by have q0 := r_v_12.1; have u0 := r_v_12.2; have o0 := r_x2.1; have p0 := r_x2.2; omega) r_p1 (r_v_12.to (by decide)) r_z0_0 m_z0_0 x_IMG1_p1 x_ISA_p0_gda_gdb h_za16 m_za16 h_za14 m_za14 x_CIM_p0_p1_v_12 hw (lv_sub hl [1, 2, 0] rfl)
  refine lv_aload_n hx hb dX10_image_0 rfl (lv_at hl 0 rfl) ?_
  refine lv_iconst (v := 0) hx hb dX10_image_1 (by decide) ?_
  refine tg_put (ci := 10) (ts := ty_MODEL) (v := .int 0) (ty := .int) (C := RX10) (T := TX10) (N := 49) hx hb hts inX10 tyX10 tyX10_ok nmX10 hown hK hw h_p0 rfl rfl 0 (by decide) (hts _ tw_1137) (fun _ h9 => h9) rfl (by decide +kernel) rfl rfl (ft := vI (-2147483648) 2147483647) rfl ⟨_, rfl, (rl_0.to (by decide))⟩ (by decide) dX10_image_2 (fun ws H locs hw n_k_13 hF9 => ?_)
  have x_ISA_p0_gda_gdb := AX.over hF9 x_ISA_p0_gda_gdb (by decide)
  refine lv_iload_n hx hb dX10_image_5 rfl (lv_at hl 1 rfl) ?_
  refine lv_iconst (v := 0) hx hb dX10_image_6 (by decide) ?_
  refine lv_iconst (v := 1) hx hb dX10_image_7 (by decide) ?_
  refine tk_ir (va_runS (As := [.int p1, .int 0, .int 1]) (rest := []) ⟨hx, hb, hml, hown, hts⟩ (c_X10_isIn__12 l D cy z H.size Ps ws hw.1 p1 0 1 r_p1 rl_0 rl_1) (va_cwS 3 hts (gS tw_1359 tw_1360 tw_15 tw_1361) rfl rfl rfl (by decide +kernel) ⟨Nat.le_of_ble_eq_true rfl, Nat.le_of_ble_eq_true rfl⟩) (tg_preS hw hK hSD hA) rfl rfl hl.1 rfl (lv_room (Nat.le_of_ble_eq_true rfl)) dX10_image_8 ⟨Nat.le_of_ble_eq_true rfl, Nat.le_of_ble_eq_true rfl⟩) hw hA (fun v_14  H locs hp_v_14 hw => ?_)
  have r_v_14 : RI v_14 0 1 := hp_v_14.1
  by_cases c9_v_14 : v_14 = 0
  · have r_v_14 : RI v_14 0 0 := by rw [c9_v_14]; exact rl_0
    have x_IMG0_p1 := ((hp_v_14.2.1 c9_v_14).1)
    refine lv_if_ne (tgt := 16) hx hb dX10_image_11 (by decide) (fun c_11 => ?_) (fun c_11 => ?_)
    · exact absurd (r_v_14.eq.trans rl_0.eq.symm) ((ti_ne c_11))
    · have x_ISI_p0_p1_gda_gdb : AX 23 44 (fun f => f 0 = sf p1 0 gda ∧ f 1 = sf p1 1 gdb) Ps ws p0 := AX.imp x_ISA_p0_gda_gdb (fun f9 h9 => ⟨by rw [sf_ne (n := 0) (by have k1 := x_IMG0_p1; omega)]; exact h9.1, by rw [sf_ne (n := 1) (by have k1 := x_IMG0_p1; omega)]; exact h9.2⟩)
      refine lv_iconst (v := 0) hx hb dX10_image_14 (by decide) ?_
      subst hQ
      exact W.zret (v := 0) hx hb hr (rfl) (fun t ht hW => ⟨⟨0, ws, rfl, ⟨⟨rl_0.to (by decide), (fun h0 => trivial), (fun _ => trivial), ⟨x_ISI_p0_p1_gda_gdb, trivial⟩, (fun _ => trivial), (fun _ => trivial)⟩, hw.1, hw.2.2.2.2.1⟩, by rw [ht]; exact hw.2.1, va_K.moved hW.alike hK, hw.2.2.1⟩, hw.2.2.2.1.F ht⟩) hw.2.2.2.1.2.2 dX10_image_15
  · have r_v_14 : RI v_14 1 1 := rc_neL r_v_14 rl_0 (ti_ne c9_v_14) (by decide)
    have r_p1 : RI p1 0 1 := ((hp_v_14.2.2 c9_v_14).1)
    have x_IMG1_p1 := ((hp_v_14.2.2 c9_v_14).2.1)
    refine lv_if_ne (tgt := 16) hx hb dX10_image_11 (by decide) (fun c_11 => ?_) (fun c_11 => ?_)
    · have x_IMG1_p1 : (0 ≤ Int32.toInt p1 ∧ Int32.toInt p1 ≤ 1) := by have k1 := r_p1.1; have k2 := r_p1.2; omega
      refine lv_iconst (v := 0) hx hb dX10_image_16 (by decide) ?_
      refine lv_istore_n (lv' := [(2, .int 0), (0, .ref p0), (1, .int p1)]) hx hb dX10_image_17 rfl hl (by decide) rfl (fun ls hl => ?_)
      obtain ⟨b_15, m_b_15, h_b_15⟩ := tg_fldR (k := 16) (ci := 10) (ts := ty_MODEL) (u := 36) hw h_p0 rfl rfl
      obtain ⟨b_16, m_b_16, h_b_16⟩ := tg_fldR (k := 14) (ci := 10) (ts := ty_MODEL) (u := 34) hw h_p0 rfl rfl
      have x_CIM_p0_p1_0 : AX2 16 36 14 34 (fun f g => CIp p1 0 f g) Ps ws p0 := AX2.imp (AX.two (ax_of (k := 16) (t := 36) hw h_p0 rfl (fun _ => rfl)) (ax_of (k := 14) (t := 34) hw h_p0 rfl (fun _ => rfl))) (fun f9 g9 h9 => ⟨h9.2.1, ⟨fun _ => h9.1.1.2, fun _ => h9.1.1.1⟩, fun j9 q9 => absurd q9 (by rw [Int32.toInt_zero]; omega)⟩)
      have hw := WD.weak b_15 hw
      exact B18 4294967298 0 0 b_15 b_16 ws _ _ ls (by have q0 := rl_0.1; have u0 := rl_0.2; omega) r_p1 (rl_0.to (by decide)) rl_0 n_k_13 x_IMG1_p1 x_ISA_p0_gda_gdb h_b_15 m_b_15 h_b_16 m_b_16 x_CIM_p0_p1_0 hw (lv_sub hl [1, 2, 0] rfl)
    · have r_v_14 : RI v_14 1 0 := rc_eq1 r_v_14 rl_0 (ti_eq c_11) (by decide)
      exact (r_v_14.no (by decide)).elim
abbrev wr_X10_restore__1 : List (Nat × Nat) := [(10, 0), (10, 25)]
abbrev wa_X10_restore__1 : List Nat := [34, 41]
set_option maxHeartbeats 4000000 in
set_option maxRecDepth 100000 in
theorem c_X10_restore__1 (l : Launch) (D : va_G) (cy : Nat → ClassId) (z : Nat → Nat) (sz : Nat) (Ps : PSI) (w0 : va_W) (hT : HT cy GG Ps w0) (p0 : Nat) (p1 : Int32) (gda : Int32) (gdb : Int32) (h_p0 : (p0, 55) ∈ Ps) (r_p1 : RI p1 (-2147483648) 2147483647) (x_ISA_p0_gda_gdb : AX 23 44 (fun f => f 0 = gda ∧ f 1 = gdb) Ps w0 p0) : Met l yX10_restore (Cond.code yX10_restore cX10_restore 3 (some .boolean) :: gT) ({ frames := 2, cells := 0, slots := 0, locals := 400 } : Room) (va_Pc [.ref p0, .int p1] (PRE D cy z w0 sz)) (va_Qi (fun (r : Int32) (u : va_W) => (RI r 0 1 ∧ (r = 0 → (¬ RSP p1 gda gdb) ∧ True) ∧ (¬ r = 0 → RSP p1 gda gdb ∧ True)) ∧ HT cy GG Ps u ∧ FR wr_X10_restore__1 wa_X10_restore__1 Ps w0 u) (BB D cy (va_A w0 sz) (fun (u : va_W) => u)) (va_A w0 sz)) 0 0 (va_A w0 sz) := by
  refine Met.ofW (cc := cX10_restore) (maxL := 3) (ret := (some .boolean)) (by decide) rfl ?_
  intro p e s m args below meth c s₁ B hml hv
  obtain ⟨rfl, hsz, hP, hK, hD0, hSD⟩ := hv
  have hx := B.exec
  have hb := B.bytes
  have hr := B.returns
  have hlocks := B.notSynchronized
  have hts : ∀ w ∈ gT, w.before _ s = true := fun w h => atoms_spec (ws := Cond.code yX10_restore cX10_restore 3 (some .boolean) :: gT) B.pre w (List.mem_cons_of_mem _ h)
  have hown : s.vm.findClass RX10 = some m.cls := findClass_of_methodNamed B.named
  subst hsz
  have hD := hD0.self (sz := s.heap.size)
  generalize hAe : va_A w0 s.heap.size = A at hD hSD ⊢
  have hA : ∀ q : Nat, s.heap.size ≤ q → A q := fun q h => by rw [← hAe]; exact Or.inr h
  have hl := lv_entry ([.ref p0, .int p1]) (n := 3) (Nat.le_of_ble_eq_true rfl)
  rw [lg_entry_eq]
  generalize (lg_sl ([.ref p0, .int p1]) ++ List.replicate (3 - (lg_sl ([.ref p0, .int p1])).length) Slot.unset).toArray = ls at hl ⊢
  have hl : lv_has ls 3 [(0, .ref p0), (1, .int p1)] := hl
  refine nameQ (fun Q hQ => ?_)
  have hw : WD D cy GG A s wr_X10_restore__1 wa_X10_restore__1 Ps w0 Ps w0 s.heap [] := ⟨hT, hP, hD, va_S.rf, FR.rf, hT.1, [], (List.append_nil _).symm⟩
  have B60 : ∀ (nf : Nat) (x2 : Int32) (z0_0 : Int32) (ws : va_W) (H : Heap) (locs : List Loc) (ls : Array Slot), 24 - x2.toInt < (nf : Int) → RI p1 0 1 → RI x2 0 24 → RI z0_0 0 0 → FLD ws p0 10 0 (.int z0_0) → (0 ≤ Int32.toInt p1 ∧ Int32.toInt p1 ≤ 1) → AX 23 44 (fun f => f 0 = gda ∧ f 1 = gdb) Ps ws p0 → RSP p1 gda gdb → WD D cy GG A s wr_X10_restore__1 wa_X10_restore__1 Ps w0 Ps ws H locs → lv_has ls 3 [(0, .ref p0), (1, .int p1), (2, .int x2)] → W p l e (headSpec (Cond.code yX10_restore cX10_restore 3 (some .boolean) :: gT) ({ frames := 2, cells := 0, slots := 0, locals := 400 } : Room)).room s m ([.ref p0, .int p1] : List Value).toArray below meth c H locs 0 0 Q (F0 m 60 ls []) := by
    intro nf60
    induction nf60 with
    | zero =>
      intro x2 z0_0 ws H locs ls hn60 r_p1 r_x2 r_z0_0 m_z0_0 x_IMG1_p1 x_ISA_p0_gda_gdb x_RS1_p1_gda_gdb hw hl
      exact absurd hn60 (by have q0 := r_x2.1; have u0 := r_x2.2; omega)
    | succ nf60 ih60 =>
      intro x2 z0_0 ws H locs ls hn60 r_p1 r_x2 r_z0_0 m_z0_0 x_IMG1_p1 x_ISA_p0_gda_gdb x_RS1_p1_gda_gdb hw hl
      refine lv_iload_n hx hb dX10_restore_60 rfl (lv_at hl 2 rfl) ?_
      refine lv_bipush (v := 24) hx hb dX10_restore_61 (by decide) ?_
      refine lv_icmp_ge (tgt := 89) hx hb dX10_restore_63 (by decide) (fun c_63 => ?_) (fun c_63 => ?_)
      · have r_x2 : RI x2 24 24 := rc_le2 rl_24 r_x2 (ti_le c_63) (by decide)
        refine lv_aload_n hx hb dX10_restore_89 rfl (lv_at hl 0 rfl) ?_
        refine lv_iconst (v := 0) hx hb dX10_restore_90 (by decide) ?_
        refine tg_put (ci := 10) (ts := ty_MODEL) (v := .int 0) (ty := .int) (C := RX10) (T := TX10) (N := 49) hx hb hts inX10 tyX10 tyX10_ok nmX10 hown hK hw h_p0 rfl rfl 25 (by decide) (hts _ tw_1162) (fun _ h9 => h9) rfl (by decide +kernel) rfl rfl (ft := vI 0 8) rfl ⟨_, rfl, (rl_0.to (by decide))⟩ (by decide) dX10_restore_91 (fun ws H locs hw n_k_1 hF9 => ?_)
        have m_z0_0 := FLD.over hF9 m_z0_0 (by decide)
        have x_ISA_p0_gda_gdb := AX.over hF9 x_ISA_p0_gda_gdb (by decide)
        refine lv_iconst (v := 1) hx hb dX10_restore_94 (by decide) ?_
        subst hQ
        exact W.zret (v := 1) hx hb hr (rfl) (fun t ht hW => ⟨⟨1, ws, rfl, ⟨⟨rl_1.to (by decide), (fun h0 => absurd h0 (by decide)), (fun h0 => ⟨x_RS1_p1_gda_gdb, trivial⟩)⟩, hw.1, hw.2.2.2.2.1⟩, by rw [ht]; exact hw.2.1, va_K.moved hW.alike hK, hw.2.2.1⟩, hw.2.2.2.1.F ht⟩) hw.2.2.2.1.2.2 dX10_restore_95
      · have r_x2 : RI x2 0 23 := rc_lt1 r_x2 rl_24 (ti_nle c_63) (by decide)
        refine lv_aload_n hx hb dX10_restore_66 rfl (lv_at hl 0 rfl) ?_
        refine tg_get (ci := 10) (ts := ty_MODEL) (C := RX10) (T := TX10) (N := 49) hx hb hts inX10 hown hK hw h_p0 rfl rfl 20 (by decide) (hts _ tw_1157) (fun _ h9 => h9) (ft := vR 41) rfl dX10_restore_67 (fun u_2 hv_u_2 m_u_2 => ?_)
        obtain ⟨vu_2, rfl, h_vu_2⟩ := hv_u_2
        refine lv_iload_n hx hb dX10_restore_70 rfl (lv_at hl 2 rfl) ?_
        refine lv_aload_n hx hb dX10_restore_71 rfl (lv_at hl 0 rfl) ?_
        refine tg_get (ci := 10) (ts := ty_MODEL) (C := RX10) (T := TX10) (N := 49) hx hb hts inX10 hown hK hw h_p0 rfl rfl 22 (by decide) (hts _ tw_1159) (fun _ h9 => h9) (ft := vR 43) rfl dX10_restore_72 (fun u_3 hv_u_3 m_u_3 => ?_)
        obtain ⟨vu_3, rfl, h_vu_3⟩ := hv_u_3
        refine lv_bipush (v := 24) hx hb dX10_restore_75 (by decide) ?_
        refine lv_iload_n hx hb dX10_restore_77 rfl (lv_at hl 1 rfl) ?_
        refine lv_imul hx hb dX10_restore_78 (lv_topi (fun v_4 e_v_4 => ?_))
        obtain ⟨t_v_4, r_v_4⟩ := tq_mul (lo := 0) (hi := 24) rl_24 r_p1 (by decide +kernel) e_v_4
        have t_v_4 : v_4.toInt = 24 * p1.toInt := t_v_4
        refine lv_iload_n hx hb dX10_restore_79 rfl (lv_at hl 2 rfl) ?_
        refine lv_iadd hx hb dX10_restore_80 (lv_topi (fun v_5 e_v_5 => ?_))
        obtain ⟨t_v_5, r_v_5⟩ := tq_add (lo := 0) (hi := 47) r_v_4 r_x2 (by decide +kernel) e_v_5
        refine tg_lald hx hb hK hw h_vu_3 rfl r_v_5 (by decide) dX10_restore_81 (fun w_6 r_w_6 => ?_)
        refine tg_last hx hb hK hw h_vu_2 rfl r_x2 (by decide) r_w_6 (by decide) (by decide) dX10_restore_82 (fun ws H locs hw hF9 => ?_)
        have x_ISA_p0_gda_gdb := AX.over hF9 x_ISA_p0_gda_gdb (by decide)
        have m_z0_0 := FLD.over hF9 m_z0_0 (by decide)
        have m_u_2 := FLD.over hF9 m_u_2 (by decide)
        have m_u_3 := FLD.over hF9 m_u_3 (by decide)
        obtain ⟨v_7, e_v_7⟩ : ∃ q9 : Int32, q9 = x2 + Int32.ofInt 1 := ⟨_, rfl⟩
        obtain ⟨t_v_7, r_v_7⟩ := tq_add (lo := 1) (hi := 24) r_x2 (show RI (Int32.ofInt 1) 1 1 by unfold RI; decide +kernel) (by decide +kernel) e_v_7
        have t_v_7 : v_7.toInt = x2.toInt + 1 := t_v_7
        refine lv_iinc (v := v_7) (lv' := [(2, .int v_7), (0, .ref p0), (1, .int p1)]) hx hb dX10_restore_83 hl (k := 2) rfl e_v_7.symm (by decide) rfl (fun ls hl => ?_)
        refine lv_goto (tgt := 60) hx hb dX10_restore_86 (by decide) ?_
        exact ih60 v_7 z0_0 ws _ _ ls (by have q0 := r_v_7.1; have u0 := r_v_7.2; have o0 := r_x2.1; have p0 := r_x2.2; omega) r_p1 (r_v_7.to (by decide)) r_z0_0 m_z0_0 x_IMG1_p1 x_ISA_p0_gda_gdb x_RS1_p1_gda_gdb hw (lv_sub hl [1, 2, 0] rfl)
  have B27 : ∀ (nf : Nat) (x2 : Int32) (z0_0 : Int32) (za14 : Nat) (za16 : Nat) (ws : va_W) (H : Heap) (locs : List Loc) (ls : Array Slot), 414 - x2.toInt < (nf : Int) → RI p1 0 1 → RI x2 0 414 → RI z0_0 0 0 → FLD ws p0 10 0 (.int z0_0) → (0 ≤ Int32.toInt p1 ∧ Int32.toInt p1 ≤ 1) → AX 23 44 (fun f => f 0 = gda ∧ f 1 = gdb) Ps ws p0 → RSP p1 gda gdb → (za14, 34) ∈ Ps → FLD ws p0 10 14 (.ref za14) → (za16, 36) ∈ Ps → FLD ws p0 10 16 (.ref za16) → AX2 14 34 16 36 (fun f g => CSp p1 x2 f g) Ps ws p0 → WD D cy (GX za14) A s wr_X10_restore__1 wa_X10_restore__1 Ps w0 Ps ws H locs → lv_has ls 3 [(0, .ref p0), (1, .int p1), (2, .int x2)] → W p l e (headSpec (Cond.code yX10_restore cX10_restore 3 (some .boolean) :: gT) ({ frames := 2, cells := 0, slots := 0, locals := 400 } : Room)).room s m ([.ref p0, .int p1] : List Value).toArray below meth c H locs 0 0 Q (F0 m 27 ls []) := by
    intro nf27
    induction nf27 with
    | zero =>
      intro x2 z0_0 za14 za16 ws H locs ls hn27 r_p1 r_x2 r_z0_0 m_z0_0 x_IMG1_p1 x_ISA_p0_gda_gdb x_RS1_p1_gda_gdb h_za14 m_za14 h_za16 m_za16 x_CRS_p0_p1__2 hw hl
      exact absurd hn27 (by have q0 := r_x2.1; have u0 := r_x2.2; omega)
    | succ nf27 ih27 =>
      intro x2 z0_0 za14 za16 ws H locs ls hn27 r_p1 r_x2 r_z0_0 m_z0_0 x_IMG1_p1 x_ISA_p0_gda_gdb x_RS1_p1_gda_gdb h_za14 m_za14 h_za16 m_za16 x_CRS_p0_p1__2 hw hl
      refine lv_iload_n hx hb dX10_restore_27 rfl (lv_at hl 2 rfl) ?_
      refine lv_sipush (v := 414) hx hb dX10_restore_28 (by decide) ?_
      refine lv_icmp_ge (tgt := 58) hx hb dX10_restore_31 (by decide) (fun c_31 => ?_) (fun c_31 => ?_)
      · have r_x2 : RI x2 414 414 := rc_le2 rl_414 r_x2 (ti_le c_31) (by decide)
        have hw := WD.back hw h_za14 rfl (fun f9 q9 => by obtain ⟨g9, e9⟩ := AX2.arr hw x_CRS_p0_p1__2 m_za14 f9 q9; exact CS_end e9 (r_p1.to (by decide)) (r_x2.to (by decide)))
        refine lv_iconst (v := 0) hx hb dX10_restore_58 (by decide) ?_
        refine lv_istore_n (lv' := [(2, .int 0), (0, .ref p0), (1, .int p1)]) hx hb dX10_restore_59 rfl hl (by decide) rfl (fun ls hl => ?_)
        exact B60 4294967298 0 z0_0 ws _ _ ls (by have q0 := rl_0.1; have u0 := rl_0.2; omega) r_p1 (rl_0.to (by decide)) r_z0_0 m_z0_0 x_IMG1_p1 x_ISA_p0_gda_gdb x_RS1_p1_gda_gdb hw (lv_sub hl [1, 2, 0] rfl)
      · have r_x2 : RI x2 0 413 := rc_lt1 r_x2 rl_414 (ti_nle c_31) (by decide)
        refine lv_aload_n hx hb dX10_restore_34 rfl (lv_at hl 0 rfl) ?_
        refine tg_mem (ci := 10) (C := RX10) (T := TX10) (N := 49) hx hb hts inX10 hown hK hw 14 m_za14 rfl (by decide) (hts _ tw_1151) (fun _ h9 => h9) dX10_restore_35 ?_
        refine lv_iload_n hx hb dX10_restore_38 rfl (lv_at hl 2 rfl) ?_
        refine lv_aload_n hx hb dX10_restore_39 rfl (lv_at hl 0 rfl) ?_
        refine tg_mem (ci := 10) (C := RX10) (T := TX10) (N := 49) hx hb hts inX10 hown hK hw 16 m_za16 rfl (by decide) (hts _ tw_1153) (fun _ h9 => h9) dX10_restore_40 ?_
        refine lv_sipush (v := 414) hx hb dX10_restore_43 (by decide) ?_
        refine lv_iload_n hx hb dX10_restore_46 rfl (lv_at hl 1 rfl) ?_
        refine lv_imul hx hb dX10_restore_47 (lv_topi (fun v_8 e_v_8 => ?_))
        obtain ⟨t_v_8, r_v_8⟩ := tq_mul (lo := 0) (hi := 414) rl_414 r_p1 (by decide +kernel) e_v_8
        have t_v_8 : v_8.toInt = 414 * p1.toInt := t_v_8
        refine lv_iload_n hx hb dX10_restore_48 rfl (lv_at hl 2 rfl) ?_
        refine lv_iadd hx hb dX10_restore_49 (lv_topi (fun v_9 e_v_9 => ?_))
        obtain ⟨t_v_9, r_v_9⟩ := tq_add (lo := 0) (hi := 827) r_v_8 r_x2 (by decide +kernel) e_v_9
        refine tg_iald (lo := (-2147483648)) (hi := 2147483647) hx hb hK hw h_za16 rfl 0 827 r_v_9 (by decide) (by decide +kernel) dX10_restore_50 (fun v_10 r_v_10 m_v_10 o_v_10 => ?_)
        have x_CRSV_p0_p1_x2_v_9_v_10 : AX2 14 34 16 36 (fun f g => CSp p1 x2 f g ∧ g (Int32.toNatClampNeg v_9) = v_10) Ps ws p0 := AX2.el hw x_CRS_p0_p1__2 m_za16 m_v_10
        have hw8 := hw
        have e_11 : v_9.toNatClampNeg % 414 = x2.toNatClampNeg := by have k1 := r_v_9.cl (by decide); have k2 := r_x2.cl (by decide); have b10 := r_p1.1; have b20 := r_p1.2; have b11 := r_x2.1; have b21 := r_x2.2; have b12 := r_z0_0.1; have b22 := r_z0_0.2; have b13 := r_v_8.1; have b23 := r_v_8.2; have b14 := r_v_9.1; have b24 := r_v_9.2; have b15 := r_v_10.1; have b25 := r_v_10.2; omega
        refine tg_iasto hx hb hK hw h_za14 rfl 0 413 r_x2 (by decide) (show RI _ (canon (x2.toNatClampNeg)).1 (canon (x2.toNatClampNeg)).2 by rw [← e_11]; exact o_v_10) (fun _ _ _ _ _ => Or.inl rfl) (by decide) dX10_restore_51 (fun ws H locs hw hF9 hU9 => ?_)
        have x_CRST_p0_p1_x2 : AX2 14 34 16 36 (fun f g => ∀ k9 : Int32, k9.toInt = Int32.toInt x2 + 1 → CSp p1 k9 f g) Ps ws p0 := AX2.ast hF9 hU9 x_CRSV_p0_p1_x2_v_9_v_10 m_za14 (by decide) (fun f9 g9 h9 => fun k9 e9 => CS_step h9 (r_p1.to (by decide)) (r_x2.to (by decide)) (by have k1 := t_v_9; omega) e9)
        have m_v_10 := AEL.over hw8 hF9 h_za16 m_v_10 (by decide)
        have x_ISA_p0_gda_gdb := AX.over hF9 x_ISA_p0_gda_gdb (by decide)
        have m_z0_0 := FLD.over hF9 m_z0_0 (by decide)
        have m_za14 := FLD.over hF9 m_za14 (by decide)
        have m_za16 := FLD.over hF9 m_za16 (by decide)
        obtain ⟨v_12, e_v_12⟩ : ∃ q9 : Int32, q9 = x2 + Int32.ofInt 1 := ⟨_, rfl⟩
        obtain ⟨t_v_12, r_v_12⟩ := tq_add (lo := 1) (hi := 414) r_x2 (show RI (Int32.ofInt 1) 1 1 by unfold RI; decide +kernel) (by decide +kernel) e_v_12
        have t_v_12 : v_12.toInt = x2.toInt + 1 := t_v_12
        refine lv_iinc (v := v_12) (lv' := [(2, .int v_12), (0, .ref p0), (1, .int p1)]) hx hb dX10_restore_52 hl (k := 2) rfl e_v_12.symm (by decide) rfl (fun ls hl => ?_)
        refine lv_goto (tgt := 27) hx hb dX10_restore_55 (by decide) ?_
        have x_CRS_p0_p1_v_12 : AX2 14 34 16 36 (fun f g => CSp p1 v_12 f g) Ps ws p0 := AX2.imp x_CRST_p0_p1_x2 (fun f9 g9 h9 => h9 _ t_v_12)
        exact ih27 v_12 z0_0 za14 za16 ws _ _ ls (by have q0 := r_v_12.1; have u0 := r_v_12.2; have o0 := r_x2.1; have p0 := r_x2.2; omega) r_p1 (r_v_12.to (by decide)) r_z0_0 m_z0_0 x_IMG1_p1 x_ISA_p0_gda_gdb x_RS1_p1_gda_gdb h_za14 m_za14 h_za16 m_za16 x_CRS_p0_p1_v_12 hw (lv_sub hl [1, 2, 0] rfl)
  refine lv_aload_n hx hb dX10_restore_0 rfl (lv_at hl 0 rfl) ?_
  refine lv_iconst (v := 0) hx hb dX10_restore_1 (by decide) ?_
  refine tg_put (ci := 10) (ts := ty_MODEL) (v := .int 0) (ty := .int) (C := RX10) (T := TX10) (N := 49) hx hb hts inX10 tyX10 tyX10_ok nmX10 hown hK hw h_p0 rfl rfl 0 (by decide) (hts _ tw_1137) (fun _ h9 => h9) rfl (by decide +kernel) rfl rfl (ft := vI (-2147483648) 2147483647) rfl ⟨_, rfl, (rl_0.to (by decide))⟩ (by decide) dX10_restore_2 (fun ws H locs hw n_k_13 hF9 => ?_)
  have x_ISA_p0_gda_gdb := AX.over hF9 x_ISA_p0_gda_gdb (by decide)
  refine lv_iload_n hx hb dX10_restore_5 rfl (lv_at hl 1 rfl) ?_
  refine lv_iconst (v := 0) hx hb dX10_restore_6 (by decide) ?_
  refine lv_iconst (v := 1) hx hb dX10_restore_7 (by decide) ?_
  refine tk_ir (va_runS (As := [.int p1, .int 0, .int 1]) (rest := []) ⟨hx, hb, hml, hown, hts⟩ (c_X10_isIn__12 l D cy z H.size Ps ws hw.1 p1 0 1 r_p1 rl_0 rl_1) (va_cwS 3 hts (gS tw_1359 tw_1360 tw_15 tw_1361) rfl rfl rfl (by decide +kernel) ⟨Nat.le_of_ble_eq_true rfl, Nat.le_of_ble_eq_true rfl⟩) (tg_preS hw hK hSD hA) rfl rfl hl.1 rfl (lv_room (Nat.le_of_ble_eq_true rfl)) dX10_restore_8 ⟨Nat.le_of_ble_eq_true rfl, Nat.le_of_ble_eq_true rfl⟩) hw hA (fun v_14  H locs hp_v_14 hw => ?_)
  have r_v_14 : RI v_14 0 1 := hp_v_14.1
  by_cases c9_v_14 : v_14 = 0
  · have r_v_14 : RI v_14 0 0 := by rw [c9_v_14]; exact rl_0
    have x_IMG0_p1 := ((hp_v_14.2.1 c9_v_14).1)
    refine lv_if_eq (tgt := 23) hx hb dX10_restore_11 (by decide) (fun c_11 => ?_) (fun c_11 => ?_)
    · have x_RS0_p1_gda_gdb : (¬ RSP p1 gda gdb) := RSP.out x_IMG0_p1
      refine lv_iconst (v := 0) hx hb dX10_restore_23 (by decide) ?_
      subst hQ
      exact W.zret (v := 0) hx hb hr (rfl) (fun t ht hW => ⟨⟨0, ws, rfl, ⟨⟨rl_0.to (by decide), (fun h0 => ⟨x_RS0_p1_gda_gdb, trivial⟩), (fun h0 => absurd rfl h0)⟩, hw.1, hw.2.2.2.2.1⟩, by rw [ht]; exact hw.2.1, va_K.moved hW.alike hK, hw.2.2.1⟩, hw.2.2.2.1.F ht⟩) hw.2.2.2.1.2.2 dX10_restore_24
    · exact absurd (r_v_14.eq.trans rl_0.eq.symm) ((ti_ne c_11))
  · have r_v_14 : RI v_14 1 1 := rc_neL r_v_14 rl_0 (ti_ne c9_v_14) (by decide)
    have r_p1 : RI p1 0 1 := ((hp_v_14.2.2 c9_v_14).1)
    have x_IMG1_p1 := ((hp_v_14.2.2 c9_v_14).2.1)
    refine lv_if_eq (tgt := 23) hx hb dX10_restore_11 (by decide) (fun c_11 => ?_) (fun c_11 => ?_)
    · have r_v_14 : RI v_14 1 0 := rc_eq1 r_v_14 rl_0 (ti_eq c_11) (by decide)
      exact (r_v_14.no (by decide)).elim
    · refine lv_aload_n hx hb dX10_restore_14 rfl (lv_at hl 0 rfl) ?_
      refine tg_get (ci := 10) (ts := ty_MODEL) (C := RX10) (T := TX10) (N := 49) hx hb hts inX10 hown hK hw h_p0 rfl rfl 23 (by decide) (hts _ tw_1160) (fun _ h9 => h9) (ft := vR 44) rfl dX10_restore_15 (fun u_15 hv_u_15 m_u_15 => ?_)
      obtain ⟨vu_15, rfl, h_vu_15⟩ := hv_u_15
      refine lv_iload_n hx hb dX10_restore_18 rfl (lv_at hl 1 rfl) ?_
      refine tg_zaldE (lo := (-2147483648)) (hi := 2147483647) hx hb hK hw h_vu_15 rfl 0 1 r_p1 (by decide) (by exact fun _ _ _ => ⟨Int.le_refl _, Int.le_refl _⟩) dX10_restore_19 (fun v_16 r_v_16 l_v_16 => ?_)
      have rs9 := AX.rs hw x_ISA_p0_gda_gdb m_u_15 l_v_16 (r_p1.to (by decide))
      refine lv_if_ne (tgt := 25) hx hb dX10_restore_20 (by decide) (fun c_20 => ?_) (fun c_20 => ?_)
      · have x_RS1_p1_gda_gdb : RSP p1 gda gdb := rs9.mpr c_20
        refine lv_iconst (v := 0) hx hb dX10_restore_25 (by decide) ?_
        refine lv_istore_n (lv' := [(2, .int 0), (0, .ref p0), (1, .int p1)]) hx hb dX10_restore_26 rfl hl (by decide) rfl (fun ls hl => ?_)
        obtain ⟨b_17, m_b_17, h_b_17⟩ := tg_fldR (k := 14) (ci := 10) (ts := ty_MODEL) (u := 34) hw h_p0 rfl rfl
        obtain ⟨b_18, m_b_18, h_b_18⟩ := tg_fldR (k := 16) (ci := 10) (ts := ty_MODEL) (u := 36) hw h_p0 rfl rfl
        have x_CRS_p0_p1_0 : AX2 14 34 16 36 (fun f g => CSp p1 0 f g) Ps ws p0 := AX2.imp (AX.two (ax_of (k := 14) (t := 34) hw h_p0 rfl (fun _ => rfl)) (ax_of (k := 16) (t := 36) hw h_p0 rfl (fun _ => rfl))) (fun f9 g9 h9 => ⟨h9.2.1, fun j9 q9 => absurd q9 (by rw [Int32.toInt_zero]; omega)⟩)
        have hw := WD.weak b_17 hw
        exact B27 4294967298 0 0 b_17 b_18 ws _ _ ls (by have q0 := rl_0.1; have u0 := rl_0.2; omega) r_p1 (rl_0.to (by decide)) rl_0 n_k_13 x_IMG1_p1 x_ISA_p0_gda_gdb x_RS1_p1_gda_gdb h_b_17 m_b_17 h_b_18 m_b_18 x_CRS_p0_p1_0 hw (lv_sub hl [1, 2, 0] rfl)
      · have r_v_16 : RI v_16 0 0 := rc_eq1 r_v_16 rl_0 (ti_eq c_20) (by decide)
        have x_RS0_p1_gda_gdb : (¬ RSP p1 gda gdb) := (fun h9 => rs9.mp h9 c_20)
        refine lv_iconst (v := 0) hx hb dX10_restore_23 (by decide) ?_
        subst hQ
        exact W.zret (v := 0) hx hb hr (rfl) (fun t ht hW => ⟨⟨0, ws, rfl, ⟨⟨rl_0.to (by decide), (fun h0 => ⟨x_RS0_p1_gda_gdb, trivial⟩), (fun h0 => absurd rfl h0)⟩, hw.1, hw.2.2.2.2.1⟩, by rw [ht]; exact hw.2.1, va_K.moved hW.alike hK, hw.2.2.1⟩, hw.2.2.2.1.F ht⟩) hw.2.2.2.1.2.2 dX10_restore_24
