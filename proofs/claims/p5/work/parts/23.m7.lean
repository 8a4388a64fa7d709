/-! a world in which one array's relation is not asked for -/
def GX (x : Nat) : Nat → Nat → CTy := fun a t => match GG a t with
  | .inr (.inl (t0, n, el, R)) => .inr (.inl (t0, n, el, fun f => a = x ∨ R f))
  | .inl q => .inl q
  | .inr (.inr q) => .inr (.inr q)
def AX2 (k1 t1 k2 t2 : Nat) (F : (Nat → Int32) → (Nat → Int32) → Prop) (Ps : PSI) (ws : va_W) (m : Nat) : Prop := ∃ (a : Nat) (f : Nat → Int32) (b : Nat) (g : Nat → Int32), FLD ws m 10 k1 (.ref a) ∧ ARR Ps ws a t1 f ∧ FLD ws m 10 k2 (.ref b) ∧ ARR Ps ws b t2 g ∧ F f g
theorem AX2.over {wr : List (Nat × Nat)} {wa : List Nat} {Ps : PSI} {ws ws' : va_W} {k1 t1 k2 t2 m : Nat} {F : (Nat → Int32) → (Nat → Int32) → Prop} (h : FR wr wa Ps ws ws') (x : AX2 k1 t1 k2 t2 F Ps ws m) (hn : (10, k1) ∉ wr ∧ (10, k2) ∉ wr ∧ t1 ∉ wa ∧ t2 ∉ wa) : AX2 k1 t1 k2 t2 F Ps ws' m := by
  obtain ⟨a, f, b, g, h1, h2, h3, h4, h5⟩ := x
  exact ⟨a, f, b, g, FLD.over h h1 hn.1, ARR.over h h2 hn.2.2.1, FLD.over h h3 hn.2.1, ARR.over h h4 hn.2.2.2, h5⟩
theorem AX2.imp {Ps : PSI} {ws : va_W} {k1 t1 k2 t2 m : Nat} {F F2 : (Nat → Int32) → (Nat → Int32) → Prop} (x : AX2 k1 t1 k2 t2 F Ps ws m) (h : ∀ f g, F f g → F2 f g) : AX2 k1 t1 k2 t2 F2 Ps ws m := by
  obtain ⟨a, f, b, g, h1, h2, h3, h4, h5⟩ := x
  exact ⟨a, f, b, g, h1, h2, h3, h4, h _ _ h5⟩
theorem AX2.ast {Ps : PSI} {ws ws1 : va_W} {A : Nat → Prop} {k1 t1 k2 t2 m a j : Nat} {v : Int32} {F F2 : (Nat → Int32) → (Nat → Int32) → Prop} (hF : FR [] [t1] Ps ws ws1) (hU : va_D A ws ∧ ∀ f, ARR Ps ws a t1 f → ARR Ps ws1 a t1 (upd f j v)) (x : AX2 k1 t1 k2 t2 F Ps ws m) (hf : FLD ws m 10 k1 (.ref a)) (hne : t2 ≠ t1) (h : ∀ f g, F f g → F2 (upd f j v) g) : AX2 k1 t1 k2 t2 F2 Ps ws1 m := by
  obtain ⟨a', f, b, g, h1, h2, h3, h4, h5⟩ := x
  cases FLD.inj hU.1 h1 hf
  exact ⟨a, upd f j v, b, g, FLD.over hF h1 List.not_mem_nil, hU.2 f h2, FLD.over hF h3 List.not_mem_nil, ARR.over hF h4 (fun q => hne (List.mem_singleton.mp q)), h f g h5⟩
section FACTS7
variable {s : State} {H : Heap} {locs : List Loc} {D : va_G} {cy : Nat → ClassId} {A : Nat → Prop} {ws w0 : va_W} {G : Nat → Nat → CTy} {Ps P0 : PSI} {wr : List (Nat × Nat)} {wa : List Nat}
theorem WD.weak (x : Nat) (hw : WD D cy GG A s wr wa P0 w0 Ps ws H locs) : WD D cy (GX x) A s wr wa P0 w0 Ps ws H locs := by
  refine ⟨⟨hw.1.1, fun k a t hk => ?_⟩, hw.2⟩
  obtain ⟨e, h1, h2⟩ := hw.1.2 k a t hk
  refine ⟨e, h1, ?_⟩
  unfold GX
  match hg : GG a t with
  | .inl q => rw [hg] at h2; exact h2
  | .inr (.inl (t0, n, el, R)) =>
    rw [hg] at h2
    obtain ⟨f, h3, h4, h5⟩ := h2
    exact ⟨f, h3, h4, Or.inr h5⟩
  | .inr (.inr q) => rw [hg] at h2; exact h2
theorem WD.back {x t0 n c0 : Nat} {el : Nat → Int × Int} {R : (Nat → Int32) → Prop} (hw : WD D cy (GX x) A s wr wa P0 w0 Ps ws H locs) (hx : (x, t0) ∈ Ps) (hG : GG x t0 = .inr (.inl (c0, n, el, R))) (hR : ∀ f, ARR Ps ws x t0 f → R f) : WD D cy GG A s wr wa P0 w0 Ps ws H locs := by
  refine ⟨⟨hw.1.1, fun k a t hk => ?_⟩, hw.2⟩
  obtain ⟨e, h1, h2⟩ := hw.1.2 k a t hk
  refine ⟨e, h1, ?_⟩
  unfold GX at h2
  match hg : GG a t with
  | .inl q => rw [hg] at h2; exact h2
  | .inr (.inl (t1, n1, el1, R1)) =>
    rw [hg] at h2
    obtain ⟨f, h3, h4, h5⟩ := h2
    refine ⟨f, h3, h4, ?_⟩
    rcases h5 with e1 | e1
    · subst e1
      obtain ⟨q, e2, g1, g2, -⟩ := hw.1.find hx
      have e3 := hw.2.2.1.1 k q _ _ h1 g2 rfl
      subst e3
      cases hk.symm.trans g1
      rw [hg] at hG
      cases hG
      have e4 := h3
      rw [e4] at h1
      exact hR f ⟨k, _, _, hk, h1⟩
    · exact e1
  | .inr (.inr q) => rw [hg] at h2; exact h2
theorem AX2.el {k1 t1 k2 t2 m b : Nat} {i v : Int32} {F : (Nat → Int32) → (Nat → Int32) → Prop} (hw : WD D cy G A s wr wa P0 w0 Ps ws H locs) (x : AX2 k1 t1 k2 t2 F Ps ws m) (hf : FLD ws m 10 k2 (.ref b)) (he : AEL ws b i v) : AX2 k1 t1 k2 t2 (fun f g => F f g ∧ g i.toNatClampNeg = v) Ps ws m := by
  obtain ⟨a, f, b', g, h1, h2, h3, h4, h5⟩ := x
  cases FLD.inj hw.2.2.1 h3 hf
  exact ⟨a, f, b, g, h1, h2, h3, h4, h5, ARR.ael hw.2.2.1 h4 he⟩
theorem AX2.arr {k1 t1 k2 t2 m a : Nat} {F : (Nat → Int32) → (Nat → Int32) → Prop} (hw : WD D cy G A s wr wa P0 w0 Ps ws H locs) (x : AX2 k1 t1 k2 t2 F Ps ws m) (hf : FLD ws m 10 k1 (.ref a)) : ∀ f, ARR Ps ws a t1 f → ∃ g, F f g := by
  obtain ⟨a', f, b', g, h1, h2, h3, h4, h5⟩ := x
  cases FLD.inj hw.2.2.1 h1 hf
  intro f' h6
  cases ARR.inj hw.2.2.1 h2 h6
  exact ⟨g, h5⟩
theorem AX.arr {k t m a : Nat} {F : (Nat → Int32) → Prop} (hw : WD D cy G A s wr wa P0 w0 Ps ws H locs) (x : AX k t F Ps ws m) (hf : FLD ws m 10 k (.ref a)) : ∀ f, ARR Ps ws a t f → F f := by
  obtain ⟨a', f, h1, h2, h5⟩ := x
  cases FLD.inj hw.2.2.1 h1 hf
  intro f' h6
  cases ARR.inj hw.2.2.1 h2 h6
  exact h5
/-- an array that the reference holds, with what its type says -/
theorem ax_of {m k t t0 n : Nat} {el : Nat → Int × Int} {R : (Nat → Int32) → Prop} (hw : WD D cy GG A s wr wa P0 w0 Ps ws H locs) (hm : (m, 55) ∈ Ps) (hk : ty_MODEL[k]? = some (vR t)) (hG : ∀ a, GG a t = .inr (.inl (t0, n, el, R))) : AX k t (fun f => R f ∧ ∀ j, j < n → RI (f j) (el j).1 (el j).2) Ps ws m := by
  obtain ⟨q, e1, -, h2, fs, rfl, h4⟩ := hw.1.find hm
  obtain ⟨v0, h5, a, rfl, ha⟩ := h4 k (vR t) hk
  obtain ⟨f, f1, f2, f3⟩ := arr_of hw ha (hG a)
  exact ⟨a, f, ⟨q, fs, h2, h5⟩, f1, f2, f3⟩
theorem AX.two {k1 t1 k2 t2 m : Nat} {F F2 : (Nat → Int32) → Prop} (x : AX k1 t1 F Ps ws m) (y : AX k2 t2 F2 Ps ws m) : AX2 k1 t1 k2 t2 (fun f g => F f ∧ F2 g) Ps ws m := by
  obtain ⟨a, f, h1, h2, h3⟩ := x
  obtain ⟨b, g, g1, g2, g3⟩ := y
  exact ⟨a, f, b, g, h1, h2, g1, g2, h3, g3⟩
theorem tg_fldR (hw : WD D cy G A s wr wa P0 w0 Ps ws H locs) {a t ci k u : Nat} (ha : (a, t) ∈ Ps) {ts : List VT} (hG : G a t = .inl (ci, ts)) (hft : ts[k]? = some (vR u)) : ∃ x : Nat, FLD ws a ci k (.ref x) ∧ (x, u) ∈ Ps := by
  obtain ⟨q, e1, -, h2, h3⟩ := hw.1.find ha
  rw [hG] at h3
  obtain ⟨fs, rfl, h4⟩ := h3
  obtain ⟨v, h5, x, rfl, h6⟩ := h4 k _ hft
  exact ⟨x, ⟨q, fs, h2, h5⟩, h6⟩
end FACTS7
/-! the relations over a copy -/
def CRp (k : Int32) (f g : Nat → Int32) : Prop := RNODE f ∧ RH2p g ∧ ∀ j : Nat, (j : Int) < k.toInt → f j = g j
theorem RNODE_lo {f : Nat → Int32} {j : Nat} {v : Int32} (h : RNODE f) (hj : j ≤ 173) : RNODE (upd f j v) := by
  have e : ∀ i, i ≠ j → upd f j v i = f i := fun i hi => pk_un hi
  intro k hk
  rw [e (174 + 4 * k) (by omega), e (175 + 4 * k) (by omega), e (176 + 4 * k) (by omega)]
  exact h k hk
theorem CR_step {k i v k2 : Int32} {f g : Nat → Int32} (h : CRp k f g ∧ g i.toNatClampNeg = v) (hi : RI k 0 83) (e : i.toInt = k.toInt) (e2 : k2.toInt = k.toInt + 1) : CRp k2 (upd f k.toNatClampNeg v) g := by
  obtain ⟨⟨h1, h2, h3⟩, h4⟩ := h
  have a1 := hi.1
  have a2 := hi.2
  have e0 : k.toNatClampNeg = k.toInt.toNat := rfl
  have e1 : i.toNatClampNeg = i.toInt.toNat := rfl
  refine ⟨RNODE_lo h1 (by omega), h2, fun j hj => ?_⟩
  by_cases q : j = k.toNatClampNeg
  · rw [q, pk_us, ← h4]
    exact congrArg g (by omega)
  · rw [pk_un q]
    exact h3 j (by omega)
theorem CR_end {k : Int32} {f g : Nat → Int32} (h : CRp k f g) (hk : RI k 84 84) : RN f := by
  obtain ⟨h1, h2, h3⟩ := h
  have a := hk.1
  have e : ∀ j : Nat, j < 84 → f j = g j := fun j hj => h3 j (by omega)
  refine ⟨⟨?_, ?_, ?_⟩, h1⟩
  · rw [e 0 (by omega), e 5 (by omega)]; exact fun _ => h2.1
  · rw [e 0 (by omega), e 3 (by omega)]; exact h2.2.1
  · intro i hi
    rw [e 0 (by omega), e (6 + i) (by omega)]
    exact h2.2.2 i hi
theorem RN_cong {f g : Nat → Int32} (h : RN g) (e : ∀ j, j < 414 → f j = g j) : RN f := by
  refine ⟨⟨?_, ?_, ?_⟩, ?_⟩
  · rw [e 0 (by omega), e 5 (by omega)]; exact h.1.1
  · rw [e 0 (by omega), e 3 (by omega)]; exact h.1.2.1
  · intro i hi
    rw [e 0 (by omega), e (6 + i) (by omega)]
    exact h.1.2.2 i hi
  · intro k hk
    rw [e (174 + 4 * k) (by omega), e (175 + 4 * k) (by omega), e (176 + 4 * k) (by omega)]
    exact h.2 k hk
/-- the half of what is kept that a copy into place p leaves -/
def HLF (p : Int32) (f : Nat → Int32) : Prop := (p.toInt = 0 → RN (fun j => f (414 + j))) ∧ (p.toInt = 1 → RN f)
def CIp (p k : Int32) (f g : Nat → Int32) : Prop := RN g ∧ HLF p f ∧ ∀ j : Nat, (j : Int) < k.toInt → f (414 * p.toNatClampNeg + j) = g j
theorem CI_step {p k i t v k2 : Int32} {f g : Nat → Int32} (h : CIp p k f g ∧ g i.toNatClampNeg = v) (hp : RI p 0 1) (hk : RI k 0 413) (e : i.toInt = k.toInt) (e2 : k2.toInt = k.toInt + 1) (et : t.toInt = 414 * p.toInt + k.toInt) : CIp p k2 (upd f t.toNatClampNeg v) g := by
  obtain ⟨⟨h1, h2, h3⟩, h4⟩ := h
  have a1 := hk.1
  have a2 := hk.2
  have a3 := hp.1
  have a4 := hp.2
  have e0 : k.toNatClampNeg = k.toInt.toNat := rfl
  have e1 : i.toNatClampNeg = i.toInt.toNat := rfl
  have e3 : t.toNatClampNeg = t.toInt.toNat := rfl
  have e4 : p.toNatClampNeg = p.toInt.toNat := rfl
  refine ⟨h1, ⟨fun q => RN_cong (h2.1 q) (fun j hj => pk_un (by omega)), fun q => RN_cong (h2.2 q) (fun j hj => pk_un (by omega))⟩, fun j hj => ?_⟩
  by_cases q : j = k.toNatClampNeg
  · rw [show 414 * p.toNatClampNeg + j = t.toNatClampNeg by omega, pk_us, ← h4]
    exact congrArg g (by omega)
  · rw [pk_un (by omega)]
    exact h3 j (by omega)
theorem CI_end {p k : Int32} {f g : Nat → Int32} (h : CIp p k f g) (hp : RI p 0 1) (hk : RI k 414 414) : RN f ∧ RN (fun j => f (414 + j)) := by
  obtain ⟨h1, h2, h3⟩ := h
  have a := hk.1
  have a3 := hp.1
  have a4 := hp.2
  have e4 : p.toNatClampNeg = p.toInt.toNat := rfl
  rcases (show p.toInt = 0 ∨ p.toInt = 1 by omega) with q | q
  · refine ⟨RN_cong h1 (fun j hj => ?_), h2.1 q⟩
    rw [← h3 j (by omega)]
    exact congrArg f (by omega)
  · refine ⟨h2.2 q, RN_cong h1 (fun j hj => ?_)⟩
    rw [← h3 j (by omega)]
    exact congrArg f (by omega)
def CSp (p k : Int32) (f g : Nat → Int32) : Prop := (RN g ∧ RN (fun j => g (414 + j))) ∧ ∀ j : Nat, (j : Int) < k.toInt → f j = g (414 * p.toNatClampNeg + j)
theorem CS_step {p k i v k2 : Int32} {f g : Nat → Int32} (h : CSp p k f g ∧ g i.toNatClampNeg = v) (hp : RI p 0 1) (hk : RI k 0 413) (e : i.toInt = 414 * p.toInt + k.toInt) (e2 : k2.toInt = k.toInt + 1) : CSp p k2 (upd f k.toNatClampNeg v) g := by
  obtain ⟨⟨h1, h3⟩, h4⟩ := h
  have a1 := hk.1
  have a3 := hp.1
  have e0 : k.toNatClampNeg = k.toInt.toNat := rfl
  have e1 : i.toNatClampNeg = i.toInt.toNat := rfl
  have e4 : p.toNatClampNeg = p.toInt.toNat := rfl
  refine ⟨h1, fun j hj => ?_⟩
  by_cases q : j = k.toNatClampNeg
  · rw [q, pk_us, ← h4]
    exact congrArg g (by omega)
  · rw [pk_un q]
    exact h3 j (by omega)
theorem CS_end {p k : Int32} {f g : Nat → Int32} (h : CSp p k f g) (hp : RI p 0 1) (hk : RI k 414 414) : RN f := by
  obtain ⟨h1, h3⟩ := h
  have a := hk.1
  have a3 := hp.1
  have a4 := hp.2
  have e4 : p.toNatClampNeg = p.toInt.toNat := rfl
  rcases (show p.toInt = 0 ∨ p.toInt = 1 by omega) with q | q
  · exact RN_cong h1.1 (fun j hj => by rw [h3 j (by omega)]; exact congrArg g (by omega))
  · refine RN_cong h1.2 (fun j hj => by rw [h3 j (by omega)]; exact congrArg g (by omega))
def CNp (k : Int32) (f g : Nat → Int32) : Prop := RHEAD f ∧ RND g ∧ ∀ j : Nat, (j : Int) < k.toInt → f (174 + j) = g j
theorem CN_step {k i t v k2 : Int32} {f g : Nat → Int32} (h : CNp k f g ∧ g i.toNatClampNeg = v) (hk : RI k 0 239) (e : i.toInt = k.toInt) (e2 : k2.toInt = k.toInt + 1) (et : t.toInt = 174 + k.toInt) : CNp k2 (upd f t.toNatClampNeg v) g := by
  obtain ⟨⟨h1, h2, h3⟩, h4⟩ := h
  have a1 := hk.1
  have e0 : k.toNatClampNeg = k.toInt.toNat := rfl
  have e1 : i.toNatClampNeg = i.toInt.toNat := rfl
  have e3 : t.toNatClampNeg = t.toInt.toNat := rfl
  have c : ∀ i, i ≠ t.toNatClampNeg → upd f t.toNatClampNeg v i = f i := fun i hi => pk_un hi
  refine ⟨⟨?_, ?_, ?_⟩, h2, fun j hj => ?_⟩
  · rw [c 0 (by omega), c 5 (by omega)]; exact h1.1
  · rw [c 0 (by omega), c 3 (by omega)]; exact h1.2.1
  · intro i hi
    rw [c 0 (by omega), c (6 + i) (by omega)]
    exact h1.2.2 i hi
  · by_cases q : j = k.toNatClampNeg
    · rw [show 174 + j = t.toNatClampNeg by omega, pk_us, ← h4]
      exact congrArg g (by omega)
    · rw [pk_un (by omega)]
      exact h3 j (by omega)
theorem CN_end {k : Int32} {f g : Nat → Int32} (h : CNp k f g) (hk : RI k 240 240) : RN f := by
  obtain ⟨h1, h2, h3⟩ := h
  have a := hk.1
  refine ⟨h1, fun q hq => ?_⟩
  have e0 : f (174 + 4 * q) = g (4 * q) := h3 _ (by omega)
  have e1 : f (175 + 4 * q) = g (4 * q + 1) := by rw [← h3 (4 * q + 1) (by omega)]; exact congrArg f (by omega)
  have e2 : f (176 + 4 * q) = g (4 * q + 2) := by rw [← h3 (4 * q + 2) (by omega)]; exact congrArg f (by omega)
  rw [e0, e1, e2]
  exact h2 q hq
/-! letting down: what a parcel has falls -/
def sq (f : Nat → Int32) (q : Int32) : Int := max 0 (f (136 + 6 * q.toNatClampNeg + 0)).toInt + max 0 (f (136 + 6 * q.toNatClampNeg + 1)).toInt + max 0 (f (136 + 6 * q.toNatClampNeg + 2)).toInt + max 0 (f (136 + 6 * q.toNatClampNeg + 3)).toInt + max 0 (f (136 + 6 * q.toNatClampNeg + 4)).toInt + max 0 (f (136 + 6 * q.toNatClampNeg + 5)).toInt
theorem sq_top (f : Nat → Int32) (q : Int32) : sq f q ≤ 12884901888 := by
  have h : ∀ j, (f j).toInt ≤ 2147483647 := fun j => (ri_any (f j)).2
  have h0 := h (136 + 6 * q.toNatClampNeg + 0)
  have h1 := h (136 + 6 * q.toNatClampNeg + 1)
  have h2 := h (136 + 6 * q.toNatClampNeg + 2)
  have h3 := h (136 + 6 * q.toNatClampNeg + 3)
  have h4 := h (136 + 6 * q.toNatClampNeg + 4)
  have h5 := h (136 + 6 * q.toNatClampNeg + 5)
  unfold sq
  omega
theorem sq_upd {f : Nat → Int32} {q : Int32} {j : Nat} {v : Int32} (hj : j < 6) (h1 : 1 ≤ (f (136 + 6 * q.toNatClampNeg + j)).toInt) (hv : 0 ≤ v.toInt ∧ v.toInt < (f (136 + 6 * q.toNatClampNeg + j)).toInt) : sq (upd f (136 + 6 * q.toNatClampNeg + j) v) q < sq f q := by
  have e2 : upd f (136 + 6 * q.toNatClampNeg + j) v (136 + 6 * q.toNatClampNeg + j) = v := pk_us
  have e : ∀ i, i ≠ 136 + 6 * q.toNatClampNeg + j → upd f (136 + 6 * q.toNatClampNeg + j) v i = f i := fun i hi => pk_un hi
  unfold sq
  rcases (show j = 0 ∨ j = 1 ∨ j = 2 ∨ j = 3 ∨ j = 4 ∨ j = 5 by omega) with c | c | c | c | c | c <;> subst c
  · rw [e2, e (136 + 6 * q.toNatClampNeg + 1) (by omega), e (136 + 6 * q.toNatClampNeg + 2) (by omega), e (136 + 6 * q.toNatClampNeg + 3) (by omega), e (136 + 6 * q.toNatClampNeg + 4) (by omega), e (136 + 6 * q.toNatClampNeg + 5) (by omega)]; omega
  · rw [e2, e (136 + 6 * q.toNatClampNeg + 0) (by omega), e (136 + 6 * q.toNatClampNeg + 2) (by omega), e (136 + 6 * q.toNatClampNeg + 3) (by omega), e (136 + 6 * q.toNatClampNeg + 4) (by omega), e (136 + 6 * q.toNatClampNeg + 5) (by omega)]; omega
  · rw [e2, e (136 + 6 * q.toNatClampNeg + 0) (by omega), e (136 + 6 * q.toNatClampNeg + 1) (by omega), e (136 + 6 * q.toNatClampNeg + 3) (by omega), e (136 + 6 * q.toNatClampNeg + 4) (by omega), e (136 + 6 * q.toNatClampNeg + 5) (by omega)]; omega
  · rw [e2, e (136 + 6 * q.toNatClampNeg + 0) (by omega), e (136 + 6 * q.toNatClampNeg + 1) (by omega), e (136 + 6 * q.toNatClampNeg + 2) (by omega), e (136 + 6 * q.toNatClampNeg + 4) (by omega), e (136 + 6 * q.toNatClampNeg + 5) (by omega)]; omega
  · rw [e2, e (136 + 6 * q.toNatClampNeg + 0) (by omega), e (136 + 6 * q.toNatClampNeg + 1) (by omega), e (136 + 6 * q.toNatClampNeg + 2) (by omega), e (136 + 6 * q.toNatClampNeg + 3) (by omega), e (136 + 6 * q.toNatClampNeg + 5) (by omega)]; omega
  · rw [e2, e (136 + 6 * q.toNatClampNeg + 0) (by omega), e (136 + 6 * q.toNatClampNeg + 1) (by omega), e (136 + 6 * q.toNatClampNeg + 2) (by omega), e (136 + 6 * q.toNatClampNeg + 3) (by omega), e (136 + 6 * q.toNatClampNeg + 4) (by omega)]; omega
def SLp (f : Nat → Int32) (q : Int32) (g : Int) : Prop := sq f q ≤ g
theorem SL_nn {f : Nat → Int32} {q : Int32} {g : Int} (h : SLp f q g) : 0 ≤ g := by
  unfold SLp sq at h
  omega
/-- one letting down: v is what is left of much, by guess -/
theorem SL_less {f : Nat → Int32} {q i t v much gs : Int32} {g : Int} (hr : RN f) (h : SLp f q g) (hb : WBp f q i) (et : t.toNatClampNeg = 136 + 6 * q.toNatClampNeg + i.toNatClampNeg) (em : f (136 + 6 * q.toNatClampNeg + i.toNatClampNeg) = much) (eg : f 5 = gs) (hv : (v.toInt = 0 ∧ much.toInt < gs.toInt) ∨ (v = much - gs ∧ gs.toInt ≤ much.toInt)) : SLp (upd f t.toNatClampNeg v) q (g - 1) := by
  have e : i.toNatClampNeg = i.toInt.toNat := rfl
  obtain ⟨⟨b1, b2⟩, b3, b4⟩ := hb
  have r1 := hr.1.1 (by omega)
  have r2 := hr.1.2.2 i.toNatClampNeg (by omega) (by omega)
  rw [eg] at r1
  rw [em] at b4
  have m1 : 1 ≤ much.toInt := by omega
  have c : 0 ≤ v.toInt ∧ v.toInt < much.toInt := by
    rcases hv with ⟨h1, h2⟩ | ⟨h1, h2⟩
    · omega
    · have m2 := (ri_any much).2
      have e9 := ri_sub (x := much) (y := gs) (a := 1) (b := 2147483647) (c := 1) (d := much.toInt) ⟨m1, m2⟩ ⟨r1, h2⟩ ⟨by omega, by omega⟩
      rw [← h1] at e9
      omega
  rw [et]
  have := sq_upd (f := f) (q := q) (j := i.toNatClampNeg) (v := v) (by omega) (by rw [em]; exact m1) (by rw [em]; exact c)
  unfold SLp at h ⊢
  omega
/-! rooms enough -/
theorem pig : ∀ (n : Nat) (f : Nat → Int), (∀ r : Nat, r < n + 1 → ∃ k : Nat, k < n ∧ f k = r) → False := by
  intro n
  induction n with
  | zero => intro f h; obtain ⟨k, hk, -⟩ := h 0 (by omega); omega
  | succ n ih =>
    intro f h
    obtain ⟨k0, h1, h2⟩ := h (n + 1) (by omega)
    refine ih (fun k => if k < k0 then f k else f (k + 1)) (fun r hr => ?_)
    obtain ⟨k, h3, h4⟩ := h r (by omega)
    have hne : k ≠ k0 := fun e => by rw [e, h2] at h4; omega
    by_cases c : k < k0
    · exact ⟨k, by omega, by rw [if_pos c]; exact h4⟩
    · refine ⟨k - 1, by omega, ?_⟩
      rw [if_neg (by omega), show k - 1 + 1 = k by omega]
      exact h4
/-- each room below r has one ahead of parcel q in it -/
def PGp (f : Nat → Int32) (q r : Int32) : Prop := ∀ j : Nat, (j : Int) < r.toInt → ∃ k : Nat, (k : Int) < q.toInt ∧ (f k).toInt = j
def GDp (f : Nat → Int32) (q r g : Int32) : Prop := g.toInt = 0 → ∃ k : Nat, (k : Int) < q.toInt ∧ (f k).toInt = r.toInt
theorem PG_no {f : Nat → Int32} {q r : Int32} (h : PGp f q r) (hq : RI q 0 5) (hr : RI r 6 6) : False := by
  have h1 := hq.1
  have h2 := hq.2
  have h3 := hr.1
  refine pig q.toNatClampNeg (fun k => (f k).toInt) (fun j hj => ?_)
  have e : q.toNatClampNeg = q.toInt.toNat := rfl
  obtain ⟨k, h4, h5⟩ := h j (by omega)
  exact ⟨k, by omega, h5⟩
theorem PG_next {f : Nat → Int32} {q r r2 g : Int32} (h : PGp f q r) (h2 : GDp f q r g) (hg : RI g 0 0) (hr : RI r 0 5) (e : r2.toInt = r.toInt + 1) : PGp f q r2 := by
  have a := hr.1
  intro j hj
  by_cases c : (j : Int) < r.toInt
  · exact h j c
  · obtain ⟨k, h3, h4⟩ := h2 hg.eq
    exact ⟨k, h3, by omega⟩
abbrev wr_X10_begin : List (Nat × Nat) := [(10, 0), (10, 2), (10, 3), (10, 4), (10, 5), (10, 6), (10, 7), (10, 8), (10, 9), (10, 10), (10, 12)]
abbrev wa_X10_begin : List Nat := []
set_option maxHeartbeats 4000000 in
set_option maxRecDepth 100000 in
theorem c_X10_begin (l : Launch) (D : va_G) (cy : Nat → ClassId) (z : Nat → Nat) (sz : Nat) (Ps : PSI) (w0 : va_W) (hT : HT cy GG Ps w0) (p0 : Nat) (p1 : Int32) (h_p0 : (p0, 55) ∈ Ps) (r_p1 : RI p1 (-2147483648) 2147483647) : Met l yX10_begin (Cond.code yX10_begin cX10_begin 2 none :: gT) ({ frames := 3, cells := 0, slots := 0, locals := 600 } : Room) (va_Pc [.ref p0, .int p1] (PRE D cy z w0 sz)) (va_Qv (fun (u : va_W) => ((∃ v9 : Int32, FLD u p0 10 2 (.int v9) ∧ RI v9 0 0) ∧ True) ∧ HT cy GG Ps u ∧ FR wr_X10_begin wa_X10_begin Ps w0 u) (BB D cy (va_A w0 sz) (fun (u : va_W) => u)) (va_A w0 sz)) 0 0 (va_A w0 sz) := by
  refine Met.ofW (cc := cX10_begin) (maxL := 2) (ret := none) (by decide) rfl ?_
  intro p e s m args below meth c s₁ B hml hv
  obtain ⟨rfl, hsz, hP, hK, hD0, hSD⟩ := hv
  have hx := B.exec
  have hb := B.bytes
  have hr := B.returns
  have hlocks := B.notSynchronized
  have hts : ∀ w ∈ gT, w.before _ s = true := fun w h => atoms_spec (ws := Cond.code yX10_begin cX10_begin 2 none :: gT) B.pre w (List.mem_cons_of_mem _ h)
  have hown : s.vm.findClass RX10 = some m.cls := findClass_of_methodNamed B.named
  subst hsz
  have hD := hD0.self (sz := s.heap.size)
  generalize hAe : va_A w0 s.heap.size = A at hD hSD ⊢
  have hA : ∀ q : Nat, s.heap.size ≤ q → A q := fun q h => by rw [← hAe]; exact Or.inr h
  have hl := lv_entry ([.ref p0, .int p1]) (n := 2) (Nat.le_of_ble_eq_true rfl)
  rw [lg_entry_eq]
  generalize (lg_sl ([.ref p0, .int p1]) ++ List.replicate (2 - (lg_sl ([.ref p0, .int p1])).length) Slot.unset).toArray = ls at hl ⊢
  have hl : lv_has ls 2 [(0, .ref p0), (1, .int p1)] := hl
  refine nameQ (fun Q hQ => ?_)
  have hw : WD D cy GG A s wr_X10_begin wa_X10_begin Ps w0 Ps w0 s.heap [] := ⟨hT, hP, hD, va_S.rf, FR.rf, hT.1, [], (List.append_nil _).symm⟩
  refine lv_aload_n hx hb dX10_begin_0 rfl (lv_at hl 0 rfl) ?_
  refine lv_iconst (v := 0) hx hb dX10_begin_1 (by decide) ?_
  refine tg_put (ci := 10) (ts := ty_MODEL) (v := .int 0) (ty := .int) (C := RX10) (T := TX10) (N := 49) hx hb hts inX10 tyX10 tyX10_ok nmX10 hown hK hw h_p0 rfl rfl 0 (by decide) (hts _ tw_1137) (fun _ h9 => h9) rfl (by decide +kernel) rfl rfl (ft := vI (-2147483648) 2147483647) rfl ⟨_, rfl, (rl_0.to (by decide))⟩ (by decide) dX10_begin_2 (fun ws H locs hw n_k_1 hF9 => ?_)
  refine lv_aload_n hx hb dX10_begin_5 rfl (lv_at hl 0 rfl) ?_
  refine lv_aload_n hx hb dX10_begin_6 rfl (lv_at hl 0 rfl) ?_
  refine tk_i (va_runV (As := []) (rest := [.ref p0]) ⟨hx, hb, hml, hown, hts⟩ (c_X10_take l D cy z H.size Ps ws hw.1 p0 h_p0) (cwV 0 hts (gV tw_1294 tw_1296 ts_39 tw_15 tw_1297) rfl rfl rfl (by decide +kernel) ⟨Nat.le_of_ble_eq_true rfl, Nat.le_of_ble_eq_true rfl⟩) (tg_preV hw hK hSD hA (ci := 10) (q := (RX10, TX10, 49)) rfl h_p0 rfl) rfl rfl hl.1 rfl (lv_room (Nat.le_of_ble_eq_true rfl)) dX10_begin_7 ⟨Nat.le_of_ble_eq_true rfl, Nat.le_of_ble_eq_true rfl⟩) hw hA ⟨by decide, by decide⟩ (fun v_2 ws H locs hp_v_2 hw hF9 => ?_)
  have n_k_1 := FLD.over hF9 n_k_1 (by decide)
  have r_v_2 : RI v_2 0 940 := hp_v_2.1
  by_cases c9_v_2 : v_2 = 0
  · have r_v_2 : RI v_2 0 0 := by rw [c9_v_2]; exact rl_0
    obtain ⟨v_3, m_v_3, r_v_3⟩ := ((hp_v_2.2.1 c9_v_2).1)
    refine tg_put (ci := 10) (ts := ty_MODEL) (v := .int v_2) (ty := .int) (C := RX10) (T := TX10) (N := 49) hx hb hts inX10 tyX10 tyX10_ok nmX10 hown hK hw h_p0 rfl rfl 3 (by decide) (hts _ tw_1140) (fun _ h9 => h9) rfl (by decide +kernel) rfl rfl (ft := vI 0 940) rfl ⟨_, rfl, (r_v_2.to (by decide))⟩ (by decide) dX10_begin_10 (fun ws H locs hw n_k_4 hF9 => ?_)
    have n_k_1 := FLD.over hF9 n_k_1 (by decide)
    have m_v_3 := FLD.over hF9 m_v_3 (by decide)
    refine lv_aload_n hx hb dX10_begin_13 rfl (lv_at hl 0 rfl) ?_
    refine lv_iload_n hx hb dX10_begin_14 rfl (lv_at hl 1 rfl) ?_
    refine tg_put (ci := 10) (ts := ty_MODEL) (v := .int p1) (ty := .int) (C := RX10) (T := TX10) (N := 49) hx hb hts inX10 tyX10 tyX10_ok nmX10 hown hK hw h_p0 rfl rfl 4 (by decide) (hts _ tw_1141) (fun _ h9 => h9) rfl (by decide +kernel) rfl rfl (ft := vI (-2147483648) 2147483647) rfl ⟨_, rfl, r_p1⟩ (by decide) dX10_begin_15 (fun ws H locs hw n_k_5 hF9 => ?_)
    have n_k_1 := FLD.over hF9 n_k_1 (by decide)
    have m_v_3 := FLD.over hF9 m_v_3 (by decide)
    have n_k_4 := FLD.over hF9 n_k_4 (by decide)
    refine lv_aload_n hx hb dX10_begin_18 rfl (lv_at hl 0 rfl) ?_
    refine lv_iconst (v := 0) hx hb dX10_begin_19 (by decide) ?_
    refine tg_put (ci := 10) (ts := ty_MODEL) (v := .int 0) (ty := .int) (C := RX10) (T := TX10) (N := 49) hx hb hts inX10 tyX10 tyX10_ok nmX10 hown hK hw h_p0 rfl rfl 10 (by decide) (hts _ tw_1147) (fun _ h9 => h9) rfl (by decide +kernel) rfl rfl (ft := vI (-2147483648) 2147483647) rfl ⟨_, rfl, (rl_0.to (by decide))⟩ (by decide) dX10_begin_20 (fun ws H locs hw n_k_6 hF9 => ?_)
    have n_k_1 := FLD.over hF9 n_k_1 (by decide)
    have m_v_3 := FLD.over hF9 m_v_3 (by decide)
    have n_k_4 := FLD.over hF9 n_k_4 (by decide)
    have n_k_5 := FLD.over hF9 n_k_5 (by decide)
    refine lv_aload_n hx hb dX10_begin_23 rfl (lv_at hl 0 rfl) ?_
    refine lv_iconst (v := 0) hx hb dX10_begin_24 (by decide) ?_
    refine tg_put (ci := 10) (ts := ty_MODEL) (v := .int 0) (ty := .int) (C := RX10) (T := TX10) (N := 49) hx hb hts inX10 tyX10 tyX10_ok nmX10 hown hK hw h_p0 rfl rfl 5 (by decide) (hts _ tw_1142) (fun _ h9 => h9) rfl (by decide +kernel) rfl rfl (ft := vI 0 940) rfl ⟨_, rfl, (rl_0.to (by decide))⟩ (by decide) dX10_begin_25 (fun ws H locs hw n_k_7 hF9 => ?_)
    have n_k_1 := FLD.over hF9 n_k_1 (by decide)
    have m_v_3 := FLD.over hF9 m_v_3 (by decide)
    have n_k_4 := FLD.over hF9 n_k_4 (by decide)
    have n_k_5 := FLD.over hF9 n_k_5 (by decide)
    have n_k_6 := FLD.over hF9 n_k_6 (by decide)
    refine lv_aload_n hx hb dX10_begin_28 rfl (lv_at hl 0 rfl) ?_
    refine tk_v (va_runV (As := []) (rest := []) ⟨hx, hb, hml, hown, hts⟩ (c_X10_go l D cy z H.size Ps ws hw.1 p0 h_p0) (cwV 0 hts (gV tw_1298 tw_1300 ts_40 tw_15 tw_1301) rfl rfl rfl (by decide +kernel) ⟨Nat.le_of_ble_eq_true rfl, Nat.le_of_ble_eq_true rfl⟩) (tg_preV hw hK hSD hA (ci := 10) (q := (RX10, TX10, 49)) rfl h_p0 rfl) rfl rfl hl.1 rfl (lv_room (Nat.le_of_ble_eq_true rfl)) dX10_begin_29 ⟨Nat.le_of_ble_eq_true rfl, Nat.le_of_ble_eq_true rfl⟩) hw hA ⟨by decide, by decide⟩ (fun ws H locs hp_v_8 hw hF9 => ?_)
    have n_k_1 := FLD.over hF9 n_k_1 (by decide)
    have m_v_3 := FLD.over hF9 m_v_3 (by decide)
    have n_k_4 := FLD.over hF9 n_k_4 (by decide)
    have n_k_5 := FLD.over hF9 n_k_5 (by decide)
    have n_k_6 := FLD.over hF9 n_k_6 (by decide)
    subst hQ
    exact W.vret hx hb hr (fun t ht hW => ⟨⟨ws, rfl, ⟨⟨⟨_, m_v_3, r_v_3⟩, trivial⟩, hw.1, hw.2.2.2.2.1⟩, by rw [ht]; exact hw.2.1, va_K.moved hW.alike hK, hw.2.2.1⟩, hw.2.2.2.1.F ht⟩) hw.2.2.2.1.2.2 dX10_begin_32
  · have r_v_2 : RI v_2 1 940 := rc_neL r_v_2 rl_0 (ti_ne c9_v_2) (by decide)
    obtain ⟨v_9, m_v_9, r_v_9⟩ := ((hp_v_2.2.2 c9_v_2).1)
    refine tg_put (ci := 10) (ts := ty_MODEL) (v := .int v_2) (ty := .int) (C := RX10) (T := TX10) (N := 49) hx hb hts inX10 tyX10 tyX10_ok nmX10 hown hK hw h_p0 rfl rfl 3 (by decide) (hts _ tw_1140) (fun _ h9 => h9) rfl (by decide +kernel) rfl rfl (ft := vI 0 940) rfl ⟨_, rfl, (r_v_2.to (by decide))⟩ (by decide) dX10_begin_10 (fun ws H locs hw n_k_10 hF9 => ?_)
    have n_k_1 := FLD.over hF9 n_k_1 (by decide)
    have m_v_9 := FLD.over hF9 m_v_9 (by decide)
    refine lv_aload_n hx hb dX10_begin_13 rfl (lv_at hl 0 rfl) ?_
    refine lv_iload_n hx hb dX10_begin_14 rfl (lv_at hl 1 rfl) ?_
    refine tg_put (ci := 10) (ts := ty_MODEL) (v := .int p1) (ty := .int) (C := RX10) (T := TX10) (N := 49) hx hb hts inX10 tyX10 tyX10_ok nmX10 hown hK hw h_p0 rfl rfl 4 (by decide) (hts _ tw_1141) (fun _ h9 => h9) rfl (by decide +kernel) rfl rfl (ft := vI (-2147483648) 2147483647) rfl ⟨_, rfl, r_p1⟩ (by decide) dX10_begin_15 (fun ws H locs hw n_k_11 hF9 => ?_)
    have n_k_1 := FLD.over hF9 n_k_1 (by decide)
    have m_v_9 := FLD.over hF9 m_v_9 (by decide)
    have n_k_10 := FLD.over hF9 n_k_10 (by decide)
    refine lv_aload_n hx hb dX10_begin_18 rfl (lv_at hl 0 rfl) ?_
    refine lv_iconst (v := 0) hx hb dX10_begin_19 (by decide) ?_
    refine tg_put (ci := 10) (ts := ty_MODEL) (v := .int 0) (ty := .int) (C := RX10) (T := TX10) (N := 49) hx hb hts inX10 tyX10 tyX10_ok nmX10 hown hK hw h_p0 rfl rfl 10 (by decide) (hts _ tw_1147) (fun _ h9 => h9) rfl (by decide +kernel) rfl rfl (ft := vI (-2147483648) 2147483647) rfl ⟨_, rfl, (rl_0.to (by decide))⟩ (by decide) dX10_begin_20 (fun ws H locs hw n_k_12 hF9 => ?_)
    have n_k_1 := FLD.over hF9 n_k_1 (by decide)
    have m_v_9 := FLD.over hF9 m_v_9 (by decide)
    have n_k_10 := FLD.over hF9 n_k_10 (by decide)
    have n_k_11 := FLD.over hF9 n_k_11 (by decide)
    refine lv_aload_n hx hb dX10_begin_23 rfl (lv_at hl 0 rfl) ?_
    refine lv_iconst (v := 0) hx hb dX10_begin_24 (by decide) ?_
    refine tg_put (ci := 10) (ts := ty_MODEL) (v := .int 0) (ty := .int) (C := RX10) (T := TX10) (N := 49) hx hb hts inX10 tyX10 tyX10_ok nmX10 hown hK hw h_p0 rfl rfl 5 (by decide) (hts _ tw_1142) (fun _ h9 => h9) rfl (by decide +kernel) rfl rfl (ft := vI 0 940) rfl ⟨_, rfl, (rl_0.to (by decide))⟩ (by decide) dX10_begin_25 (fun ws H locs hw n_k_13 hF9 => ?_)
    have n_k_1 := FLD.over hF9 n_k_1 (by decide)
    have m_v_9 := FLD.over hF9 m_v_9 (by decide)
    have n_k_10 := FLD.over hF9 n_k_10 (by decide)
    have n_k_11 := FLD.over hF9 n_k_11 (by decide)
    have n_k_12 := FLD.over hF9 n_k_12 (by decide)
    refine lv_aload_n hx hb dX10_begin_28 rfl (lv_at hl 0 rfl) ?_
    refine tk_v (va_runV (As := []) (rest := []) ⟨hx, hb, hml, hown, hts⟩ (c_X10_go l D cy z H.size Ps ws hw.1 p0 h_p0) (cwV 0 hts (gV tw_1298 tw_1300 ts_40 tw_15 tw_1301) rfl rfl rfl (by decide +kernel) ⟨Nat.le_of_ble_eq_true rfl, Nat.le_of_ble_eq_true rfl⟩) (tg_preV hw hK hSD hA (ci := 10) (q := (RX10, TX10, 49)) rfl h_p0 rfl) rfl rfl hl.1 rfl (lv_room (Nat.le_of_ble_eq_true rfl)) dX10_begin_29 ⟨Nat.le_of_ble_eq_true rfl, Nat.le_of_ble_eq_true rfl⟩) hw hA ⟨by decide, by decide⟩ (fun ws H locs hp_v_14 hw hF9 => ?_)
    have n_k_1 := FLD.over hF9 n_k_1 (by decide)
    have m_v_9 := FLD.over hF9 m_v_9 (by decide)
    have n_k_10 := FLD.over hF9 n_k_10 (by decide)
    have n_k_11 := FLD.over hF9 n_k_11 (by decide)
    have n_k_12 := FLD.over hF9 n_k_12 (by decide)
    subst hQ
    exact W.vret hx hb hr (fun t ht hW => ⟨⟨ws, rfl, ⟨⟨⟨_, m_v_9, r_v_9⟩, trivial⟩, hw.1, hw.2.2.2.2.1⟩, by rw [ht]; exact hw.2.1, va_K.moved hW.alike hK, hw.2.2.1⟩, hw.2.2.2.1.F ht⟩) hw.2.2.2.1.2.2 dX10_begin_32
abbrev wr_X10_isIn__12 : List (Nat × Nat) := []
abbrev wa_X10_isIn__12 : List Nat := []
set_option maxHeartbeats 4000000 in
set_option maxRecDepth 100000 in
theorem c_X10_isIn__12 (l : Launch) (D : va_G) (cy : Nat → ClassId) (z : Nat → Nat) (sz : Nat) (Ps : PSI) (w0 : va_W) (hT : HT cy GG Ps w0) (p0 : Int32) (p1 : Int32) (p2 : Int32) (r_p0 : RI p0 (-2147483648) 2147483647) (r_p1 : RI p1 0 0) (r_p2 : RI p2 1 1) : Met l yX10_isIn (Cond.code yX10_isIn cX10_isIn 3 (some .boolean) :: gT) ({ frames := 0, cells := 0, slots := 0, locals := 200 } : Room) (va_Pc [.int p0, .int p1, .int p2] (PRE D cy z w0 sz)) (va_Qi (fun (r : Int32) (u : Unit) => RI r 0 1 ∧ (r = 0 → ¬ (0 ≤ Int32.toInt p0 ∧ Int32.toInt p0 ≤ 1) ∧ True) ∧ (¬ r = 0 → RI p0 0 1 ∧ (0 ≤ Int32.toInt p0 ∧ Int32.toInt p0 ≤ 1) ∧ True)) (BB D cy (va_A w0 sz) (fun (u : Unit) => w0)) (va_A w0 sz)) 0 0 (va_A w0 sz) := by
  refine Met.ofW (cc := cX10_isIn) (maxL := 3) (ret := (some .boolean)) (by decide) rfl ?_
  intro p e s m args below meth c s₁ B hml hv
  obtain ⟨rfl, hsz, hP, hK, hD0, hSD⟩ := hv
  have hx := B.exec
  have hb := B.bytes
  have hr := B.returns
  have hlocks := B.notSynchronized
  have hts : ∀ w ∈ gT, w.before _ s = true := fun w h => atoms_spec (ws := Cond.code yX10_isIn cX10_isIn 3 (some .boolean) :: gT) B.pre w (List.mem_cons_of_mem _ h)
  have hown : s.vm.findClass RX10 = some m.cls := findClass_of_methodNamed B.named
  subst hsz
  have hD := hD0.self (sz := s.heap.size)
  generalize hAe : va_A w0 s.heap.size = A at hD hSD ⊢
  have hA : ∀ q : Nat, s.heap.size ≤ q → A q := fun q h => by rw [← hAe]; exact Or.inr h
  have hl := lv_entry ([.int p0, .int p1, .int p2]) (n := 3) (Nat.le_of_ble_eq_true rfl)
  rw [lg_entry_eq]
  generalize (lg_sl ([.int p0, .int p1, .int p2]) ++ List.replicate (3 - (lg_sl ([.int p0, .int p1, .int p2])).length) Slot.unset).toArray = ls at hl ⊢
  have hl : lv_has ls 3 [(0, .int p0), (1, .int p1), (2, .int p2)] := hl
  refine nameQ (fun Q hQ => ?_)
  have hw : WD D cy GG A s wr_X10_isIn__12 wa_X10_isIn__12 Ps w0 Ps w0 s.heap [] := ⟨hT, hP, hD, va_S.rf, FR.rf, hT.1, [], (List.append_nil _).symm⟩
  refine lv_iload_n hx hb dX10_isIn_0 rfl (lv_at hl 0 rfl) ?_
  refine lv_iload_n hx hb dX10_isIn_1 rfl (lv_at hl 1 rfl) ?_
  refine lv_icmp_lt (tgt := 14) hx hb dX10_isIn_2 (by decide) (fun c_2 => ?_) (fun c_2 => ?_)
  · have r_p0 : RI p0 (-2147483648) (-1) := rc_lt1 r_p0 r_p1 (ti_lt c_2) (by decide)
    have x_IMG0_p0 : ¬ (0 ≤ Int32.toInt p0 ∧ Int32.toInt p0 ≤ 1) := by have k1 := r_p0.1; have k2 := r_p0.2; omega
    refine lv_iconst (v := 0) hx hb dX10_isIn_14 (by decide) ?_
    subst hQ
    exact W.zret (v := 0) hx hb hr (rfl) (fun t ht hW => ⟨⟨0, (), rfl, ⟨rl_0.to (by decide), (fun h0 => ⟨x_IMG0_p0, trivial⟩), (fun h0 => absurd rfl h0)⟩, by rw [ht]; exact hw.2.1, va_K.moved hW.alike hK, hw.2.2.1⟩, hw.2.2.2.1.F ht⟩) hw.2.2.2.1.2.2 dX10_isIn_15
  · have r_p0 : RI p0 0 2147483647 := rc_le2 r_p1 r_p0 (ti_nlt c_2) (by decide)
    refine lv_iload_n hx hb dX10_isIn_5 rfl (lv_at hl 0 rfl) ?_
    refine lv_iload_n hx hb dX10_isIn_6 rfl (lv_at hl 2 rfl) ?_
    refine lv_icmp_gt (tgt := 14) hx hb dX10_isIn_7 (by decide) (fun c_7 => ?_) (fun c_7 => ?_)
    · have r_p0 : RI p0 2 2147483647 := rc_lt2 r_p2 r_p0 (ti_lt c_7) (by decide)
      have x_IMG0_p0 : ¬ (0 ≤ Int32.toInt p0 ∧ Int32.toInt p0 ≤ 1) := by have k1 := r_p0.1; have k2 := r_p0.2; omega
      refine lv_iconst (v := 0) hx hb dX10_isIn_14 (by decide) ?_
      subst hQ
      exact W.zret (v := 0) hx hb hr (rfl) (fun t ht hW => ⟨⟨0, (), rfl, ⟨rl_0.to (by decide), (fun h0 => ⟨x_IMG0_p0, trivial⟩), (fun h0 => absurd rfl h0)⟩, by rw [ht]; exact hw.2.1, va_K.moved hW.alike hK, hw.2.2.1⟩, hw.2.2.2.1.F ht⟩) hw.2.2.2.1.2.2 dX10_isIn_15
    · have r_p0 : RI p0 0 1 := rc_le1 r_p0 r_p2 (ti_nlt c_7) (by decide)
      have x_IMG1_p0 : (0 ≤ Int32.toInt p0 ∧ Int32.toInt p0 ≤ 1) := by have k1 := r_p0.1; have k2 := r_p0.2; omega
      refine lv_iconst (v := 1) hx hb dX10_isIn_10 (by decide) ?_
      refine lv_goto (tgt := 15) hx hb dX10_isIn_11 (by decide) ?_
      subst hQ
      exact W.zret (v := 1) hx hb hr (rfl) (fun t ht hW => ⟨⟨1, (), rfl, ⟨rl_1.to (by decide), (fun h0 => absurd h0 (by decide)), (fun h0 => ⟨r_p0, x_IMG1_p0, trivial⟩)⟩, by rw [ht]; exact hw.2.1, va_K.moved hW.alike hK, hw.2.2.1⟩, hw.2.2.2.1.F ht⟩) hw.2.2.2.1.2.2 dX10_isIn_15
abbrev wr_X10_image : List (Nat × Nat) := [(10, 0)]
abbrev wa_X10_image : List Nat := [36, 43, 44]
set_option maxHeartbeats 4000000 in
set_option maxRecDepth 100000 in
theorem c_X10_image (l : Launch) (D : va_G) (cy : Nat → ClassId) (z : Nat → Nat) (sz : Nat) (Ps : PSI) (w0 : va_W) (hT : HT cy GG Ps w0) (p0 : Nat) (p1 : Int32) (h_p0 : (p0, 55) ∈ Ps) (r_p1 : RI p1 (-2147483648) 2147483647) : Met l yX10_image (Cond.code yX10_image cX10_image 3 (some .boolean) :: gT) ({ frames := 2, cells := 0, slots := 0, locals := 400 } : Room) (va_Pc [.ref p0, .int p1] (PRE D cy z w0 sz)) (va_Qi (fun (r : Int32) (u : va_W) => (RI r 0 1 ∧ (r = 0 → ¬ (0 ≤ Int32.toInt p1 ∧ Int32.toInt p1 ≤ 1) ∧ True) ∧ (¬ r = 0 → (0 ≤ Int32.toInt p1 ∧ Int32.toInt p1 ≤ 1) ∧ True)) ∧ HT cy GG Ps u ∧ FR wr_X10_image wa_X10_image Ps w0 u) (BB D cy (va_A w0 sz) (fun (u : va_W) => u)) (va_A w0 sz)) 0 0 (va_A w0 sz) := by
  refine Met.ofW (cc := cX10_image) (maxL := 3) (ret := (some .boolean)) (by decide) rfl ?_
  intro p e s m args below meth c s₁ B hml hv
  obtain ⟨rfl, hsz, hP, hK, hD0, hSD⟩ := hv
  have hx := B.exec
  have hb := B.bytes
  have hr := B.returns
  have hlocks := B.notSynchronized
  have hts : ∀ w ∈ gT, w.before _ s = true := fun w h => atoms_spec (ws := Cond.code yX10_image cX10_image 3 (some .boolean) :: gT) B.pre w (List.mem_cons_of_mem _ h)
  have hown : s.vm.findClass RX10 = some m.cls := findClass_of_methodNamed B.named
  subst hsz
  have hD := hD0.self (sz := s.heap.size)
  generalize hAe : va_A w0 s.heap.size = A at hD hSD ⊢
  have hA : ∀ q : Nat, s.heap.size ≤ q → A q := fun q h => by rw [← hAe]; exact Or.inr h
  have hl := lv_entry ([.ref p0, .int p1]) (n := 3) (Nat.le_of_ble_eq_true rfl)
  rw [lg_entry_eq]
  generalize (lg_sl ([.ref p0, .int p1]) ++ List.replicate (3 - (lg_sl ([.ref p0, .int p1])).length) Slot.unset).toArray = ls at hl ⊢
  have hl : lv_has ls 3 [(0, .ref p0), (1, .int p1)] := hl
  refine nameQ (fun Q hQ => ?_)
  have hw : WD D cy GG A s wr_X10_image wa_X10_image Ps w0 Ps w0 s.heap [] := ⟨hT, hP, hD, va_S.rf, FR.rf, hT.1, [], (List.append_nil _).symm⟩
  have B51 : ∀ (nf : Nat) (x2 : Int32) (z0_0 : Int32) (ws : va_W) (H : Heap) (locs : List Loc) (ls : Array Slot), 24 - x2.toInt < (nf : Int) → RI p1 0 1 → RI x2 0 24 → RI z0_0 0 0 → FLD ws p0 10 0 (.int z0_0) → (0 ≤ Int32.toInt p1 ∧ Int32.toInt p1 ≤ 1) → WD D cy GG A s wr_X10_image wa_X10_image Ps w0 Ps ws H locs → lv_has ls 3 [(0, .ref p0), (1, .int p1), (2, .int x2)] → W p l e (headSpec (Cond.code yX10_image cX10_image 3 (some .boolean) :: gT) ({ frames := 2, cells := 0, slots := 0, locals := 400 } : Room)).room s m ([.ref p0, .int p1] : List Value).toArray below meth c H locs 0 0 Q (F0 m 51 ls []) := by
    intro nf51
    induction nf51 with
    | zero =>
      intro x2 z0_0 ws H locs ls hn51 r_p1 r_x2 r_z0_0 m_z0_0 x_IMG1_p1 hw hl
      exact absurd hn51 (by have q0 := r_x2.1; have u0 := r_x2.2; omega)
    | succ nf51 ih51 =>
      intro x2 z0_0 ws H locs ls hn51 r_p1 r_x2 r_z0_0 m_z0_0 x_IMG1_p1 hw hl
      refine lv_iload_n hx hb dX10_image_51 rfl (lv_at hl 2 rfl) ?_
      refine lv_bipush (v := 24) hx hb dX10_image_52 (by decide) ?_
      refine lv_icmp_ge (tgt := 80) hx hb dX10_image_54 (by decide) (fun c_54 => ?_) (fun c_54 => ?_)
      · have r_x2 : RI x2 24 24 := rc_le2 rl_24 r_x2 (ti_le c_54) (by decide)
        refine lv_aload_n hx hb dX10_image_80 rfl (lv_at hl 0 rfl) ?_
        refine tg_get (ci := 10) (ts := ty_MODEL) (C := RX10) (T := TX10) (N := 49) hx hb hts inX10 hown hK hw h_p0 rfl rfl 23 (by decide) (hts _ tw_1160) (fun _ h9 => h9) (ft := vR 44) rfl dX10_image_81 (fun u_1 hv_u_1 m_u_1 => ?_)
        obtain ⟨vu_1, rfl, h_vu_1⟩ := hv_u_1
        refine lv_iload_n hx hb dX10_image_84 rfl (lv_at hl 1 rfl) ?_
        refine lv_iconst (v := 1) hx hb dX10_image_85 (by decide) ?_
        refine tg_zast hx hb hK hw h_vu_1 rfl 0 1 r_p1 (by decide) (by decide) dX10_image_86 (fun ws H locs hw hF9 => ?_)
        have m_z0_0 := FLD.over hF9 m_z0_0 (by decide)
        have m_u_1 := FLD.over hF9 m_u_1 (by decide)
        refine lv_iconst (v := 1) hx hb dX10_image_87 (by decide) ?_
        subst hQ
        exact W.zret (v := 1) hx hb hr (rfl) (fun t ht hW => ⟨⟨1, ws, rfl, ⟨⟨rl_1.to (by decide), (fun h0 => absurd h0 (by decide)), (fun h0 => ⟨x_IMG1_p1, trivial⟩)⟩, hw.1, hw.2.2.2.2.1⟩, by rw [ht]; exact hw.2.1, va_K.moved hW.alike hK, hw.2.2.1⟩, hw.2.2.2.1.F ht⟩) hw.2.2.2.1.2.2 dX10_image_88
      · have r_x2 : RI x2 0 23 := rc_lt1 r_x2 rl_24 (ti_nle c_54) (by decide)
        refine lv_aload_n hx hb dX10_image_57 rfl (lv_at hl 0 rfl) ?_
        refine tg_get (ci := 10) (ts := ty_MODEL) (C := RX10) (T := TX10) (N := 49) hx hb hts inX10 hown hK hw h_p0 rfl rfl 22 (by decide) (hts _ tw_1159) (fun _ h9 => h9) (ft := vR 43) rfl dX10_image_58 (fun u_2 hv_u_2 m_u_2 => ?_)
        obtain ⟨vu_2, rfl, h_vu_2⟩ := hv_u_2
        refine lv_bipush (v := 24) hx hb dX10_image_61 (by decide) ?_
        refine lv_iload_n hx hb dX10_image_63 rfl (lv_at hl 1 rfl) ?_
        refine lv_imul hx hb dX10_image_64 (lv_topi (fun v_3 e_v_3 => ?_))
        obtain ⟨t_v_3, r_v_3⟩ := tq_mul (lo := 0) (hi := 24) rl_24 r_p1 (by decide +kernel) e_v_3
        have t_v_3 : v_3.toInt = 24 * p1.toInt := t_v_3
        refine lv_iload_n hx hb dX10_image_65 rfl (lv_at hl 2 rfl) ?_
        refine lv_iadd hx hb dX10_image_66 (lv_topi (fun v_4 e_v_4 => ?_))
        obtain ⟨t_v_4, r_v_4⟩ := tq_add (lo := 0) (hi := 47) r_v_3 r_x2 (by decide +kernel) e_v_4
        refine lv_aload_n hx hb dX10_image_67 rfl (lv_at hl 0 rfl) ?_
        refine tg_get (ci := 10) (ts := ty_MODEL) (C := RX10) (T := TX10) (N := 49) hx hb hts inX10 hown hK hw h_p0 rfl rfl 20 (by decide) (hts _ tw_1157) (fun _ h9 => h9) (ft := vR 41) rfl dX10_image_68 (fun u_5 hv_u_5 m_u_5 => ?_)
        obtain ⟨vu_5, rfl, h_vu_5⟩ := hv_u_5
        refine lv_iload_n hx hb dX10_image_71 rfl (lv_at hl 2 rfl) ?_
        refine tg_lald hx hb hK hw h_vu_5 rfl r_x2 (by decide) dX10_image_72 (fun w_6 r_w_6 => ?_)
        refine tg_last hx hb hK hw h_vu_2 rfl r_v_4 (by decide) r_w_6 (by decide) (by decide) dX10_image_73 (fun ws H locs hw hF9 => ?_)
        have m_z0_0 := FLD.over hF9 m_z0_0 (by decide)
        have m_u_2 := FLD.over hF9 m_u_2 (by decide)
        have m_u_5 := FLD.over hF9 m_u_5 (by decide)
        obtain ⟨v_7, e_v_7⟩ : ∃ q9 : Int32, q9 = x2 + Int32.ofInt 1 := ⟨_, rfl⟩
        obtain ⟨t_v_7, r_v_7⟩ := tq_add (lo := 1) (hi := 24) r_x2 (show RI (Int32.ofInt 1) 1 1 by unfold RI; decide +kernel) (by decide +kernel) e_v_7
        have t_v_7 : v_7.toInt = x2.toInt + 1 := t_v_7
        refine lv_iinc (v := v_7) (lv' := [(2, .int v_7), (0, .ref p0), (1, .int p1)]) hx hb dX10_image_74 hl (k := 2) rfl e_v_7.symm (by decide) rfl (fun ls hl => ?_)
        refine lv_goto (tgt := 51) hx hb dX10_image_77 (by decide) ?_
        exact ih51 v_7 z0_0 ws _ _ ls (by have q0 := r_v_7.1; have u0 := r_v_7.2; have o0 := r_x2.1; have p0 := r_x2.2; omega) r_p1 (r_v_7.to (by decide)) r_z0_0 m_z0_0 x_IMG1_p1 hw (lv_sub hl [1, 2, 0] rfl)
  have B18 : ∀ (nf : Nat) (x2 : Int32) (z0_0 : Int32) (za16 : Nat) (za14 : Nat) (ws : va_W) (H : Heap) (locs : List Loc) (ls : Array Slot), 414 - x2.toInt < (nf : Int) → RI p1 0 1 → RI x2 0 414 → RI z0_0 0 0 → FLD ws p0 10 0 (.int z0_0) → (0 ≤ Int32.toInt p1 ∧ Int32.toInt p1 ≤ 1) → (za16, 36) ∈ Ps → FLD ws p0 10 16 (.ref za16) → (za14, 34) ∈ Ps → FLD ws p0 10 14 (.ref za14) → AX2 16 36 14 34 (fun f g => CIp p1 x2 f g) Ps ws p0 → WD D cy (GX za16) A s wr_X10_image wa_X10_image Ps w0 Ps ws H locs → lv_has ls 3 [(0, .ref p0), (1, .int p1), (2, .int x2)] → W p l e (headSpec (Cond.code yX10_image cX10_image 3 (some .boolean) :: gT) ({ frames := 2, cells := 0, slots := 0, locals := 400 } : Room)).room s m ([.ref p0, .int p1] : List Value).toArray below meth c H locs 0 0 Q (F0 m 18 ls []) := by
    intro nf18
    induction nf18 with
    | zero =>
      intro x2 z0_0 za16 za14 ws H locs ls hn18 r_p1 r_x2 r_z0_0 m_z0_0 x_IMG1_p1 h_za16 m_za16 h_za14 m_za14 x_CIM_p0_p1__2 hw hl
      exact absurd hn18 (by have q0 := r_x2.1; have u0 := r_x2.2; omega)
    | succ nf18 ih18 =>
      intro x2 z0_0 za16 za14 ws H locs ls hn18 r_p1 r_x2 r_z0_0 m_z0_0 x_IMG1_p1 h_za16 m_za16 h_za14 m_za14 x_CIM_p0_p1__2 hw hl
      refine lv_iload_n hx hb dX10_image_18 rfl (lv_at hl 2 rfl) ?_
      refine lv_sipush (v := 414) hx hb dX10_image_19 (by decide) ?_
      refine lv_icmp_ge (tgt := 49) hx hb dX10_image_22 (by decide) (fun c_22 => ?_) (fun c_22 => ?_)
      · have r_x2 : RI x2 414 414 := rc_le2 rl_414 r_x2 (ti_le c_22) (by decide)
        have hw := WD.back hw h_za16 rfl (fun f9 q9 => by obtain ⟨g9, e9⟩ := AX2.arr hw x_CIM_p0_p1__2 m_za16 f9 q9; exact CI_end e9 (r_p1.to (by decide)) (r_x2.to (by decide)))
        refine lv_iconst (v := 0) hx hb dX10_image_49 (by decide) ?_
        refine lv_istore_n (lv' := [(2, .int 0), (0, .ref p0), (1, .int p1)]) hx hb dX10_image_50 rfl hl (by decide) rfl (fun ls hl => ?_)
        exact B51 4294967298 0 z0_0 ws _ _ ls (by have q0 := rl_0.1; have u0 := rl_0.2; omega) r_p1 (rl_0.to (by decide)) r_z0_0 m_z0_0 x_IMG1_p1 hw (lv_sub hl [1, 2, 0] rfl)
      · have r_x2 : RI x2 0 413 := rc_lt1 r_x2 rl_414 (ti_nle c_22) (by decide)
        refine lv_aload_n hx hb dX10_image_25 rfl (lv_at hl 0 rfl) ?_
        refine tg_mem (ci := 10) (C := RX10) (T := TX10) (N := 49) hx hb hts inX10 hown hK hw 16 m_za16 rfl (by decide) (hts _ tw_1153) (fun _ h9 => h9) dX10_image_26 ?_
        refine lv_sipush (v := 414) hx hb dX10_image_29 (by decide) ?_
        refine lv_iload_n hx hb dX10_image_32 rfl (lv_at hl 1 rfl) ?_
        refine lv_imul hx hb dX10_image_33 (lv_topi (fun v_8 e_v_8 => ?_))
        obtain ⟨t_v_8, r_v_8⟩ := tq_mul (lo := 0) (hi := 414) rl_414 r_p1 (by decide +kernel) e_v_8
        have t_v_8 : v_8.toInt = 414 * p1.toInt := t_v_8
        refine lv_iload_n hx hb dX10_image_34 rfl (lv_at hl 2 rfl) ?_
        refine lv_iadd hx hb dX10_image_35 (lv_topi (fun v_9 e_v_9 => ?_))
        obtain ⟨t_v_9, r_v_9⟩ := tq_add (lo := 0) (hi := 827) r_v_8 r_x2 (by decide +kernel) e_v_9
        refine lv_aload_n hx hb dX10_image_36 rfl (lv_at hl 0 rfl) ?_
        refine tg_mem (ci := 10) (C := RX10) (T := TX10) (N := 49) hx hb hts inX10 hown hK hw 14 m_za14 rfl (by decide) (hts _ tw_1151) (fun _ h9 => h9) dX10_image_37 ?_
        refine lv_iload_n hx hb dX10_image_40 rfl (lv_at hl 2 rfl) ?_
        refine tg_iald (lo := (-2147483648)) (hi := 2147483647) hx hb hK hw h_za14 rfl 0 413 r_x2 (by decide) (by decide +kernel) dX10_image_41 (fun v_10 r_v_10 m_v_10 o_v_10 => ?_)
        have x_CIMV_p0_p1_x2_x2_v_10 : AX2 16 36 14 34 (fun f g => CIp p1 x2 f g ∧ g (Int32.toNatClampNeg x2) = v_10) Ps ws p0 := AX2.el hw x_CIM_p0_p1__2 m_za14 m_v_10
        have hw8 := hw
        have e_11 : x2.toNatClampNeg = v_9.toNatClampNeg % 414 := by have k1 := r_x2.cl (by decide); have k2 := r_v_9.cl (by decide); have b10 := r_p1.1; have b20 := r_p1.2; have b11 := r_x2.1; have b21 := r_x2.2; have b12 := r_z0_0.1; have b22 := r_z0_0.2; have b13 := r_v_8.1; have b23 := r_v_8.2; have b14 := r_v_9.1; have b24 := r_v_9.2; have b15 := r_v_10.1; have b25 := r_v_10.2; omega
        refine tg_iasto hx hb hK hw h_za16 rfl 0 827 r_v_9 (by decide) (show RI _ (canon (v_9.toNatClampNeg % 414)).1 (canon (v_9.toNatClampNeg % 414)).2 by rw [← e_11]; exact o_v_10) (fun _ _ _ _ _ => Or.inl rfl) (by decide) dX10_image_42 (fun ws H locs hw hF9 hU9 => ?_)
        have x_CIMT_p0_p1_x2 : AX2 16 36 14 34 (fun f g => ∀ k9 : Int32, k9.toInt = Int32.toInt x2 + 1 → CIp p1 k9 f g) Ps ws p0 := AX2.ast hF9 hU9 x_CIMV_p0_p1_x2_x2_v_10 m_za16 (by decide) (fun f9 g9 h9 => fun k9 e9 => CI_step h9 (r_p1.to (by decide)) (r_x2.to (by decide)) rfl e9 (by have k1 := t_v_9; omega))
        have m_v_10 := AEL.over hw8 hF9 h_za14 m_v_10 (by decide)
        have m_z0_0 := FLD.over hF9 m_z0_0 (by decide)
        have m_za16 := FLD.over hF9 m_za16 (by decide)
        have m_za14 := FLD.over hF9 m_za14 (by decide)
        obtain ⟨v_12, e_v_12⟩ : ∃ q9 : Int32, q9 = x2 + Int32.ofInt 1 := ⟨_, rfl⟩
        obtain ⟨t_v_12, r_v_12⟩ := tq_add (lo := 1) (hi := 414) r_x2 (show RI (Int32.ofInt 1) 1 1 by unfold RI; decide +kernel) (by decide +kernel) e_v_12
        have t_v_12 : v_12.toInt = x2.toInt + 1 := t_v_12
        refine lv_iinc (v := v_12) (lv' := [(2, .int v_12), (0, .ref p0), (1, .int p1)]) hx hb dX10_image_43 hl (k := 2) rfl e_v_12.symm (by decide) rfl (fun ls hl => ?_)
        refine lv_goto (tgt := 18) hx hb dX10_image_46 (by decide) ?_
        have x_CIM_p0_p1_v_12 : AX2 16 36 14 34 (fun f g => CIp p1 v_12 f g) Ps ws p0 := AX2.imp x_CIMT_p0_p1_x2 (fun f9 g9 h9 => h9 _ t_v_12)
        exact ih18 v_12 z0_0 za16 za14 ws _ _ ls (by have q0 := r_v_12.1; have u0 := r_v_12.2; have o0 := r_x2.1; have p0 := r_x2.2; omega) r_p1 (r_v_12.to (by decide)) r_z0_0 m_z0_0 x_IMG1_p1 h_za16 m_za16 h_za14 m_za14 x_CIM_p0_p1_v_12 hw (lv_sub hl [1, 2, 0] rfl)
  refine lv_aload_n hx hb dX10_image_0 rfl (lv_at hl 0 rfl) ?_
  refine lv_iconst (v := 0) hx hb dX10_image_1 (by decide) ?_
  refine tg_put (ci := 10) (ts := ty_MODEL) (v := .int 0) (ty := .int) (C := RX10) (T := TX10) (N := 49) hx hb hts inX10 tyX10 tyX10_ok nmX10 hown hK hw h_p0 rfl rfl 0 (by decide) (hts _ tw_1137) (fun _ h9 => h9) rfl (by decide +kernel) rfl rfl (ft := vI (-2147483648) 2147483647) rfl ⟨_, rfl, (rl_0.to (by decide))⟩ (by decide) dX10_image_2 (fun ws H locs hw n_k_13 hF9 => ?_)
  refine lv_iload_n hx hb dX10_image_5 rfl (lv_at hl 1 rfl) ?_
  refine lv_iconst (v := 0) hx hb dX10_image_6 (by decide) ?_
  refine lv_iconst (v := 1) hx hb dX10_image_7 (by decide) ?_
  refine tk_ir (va_runS (As := [.int p1, .int 0, .int 1]) (rest := []) ⟨hx, hb, hml, hown, hts⟩ (c_X10_isIn__12 l D cy z H.size Ps ws hw.1 p1 0 1 r_p1 rl_0 rl_1) (va_cwS 3 hts (gS tw_1359 tw_1360 tw_15 tw_1361) rfl rfl rfl (by decide +kernel) ⟨Nat.le_of_ble_eq_true rfl, Nat.le_of_ble_eq_true rfl⟩) (tg_preS hw hK hSD hA) rfl rfl hl.1 rfl (lv_room (Nat.le_of_ble_eq_true rfl)) dX10_image_8 ⟨Nat.le_of_ble_eq_true rfl, Nat.le_of_ble_eq_true rfl⟩) hw hA (fun v_14  H locs hp_v_14 hw => ?_)
  have r_v_14 : RI v_14 0 1 := hp_v_14.1
  by_cases c9_v_14 : v_14 = 0
  · have r_v_14 : RI v_14 0 0 := by rw [c9_v_14]; exact rl_0
    have x_IMG0_p1 := ((hp_v_14.2.1 c9_v_14).1)
    refine lv_if_ne (tgt := 16) hx hb dX10_image_11 (by decide) (fun c_11 => ?_) (fun c_11 => ?_)
    · exact absurd (r_v_14.eq.trans rl_0.eq.symm) ((ti_ne c_11))
    · refine lv_iconst (v := 0) hx hb dX10_image_14 (by decide) ?_
      subst hQ
      exact W.zret (v := 0) hx hb hr (rfl) (fun t ht hW => ⟨⟨0, ws, rfl, ⟨⟨rl_0.to (by decide), (fun h0 => ⟨x_IMG0_p1, trivial⟩), (fun h0 => absurd rfl h0)⟩, hw.1, hw.2.2.2.2.1⟩, by rw [ht]; exact hw.2.1, va_K.moved hW.alike hK, hw.2.2.1⟩, hw.2.2.2.1.F ht⟩) hw.2.2.2.1.2.2 dX10_image_15
  · have r_v_14 : RI v_14 1 1 := rc_neL r_v_14 rl_0 (ti_ne c9_v_14) (by decide)
    have r_p1 : RI p1 0 1 := ((hp_v_14.2.2 c9_v_14).1)
    have x_IMG1_p1 := ((hp_v_14.2.2 c9_v_14).2.1)
    refine lv_if_ne (tgt := 16) hx hb dX10_image_11 (by decide) (fun c_11 => ?_) (fun c_11 => ?_)
    · have x_IMG1_p1 : (0 ≤ Int32.toInt p1 ∧ Int32.toInt p1 ≤ 1) := by have k1 := r_p1.1; have k2 := r_p1.2; omega
      refine lv_iconst (v := 0) hx hb dX10_image_16 (by decide) ?_
      refine lv_istore_n (lv' := [(2, .int 0), (0, .ref p0), (1, .int p1)]) hx hb dX10_image_17 rfl hl (by decide) rfl (fun ls hl => ?_)
      obtain ⟨b_15, m_b_15, h_b_15⟩ := tg_fldR (k := 16) (ci := 10) (ts := ty_MODEL) (u := 36) hw h_p0 rfl rfl
      obtain ⟨b_16, m_b_16, h_b_16⟩ := tg_fldR (k := 14) (ci := 10) (ts := ty_MODEL) (u := 34) hw h_p0 rfl rfl
      have x_CIM_p0_p1_0 : AX2 16 36 14 34 (fun f g => CIp p1 0 f g) Ps ws p0 := AX2.imp (AX.two (ax_of (k := 16) (t := 36) hw h_p0 rfl (fun _ => rfl)) (ax_of (k := 14) (t := 34) hw h_p0 rfl (fun _ => rfl))) (fun f9 g9 h9 => ⟨h9.2.1, ⟨fun _ => h9.1.1.2, fun _ => h9.1.1.1⟩, fun j9 q9 => absurd q9 (by rw [Int32.toInt_zero]; omega)⟩)
      have hw := WD.weak b_15 hw
      exact B18 4294967298 0 0 b_15 b_16 ws _ _ ls (by have q0 := rl_0.1; have u0 := rl_0.2; omega) r_p1 (rl_0.to (by decide)) rl_0 n_k_13 x_IMG1_p1 h_b_15 m_b_15 h_b_16 m_b_16 x_CIM_p0_p1_0 hw (lv_sub hl [1, 2, 0] rfl)
    · have r_v_14 : RI v_14 1 0 := rc_eq1 r_v_14 rl_0 (ti_eq c_11) (by decide)
      exact (r_v_14.no (by decide)).elim
abbrev wr_X10_less__1 : List (Nat × Nat) := []
abbrev wa_X10_less__1 : List Nat := [34]
set_option maxHeartbeats 4000000 in
set_option maxRecDepth 100000 in
theorem c_X10_less__1 (l : Launch) (D : va_G) (cy : Nat → ClassId) (z : Nat → Nat) (sz : Nat) (Ps : PSI) (w0 : va_W) (hT : HT cy GG Ps w0) (p0 : Nat) (p1 : Int32) (p2 : Int32) (gh : Int) (h_p0 : (p0, 55) ∈ Ps) (r_p1 : RI p1 0 5) (r_p2 : RI p2 0 5) (x_SL_p0_p1_gh : AX 14 34 (fun f => SLp f p1 (gh)) Ps w0 p0) (x_WB_p0_p1_p2 : AX 14 34 (fun f => WBp f p1 p2) Ps w0 p0) : Met l yX10_less (Cond.code yX10_less cX10_less 3 none :: gT) ({ frames := 2, cells := 0, slots := 0, locals := 400 } : Room) (va_Pc [.ref p0, .int p1, .int p2] (PRE D cy z w0 sz)) (va_Qv (fun (u : va_W) => (AX 14 34 (fun f => SLp f p1 (gh-1)) Ps u p0 ∧ True) ∧ HT cy GG Ps u ∧ FR wr_X10_less__1 wa_X10_less__1 Ps w0 u) (BB D cy (va_A w0 sz) (fun (u : va_W) => u)) (va_A w0 sz)) 0 0 (va_A w0 sz) := by
  refine Met.ofW (cc := cX10_less) (maxL := 3) (ret := none) (by decide) rfl ?_
  intro p e s m args below meth c s₁ B hml hv
  obtain ⟨rfl, hsz, hP, hK, hD0, hSD⟩ := hv
  have hx := B.exec
  have hb := B.bytes
  have hr := B.returns
  have hlocks := B.notSynchronized
  have hts : ∀ w ∈ gT, w.before _ s = true := fun w h => atoms_spec (ws := Cond.code yX10_less cX10_less 3 none :: gT) B.pre w (List.mem_cons_of_mem _ h)
  have hown : s.vm.findClass RX10 = some m.cls := findClass_of_methodNamed B.named
  subst hsz
  have hD := hD0.self (sz := s.heap.size)
  generalize hAe : va_A w0 s.heap.size = A at hD hSD ⊢
  have hA : ∀ q : Nat, s.heap.size ≤ q → A q := fun q h => by rw [← hAe]; exact Or.inr h
  have hl := lv_entry ([.ref p0, .int p1, .int p2]) (n := 3) (Nat.le_of_ble_eq_true rfl)
  rw [lg_entry_eq]
  generalize (lg_sl ([.ref p0, .int p1, .int p2]) ++ List.replicate (3 - (lg_sl ([.ref p0, .int p1, .int p2])).length) Slot.unset).toArray = ls at hl ⊢
  have hl : lv_has ls 3 [(0, .ref p0), (1, .int p1), (2, .int p2)] := hl
  refine nameQ (fun Q hQ => ?_)
  have hw : WD D cy GG A s wr_X10_less__1 wa_X10_less__1 Ps w0 Ps w0 s.heap [] := ⟨hT, hP, hD, va_S.rf, FR.rf, hT.1, [], (List.append_nil _).symm⟩
  refine lv_aload_n hx hb dX10_less_0 rfl (lv_at hl 0 rfl) ?_
  refine tg_get (ci := 10) (ts := ty_MODEL) (C := RX10) (T := TX10) (N := 49) hx hb hts inX10 hown hK hw h_p0 rfl rfl 14 (by decide) (hts _ tw_1151) (fun _ h9 => h9) (ft := vR 34) rfl dX10_less_1 (fun u_1 hv_u_1 m_u_1 => ?_)
  obtain ⟨vu_1, rfl, h_vu_1⟩ := hv_u_1
  refine lv_sipush (v := 136) hx hb dX10_less_4 (by decide) ?_
  refine lv_bipush (v := 6) hx hb dX10_less_7 (by decide) ?_
  refine lv_iload_n hx hb dX10_less_9 rfl (lv_at hl 1 rfl) ?_
  refine lv_imul hx hb dX10_less_10 (lv_topi (fun v_2 e_v_2 => ?_))
  obtain ⟨t_v_2, r_v_2⟩ := tq_mul (lo := 0) (hi := 30) rl_6 r_p1 (by decide +kernel) e_v_2
  have t_v_2 : v_2.toInt = 6 * p1.toInt := t_v_2
  refine lv_iadd hx hb dX10_less_11 (lv_topi (fun v_3 e_v_3 => ?_))
  obtain ⟨t_v_3, r_v_3⟩ := tq_add (lo := 136) (hi := 166) rl_136 r_v_2 (by decide +kernel) e_v_3
  have t_v_3 : v_3.toInt = 136 + v_2.toInt := t_v_3
  refine lv_iload_n hx hb dX10_less_12 rfl (lv_at hl 2 rfl) ?_
  refine lv_iadd hx hb dX10_less_13 (lv_topi (fun v_4 e_v_4 => ?_))
  obtain ⟨t_v_4, r_v_4⟩ := tq_add (lo := 136) (hi := 171) r_v_3 r_p2 (by decide +kernel) e_v_4
  refine lv_aload_n hx hb dX10_less_14 rfl (lv_at hl 0 rfl) ?_
  refine lv_iload_n hx hb dX10_less_15 rfl (lv_at hl 1 rfl) ?_
  refine lv_iload_n hx hb dX10_less_16 rfl (lv_at hl 2 rfl) ?_
  refine tk_ir (va_runV (As := [.int p1, .int p2]) (rest := [.int v_4, .ref vu_1]) ⟨hx, hb, hml, hown, hts⟩ (c_X10_muchOf l D cy z s.heap.size Ps w0 hw.1 p0 p1 p2 h_p0 r_p1 r_p2) (cwV 2 hts (gV tw_1437 tw_1439 ts_67 tw_15 tw_1440) rfl rfl rfl (by decide +kernel) ⟨Nat.le_of_ble_eq_true rfl, Nat.le_of_ble_eq_true rfl⟩) (tg_preV hw hK hSD hA (ci := 10) (q := (RX10, TX10, 49)) rfl h_p0 rfl) rfl rfl hl.1 rfl (lv_room (Nat.le_of_ble_eq_true rfl)) dX10_less_17 ⟨Nat.le_of_ble_eq_true rfl, Nat.le_of_ble_eq_true rfl⟩) hw hA (fun v_5  H locs hp_v_5 hw => ?_)
  have r_v_5 : RI v_5 (-2147483648) 2147483647 := hp_v_5.1
  have x_MUCH_p0_p1_p2_v_5 := hp_v_5.2.2.2.1.1
  refine lv_aload_n hx hb dX10_less_20 rfl (lv_at hl 0 rfl) ?_
  refine tg_mem (ci := 10) (C := RX10) (T := TX10) (N := 49) hx hb hts inX10 hown hK hw 14 m_u_1 rfl (by decide) (hts _ tw_1151) (fun _ h9 => h9) dX10_less_21 ?_
  refine lv_iconst (v := 5) hx hb dX10_less_24 (by decide) ?_
  refine tg_iald (lo := (-2147483648)) (hi := 2147483647) hx hb hK hw h_vu_1 rfl 5 5 rl_5 (by decide) (by decide +kernel) dX10_less_25 (fun v_6 r_v_6 m_v_6 o_v_6 => ?_)
  refine lv_icmp_ge (tgt := 33) hx hb dX10_less_26 (by decide) (fun c_26 => ?_) (fun c_26 => ?_)
  · refine lv_aload_n hx hb dX10_less_33 rfl (lv_at hl 0 rfl) ?_
    refine lv_iload_n hx hb dX10_less_34 rfl (lv_at hl 1 rfl) ?_
    refine lv_iload_n hx hb dX10_less_35 rfl (lv_at hl 2 rfl) ?_
    refine tk_ir (va_runV (As := [.int p1, .int p2]) (rest := [.int v_4, .ref vu_1]) ⟨hx, hb, hml, hown, hts⟩ (c_X10_muchOf l D cy z H.size Ps w0 hw.1 p0 p1 p2 h_p0 r_p1 r_p2) (cwV 2 hts (gV tw_1437 tw_1439 ts_67 tw_15 tw_1440) rfl rfl rfl (by decide +kernel) ⟨Nat.le_of_ble_eq_true rfl, Nat.le_of_ble_eq_true rfl⟩) (tg_preV hw hK hSD hA (ci := 10) (q := (RX10, TX10, 49)) rfl h_p0 rfl) rfl rfl hl.1 rfl (lv_room (Nat.le_of_ble_eq_true rfl)) dX10_less_36 ⟨Nat.le_of_ble_eq_true rfl, Nat.le_of_ble_eq_true rfl⟩) hw hA (fun v_7  H locs hp_v_7 hw => ?_)
    have r_v_7 : RI v_7 (-2147483648) 2147483647 := hp_v_7.1
    have x_MUCH_p0_p1_p2_v_7 := hp_v_7.2.2.2.1.1
    refine lv_aload_n hx hb dX10_less_39 rfl (lv_at hl 0 rfl) ?_
    refine tg_mem (ci := 10) (C := RX10) (T := TX10) (N := 49) hx hb hts inX10 hown hK hw 14 m_u_1 rfl (by decide) (hts _ tw_1151) (fun _ h9 => h9) dX10_less_40 ?_
    refine lv_iconst (v := 5) hx hb dX10_less_43 (by decide) ?_
    refine tg_imem hx hb hK hw h_vu_1 rfl rl_5 (by decide) m_v_6 dX10_less_44 ?_
    refine lv_isub hx hb dX10_less_45 (lv_topi (fun v_9 e_v_9 => ?_))
    have r_v_9 := ri_any v_9
    have x_G5 : AX 14 34 (fun f => f 5 = v_6) Ps w0 p0 := AX.mk hw h_vu_1 rfl m_u_1 (fun f9 g9 _ => by have e9 := g9 _ _ m_v_6; have j9 : Int32.toNatClampNeg 5 = 5 := (by decide); rw [j9] at e9; exact e9)
    have e_m9 : v_7 = v_5 := by obtain ⟨_, f9, _, _, h9⟩ := AX.and hw x_MUCH_p0_p1_p2_v_7 x_MUCH_p0_p1_p2_v_5; exact h9.1.symm.trans h9.2
    have e_m8 := congrArg Int32.toInt e_m9
    have x_LS_p0_v_7_v_6 : AX 14 34 (fun f => RN f ∧ SLp f p1 gh ∧ WBp f p1 p2 ∧ f (136 + 6 * Int32.toNatClampNeg p1 + Int32.toNatClampNeg p2) = v_7 ∧ f 5 = v_6) Ps w0 p0 := AX.imp (AX.and hw (ax_of (k := 14) (t := 34) hw h_p0 rfl (fun _ => rfl)) (AX.and hw x_SL_p0_p1_gh (AX.and hw x_WB_p0_p1_p2 (AX.and hw x_MUCH_p0_p1_p2_v_7 x_G5)))) (fun f9 h9 => ⟨h9.1.1, h9.2.1, h9.2.2.1, h9.2.2.2.1, h9.2.2.2.2⟩)
    refine tg_iast hx hb hK hw h_vu_1 rfl 136 171 r_v_4 (by decide) r_v_9 (by decide +kernel) (RN_upd (by decide) (by decide)) (by decide) dX10_less_46 (fun ws H locs hw hF9 hU9 => ?_)
    have x_SL_p0_p1_gh_1 : AX 14 34 (fun f => SLp f p1 (gh-1)) Ps ws p0 := AX.ast hF9 hU9 x_LS_p0_v_7_v_6 m_u_1 (fun f9 h9 => SL_less h9.1 h9.2.1 h9.2.2.1 (by have k1 := r_v_4.cl (by decide); have k2 := r_p1.cl (by decide); have k3 := r_p2.cl (by decide); omega) h9.2.2.2.1 h9.2.2.2.2 (Or.inr ⟨e_v_9, by have k1 := ti_le c_26; omega⟩))
    subst hQ
    exact W.vret hx hb hr (fun t ht hW => ⟨⟨ws, rfl, ⟨⟨x_SL_p0_p1_gh_1, trivial⟩, hw.1, hw.2.2.2.2.1⟩, by rw [ht]; exact hw.2.1, va_K.moved hW.alike hK, hw.2.2.1⟩, hw.2.2.2.1.F ht⟩) hw.2.2.2.1.2.2 dX10_less_47
  · have r_v_5 : RI v_5 (-2147483648) 2147483646 := rc_lt1 r_v_5 r_v_6 (ti_nle c_26) (by decide)
    have r_v_6 : RI v_6 (-2147483647) 2147483647 := rc_lt2 r_v_5 r_v_6 (ti_nle c_26) (by decide)
    refine lv_iconst (v := 0) hx hb dX10_less_29 (by decide) ?_
    refine lv_goto (tgt := 46) hx hb dX10_less_30 (by decide) ?_
    have x_G5 : AX 14 34 (fun f => f 5 = v_6) Ps w0 p0 := AX.mk hw h_vu_1 rfl m_u_1 (fun f9 g9 _ => by have e9 := g9 _ _ m_v_6; have j9 : Int32.toNatClampNeg 5 = 5 := (by decide); rw [j9] at e9; exact e9)
    have x_LS_p0_v_5_v_6 : AX 14 34 (fun f => RN f ∧ SLp f p1 gh ∧ WBp f p1 p2 ∧ f (136 + 6 * Int32.toNatClampNeg p1 + Int32.toNatClampNeg p2) = v_5 ∧ f 5 = v_6) Ps w0 p0 := AX.imp (AX.and hw (ax_of (k := 14) (t := 34) hw h_p0 rfl (fun _ => rfl)) (AX.and hw x_SL_p0_p1_gh (AX.and hw x_WB_p0_p1_p2 (AX.and hw x_MUCH_p0_p1_p2_v_5 x_G5)))) (fun f9 h9 => ⟨h9.1.1, h9.2.1, h9.2.2.1, h9.2.2.2.1, h9.2.2.2.2⟩)
    refine tg_iast hx hb hK hw h_vu_1 rfl 136 171 r_v_4 (by decide) rl_0 (by decide +kernel) (RN_zero rl_0 (by decide)) (by decide) dX10_less_46 (fun ws H locs hw hF9 hU9 => ?_)
    have x_SL_p0_p1_gh_1 : AX 14 34 (fun f => SLp f p1 (gh-1)) Ps ws p0 := AX.ast hF9 hU9 x_LS_p0_v_5_v_6 m_u_1 (fun f9 h9 => SL_less h9.1 h9.2.1 h9.2.2.1 (by have k1 := r_v_4.cl (by decide); have k2 := r_p1.cl (by decide); have k3 := r_p2.cl (by decide); omega) h9.2.2.2.1 h9.2.2.2.2 (Or.inl ⟨by decide, by have k1 := ti_nle c_26; have k2 := k1; omega⟩))
    subst hQ
    exact W.vret hx hb hr (fun t ht hW => ⟨⟨ws, rfl, ⟨⟨x_SL_p0_p1_gh_1, trivial⟩, hw.1, hw.2.2.2.2.1⟩, by rw [ht]; exact hw.2.1, va_K.moved hW.alike hK, hw.2.2.1⟩, hw.2.2.2.1.F ht⟩) hw.2.2.2.1.2.2 dX10_less_47
abbrev wr_X10_let : List (Nat × Nat) := [(10, 0)]
abbrev wa_X10_let : List Nat := [34, 39]
set_option maxHeartbeats 4000000 in
set_option maxRecDepth 100000 in
theorem c_X10_let (l : Launch) (D : va_G) (cy : Nat → ClassId) (z : Nat → Nat) (sz : Nat) (Ps : PSI) (w0 : va_W) (hT : HT cy GG Ps w0) (p0 : Nat) (p1 : Int32) (h_p0 : (p0, 55) ∈ Ps) (r_p1 : RI p1 (-2147483648) 2147483647) : Met l yX10_let (Cond.code yX10_let cX10_let 3 (some .int) :: gT) ({ frames := 3, cells := 0, slots := 0, locals := 600 } : Room) (va_Pc [.ref p0, .int p1] (PRE D cy z w0 sz)) (va_Qi (fun (r : Int32) (u : va_W) => (RI r (-2147483648) 2147483647 ∧ (r = 0 → True) ∧ (¬ r = 0 → True)) ∧ HT cy GG Ps u ∧ FR wr_X10_let wa_X10_let Ps w0 u) (BB D cy (va_A w0 sz) (fun (u : va_W) => u)) (va_A w0 sz)) 0 0 (va_A w0 sz) := by
  refine Met.ofW (cc := cX10_let) (maxL := 3) (ret := (some .int)) (by decide) rfl ?_
  intro p e s m args below meth c s₁ B hml hv
  obtain ⟨rfl, hsz, hP, hK, hD0, hSD⟩ := hv
  have hx := B.exec
  have hb := B.bytes
  have hr := B.returns
  have hlocks := B.notSynchronized
  have hts : ∀ w ∈ gT, w.before _ s = true := fun w h => atoms_spec (ws := Cond.code yX10_let cX10_let 3 (some .int) :: gT) B.pre w (List.mem_cons_of_mem _ h)
  have hown : s.vm.findClass RX10 = some m.cls := findClass_of_methodNamed B.named
  subst hsz
  have hD := hD0.self (sz := s.heap.size)
  generalize hAe : va_A w0 s.heap.size = A at hD hSD ⊢
  have hA : ∀ q : Nat, s.heap.size ≤ q → A q := fun q h => by rw [← hAe]; exact Or.inr h
  have hl := lv_entry ([.ref p0, .int p1]) (n := 3) (Nat.le_of_ble_eq_true rfl)
  rw [lg_entry_eq]
  generalize (lg_sl ([.ref p0, .int p1]) ++ List.replicate (3 - (lg_sl ([.ref p0, .int p1])).length) Slot.unset).toArray = ls at hl ⊢
  have hl : lv_has ls 3 [(0, .ref p0), (1, .int p1)] := hl
  refine nameQ (fun Q hQ => ?_)
  have hw : WD D cy GG A s wr_X10_let wa_X10_let Ps w0 Ps w0 s.heap [] := ⟨hT, hP, hD, va_S.rf, FR.rf, hT.1, [], (List.append_nil _).symm⟩
  have B21 : ∀ (nf : Nat) (x2 : Int32) (z0_0 : Int32) (gz : Int) (ws : va_W) (H : Heap) (locs : List Loc) (ls : Array Slot), gz + 1 < (nf : Int) → RI p1 0 5 → RI x2 (-2147483648) 2147483647 → RI z0_0 0 0 → FLD ws p0 10 0 (.int z0_0) → AX 14 34 (fun f => SLp f p1 (gz)) Ps ws p0 → WD D cy GG A s wr_X10_let wa_X10_let Ps w0 Ps ws H locs → lv_has ls 3 [(0, .ref p0), (1, .int p1), (2, .int x2)] → W p l e (headSpec (Cond.code yX10_let cX10_let 3 (some .int) :: gT) ({ frames := 3, cells := 0, slots := 0, locals := 600 } : Room)).room s m ([.ref p0, .int p1] : List Value).toArray below meth c H locs 0 0 Q (F0 m 21 ls []) := by
    intro nf21
    induction nf21 with
    | zero =>
      intro x2 z0_0 gz ws H locs ls hn21 r_p1 r_x2 r_z0_0 m_z0_0 x_SL_p0_p1_gz hw hl
      exact absurd hn21 (by obtain ⟨_, _, _, _, q9⟩ := x_SL_p0_p1_gz; have q8 := SL_nn q9; omega)
    | succ nf21 ih21 =>
      intro x2 z0_0 gz ws H locs ls hn21 r_p1 r_x2 r_z0_0 m_z0_0 x_SL_p0_p1_gz hw hl
      refine lv_aload_n hx hb dX10_let_21 rfl (lv_at hl 0 rfl) ?_
      refine lv_iload_n hx hb dX10_let_22 rfl (lv_at hl 1 rfl) ?_
      refine tk_ir (va_runV (As := [.int p1]) (rest := []) ⟨hx, hb, hml, hown, hts⟩ (c_X10_whatIs l D cy z H.size Ps ws hw.1 p0 p1 h_p0 r_p1) (cwV 1 hts (gV tw_1449 tw_1451 ts_69 tw_15 tw_1452) rfl rfl rfl (by decide +kernel) ⟨Nat.le_of_ble_eq_true rfl, Nat.le_of_ble_eq_true rfl⟩) (tg_preV hw hK hSD hA (ci := 10) (q := (RX10, TX10, 49)) rfl h_p0 rfl) rfl rfl hl.1 rfl (lv_room (Nat.le_of_ble_eq_true rfl)) dX10_let_23 ⟨Nat.le_of_ble_eq_true rfl, Nat.le_of_ble_eq_true rfl⟩) hw hA (fun v_1  H locs hp_v_1 hw => ?_)
      have r_v_1 : RI v_1 (-1) 5 := hp_v_1.1
      by_cases c9_v_1 : v_1.toInt < 0
      · have r_v_1 : RI v_1 (-1) (-1) := by unfold RI at r_v_1 ⊢; omega
        have x_NB_p0_p1 := (hp_v_1.2.2.2.2.1 (by omega)).1
        refine lv_iconst (v := (-1)) hx hb dX10_let_26 (by decide) ?_
        refine lv_icmp_eq (tgt := 46) hx hb dX10_let_27 (by decide) (fun c_27 => ?_) (fun c_27 => ?_)
        · refine lv_aload_n hx hb dX10_let_46 rfl (lv_at hl 0 rfl) ?_
          refine tk_v (va_runV (As := []) (rest := []) ⟨hx, hb, hml, hown, hts⟩ (c_X10_back l D cy z H.size Ps ws hw.1 p0 h_p0) (cwV 0 hts (gV tw_1611 tw_1613 ts_92 tw_15 tw_1614) rfl rfl rfl (by decide +kernel) ⟨Nat.le_of_ble_eq_true rfl, Nat.le_of_ble_eq_true rfl⟩) (tg_preV hw hK hSD hA (ci := 10) (q := (RX10, TX10, 49)) rfl h_p0 rfl) rfl rfl hl.1 rfl (lv_room (Nat.le_of_ble_eq_true rfl)) dX10_let_47 ⟨Nat.le_of_ble_eq_true rfl, Nat.le_of_ble_eq_true rfl⟩) hw hA ⟨by decide, by decide⟩ (fun ws H locs hp_v_2 hw hF9 => ?_)
          have m_z0_0 := FLD.over hF9 m_z0_0 (by decide)
          refine lv_iload_n hx hb dX10_let_50 rfl (lv_at hl 2 rfl) ?_
          subst hQ
          exact W.iret (v := x2) hx hb hr (fun t ht hW => ⟨⟨x2, ws, rfl, ⟨⟨r_x2.to (by decide), (fun h0 => trivial), (fun h0 => trivial)⟩, hw.1, hw.2.2.2.2.1⟩, by rw [ht]; exact hw.2.1, va_K.moved hW.alike hK, hw.2.2.1⟩, hw.2.2.2.1.F ht⟩) hw.2.2.2.1.2.2 dX10_let_51
        · exact absurd (r_v_1.eq.trans rl_m1.eq.symm) ((ti_ne c_27))
      · have r_v_1 : RI v_1 0 5 := by unfold RI at r_v_1 ⊢; omega
        have x_WB_p0_p1_v_1 := (hp_v_1.2.2.2.2.2 (by omega)).1
        refine lv_iconst (v := (-1)) hx hb dX10_let_26 (by decide) ?_
        refine lv_icmp_eq (tgt := 46) hx hb dX10_let_27 (by decide) (fun c_27 => ?_) (fun c_27 => ?_)
        · have r_v_1 : RI v_1 0 (-1) := rc_eq1 r_v_1 rl_m1 (ti_eq c_27) (by decide)
          exact (r_v_1.no (by decide)).elim
        · refine lv_aload_n hx hb dX10_let_30 rfl (lv_at hl 0 rfl) ?_
          refine lv_iload_n hx hb dX10_let_31 rfl (lv_at hl 1 rfl) ?_
          refine lv_aload_n hx hb dX10_let_32 rfl (lv_at hl 0 rfl) ?_
          refine lv_iload_n hx hb dX10_let_33 rfl (lv_at hl 1 rfl) ?_
          refine tk_ir (va_runV (As := [.int p1]) (rest := [.int p1, .ref p0]) ⟨hx, hb, hml, hown, hts⟩ (c_X10_whatIs l D cy z H.size Ps ws hw.1 p0 p1 h_p0 r_p1) (cwV 1 hts (gV tw_1449 tw_1451 ts_69 tw_15 tw_1452) rfl rfl rfl (by decide +kernel) ⟨Nat.le_of_ble_eq_true rfl, Nat.le_of_ble_eq_true rfl⟩) (tg_preV hw hK hSD hA (ci := 10) (q := (RX10, TX10, 49)) rfl h_p0 rfl) rfl rfl hl.1 rfl (lv_room (Nat.le_of_ble_eq_true rfl)) dX10_let_34 ⟨Nat.le_of_ble_eq_true rfl, Nat.le_of_ble_eq_true rfl⟩) hw hA (fun v_3  H locs hp_v_3 hw => ?_)
          have r_v_3 : RI v_3 (-1) 5 := hp_v_3.1
          by_cases c9_v_3 : v_3.toInt < 0
          · have r_v_3 : RI v_3 (-1) (-1) := by unfold RI at r_v_3 ⊢; omega
            have x_NB_p0_p1 := (hp_v_3.2.2.2.2.1 (by omega)).1
            exact (AX.no hw x_NB_p0_p1 x_WB_p0_p1_v_1 (fun _ h9 g9 => NW_no h9 g9)).elim
          · have r_v_3 : RI v_3 0 5 := by unfold RI at r_v_3 ⊢; omega
            have x_WB_p0_p1_v_3 := (hp_v_3.2.2.2.2.2 (by omega)).1
            refine tk_v (va_runV (As := [.int p1, .int v_3]) (rest := []) ⟨hx, hb, hml, hown, hts⟩ (c_X10_less__1 l D cy z H.size Ps ws hw.1 p0 p1 v_3 (gz) h_p0 r_p1 r_v_3 x_SL_p0_p1_gz x_WB_p0_p1_v_3) (cwV 2 hts (gV tw_1517 tw_1519 ts_81 tw_15 tw_1520) rfl rfl rfl (by decide +kernel) ⟨Nat.le_of_ble_eq_true rfl, Nat.le_of_ble_eq_true rfl⟩) (tg_preV hw hK hSD hA (ci := 10) (q := (RX10, TX10, 49)) rfl h_p0 rfl) rfl rfl hl.1 rfl (lv_room (Nat.le_of_ble_eq_true rfl)) dX10_let_37 ⟨Nat.le_of_ble_eq_true rfl, Nat.le_of_ble_eq_true rfl⟩) hw hA ⟨by decide, by decide⟩ (fun ws H locs hp_v_4 hw hF9 => ?_)
            have m_z0_0 := FLD.over hF9 m_z0_0 (by decide)
            have x_SL_p0_p1_gz_1 := (hp_v_4.1)
            obtain ⟨v_5, e_v_5⟩ : ∃ q9 : Int32, q9 = x2 + Int32.ofInt 1 := ⟨_, rfl⟩
            have r_v_5 := ri_any v_5
            refine lv_iinc (v := v_5) (lv' := [(2, .int v_5), (0, .ref p0), (1, .int p1)]) hx hb dX10_let_40 hl (k := 2) rfl e_v_5.symm (by decide) rfl (fun ls hl => ?_)
            refine lv_goto (tgt := 21) hx hb dX10_let_43 (by decide) ?_
            exact ih21 v_5 z0_0 (gz-1) ws _ _ ls (by omega) r_p1 r_v_5 r_z0_0 m_z0_0 x_SL_p0_p1_gz_1 hw (lv_sub hl [1, 2, 0] rfl)
  refine lv_aload_n hx hb dX10_let_0 rfl (lv_at hl 0 rfl) ?_
  refine lv_iconst (v := 0) hx hb dX10_let_1 (by decide) ?_
  refine tg_put (ci := 10) (ts := ty_MODEL) (v := .int 0) (ty := .int) (C := RX10) (T := TX10) (N := 49) hx hb hts inX10 tyX10 tyX10_ok nmX10 hown hK hw h_p0 rfl rfl 0 (by decide) (hts _ tw_1137) (fun _ h9 => h9) rfl (by decide +kernel) rfl rfl (ft := vI (-2147483648) 2147483647) rfl ⟨_, rfl, (rl_0.to (by decide))⟩ (by decide) dX10_let_2 (fun ws H locs hw n_k_6 hF9 => ?_)
  refine lv_aload_n hx hb dX10_let_5 rfl (lv_at hl 0 rfl) ?_
  refine lv_iload_n hx hb dX10_let_6 rfl (lv_at hl 1 rfl) ?_
  refine tk_ir (va_runV (As := [.int p1]) (rest := []) ⟨hx, hb, hml, hown, hts⟩ (c_X10_isParcel l D cy z H.size Ps ws hw.1 p0 p1 h_p0 r_p1) (cwV 1 hts (gV tw_1429 tw_1431 ts_65 tw_15 tw_1432) rfl rfl rfl (by decide +kernel) ⟨Nat.le_of_ble_eq_true rfl, Nat.le_of_ble_eq_true rfl⟩) (tg_preV hw hK hSD hA (ci := 10) (q := (RX10, TX10, 49)) rfl h_p0 rfl) rfl rfl hl.1 rfl (lv_room (Nat.le_of_ble_eq_true rfl)) dX10_let_7 ⟨Nat.le_of_ble_eq_true rfl, Nat.le_of_ble_eq_true rfl⟩) hw hA (fun v_7  H locs hp_v_7 hw => ?_)
  have r_v_7 : RI v_7 0 1 := hp_v_7.1
  refine lv_if_ne (tgt := 15) hx hb dX10_let_10 (by decide) (fun c_10 => ?_) (fun c_10 => ?_)
  · have r_v_7 : RI v_7 1 1 := rc_neL r_v_7 rl_0 (ti_ne c_10) (by decide)
    have r_p1 : RI p1 0 5 := ((hp_v_7.2.2 c_10).1)
    refine lv_aload_n hx hb dX10_let_15 rfl (lv_at hl 0 rfl) ?_
    refine tk_v (va_runV (As := []) (rest := []) ⟨hx, hb, hml, hown, hts⟩ (c_X10_hold l D cy z H.size Ps ws hw.1 p0 h_p0) (cwV 0 hts (gV tw_1607 tw_1609 ts_91 tw_15 tw_1610) rfl rfl rfl (by decide +kernel) ⟨Nat.le_of_ble_eq_true rfl, Nat.le_of_ble_eq_true rfl⟩) (tg_preV hw hK hSD hA (ci := 10) (q := (RX10, TX10, 49)) rfl h_p0 rfl) rfl rfl hl.1 rfl (lv_room (Nat.le_of_ble_eq_true rfl)) dX10_let_16 ⟨Nat.le_of_ble_eq_true rfl, Nat.le_of_ble_eq_true rfl⟩) hw hA ⟨by decide, by decide⟩ (fun ws H locs hp_v_8 hw hF9 => ?_)
    have n_k_6 := FLD.over hF9 n_k_6 (by decide)
    refine lv_iconst (v := 0) hx hb dX10_let_19 (by decide) ?_
    refine lv_istore_n (lv' := [(2, .int 0), (0, .ref p0), (1, .int p1)]) hx hb dX10_let_20 rfl hl (by decide) rfl (fun ls hl => ?_)
    have x_SL_p0_p1_12884901888 : AX 14 34 (fun f => SLp f p1 (12884901888)) Ps ws p0 := AX.imp (ax_of (k := 14) (t := 34) hw h_p0 rfl (fun _ => rfl)) (fun f9 _ => sq_top f9 p1)
    exact B21 12884901890 0 0 (12884901888) ws _ _ ls (by omega) r_p1 (rl_0.to (by decide)) rl_0 n_k_6 x_SL_p0_p1_12884901888 hw (lv_sub hl [1, 2, 0] rfl)
  · have r_v_7 : RI v_7 0 0 := rc_eq1 r_v_7 rl_0 (ti_eq c_10) (by decide)
    refine lv_iconst (v := (-1)) hx hb dX10_let_13 (by decide) ?_
    subst hQ
    exact W.iret (v := (-1)) hx hb hr (fun t ht hW => ⟨⟨(-1), ws, rfl, ⟨⟨rl_m1.to (by decide), (fun _ => trivial), (fun h0 => trivial)⟩, hw.1, hw.2.2.2.2.1⟩, by rw [ht]; exact hw.2.1, va_K.moved hW.alike hK, hw.2.2.1⟩, hw.2.2.2.1.F ht⟩) hw.2.2.2.1.2.2 dX10_let_14
abbrev wr_X10_readEnd__1 : List (Nat × Nat) := [(10, 5), (10, 6), (10, 7), (10, 8), (10, 9), (10, 10), (10, 11), (10, 12)]
abbrev wa_X10_readEnd__1 : List Nat := []
set_option maxHeartbeats 4000000 in
set_option maxRecDepth 100000 in
theorem c_X10_readEnd__1 (l : Launch) (D : va_G) (cy : Nat → ClassId) (z : Nat → Nat) (sz : Nat) (Ps : PSI) (w0 : va_W) (hT : HT cy GG Ps w0) (p0 : Nat) (gh : Int) (h_p0 : (p0, 55) ∈ Ps) (x_TOK_p0_gh : TKP w0 p0 (gh)) : Met l yX10_readEnd (Cond.code yX10_readEnd cX10_readEnd 1 (some .boolean) :: gT) ({ frames := 3, cells := 0, slots := 0, locals := 600 } : Room) (va_Pc [.ref p0] (PRE D cy z w0 sz)) (va_Qi (fun (r : Int32) (u : va_W) => (RI r 0 1 ∧ (r = 0 → True) ∧ (¬ r = 0 → TKP u p0 (gh+1) ∧ True)) ∧ HT cy GG Ps u ∧ FR wr_X10_readEnd__1 wa_X10_readEnd__1 Ps w0 u) (BB D cy (va_A w0 sz) (fun (u : va_W) => u)) (va_A w0 sz)) 0 0 (va_A w0 sz) := by
  refine Met.ofW (cc := cX10_readEnd) (maxL := 1) (ret := (some .boolean)) (by decide) rfl ?_
  intro p e s m args below meth c s₁ B hml hv
  obtain ⟨rfl, hsz, hP, hK, hD0, hSD⟩ := hv
  have hx := B.exec
  have hb := B.bytes
  have hr := B.returns
  have hlocks := B.notSynchronized
  have hts : ∀ w ∈ gT, w.before _ s = true := fun w h => atoms_spec (ws := Cond.code yX10_readEnd cX10_readEnd 1 (some .boolean) :: gT) B.pre w (List.mem_cons_of_mem _ h)
  have hown : s.vm.findClass RX10 = some m.cls := findClass_of_methodNamed B.named
  subst hsz
  have hD := hD0.self (sz := s.heap.size)
  generalize hAe : va_A w0 s.heap.size = A at hD hSD ⊢
  have hA : ∀ q : Nat, s.heap.size ≤ q → A q := fun q h => by rw [← hAe]; exact Or.inr h
  have hl := lv_entry ([.ref p0]) (n := 1) (Nat.le_of_ble_eq_true rfl)
  rw [lg_entry_eq]
  generalize (lg_sl ([.ref p0]) ++ List.replicate (1 - (lg_sl ([.ref p0])).length) Slot.unset).toArray = ls at hl ⊢
  have hl : lv_has ls 1 [(0, .ref p0)] := hl
  refine nameQ (fun Q hQ => ?_)
  have hw : WD D cy GG A s wr_X10_readEnd__1 wa_X10_readEnd__1 Ps w0 Ps w0 s.heap [] := ⟨hT, hP, hD, va_S.rf, FR.rf, hT.1, [], (List.append_nil _).symm⟩
  refine lv_aload_n hx hb dX10_readEnd_0 rfl (lv_at hl 0 rfl) ?_
  refine lv_bipush (v := 59) hx hb dX10_readEnd_1 (by decide) ?_
  refine tk_ir (va_runV (As := [.int 59]) (rest := []) ⟨hx, hb, hml, hown, hts⟩ (c_X10_isSign l D cy z s.heap.size Ps w0 hw.1 p0 59 h_p0 (rl_59.to (by decide))) (cwV 1 hts (gV tw_1413 tw_1415 ts_63 tw_15 tw_1416) rfl rfl rfl (by decide +kernel) ⟨Nat.le_of_ble_eq_true rfl, Nat.le_of_ble_eq_true rfl⟩) (tg_preV hw hK hSD hA (ci := 10) (q := (RX10, TX10, 49)) rfl h_p0 rfl) rfl rfl hl.1 rfl (lv_room (Nat.le_of_ble_eq_true rfl)) dX10_readEnd_3 ⟨Nat.le_of_ble_eq_true rfl, Nat.le_of_ble_eq_true rfl⟩) hw hA (fun v_1  H locs hp_v_1 hw => ?_)
  have r_v_1 : RI v_1 0 1 := hp_v_1.1
  by_cases c9_v_1 : v_1 = 0
  · have r_v_1 : RI v_1 0 0 := by rw [c9_v_1]; exact rl_0
    refine lv_if_ne (tgt := 15) hx hb dX10_readEnd_6 (by decide) (fun c_6 => ?_) (fun c_6 => ?_)
    · exact absurd (r_v_1.eq.trans rl_0.eq.symm) ((ti_ne c_6))
    · refine lv_aload_n hx hb dX10_readEnd_9 rfl (lv_at hl 0 rfl) ?_
      refine lv_iconst (v := 1) hx hb dX10_readEnd_10 (by decide) ?_
      refine tk_i (va_runV (As := [.int 1]) (rest := []) ⟨hx, hb, hml, hown, hts⟩ (c_X10_bad l D cy z H.size Ps w0 hw.1 p0 1 h_p0 (rl_1.to (by decide))) (cwV 1 hts (gV tw_1336 tw_1338 ts_46 tw_15 tw_1339) rfl rfl rfl (by decide +kernel) ⟨Nat.le_of_ble_eq_true rfl, Nat.le_of_ble_eq_true rfl⟩) (tg_preV hw hK hSD hA (ci := 10) (q := (RX10, TX10, 49)) rfl h_p0 rfl) rfl rfl hl.1 rfl (lv_room (Nat.le_of_ble_eq_true rfl)) dX10_readEnd_11 ⟨Nat.le_of_ble_eq_true rfl, Nat.le_of_ble_eq_true rfl⟩) hw hA ⟨by decide, by decide⟩ (fun v_2 ws H locs hp_v_2 hw hF9 => ?_)
      have x_TOK_p0_gh := TKP.over hF9 x_TOK_p0_gh (by decide)
      have r_v_2 : RI v_2 0 0 := hp_v_2.1
      subst hQ
      exact W.zret (v := v_2) hx hb hr (tq_nz (r_v_2.to (by decide))) (fun t ht hW => ⟨⟨v_2, ws, rfl, ⟨⟨r_v_2.to (by decide), (fun h0 => trivial), (fun h0 => absurd (Int32.toInt_inj.mp (by have h8 := r_v_2; unfold RI at h8; rw [Int32.toInt_zero]; omega)) h0)⟩, hw.1, hw.2.2.2.2.1⟩, by rw [ht]; exact hw.2.1, va_K.moved hW.alike hK, hw.2.2.1⟩, hw.2.2.2.1.F ht⟩) hw.2.2.2.1.2.2 dX10_readEnd_14
  · have r_v_1 : RI v_1 1 1 := rc_neL r_v_1 rl_0 (ti_ne c9_v_1) (by decide)
    obtain ⟨v_3, m_v_3, r_v_3⟩ := ((hp_v_1.2.2 c9_v_1).1)
    refine lv_if_ne (tgt := 15) hx hb dX10_readEnd_6 (by decide) (fun c_6 => ?_) (fun c_6 => ?_)
    · have x_TO_p0_gh_1 : TOP w0 p0 (gh+1) := TKP.sign hw x_TOK_p0_gh m_v_3 r_v_3
      refine lv_aload_n hx hb dX10_readEnd_15 rfl (lv_at hl 0 rfl) ?_
      refine tk_v (va_runV (As := []) (rest := []) ⟨hx, hb, hml, hown, hts⟩ (c_X10_go__1 l D cy z H.size Ps w0 hw.1 p0 (gh+1) h_p0 x_TO_p0_gh_1) (cwV 0 hts (gV tw_1298 tw_1300 ts_40 tw_15 tw_1301) rfl rfl rfl (by decide +kernel) ⟨Nat.le_of_ble_eq_true rfl, Nat.le_of_ble_eq_true rfl⟩) (tg_preV hw hK hSD hA (ci := 10) (q := (RX10, TX10, 49)) rfl h_p0 rfl) rfl rfl hl.1 rfl (lv_room (Nat.le_of_ble_eq_true rfl)) dX10_readEnd_16 ⟨Nat.le_of_ble_eq_true rfl, Nat.le_of_ble_eq_true rfl⟩) hw hA ⟨by decide, by decide⟩ (fun ws H locs hp_v_4 hw hF9 => ?_)
      have x_TOK_p0_gh_1 := (hp_v_4.1)
      refine lv_iconst (v := 1) hx hb dX10_readEnd_19 (by decide) ?_
      subst hQ
      exact W.zret (v := 1) hx hb hr (rfl) (fun t ht hW => ⟨⟨1, ws, rfl, ⟨⟨rl_1.to (by decide), (fun _ => trivial), (fun h0 => ⟨x_TOK_p0_gh_1, trivial⟩)⟩, hw.1, hw.2.2.2.2.1⟩, by rw [ht]; exact hw.2.1, va_K.moved hW.alike hK, hw.2.2.1⟩, hw.2.2.2.1.F ht⟩) hw.2.2.2.1.2.2 dX10_readEnd_20
    · have r_v_1 : RI v_1 1 0 := rc_eq1 r_v_1 rl_0 (ti_eq c_6) (by decide)
      exact (r_v_1.no (by decide)).elim
abbrev wr_X10_begin__1 : List (Nat × Nat) := [(10, 0), (10, 2), (10, 3), (10, 4), (10, 5), (10, 6), (10, 7), (10, 8), (10, 9), (10, 10), (10, 12)]
abbrev wa_X10_begin__1 : List Nat := []
set_option maxHeartbeats 4000000 in
set_option maxRecDepth 100000 in
theorem c_X10_begin__1 (l : Launch) (D : va_G) (cy : Nat → ClassId) (z : Nat → Nat) (sz : Nat) (Ps : PSI) (w0 : va_W) (hT : HT cy GG Ps w0) (p0 : Nat) (p1 : Int32) (h_p0 : (p0, 55) ∈ Ps) (r_p1 : RI p1 900 900) : Met l yX10_begin (Cond.code yX10_begin cX10_begin 2 none :: gT) ({ frames := 3, cells := 0, slots := 0, locals := 600 } : Room) (va_Pc [.ref p0, .int p1] (PRE D cy z w0 sz)) (va_Qv (fun (u : va_W) => ((∃ v9 : Int32, FLD u p0 10 2 (.int v9) ∧ RI v9 0 0) ∧ True) ∧ HT cy GG Ps u ∧ FR wr_X10_begin__1 wa_X10_begin__1 Ps w0 u) (BB D cy (va_A w0 sz) (fun (u : va_W) => u)) (va_A w0 sz)) 0 0 (va_A w0 sz) := by
  refine Met.ofW (cc := cX10_begin) (maxL := 2) (ret := none) (by decide) rfl ?_
  intro p e s m args below meth c s₁ B hml hv
  obtain ⟨rfl, hsz, hP, hK, hD0, hSD⟩ := hv
  have hx := B.exec
  have hb := B.bytes
  have hr := B.returns
  have hlocks := B.notSynchronized
  have hts : ∀ w ∈ gT, w.before _ s = true := fun w h => atoms_spec (ws := Cond.code yX10_begin cX10_begin 2 none :: gT) B.pre w (List.mem_cons_of_mem _ h)
  have hown : s.vm.findClass RX10 = some m.cls := findClass_of_methodNamed B.named
  subst hsz
  have hD := hD0.self (sz := s.heap.size)
  generalize hAe : va_A w0 s.heap.size = A at hD hSD ⊢
  have hA : ∀ q : Nat, s.heap.size ≤ q → A q := fun q h => by rw [← hAe]; exact Or.inr h
  have hl := lv_entry ([.ref p0, .int p1]) (n := 2) (Nat.le_of_ble_eq_true rfl)
  rw [lg_entry_eq]
  generalize (lg_sl ([.ref p0, .int p1]) ++ List.replicate (2 - (lg_sl ([.ref p0, .int p1])).length) Slot.unset).toArray = ls at hl ⊢
  have hl : lv_has ls 2 [(0, .ref p0), (1, .int p1)] := hl
  refine nameQ (fun Q hQ => ?_)
  have hw : WD D cy GG A s wr_X10_begin__1 wa_X10_begin__1 Ps w0 Ps w0 s.heap [] := ⟨hT, hP, hD, va_S.rf, FR.rf, hT.1, [], (List.append_nil _).symm⟩
  refine lv_aload_n hx hb dX10_begin_0 rfl (lv_at hl 0 rfl) ?_
  refine lv_iconst (v := 0) hx hb dX10_begin_1 (by decide) ?_
  refine tg_put (ci := 10) (ts := ty_MODEL) (v := .int 0) (ty := .int) (C := RX10) (T := TX10) (N := 49) hx hb hts inX10 tyX10 tyX10_ok nmX10 hown hK hw h_p0 rfl rfl 0 (by decide) (hts _ tw_1137) (fun _ h9 => h9) rfl (by decide +kernel) rfl rfl (ft := vI (-2147483648) 2147483647) rfl ⟨_, rfl, (rl_0.to (by decide))⟩ (by decide) dX10_begin_2 (fun ws H locs hw n_k_1 hF9 => ?_)
  refine lv_aload_n hx hb dX10_begin_5 rfl (lv_at hl 0 rfl) ?_
  refine lv_aload_n hx hb dX10_begin_6 rfl (lv_at hl 0 rfl) ?_
  refine tk_i (va_runV (As := []) (rest := [.ref p0]) ⟨hx, hb, hml, hown, hts⟩ (c_X10_take l D cy z H.size Ps ws hw.1 p0 h_p0) (cwV 0 hts (gV tw_1294 tw_1296 ts_39 tw_15 tw_1297) rfl rfl rfl (by decide +kernel) ⟨Nat.le_of_ble_eq_true rfl, Nat.le_of_ble_eq_true rfl⟩) (tg_preV hw hK hSD hA (ci := 10) (q := (RX10, TX10, 49)) rfl h_p0 rfl) rfl rfl hl.1 rfl (lv_room (Nat.le_of_ble_eq_true rfl)) dX10_begin_7 ⟨Nat.le_of_ble_eq_true rfl, Nat.le_of_ble_eq_true rfl⟩) hw hA ⟨by decide, by decide⟩ (fun v_2 ws H locs hp_v_2 hw hF9 => ?_)
  have n_k_1 := FLD.over hF9 n_k_1 (by decide)
  have r_v_2 : RI v_2 0 940 := hp_v_2.1
  by_cases c9_v_2 : v_2 = 0
  · have r_v_2 : RI v_2 0 0 := by rw [c9_v_2]; exact rl_0
    obtain ⟨v_3, m_v_3, r_v_3⟩ := ((hp_v_2.2.1 c9_v_2).1)
    refine tg_put (ci := 10) (ts := ty_MODEL) (v := .int v_2) (ty := .int) (C := RX10) (T := TX10) (N := 49) hx hb hts inX10 tyX10 tyX10_ok nmX10 hown hK hw h_p0 rfl rfl 3 (by decide) (hts _ tw_1140) (fun _ h9 => h9) rfl (by decide +kernel) rfl rfl (ft := vI 0 940) rfl ⟨_, rfl, (r_v_2.to (by decide))⟩ (by decide) dX10_begin_10 (fun ws H locs hw n_k_4 hF9 => ?_)
    have n_k_1 := FLD.over hF9 n_k_1 (by decide)
    have m_v_3 := FLD.over hF9 m_v_3 (by decide)
    refine lv_aload_n hx hb dX10_begin_13 rfl (lv_at hl 0 rfl) ?_
    refine lv_iload_n hx hb dX10_begin_14 rfl (lv_at hl 1 rfl) ?_
    refine tg_put (ci := 10) (ts := ty_MODEL) (v := .int p1) (ty := .int) (C := RX10) (T := TX10) (N := 49) hx hb hts inX10 tyX10 tyX10_ok nmX10 hown hK hw h_p0 rfl rfl 4 (by decide) (hts _ tw_1141) (fun _ h9 => h9) rfl (by decide +kernel) rfl rfl (ft := vI (-2147483648) 2147483647) rfl ⟨_, rfl, (r_p1.to (by decide))⟩ (by decide) dX10_begin_15 (fun ws H locs hw n_k_5 hF9 => ?_)
    have n_k_1 := FLD.over hF9 n_k_1 (by decide)
    have m_v_3 := FLD.over hF9 m_v_3 (by decide)
    have n_k_4 := FLD.over hF9 n_k_4 (by decide)
    refine lv_aload_n hx hb dX10_begin_18 rfl (lv_at hl 0 rfl) ?_
    refine lv_iconst (v := 0) hx hb dX10_begin_19 (by decide) ?_
    refine tg_put (ci := 10) (ts := ty_MODEL) (v := .int 0) (ty := .int) (C := RX10) (T := TX10) (N := 49) hx hb hts inX10 tyX10 tyX10_ok nmX10 hown hK hw h_p0 rfl rfl 10 (by decide) (hts _ tw_1147) (fun _ h9 => h9) rfl (by decide +kernel) rfl rfl (ft := vI (-2147483648) 2147483647) rfl ⟨_, rfl, (rl_0.to (by decide))⟩ (by decide) dX10_begin_20 (fun ws H locs hw n_k_6 hF9 => ?_)
    have n_k_1 := FLD.over hF9 n_k_1 (by decide)
    have m_v_3 := FLD.over hF9 m_v_3 (by decide)
    have n_k_4 := FLD.over hF9 n_k_4 (by decide)
    have n_k_5 := FLD.over hF9 n_k_5 (by decide)
    refine lv_aload_n hx hb dX10_begin_23 rfl (lv_at hl 0 rfl) ?_
    refine lv_iconst (v := 0) hx hb dX10_begin_24 (by decide) ?_
    refine tg_put (ci := 10) (ts := ty_MODEL) (v := .int 0) (ty := .int) (C := RX10) (T := TX10) (N := 49) hx hb hts inX10 tyX10 tyX10_ok nmX10 hown hK hw h_p0 rfl rfl 5 (by decide) (hts _ tw_1142) (fun _ h9 => h9) rfl (by decide +kernel) rfl rfl (ft := vI 0 940) rfl ⟨_, rfl, (rl_0.to (by decide))⟩ (by decide) dX10_begin_25 (fun ws H locs hw n_k_7 hF9 => ?_)
    have n_k_1 := FLD.over hF9 n_k_1 (by decide)
    have m_v_3 := FLD.over hF9 m_v_3 (by decide)
    have n_k_4 := FLD.over hF9 n_k_4 (by decide)
    have n_k_5 := FLD.over hF9 n_k_5 (by decide)
    have n_k_6 := FLD.over hF9 n_k_6 (by decide)
    refine lv_aload_n hx hb dX10_begin_28 rfl (lv_at hl 0 rfl) ?_
    refine tk_v (va_runV (As := []) (rest := []) ⟨hx, hb, hml, hown, hts⟩ (c_X10_go l D cy z H.size Ps ws hw.1 p0 h_p0) (cwV 0 hts (gV tw_1298 tw_1300 ts_40 tw_15 tw_1301) rfl rfl rfl (by decide +kernel) ⟨Nat.le_of_ble_eq_true rfl, Nat.le_of_ble_eq_true rfl⟩) (tg_preV hw hK hSD hA (ci := 10) (q := (RX10, TX10, 49)) rfl h_p0 rfl) rfl rfl hl.1 rfl (lv_room (Nat.le_of_ble_eq_true rfl)) dX10_begin_29 ⟨Nat.le_of_ble_eq_true rfl, Nat.le_of_ble_eq_true rfl⟩) hw hA ⟨by decide, by decide⟩ (fun ws H locs hp_v_8 hw hF9 => ?_)
    have n_k_1 := FLD.over hF9 n_k_1 (by decide)
    have m_v_3 := FLD.over hF9 m_v_3 (by decide)
    have n_k_4 := FLD.over hF9 n_k_4 (by decide)
    have n_k_5 := FLD.over hF9 n_k_5 (by decide)
    have n_k_6 := FLD.over hF9 n_k_6 (by decide)
    subst hQ
    exact W.vret hx hb hr (fun t ht hW => ⟨⟨ws, rfl, ⟨⟨⟨_, m_v_3, r_v_3⟩, trivial⟩, hw.1, hw.2.2.2.2.1⟩, by rw [ht]; exact hw.2.1, va_K.moved hW.alike hK, hw.2.2.1⟩, hw.2.2.2.1.F ht⟩) hw.2.2.2.1.2.2 dX10_begin_32
  · have r_v_2 : RI v_2 1 940 := rc_neL r_v_2 rl_0 (ti_ne c9_v_2) (by decide)
    obtain ⟨v_9, m_v_9, r_v_9⟩ := ((hp_v_2.2.2 c9_v_2).1)
    refine tg_put (ci := 10) (ts := ty_MODEL) (v := .int v_2) (ty := .int) (C := RX10) (T := TX10) (N := 49) hx hb hts inX10 tyX10 tyX10_ok nmX10 hown hK hw h_p0 rfl rfl 3 (by decide) (hts _ tw_1140) (fun _ h9 => h9) rfl (by decide +kernel) rfl rfl (ft := vI 0 940) rfl ⟨_, rfl, (r_v_2.to (by decide))⟩ (by decide) dX10_begin_10 (fun ws H locs hw n_k_10 hF9 => ?_)
    have n_k_1 := FLD.over hF9 n_k_1 (by decide)
    have m_v_9 := FLD.over hF9 m_v_9 (by decide)
    refine lv_aload_n hx hb dX10_begin_13 rfl (lv_at hl 0 rfl) ?_
    refine lv_iload_n hx hb dX10_begin_14 rfl (lv_at hl 1 rfl) ?_
    refine tg_put (ci := 10) (ts := ty_MODEL) (v := .int p1) (ty := .int) (C := RX10) (T := TX10) (N := 49) hx hb hts inX10 tyX10 tyX10_ok nmX10 hown hK hw h_p0 rfl rfl 4 (by decide) (hts _ tw_1141) (fun _ h9 => h9) rfl (by decide +kernel) rfl rfl (ft := vI (-2147483648) 2147483647) rfl ⟨_, rfl, (r_p1.to (by decide))⟩ (by decide) dX10_begin_15 (fun ws H locs hw n_k_11 hF9 => ?_)
    have n_k_1 := FLD.over hF9 n_k_1 (by decide)
    have m_v_9 := FLD.over hF9 m_v_9 (by decide)
    have n_k_10 := FLD.over hF9 n_k_10 (by decide)
    refine lv_aload_n hx hb dX10_begin_18 rfl (lv_at hl 0 rfl) ?_
    refine lv_iconst (v := 0) hx hb dX10_begin_19 (by decide) ?_
    refine tg_put (ci := 10) (ts := ty_MODEL) (v := .int 0) (ty := .int) (C := RX10) (T := TX10) (N := 49) hx hb hts inX10 tyX10 tyX10_ok nmX10 hown hK hw h_p0 rfl rfl 10 (by decide) (hts _ tw_1147) (fun _ h9 => h9) rfl (by decide +kernel) rfl rfl (ft := vI (-2147483648) 2147483647) rfl ⟨_, rfl, (rl_0.to (by decide))⟩ (by decide) dX10_begin_20 (fun ws H locs hw n_k_12 hF9 => ?_)
    have n_k_1 := FLD.over hF9 n_k_1 (by decide)
    have m_v_9 := FLD.over hF9 m_v_9 (by decide)
    have n_k_10 := FLD.over hF9 n_k_10 (by decide)
    have n_k_11 := FLD.over hF9 n_k_11 (by decide)
    refine lv_aload_n hx hb dX10_begin_23 rfl (lv_at hl 0 rfl) ?_
    refine lv_iconst (v := 0) hx hb dX10_begin_24 (by decide) ?_
    refine tg_put (ci := 10) (ts := ty_MODEL) (v := .int 0) (ty := .int) (C := RX10) (T := TX10) (N := 49) hx hb hts inX10 tyX10 tyX10_ok nmX10 hown hK hw h_p0 rfl rfl 5 (by decide) (hts _ tw_1142) (fun _ h9 => h9) rfl (by decide +kernel) rfl rfl (ft := vI 0 940) rfl ⟨_, rfl, (rl_0.to (by decide))⟩ (by decide) dX10_begin_25 (fun ws H locs hw n_k_13 hF9 => ?_)
    have n_k_1 := FLD.over hF9 n_k_1 (by decide)
    have m_v_9 := FLD.over hF9 m_v_9 (by decide)
    have n_k_10 := FLD.over hF9 n_k_10 (by decide)
    have n_k_11 := FLD.over hF9 n_k_11 (by decide)
    have n_k_12 := FLD.over hF9 n_k_12 (by decide)
    refine lv_aload_n hx hb dX10_begin_28 rfl (lv_at hl 0 rfl) ?_
    refine tk_v (va_runV (As := []) (rest := []) ⟨hx, hb, hml, hown, hts⟩ (c_X10_go l D cy z H.size Ps ws hw.1 p0 h_p0) (cwV 0 hts (gV tw_1298 tw_1300 ts_40 tw_15 tw_1301) rfl rfl rfl (by decide +kernel) ⟨Nat.le_of_ble_eq_true rfl, Nat.le_of_ble_eq_true rfl⟩) (tg_preV hw hK hSD hA (ci := 10) (q := (RX10, TX10, 49)) rfl h_p0 rfl) rfl rfl hl.1 rfl (lv_room (Nat.le_of_ble_eq_true rfl)) dX10_begin_29 ⟨Nat.le_of_ble_eq_true rfl, Nat.le_of_ble_eq_true rfl⟩) hw hA ⟨by decide, by decide⟩ (fun ws H locs hp_v_14 hw hF9 => ?_)
    have n_k_1 := FLD.over hF9 n_k_1 (by decide)
    have m_v_9 := FLD.over hF9 m_v_9 (by decide)
    have n_k_10 := FLD.over hF9 n_k_10 (by decide)
    have n_k_11 := FLD.over hF9 n_k_11 (by decide)
    have n_k_12 := FLD.over hF9 n_k_12 (by decide)
    subst hQ
    exact W.vret hx hb hr (fun t ht hW => ⟨⟨ws, rfl, ⟨⟨⟨_, m_v_9, r_v_9⟩, trivial⟩, hw.1, hw.2.2.2.2.1⟩, by rw [ht]; exact hw.2.1, va_K.moved hW.alike hK, hw.2.2.1⟩, hw.2.2.2.1.F ht⟩) hw.2.2.2.1.2.2 dX10_begin_32
abbrev wr_X10_post : List (Nat × Nat) := [(10, 0), (10, 2), (10, 3), (10, 4), (10, 5), (10, 6), (10, 7), (10, 8), (10, 9), (10, 10), (10, 11), (10, 12), (10, 13), (10, 25)]
abbrev wa_X10_post : List Nat := [34, 35, 41, 42, 45]
set_option maxHeartbeats 4000000 in
set_option maxRecDepth 100000 in
theorem c_X10_post (l : Launch) (D : va_G) (cy : Nat → ClassId) (z : Nat → Nat) (sz : Nat) (Ps : PSI) (w0 : va_W) (hT : HT cy GG Ps w0) (p0 : Nat) (h_p0 : (p0, 55) ∈ Ps) : Met l yX10_post (Cond.code yX10_post cX10_post 3 (some .int) :: gT) ({ frames := 9, cells := 0, slots := 0, locals := 1800 } : Room) (va_Pc [.ref p0] (PRE D cy z w0 sz)) (va_Qi (fun (r : Int32) (u : va_W) => (RI r (-2147483648) 2147483647 ∧ (r = 0 → True) ∧ (¬ r = 0 → True)) ∧ HT cy GG Ps u ∧ FR wr_X10_post wa_X10_post Ps w0 u) (BB D cy (va_A w0 sz) (fun (u : va_W) => u)) (va_A w0 sz)) 0 0 (va_A w0 sz) := by
  refine Met.ofW (cc := cX10_post) (maxL := 3) (ret := (some .int)) (by decide) rfl ?_
  intro p e s m args below meth c s₁ B hml hv
  obtain ⟨rfl, hsz, hP, hK, hD0, hSD⟩ := hv
  have hx := B.exec
  have hb := B.bytes
  have hr := B.returns
  have hlocks := B.notSynchronized
  have hts : ∀ w ∈ gT, w.before _ s = true := fun w h => atoms_spec (ws := Cond.code yX10_post cX10_post 3 (some .int) :: gT) B.pre w (List.mem_cons_of_mem _ h)
  have hown : s.vm.findClass RX10 = some m.cls := findClass_of_methodNamed B.named
  subst hsz
  have hD := hD0.self (sz := s.heap.size)
  generalize hAe : va_A w0 s.heap.size = A at hD hSD ⊢
  have hA : ∀ q : Nat, s.heap.size ≤ q → A q := fun q h => by rw [← hAe]; exact Or.inr h
  have hl := lv_entry ([.ref p0]) (n := 3) (Nat.le_of_ble_eq_true rfl)
  rw [lg_entry_eq]
  generalize (lg_sl ([.ref p0]) ++ List.replicate (3 - (lg_sl ([.ref p0])).length) Slot.unset).toArray = ls at hl ⊢
  have hl : lv_has ls 3 [(0, .ref p0)] := hl
  refine nameQ (fun Q hQ => ?_)
  have hw : WD D cy GG A s wr_X10_post wa_X10_post Ps w0 Ps w0 s.heap [] := ⟨hT, hP, hD, va_S.rf, FR.rf, hT.1, [], (List.append_nil _).symm⟩
  have B113 : ∀ (nf : Nat) (x1 : Int32) (x2 : Int32) (z0_2 : Int32) (z0_7 : Int32) (ws : va_W) (H : Heap) (locs : List Loc) (ls : Array Slot), 24 - x2.toInt < (nf : Int) → RI x1 (-2147483648) 2147483647 → RI x2 0 24 → RI z0_2 0 0 → FLD ws p0 10 2 (.int z0_2) → RI z0_7 0 0 → FLD ws p0 10 7 (.int z0_7) → AX 15 35 (fun f => RH2p f) Ps ws p0 → WD D cy GG A s wr_X10_post wa_X10_post Ps w0 Ps ws H locs → lv_has ls 3 [(0, .ref p0), (1, .int x1), (2, .int x2)] → W p l e (headSpec (Cond.code yX10_post cX10_post 3 (some .int) :: gT) ({ frames := 9, cells := 0, slots := 0, locals := 1800 } : Room)).room s m ([.ref p0] : List Value).toArray below meth c H locs 0 0 Q (F0 m 113 ls []) := by
    intro nf113
    induction nf113 with
    | zero =>
      intro x1 x2 z0_2 z0_7 ws H locs ls hn113 r_x1 r_x2 r_z0_2 m_z0_2 r_z0_7 m_z0_7 x_RH_p0 hw hl
      exact absurd hn113 (by have q0 := r_x2.1; have u0 := r_x2.2; omega)
    | succ nf113 ih113 =>
      intro x1 x2 z0_2 z0_7 ws H locs ls hn113 r_x1 r_x2 r_z0_2 m_z0_2 r_z0_7 m_z0_7 x_RH_p0 hw hl
      refine lv_iload_n hx hb dX10_post_113 rfl (lv_at hl 2 rfl) ?_
      refine lv_bipush (v := 24) hx hb dX10_post_114 (by decide) ?_
      refine lv_icmp_ge (tgt := 137) hx hb dX10_post_116 (by decide) (fun c_116 => ?_) (fun c_116 => ?_)
      · have r_x2 : RI x2 24 24 := rc_le2 rl_24 r_x2 (ti_le c_116) (by decide)
        refine lv_aload_n hx hb dX10_post_137 rfl (lv_at hl 0 rfl) ?_
        refine tk_v (va_runV (As := []) (rest := []) ⟨hx, hb, hml, hown, hts⟩ (c_X10_startSo l D cy z H.size Ps ws hw.1 p0 h_p0) (cwV 0 hts (gV tw_1417 tw_1419 ts_64 tw_15 tw_1420) rfl rfl rfl (by decide +kernel) ⟨Nat.le_of_ble_eq_true rfl, Nat.le_of_ble_eq_true rfl⟩) (tg_preV hw hK hSD hA (ci := 10) (q := (RX10, TX10, 49)) rfl h_p0 rfl) rfl rfl hl.1 rfl (lv_room (Nat.le_of_ble_eq_true rfl)) dX10_post_138 ⟨Nat.le_of_ble_eq_true rfl, Nat.le_of_ble_eq_true rfl⟩) hw hA ⟨by decide, by decide⟩ (fun ws H locs hp_v_1 hw hF9 => ?_)
        have m_z0_2 := FLD.over hF9 m_z0_2 (by decide)
        have m_z0_7 := FLD.over hF9 m_z0_7 (by decide)
        have x_RH_p0 := AX.over hF9 x_RH_p0 (by decide)
        refine lv_aload_n hx hb dX10_post_141 rfl (lv_at hl 0 rfl) ?_
        refine lv_iconst (v := 0) hx hb dX10_post_142 (by decide) ?_
        refine tg_put (ci := 10) (ts := ty_MODEL) (v := .int 0) (ty := .int) (C := RX10) (T := TX10) (N := 49) hx hb hts inX10 tyX10 tyX10_ok nmX10 hown hK hw h_p0 rfl rfl 25 (by decide) (hts _ tw_1162) (fun _ h9 => h9) rfl (by decide +kernel) rfl rfl (ft := vI 0 8) rfl ⟨_, rfl, (rl_0.to (by decide))⟩ (by decide) dX10_post_143 (fun ws H locs hw n_k_2 hF9 => ?_)
        have m_z0_2 := FLD.over hF9 m_z0_2 (by decide)
        have m_z0_7 := FLD.over hF9 m_z0_7 (by decide)
        have x_RH_p0 := AX.over hF9 x_RH_p0 (by decide)
        refine lv_iload_n hx hb dX10_post_146 rfl (lv_at hl 1 rfl) ?_
        subst hQ
        exact W.iret (v := x1) hx hb hr (fun t ht hW => ⟨⟨x1, ws, rfl, ⟨⟨r_x1.to (by decide), (fun h0 => trivial), (fun h0 => trivial)⟩, hw.1, hw.2.2.2.2.1⟩, by rw [ht]; exact hw.2.1, va_K.moved hW.alike hK, hw.2.2.1⟩, hw.2.2.2.1.F ht⟩) hw.2.2.2.1.2.2 dX10_post_147
      · have r_x2 : RI x2 0 23 := rc_lt1 r_x2 rl_24 (ti_nle c_116) (by decide)
        refine lv_aload_n hx hb dX10_post_119 rfl (lv_at hl 0 rfl) ?_
        refine tg_get (ci := 10) (ts := ty_MODEL) (C := RX10) (T := TX10) (N := 49) hx hb hts inX10 hown hK hw h_p0 rfl rfl 20 (by decide) (hts _ tw_1157) (fun _ h9 => h9) (ft := vR 41) rfl dX10_post_120 (fun u_3 hv_u_3 m_u_3 => ?_)
        obtain ⟨vu_3, rfl, h_vu_3⟩ := hv_u_3
        refine lv_iload_n hx hb dX10_post_123 rfl (lv_at hl 2 rfl) ?_
        refine lv_aload_n hx hb dX10_post_124 rfl (lv_at hl 0 rfl) ?_
        refine tg_get (ci := 10) (ts := ty_MODEL) (C := RX10) (T := TX10) (N := 49) hx hb hts inX10 hown hK hw h_p0 rfl rfl 21 (by decide) (hts _ tw_1158) (fun _ h9 => h9) (ft := vR 42) rfl dX10_post_125 (fun u_4 hv_u_4 m_u_4 => ?_)
        obtain ⟨vu_4, rfl, h_vu_4⟩ := hv_u_4
        refine lv_iload_n hx hb dX10_post_128 rfl (lv_at hl 2 rfl) ?_
        refine tg_lald hx hb hK hw h_vu_4 rfl r_x2 (by decide) dX10_post_129 (fun w_5 r_w_5 => ?_)
        refine tg_last hx hb hK hw h_vu_3 rfl r_x2 (by decide) r_w_5 (by decide) (by decide) dX10_post_130 (fun ws H locs hw hF9 => ?_)
        have x_RH_p0 := AX.over hF9 x_RH_p0 (by decide)
        have m_z0_2 := FLD.over hF9 m_z0_2 (by decide)
        have m_z0_7 := FLD.over hF9 m_z0_7 (by decide)
        have m_u_3 := FLD.over hF9 m_u_3 (by decide)
        have m_u_4 := FLD.over hF9 m_u_4 (by decide)
        obtain ⟨v_6, e_v_6⟩ : ∃ q9 : Int32, q9 = x2 + Int32.ofInt 1 := ⟨_, rfl⟩
        obtain ⟨t_v_6, r_v_6⟩ := tq_add (lo := 1) (hi := 24) r_x2 (show RI (Int32.ofInt 1) 1 1 by unfold RI; decide +kernel) (by decide +kernel) e_v_6
        have t_v_6 : v_6.toInt = x2.toInt + 1 := t_v_6
        refine lv_iinc (v := v_6) (lv' := [(2, .int v_6), (0, .ref p0), (1, .int x1)]) hx hb dX10_post_131 hl (k := 2) rfl e_v_6.symm (by decide) rfl (fun ls hl => ?_)
        refine lv_goto (tgt := 113) hx hb dX10_post_134 (by decide) ?_
        exact ih113 x1 v_6 z0_2 z0_7 ws _ _ ls (by have q0 := r_v_6.1; have u0 := r_v_6.2; have o0 := r_x2.1; have p0 := r_x2.2; omega) r_x1 (r_v_6.to (by decide)) r_z0_2 m_z0_2 r_z0_7 m_z0_7 x_RH_p0 hw (lv_sub hl [1, 2, 0] rfl)
  have B87 : ∀ (nf : Nat) (x1 : Int32) (x2 : Int32) (z0_2 : Int32) (z0_7 : Int32) (za14 : Nat) (za15 : Nat) (ws : va_W) (H : Heap) (locs : List Loc) (ls : Array Slot), 84 - x2.toInt < (nf : Int) → RI x1 (-2147483648) 2147483647 → RI x2 0 84 → RI z0_2 0 0 → FLD ws p0 10 2 (.int z0_2) → RI z0_7 0 0 → FLD ws p0 10 7 (.int z0_7) → AX 15 35 (fun f => RH2p f) Ps ws p0 → (za14, 34) ∈ Ps → FLD ws p0 10 14 (.ref za14) → (za15, 35) ∈ Ps → FLD ws p0 10 15 (.ref za15) → AX2 14 34 15 35 (fun f g => CRp x2 f g) Ps ws p0 → WD D cy (GX za14) A s wr_X10_post wa_X10_post Ps w0 Ps ws H locs → lv_has ls 3 [(0, .ref p0), (1, .int x1), (2, .int x2)] → W p l e (headSpec (Cond.code yX10_post cX10_post 3 (some .int) :: gT) ({ frames := 9, cells := 0, slots := 0, locals := 1800 } : Room)).room s m ([.ref p0] : List Value).toArray below meth c H locs 0 0 Q (F0 m 87 ls []) := by
    intro nf87
    induction nf87 with
    | zero =>
      intro x1 x2 z0_2 z0_7 za14 za15 ws H locs ls hn87 r_x1 r_x2 r_z0_2 m_z0_2 r_z0_7 m_z0_7 x_RH_p0 h_za14 m_za14 h_za15 m_za15 x_CPR_p0__2 hw hl
      exact absurd hn87 (by have q0 := r_x2.1; have u0 := r_x2.2; omega)
    | succ nf87 ih87 =>
      intro x1 x2 z0_2 z0_7 za14 za15 ws H locs ls hn87 r_x1 r_x2 r_z0_2 m_z0_2 r_z0_7 m_z0_7 x_RH_p0 h_za14 m_za14 h_za15 m_za15 x_CPR_p0__2 hw hl
      refine lv_iload_n hx hb dX10_post_87 rfl (lv_at hl 2 rfl) ?_
      refine lv_bipush (v := 84) hx hb dX10_post_88 (by decide) ?_
      refine lv_icmp_ge (tgt := 111) hx hb dX10_post_90 (by decide) (fun c_90 => ?_) (fun c_90 => ?_)
      · have r_x2 : RI x2 84 84 := rc_le2 rl_84 r_x2 (ti_le c_90) (by decide)
        have hw := WD.back hw h_za14 rfl (fun f9 q9 => by obtain ⟨g9, e9⟩ := AX2.arr hw x_CPR_p0__2 m_za14 f9 q9; exact CR_end e9 (r_x2.to (by decide)))
        refine lv_iconst (v := 0) hx hb dX10_post_111 (by decide) ?_
        refine lv_istore_n (lv' := [(2, .int 0), (0, .ref p0), (1, .int x1)]) hx hb dX10_post_112 rfl hl (by decide) rfl (fun ls hl => ?_)
        exact B113 4294967298 x1 0 z0_2 z0_7 ws _ _ ls (by have q0 := rl_0.1; have u0 := rl_0.2; omega) r_x1 (rl_0.to (by decide)) r_z0_2 m_z0_2 r_z0_7 m_z0_7 x_RH_p0 hw (lv_sub hl [1, 2, 0] rfl)
      · have r_x2 : RI x2 0 83 := rc_lt1 r_x2 rl_84 (ti_nle c_90) (by decide)
        refine lv_aload_n hx hb dX10_post_93 rfl (lv_at hl 0 rfl) ?_
        refine tg_mem (ci := 10) (C := RX10) (T := TX10) (N := 49) hx hb hts inX10 hown hK hw 14 m_za14 rfl (by decide) (hts _ tw_1151) (fun _ h9 => h9) dX10_post_94 ?_
        refine lv_iload_n hx hb dX10_post_97 rfl (lv_at hl 2 rfl) ?_
        refine lv_aload_n hx hb dX10_post_98 rfl (lv_at hl 0 rfl) ?_
        refine tg_mem (ci := 10) (C := RX10) (T := TX10) (N := 49) hx hb hts inX10 hown hK hw 15 m_za15 rfl (by decide) (hts _ tw_1152) (fun _ h9 => h9) dX10_post_99 ?_
        refine lv_iload_n hx hb dX10_post_102 rfl (lv_at hl 2 rfl) ?_
        refine tg_iald (lo := (-2147483648)) (hi := 2147483647) hx hb hK hw h_za15 rfl 0 83 r_x2 (by decide) (by decide +kernel) dX10_post_103 (fun v_7 r_v_7 m_v_7 o_v_7 => ?_)
        have x_CPRV_p0_x2_x2_v_7 : AX2 14 34 15 35 (fun f g => CRp x2 f g ∧ g (Int32.toNatClampNeg x2) = v_7) Ps ws p0 := AX2.el hw x_CPR_p0__2 m_za15 m_v_7
        have hw8 := hw
        have e_8 : x2.toNatClampNeg = x2.toNatClampNeg := by have k1 := r_x2.cl (by decide); have k2 := r_x2.cl (by decide); have b10 := r_x1.1; have b20 := r_x1.2; have b11 := r_x2.1; have b21 := r_x2.2; have b12 := r_z0_2.1; have b22 := r_z0_2.2; have b13 := r_z0_7.1; have b23 := r_z0_7.2; have b14 := r_v_7.1; have b24 := r_v_7.2; omega
        refine tg_iasto hx hb hK hw h_za14 rfl 0 83 r_x2 (by decide) (show RI _ (canon (x2.toNatClampNeg)).1 (canon (x2.toNatClampNeg)).2 by rw [← e_8]; exact o_v_7) (fun _ _ _ _ _ => Or.inl rfl) (by decide) dX10_post_104 (fun ws H locs hw hF9 hU9 => ?_)
        have x_CPRT_p0_x2 : AX2 14 34 15 35 (fun f g => ∀ k9 : Int32, k9.toInt = Int32.toInt x2 + 1 → CRp  k9 f g) Ps ws p0 := AX2.ast hF9 hU9 x_CPRV_p0_x2_x2_v_7 m_za14 (by decide) (fun f9 g9 h9 => fun k9 e9 => CR_step h9 (r_x2.to (by decide)) rfl e9)
        have m_v_7 := AEL.over hw8 hF9 h_za15 m_v_7 (by decide)
        have x_RH_p0 := AX.over hF9 x_RH_p0 (by decide)
        have m_z0_2 := FLD.over hF9 m_z0_2 (by decide)
        have m_z0_7 := FLD.over hF9 m_z0_7 (by decide)
        have m_za14 := FLD.over hF9 m_za14 (by decide)
        have m_za15 := FLD.over hF9 m_za15 (by decide)
        obtain ⟨v_9, e_v_9⟩ : ∃ q9 : Int32, q9 = x2 + Int32.ofInt 1 := ⟨_, rfl⟩
        obtain ⟨t_v_9, r_v_9⟩ := tq_add (lo := 1) (hi := 84) r_x2 (show RI (Int32.ofInt 1) 1 1 by unfold RI; decide +kernel) (by decide +kernel) e_v_9
        have t_v_9 : v_9.toInt = x2.toInt + 1 := t_v_9
        refine lv_iinc (v := v_9) (lv' := [(2, .int v_9), (0, .ref p0), (1, .int x1)]) hx hb dX10_post_105 hl (k := 2) rfl e_v_9.symm (by decide) rfl (fun ls hl => ?_)
        refine lv_goto (tgt := 87) hx hb dX10_post_108 (by decide) ?_
        have x_CPR_p0_v_9 : AX2 14 34 15 35 (fun f g => CRp v_9 f g) Ps ws p0 := AX2.imp x_CPRT_p0_x2 (fun f9 g9 h9 => h9 _ t_v_9)
        exact ih87 x1 v_9 z0_2 z0_7 za14 za15 ws _ _ ls (by have q0 := r_v_9.1; have u0 := r_v_9.2; have o0 := r_x2.1; have p0 := r_x2.2; omega) r_x1 (r_v_9.to (by decide)) r_z0_2 m_z0_2 r_z0_7 m_z0_7 x_RH_p0 h_za14 m_za14 h_za15 m_za15 x_CPR_p0_v_9 hw (lv_sub hl [1, 2, 0] rfl)
  have B51 : ∀ (nf : Nat) (x1 : Int32) (z0_2 : Int32) (gz : Int) (ws : va_W) (H : Heap) (locs : List Loc) (ls : Array Slot), 941 - gz < (nf : Int) → RI x1 (-2147483648) 2147483647 → RI z0_2 0 0 → FLD ws p0 10 2 (.int z0_2) → AX 15 35 (fun f => RH2p f) Ps ws p0 → TOP ws p0 (gz) → WD D cy GG A s wr_X10_post wa_X10_post Ps w0 Ps ws H locs → lv_has ls 3 [(0, .ref p0), (1, .int x1)] → W p l e (headSpec (Cond.code yX10_post cX10_post 3 (some .int) :: gT) ({ frames := 9, cells := 0, slots := 0, locals := 1800 } : Room)).room s m ([.ref p0] : List Value).toArray below meth c H locs 0 0 Q (F0 m 51 ls []) := by
    intro nf51
    induction nf51 with
    | zero =>
      intro x1 z0_2 gz ws H locs ls hn51 r_x1 r_z0_2 m_z0_2 x_RH_p0 x_TO_p0_gz hw hl
      exact absurd hn51 (by obtain ⟨_, _, q9, u9⟩ := x_TO_p0_gz; omega)
    | succ nf51 ih51 =>
      intro x1 z0_2 gz ws H locs ls hn51 r_x1 r_z0_2 m_z0_2 x_RH_p0 x_TO_p0_gz hw hl
      refine lv_aload_n hx hb dX10_post_51 rfl (lv_at hl 0 rfl) ?_
      refine tg_get (ci := 10) (ts := ty_MODEL) (C := RX10) (T := TX10) (N := 49) hx hb hts inX10 hown hK hw h_p0 rfl rfl 7 (by decide) (hts _ tw_1144) (fun _ h9 => h9) (ft := vI (-2147483648) 2147483647) rfl dX10_post_52 (fun u_10 hv_u_10 m_u_10 => ?_)
      obtain ⟨vu_10, rfl, r_vu_10⟩ := hv_u_10
      refine lv_if_eq (tgt := 85) hx hb dX10_post_55 (by decide) (fun c_55 => ?_) (fun c_55 => ?_)
      · have r_vu_10 : RI vu_10 0 0 := rc_eq1 r_vu_10 rl_0 (ti_eq c_55) (by decide)
        refine lv_iconst (v := 0) hx hb dX10_post_85 (by decide) ?_
        refine lv_istore_n (lv' := [(2, .int 0), (0, .ref p0), (1, .int x1)]) hx hb dX10_post_86 rfl hl (by decide) rfl (fun ls hl => ?_)
        obtain ⟨b_11, m_b_11, h_b_11⟩ := tg_fldR (k := 14) (ci := 10) (ts := ty_MODEL) (u := 34) hw h_p0 rfl rfl
        obtain ⟨b_12, m_b_12, h_b_12⟩ := tg_fldR (k := 15) (ci := 10) (ts := ty_MODEL) (u := 35) hw h_p0 rfl rfl
        have x_CPR_p0_0 : AX2 14 34 15 35 (fun f g => CRp 0 f g) Ps ws p0 := AX2.imp (AX.two (ax_of (k := 14) (t := 34) hw h_p0 rfl (fun _ => rfl)) x_RH_p0) (fun f9 g9 h9 => ⟨h9.1.1.2, h9.2, fun j9 q9 => absurd q9 (by rw [Int32.toInt_zero]; omega)⟩)
        have hw := WD.weak b_11 hw
        exact B87 4294967298 x1 0 z0_2 vu_10 b_11 b_12 ws _ _ ls (by have q0 := rl_0.1; have u0 := rl_0.2; omega) r_x1 (rl_0.to (by decide)) r_z0_2 m_z0_2 r_vu_10 m_u_10 x_RH_p0 h_b_11 m_b_11 h_b_12 m_b_12 x_CPR_p0_0 hw (lv_sub hl [1, 2, 0] rfl)
      · refine lv_aload_n hx hb dX10_post_58 rfl (lv_at hl 0 rfl) ?_
        refine tk_i (va_runV (As := []) (rest := []) ⟨hx, hb, hml, hown, hts⟩ (c_X10_readLine l D cy z H.size Ps ws hw.1 p0 (gz) h_p0 x_TO_p0_gz x_RH_p0) (cwV 0 hts (gV tw_1314 tw_1316 ts_42 tw_15 tw_1317) rfl rfl rfl (by decide +kernel) ⟨Nat.le_of_ble_eq_true rfl, Nat.le_of_ble_eq_true rfl⟩) (tg_preV hw hK hSD hA (ci := 10) (q := (RX10, TX10, 49)) rfl h_p0 rfl) rfl rfl hl.1 rfl (lv_room (Nat.le_of_ble_eq_true rfl)) dX10_post_59 ⟨Nat.le_of_ble_eq_true rfl, Nat.le_of_ble_eq_true rfl⟩) hw hA ⟨by decide, by decide⟩ (fun v_13 ws H locs hp_v_13 hw hF9 => ?_)
        have m_z0_2 := FLD.over hF9 m_z0_2 (by decide)
        have r_v_13 : RI v_13 0 1 := hp_v_13.1
        by_cases c9_v_13 : v_13 = 0
        · have r_v_13 : RI v_13 0 0 := by rw [c9_v_13]; exact rl_0
          refine lv_if_eq (tgt := 72) hx hb dX10_post_62 (by decide) (fun c_62 => ?_) (fun c_62 => ?_)
          · refine lv_iconst (v := (-1)) hx hb dX10_post_72 (by decide) ?_
            refine lv_aload_n hx hb dX10_post_73 rfl (lv_at hl 0 rfl) ?_
            refine tg_get (ci := 10) (ts := ty_MODEL) (C := RX10) (T := TX10) (N := 49) hx hb hts inX10 hown hK hw h_p0 rfl rfl 11 (by decide) (hts _ tw_1148) (fun _ h9 => h9) (ft := vI (-2147483648) 2147483647) rfl dX10_post_74 (fun u_14 hv_u_14 m_u_14 => ?_)
            obtain ⟨vu_14, rfl, r_vu_14⟩ := hv_u_14
            refine lv_isub hx hb dX10_post_77 (lv_topi (fun v_15 e_v_15 => ?_))
            obtain ⟨t_v_15, r_v_15⟩ := tq_sub (lo := (-2147483648)) (hi := 2147483647) rl_m1 r_vu_14 (by decide +kernel) e_v_15
            have t_v_15 : v_15.toInt = (-1) - vu_14.toInt := t_v_15
            subst hQ
            exact W.iret (v := v_15) hx hb hr (fun t ht hW => ⟨⟨v_15, ws, rfl, ⟨⟨r_v_15.to (by decide), (fun h0 => trivial), (fun h0 => trivial)⟩, hw.1, hw.2.2.2.2.1⟩, by rw [ht]; exact hw.2.1, va_K.moved hW.alike hK, hw.2.2.1⟩, hw.2.2.2.1.F ht⟩) hw.2.2.2.1.2.2 dX10_post_78
          · exact absurd (r_v_13.eq.trans rl_0.eq.symm) ((ti_ne c_62))
        · have r_v_13 : RI v_13 1 1 := rc_neL r_v_13 rl_0 (ti_ne c9_v_13) (by decide)
          have x_TOK_p0_gz := ((hp_v_13.2.2 c9_v_13).1)
          have x_RH_p0 := ((hp_v_13.2.2 c9_v_13).2.1)
          refine lv_if_eq (tgt := 72) hx hb dX10_post_62 (by decide) (fun c_62 => ?_) (fun c_62 => ?_)
          · have r_v_13 : RI v_13 1 0 := rc_eq1 r_v_13 rl_0 (ti_eq c_62) (by decide)
            exact (r_v_13.no (by decide)).elim
          · refine lv_aload_n hx hb dX10_post_65 rfl (lv_at hl 0 rfl) ?_
            refine tk_i (va_runV (As := []) (rest := []) ⟨hx, hb, hml, hown, hts⟩ (c_X10_readEnd__1 l D cy z H.size Ps ws hw.1 p0 (gz) h_p0 x_TOK_p0_gz) (cwV 0 hts (gV tw_1409 tw_1411 ts_62 tw_15 tw_1412) rfl rfl rfl (by decide +kernel) ⟨Nat.le_of_ble_eq_true rfl, Nat.le_of_ble_eq_true rfl⟩) (tg_preV hw hK hSD hA (ci := 10) (q := (RX10, TX10, 49)) rfl h_p0 rfl) rfl rfl hl.1 rfl (lv_room (Nat.le_of_ble_eq_true rfl)) dX10_post_66 ⟨Nat.le_of_ble_eq_true rfl, Nat.le_of_ble_eq_true rfl⟩) hw hA ⟨by decide, by decide⟩ (fun v_16 ws H locs hp_v_16 hw hF9 => ?_)
            have m_z0_2 := FLD.over hF9 m_z0_2 (by decide)
            have x_RH_p0 := AX.over hF9 x_RH_p0 (by decide)
            have r_v_16 : RI v_16 0 1 := hp_v_16.1
            by_cases c9_v_16 : v_16 = 0
            · have r_v_16 : RI v_16 0 0 := by rw [c9_v_16]; exact rl_0
              refine lv_if_ne (tgt := 79) hx hb dX10_post_69 (by decide) (fun c_69 => ?_) (fun c_69 => ?_)
              · exact absurd (r_v_16.eq.trans rl_0.eq.symm) ((ti_ne c_69))
              · refine lv_iconst (v := (-1)) hx hb dX10_post_72 (by decide) ?_
                refine lv_aload_n hx hb dX10_post_73 rfl (lv_at hl 0 rfl) ?_
                refine tg_get (ci := 10) (ts := ty_MODEL) (C := RX10) (T := TX10) (N := 49) hx hb hts inX10 hown hK hw h_p0 rfl rfl 11 (by decide) (hts _ tw_1148) (fun _ h9 => h9) (ft := vI (-2147483648) 2147483647) rfl dX10_post_74 (fun u_17 hv_u_17 m_u_17 => ?_)
                obtain ⟨vu_17, rfl, r_vu_17⟩ := hv_u_17
                refine lv_isub hx hb dX10_post_77 (lv_topi (fun v_18 e_v_18 => ?_))
                obtain ⟨t_v_18, r_v_18⟩ := tq_sub (lo := (-2147483648)) (hi := 2147483647) rl_m1 r_vu_17 (by decide +kernel) e_v_18
                have t_v_18 : v_18.toInt = (-1) - vu_17.toInt := t_v_18
                subst hQ
                exact W.iret (v := v_18) hx hb hr (fun t ht hW => ⟨⟨v_18, ws, rfl, ⟨⟨r_v_18.to (by decide), (fun h0 => trivial), (fun h0 => trivial)⟩, hw.1, hw.2.2.2.2.1⟩, by rw [ht]; exact hw.2.1, va_K.moved hW.alike hK, hw.2.2.1⟩, hw.2.2.2.1.F ht⟩) hw.2.2.2.1.2.2 dX10_post_78
            · have r_v_16 : RI v_16 1 1 := rc_neL r_v_16 rl_0 (ti_ne c9_v_16) (by decide)
              have x_TOK_p0_gz_1 := ((hp_v_16.2.2 c9_v_16).1)
              refine lv_if_ne (tgt := 79) hx hb dX10_post_69 (by decide) (fun c_69 => ?_) (fun c_69 => ?_)
              · have x_TO_p0_gz_1 : TOP ws p0 (gz+1) := TKP.top x_TOK_p0_gz_1
                obtain ⟨v_19, e_v_19⟩ : ∃ q9 : Int32, q9 = x1 + Int32.ofInt 1 := ⟨_, rfl⟩
                have r_v_19 := ri_any v_19
                refine lv_iinc (v := v_19) (lv' := [(1, .int v_19), (0, .ref p0)]) hx hb dX10_post_79 hl (k := 1) rfl e_v_19.symm (by decide) rfl (fun ls hl => ?_)
                refine lv_goto (tgt := 51) hx hb dX10_post_82 (by decide) ?_
                exact ih51 v_19 z0_2 (gz+1) ws _ _ ls (by omega) r_v_19 r_z0_2 m_z0_2 x_RH_p0 x_TO_p0_gz_1 hw (lv_sub hl [1, 0] rfl)
              · have r_v_16 : RI v_16 1 0 := rc_eq1 r_v_16 rl_0 (ti_eq c_69) (by decide)
                exact (r_v_16.no (by decide)).elim
  have B9 : ∀ (nf : Nat) (x1 : Int32) (z0_2 : Int32) (ws : va_W) (H : Heap) (locs : List Loc) (ls : Array Slot), 84 - x1.toInt < (nf : Int) → RI x1 0 84 → RI z0_2 0 0 → FLD ws p0 10 2 (.int z0_2) → AX 15 35 (fun f => ∀ j : Nat, (j : Int) < Int32.toInt x1 → f j = 0) Ps ws p0 → WD D cy GG A s wr_X10_post wa_X10_post Ps w0 Ps ws H locs → lv_has ls 3 [(0, .ref p0), (1, .int x1)] → W p l e (headSpec (Cond.code yX10_post cX10_post 3 (some .int) :: gT) ({ frames := 9, cells := 0, slots := 0, locals := 1800 } : Room)).room s m ([.ref p0] : List Value).toArray below meth c H locs 0 0 Q (F0 m 9 ls []) := by
    intro nf9
    induction nf9 with
    | zero =>
      intro x1 z0_2 ws H locs ls hn9 r_x1 r_z0_2 m_z0_2 x_ZR_p0__1 hw hl
      exact absurd hn9 (by have q0 := r_x1.1; have u0 := r_x1.2; omega)
    | succ nf9 ih9 =>
      intro x1 z0_2 ws H locs ls hn9 r_x1 r_z0_2 m_z0_2 x_ZR_p0__1 hw hl
      refine lv_iload_n hx hb dX10_post_9 rfl (lv_at hl 1 rfl) ?_
      refine lv_bipush (v := 84) hx hb dX10_post_10 (by decide) ?_
      refine lv_icmp_ge (tgt := 28) hx hb dX10_post_12 (by decide) (fun c_12 => ?_) (fun c_12 => ?_)
      · have r_x1 : RI x1 84 84 := rc_le2 rl_84 r_x1 (ti_le c_12) (by decide)
        refine lv_aload_n hx hb dX10_post_28 rfl (lv_at hl 0 rfl) ?_
        refine tg_get (ci := 10) (ts := ty_MODEL) (C := RX10) (T := TX10) (N := 49) hx hb hts inX10 hown hK hw h_p0 rfl rfl 24 (by decide) (hts _ tw_1161) (fun _ h9 => h9) (ft := vR 45) rfl dX10_post_29 (fun u_20 hv_u_20 m_u_20 => ?_)
        obtain ⟨vu_20, rfl, h_vu_20⟩ := hv_u_20
        refine lv_iconst (v := 0) hx hb dX10_post_32 (by decide) ?_
        refine lv_iconst (v := 0) hx hb dX10_post_33 (by decide) ?_
        refine tg_zast hx hb hK hw h_vu_20 rfl 0 0 rl_0 (by decide) (by decide) dX10_post_34 (fun ws H locs hw hF9 => ?_)
        have x_ZR_p0__1 := AX.over hF9 x_ZR_p0__1 (by decide)
        have m_z0_2 := FLD.over hF9 m_z0_2 (by decide)
        have m_u_20 := FLD.over hF9 m_u_20 (by decide)
        refine lv_aload_n hx hb dX10_post_35 rfl (lv_at hl 0 rfl) ?_
        refine tg_mem (ci := 10) (C := RX10) (T := TX10) (N := 49) hx hb hts inX10 hown hK hw 24 m_u_20 rfl (by decide) (hts _ tw_1161) (fun _ h9 => h9) dX10_post_36 ?_
        refine lv_iconst (v := 1) hx hb dX10_post_39 (by decide) ?_
        refine lv_iconst (v := 0) hx hb dX10_post_40 (by decide) ?_
        refine tg_zast hx hb hK hw h_vu_20 rfl 1 1 rl_1 (by decide) (by decide) dX10_post_41 (fun ws H locs hw hF9 => ?_)
        have x_ZR_p0__1 := AX.over hF9 x_ZR_p0__1 (by decide)
        have m_z0_2 := FLD.over hF9 m_z0_2 (by decide)
        have m_u_20 := FLD.over hF9 m_u_20 (by decide)
        refine lv_aload_n hx hb dX10_post_42 rfl (lv_at hl 0 rfl) ?_
        refine tg_get (ci := 10) (ts := ty_MODEL) (C := RX10) (T := TX10) (N := 49) hx hb hts inX10 hown hK hw h_p0 rfl rfl 15 (by decide) (hts _ tw_1152) (fun _ h9 => h9) (ft := vR 35) rfl dX10_post_43 (fun u_21 hv_u_21 m_u_21 => ?_)
        obtain ⟨vu_21, rfl, h_vu_21⟩ := hv_u_21
        refine lv_iconst (v := 5) hx hb dX10_post_46 (by decide) ?_
        refine lv_iconst (v := 5) hx hb dX10_post_47 (by decide) ?_
        have x_RHI_p0 : AX 15 35 (fun f => f 0 = 0 ∧ f 3 = 0) Ps ws p0 := AX.imp x_ZR_p0__1 (fun f9 h9 => ⟨h9 0 (by have k1 := r_x1.1; omega), h9 3 (by have k1 := r_x1.1; omega)⟩)
        refine tg_iast hx hb hK hw h_vu_21 rfl 5 5 rl_5 (by decide) rl_5 (by decide +kernel) (fun _ _ _ _ _ => trivial) (by decide) dX10_post_48 (fun ws H locs hw hF9 hU9 => ?_)
        have x_RH_p0 : AX 15 35 (fun f => RH2p f) Ps ws p0 := AX.ast hF9 hU9 x_RHI_p0 m_u_21 (fun f9 h9 => RH_init h9.1 h9.2 (Int.le_trans (by decide) rl_5.1))
        have m_z0_2 := FLD.over hF9 m_z0_2 (by decide)
        have m_u_20 := FLD.over hF9 m_u_20 (by decide)
        have m_u_21 := FLD.over hF9 m_u_21 (by decide)
        refine lv_iconst (v := 0) hx hb dX10_post_49 (by decide) ?_
        refine lv_istore_n (lv' := [(1, .int 0), (0, .ref p0)]) hx hb dX10_post_50 rfl hl (by decide) rfl (fun ls hl => ?_)
        obtain ⟨v_22, m_v_22, r_v_22⟩ := tg_fld (k := 5) (ci := 10) (ts := ty_MODEL) (lo := 0) (hi := 940) hw h_p0 rfl rfl
        have x_TO_p0_0 : TOP ws p0 (0) := ⟨v_22, m_v_22, r_v_22.1, r_v_22.2⟩
        exact B51 4294967298 0 z0_2 (0) ws _ _ ls (by omega) (rl_0.to (by decide)) r_z0_2 m_z0_2 x_RH_p0 x_TO_p0_0 hw (lv_sub hl [1, 0] rfl)
      · have r_x1 : RI x1 0 83 := rc_lt1 r_x1 rl_84 (ti_nle c_12) (by decide)
        refine lv_aload_n hx hb dX10_post_15 rfl (lv_at hl 0 rfl) ?_
        refine tg_get (ci := 10) (ts := ty_MODEL) (C := RX10) (T := TX10) (N := 49) hx hb hts inX10 hown hK hw h_p0 rfl rfl 15 (by decide) (hts _ tw_1152) (fun _ h9 => h9) (ft := vR 35) rfl dX10_post_16 (fun u_23 hv_u_23 m_u_23 => ?_)
        obtain ⟨vu_23, rfl, h_vu_23⟩ := hv_u_23
        refine lv_iload_n hx hb dX10_post_19 rfl (lv_at hl 1 rfl) ?_
        refine lv_iconst (v := 0) hx hb dX10_post_20 (by decide) ?_
        refine tg_iast hx hb hK hw h_vu_23 rfl 0 83 r_x1 (by decide) rl_0 (by decide +kernel) (fun _ _ _ _ _ => trivial) (by decide) dX10_post_21 (fun ws H locs hw hF9 hU9 => ?_)
        have x_ZS_p0_x1 : AX 15 35 (fun f => ∀ j : Nat, (j : Int) < Int32.toInt x1 + 1 → f j = 0) Ps ws p0 := AX.ast hF9 hU9 x_ZR_p0__1 m_u_23 (fun f9 h9 => fun j9 q9 => (Decidable.em (j9 = Int32.toNatClampNeg x1)).elim (fun e9 => by rw [e9, pk_us]) (fun e9 => by rw [pk_un e9]; exact h9 j9 (by have k4 := r_x1.cl (by decide); omega)))
        have m_z0_2 := FLD.over hF9 m_z0_2 (by decide)
        have m_u_23 := FLD.over hF9 m_u_23 (by decide)
        obtain ⟨v_24, e_v_24⟩ : ∃ q9 : Int32, q9 = x1 + Int32.ofInt 1 := ⟨_, rfl⟩
        obtain ⟨t_v_24, r_v_24⟩ := tq_add (lo := 1) (hi := 84) r_x1 (show RI (Int32.ofInt 1) 1 1 by unfold RI; decide +kernel) (by decide +kernel) e_v_24
        have t_v_24 : v_24.toInt = x1.toInt + 1 := t_v_24
        refine lv_iinc (v := v_24) (lv' := [(1, .int v_24), (0, .ref p0)]) hx hb dX10_post_22 hl (k := 1) rfl e_v_24.symm (by decide) rfl (fun ls hl => ?_)
        refine lv_goto (tgt := 9) hx hb dX10_post_25 (by decide) ?_
        have x_ZR_p0_v_24 : AX 15 35 (fun f => ∀ j : Nat, (j : Int) < Int32.toInt v_24 → f j = 0) Ps ws p0 := AX.imp x_ZS_p0_x1 (fun f9 h9 => fun j9 q9 => h9 j9 (by have k1 := t_v_24; omega))
        exact ih9 v_24 z0_2 ws _ _ ls (by have q0 := r_v_24.1; have u0 := r_v_24.2; have o0 := r_x1.1; have p0 := r_x1.2; omega) (r_v_24.to (by decide)) r_z0_2 m_z0_2 x_ZR_p0_v_24 hw (lv_sub hl [1, 0] rfl)
  refine lv_aload_n hx hb dX10_post_0 rfl (lv_at hl 0 rfl) ?_
  refine lv_sipush (v := 900) hx hb dX10_post_1 (by decide) ?_
  refine tk_v (va_runV (As := [.int 900]) (rest := []) ⟨hx, hb, hml, hown, hts⟩ (c_X10_begin__1 l D cy z s.heap.size Ps w0 hw.1 p0 900 h_p0 rl_900) (cwV 1 hts (gV tw_1290 tw_1292 ts_38 tw_15 tw_1293) rfl rfl rfl (by decide +kernel) ⟨Nat.le_of_ble_eq_true rfl, Nat.le_of_ble_eq_true rfl⟩) (tg_preV hw hK hSD hA (ci := 10) (q := (RX10, TX10, 49)) rfl h_p0 rfl) rfl rfl hl.1 rfl (lv_room (Nat.le_of_ble_eq_true rfl)) dX10_post_4 ⟨Nat.le_of_ble_eq_true rfl, Nat.le_of_ble_eq_true rfl⟩) hw hA ⟨by decide, by decide⟩ (fun ws H locs hp_v_25 hw hF9 => ?_)
  obtain ⟨v_26, m_v_26, r_v_26⟩ := (hp_v_25.1)
  refine lv_iconst (v := 0) hx hb dX10_post_7 (by decide) ?_
  refine lv_istore_n (lv' := [(1, .int 0), (0, .ref p0)]) hx hb dX10_post_8 rfl hl (by decide) rfl (fun ls hl => ?_)
  have x_ZR_p0_0 : AX 15 35 (fun f => ∀ j : Nat, (j : Int) < Int32.toInt 0 → f j = 0) Ps ws p0 := AX.imp (rx_true hw h_p0) (fun f9 _ => fun j9 q9 => absurd q9 (by rw [Int32.toInt_zero]; omega))
  exact B9 4294967298 0 v_26 ws _ _ ls (by have q0 := rl_0.1; have u0 := rl_0.2; omega) (rl_0.to (by decide)) r_v_26 m_v_26 x_ZR_p0_0 hw (lv_sub hl [1, 0] rfl)
abbrev wr_X10_restore : List (Nat × Nat) := [(10, 0), (10, 25)]
abbrev wa_X10_restore : List Nat := [34, 41]
set_option maxHeartbeats 4000000 in
set_option maxRecDepth 100000 in
theorem c_X10_restore (l : Launch) (D : va_G) (cy : Nat → ClassId) (z : Nat → Nat) (sz : Nat) (Ps : PSI) (w0 : va_W) (hT : HT cy GG Ps w0) (p0 : Nat) (p1 : Int32) (h_p0 : (p0, 55) ∈ Ps) (r_p1 : RI p1 (-2147483648) 2147483647) : Met l yX10_restore (Cond.code yX10_restore cX10_restore 3 (some .boolean) :: gT) ({ frames := 2, cells := 0, slots := 0, locals := 400 } : Room) (va_Pc [.ref p0, .int p1] (PRE D cy z w0 sz)) (va_Qi (fun (r : Int32) (u : va_W) => (RI r 0 1 ∧ (r = 0 → True) ∧ (¬ r = 0 → True)) ∧ HT cy GG Ps u ∧ FR wr_X10_restore wa_X10_restore Ps w0 u) (BB D cy (va_A w0 sz) (fun (u : va_W) => u)) (va_A w0 sz)) 0 0 (va_A w0 sz) := by
  refine Met.ofW (cc := cX10_restore) (maxL := 3) (ret := (some .boolean)) (by decide) rfl ?_
  intro p e s m args below meth c s₁ B hml hv
  obtain ⟨rfl, hsz, hP, hK, hD0, hSD⟩ := hv
  have hx := B.exec
  have hb := B.bytes
  have hr := B.returns
  have hlocks := B.notSynchronized
  have hts : ∀ w ∈ gT, w.before _ s = true := fun w h => atoms_spec (ws := Cond.code yX10_restore cX10_restore 3 (some .boolean) :: gT) B.pre w (List.mem_cons_of_mem _ h)
  have hown : s.vm.findClass RX10 = some m.cls := findClass_of_methodNamed B.named
  subst hsz
  have hD := hD0.self (sz := s.heap.size)
  generalize hAe : va_A w0 s.heap.size = A at hD hSD ⊢
  have hA : ∀ q : Nat, s.heap.size ≤ q → A q := fun q h => by rw [← hAe]; exact Or.inr h
  have hl := lv_entry ([.ref p0, .int p1]) (n := 3) (Nat.le_of_ble_eq_true rfl)
  rw [lg_entry_eq]
  generalize (lg_sl ([.ref p0, .int p1]) ++ List.replicate (3 - (lg_sl ([.ref p0, .int p1])).length) Slot.unset).toArray = ls at hl ⊢
  have hl : lv_has ls 3 [(0, .ref p0), (1, .int p1)] := hl
  refine nameQ (fun Q hQ => ?_)
  have hw : WD D cy GG A s wr_X10_restore wa_X10_restore Ps w0 Ps w0 s.heap [] := ⟨hT, hP, hD, va_S.rf, FR.rf, hT.1, [], (List.append_nil _).symm⟩
  have B60 : ∀ (nf : Nat) (x2 : Int32) (z0_0 : Int32) (ws : va_W) (H : Heap) (locs : List Loc) (ls : Array Slot), 24 - x2.toInt < (nf : Int) → RI p1 0 1 → RI x2 0 24 → RI z0_0 0 0 → FLD ws p0 10 0 (.int z0_0) → (0 ≤ Int32.toInt p1 ∧ Int32.toInt p1 ≤ 1) → WD D cy GG A s wr_X10_restore wa_X10_restore Ps w0 Ps ws H locs → lv_has ls 3 [(0, .ref p0), (1, .int p1), (2, .int x2)] → W p l e (headSpec (Cond.code yX10_restore cX10_restore 3 (some .boolean) :: gT) ({ frames := 2, cells := 0, slots := 0, locals := 400 } : Room)).room s m ([.ref p0, .int p1] : List Value).toArray below meth c H locs 0 0 Q (F0 m 60 ls []) := by
    intro nf60
    induction nf60 with
    | zero =>
      intro x2 z0_0 ws H locs ls hn60 r_p1 r_x2 r_z0_0 m_z0_0 x_IMG1_p1 hw hl
      exact absurd hn60 (by have q0 := r_x2.1; have u0 := r_x2.2; omega)
    | succ nf60 ih60 =>
      intro x2 z0_0 ws H locs ls hn60 r_p1 r_x2 r_z0_0 m_z0_0 x_IMG1_p1 hw hl
      refine lv_iload_n hx hb dX10_restore_60 rfl (lv_at hl 2 rfl) ?_
      refine lv_bipush (v := 24) hx hb dX10_restore_61 (by decide) ?_
      refine lv_icmp_ge (tgt := 89) hx hb dX10_restore_63 (by decide) (fun c_63 => ?_) (fun c_63 => ?_)
      · have r_x2 : RI x2 24 24 := rc_le2 rl_24 r_x2 (ti_le c_63) (by decide)
        refine lv_aload_n hx hb dX10_restore_89 rfl (lv_at hl 0 rfl) ?_
        refine lv_iconst (v := 0) hx hb dX10_restore_90 (by decide) ?_
        refine tg_put (ci := 10) (ts := ty_MODEL) (v := .int 0) (ty := .int) (C := RX10) (T := TX10) (N := 49) hx hb hts inX10 tyX10 tyX10_ok nmX10 hown hK hw h_p0 rfl rfl 25 (by decide) (hts _ tw_1162) (fun _ h9 => h9) rfl (by decide +kernel) rfl rfl (ft := vI 0 8) rfl ⟨_, rfl, (rl_0.to (by decide))⟩ (by decide) dX10_restore_91 (fun ws H locs hw n_k_1 hF9 => ?_)
        have m_z0_0 := FLD.over hF9 m_z0_0 (by decide)
        refine lv_iconst (v := 1) hx hb dX10_restore_94 (by decide) ?_
        subst hQ
        exact W.zret (v := 1) hx hb hr (rfl) (fun t ht hW => ⟨⟨1, ws, rfl, ⟨⟨rl_1.to (by decide), (fun _ => trivial), (fun h0 => trivial)⟩, hw.1, hw.2.2.2.2.1⟩, by rw [ht]; exact hw.2.1, va_K.moved hW.alike hK, hw.2.2.1⟩, hw.2.2.2.1.F ht⟩) hw.2.2.2.1.2.2 dX10_restore_95
      · have r_x2 : RI x2 0 23 := rc_lt1 r_x2 rl_24 (ti_nle c_63) (by decide)
        refine lv_aload_n hx hb dX10_restore_66 rfl (lv_at hl 0 rfl) ?_
        refine tg_get (ci := 10) (ts := ty_MODEL) (C := RX10) (T := TX10) (N := 49) hx hb hts inX10 hown hK hw h_p0 rfl rfl 20 (by decide) (hts _ tw_1157) (fun _ h9 => h9) (ft := vR 41) rfl dX10_restore_67 (fun u_2 hv_u_2 m_u_2 => ?_)
        obtain ⟨vu_2, rfl, h_vu_2⟩ := hv_u_2
        refine lv_iload_n hx hb dX10_restore_70 rfl (lv_at hl 2 rfl) ?_
        refine lv_aload_n hx hb dX10_restore_71 rfl (lv_at hl 0 rfl) ?_
        refine tg_get (ci := 10) (ts := ty_MODEL) (C := RX10) (T := TX10) (N := 49) hx hb hts inX10 hown hK hw h_p0 rfl rfl 22 (by decide) (hts _ tw_1159) (fun _ h9 => h9) (ft := vR 43) rfl dX10_restore_72 (fun u_3 hv_u_3 m_u_3 => ?_)
        obtain ⟨vu_3, rfl, h_vu_3⟩ := hv_u_3
        refine lv_bipush (v := 24) hx hb dX10_restore_75 (by decide) ?_
        refine lv_iload_n hx hb dX10_restore_77 rfl (lv_at hl 1 rfl) ?_
        refine lv_imul hx hb dX10_restore_78 (lv_topi (fun v_4 e_v_4 => ?_))
        obtain ⟨t_v_4, r_v_4⟩ := tq_mul (lo := 0) (hi := 24) rl_24 r_p1 (by decide +kernel) e_v_4
        have t_v_4 : v_4.toInt = 24 * p1.toInt := t_v_4
        refine lv_iload_n hx hb dX10_restore_79 rfl (lv_at hl 2 rfl) ?_
        refine lv_iadd hx hb dX10_restore_80 (lv_topi (fun v_5 e_v_5 => ?_))
        obtain ⟨t_v_5, r_v_5⟩ := tq_add (lo := 0) (hi := 47) r_v_4 r_x2 (by decide +kernel) e_v_5
        refine tg_lald hx hb hK hw h_vu_3 rfl r_v_5 (by decide) dX10_restore_81 (fun w_6 r_w_6 => ?_)
        refine tg_last hx hb hK hw h_vu_2 rfl r_x2 (by decide) r_w_6 (by decide) (by decide) dX10_restore_82 (fun ws H locs hw hF9 => ?_)
        have m_z0_0 := FLD.over hF9 m_z0_0 (by decide)
        have m_u_2 := FLD.over hF9 m_u_2 (by decide)
        have m_u_3 := FLD.over hF9 m_u_3 (by decide)
        obtain ⟨v_7, e_v_7⟩ : ∃ q9 : Int32, q9 = x2 + Int32.ofInt 1 := ⟨_, rfl⟩
        obtain ⟨t_v_7, r_v_7⟩ := tq_add (lo := 1) (hi := 24) r_x2 (show RI (Int32.ofInt 1) 1 1 by unfold RI; decide +kernel) (by decide +kernel) e_v_7
        have t_v_7 : v_7.toInt = x2.toInt + 1 := t_v_7
        refine lv_iinc (v := v_7) (lv' := [(2, .int v_7), (0, .ref p0), (1, .int p1)]) hx hb dX10_restore_83 hl (k := 2) rfl e_v_7.symm (by decide) rfl (fun ls hl => ?_)
        refine lv_goto (tgt := 60) hx hb dX10_restore_86 (by decide) ?_
        exact ih60 v_7 z0_0 ws _ _ ls (by have q0 := r_v_7.1; have u0 := r_v_7.2; have o0 := r_x2.1; have p0 := r_x2.2; omega) r_p1 (r_v_7.to (by decide)) r_z0_0 m_z0_0 x_IMG1_p1 hw (lv_sub hl [1, 2, 0] rfl)
  have B27 : ∀ (nf : Nat) (x2 : Int32) (z0_0 : Int32) (za14 : Nat) (za16 : Nat) (ws : va_W) (H : Heap) (locs : List Loc) (ls : Array Slot), 414 - x2.toInt < (nf : Int) → RI p1 0 1 → RI x2 0 414 → RI z0_0 0 0 → FLD ws p0 10 0 (.int z0_0) → (0 ≤ Int32.toInt p1 ∧ Int32.toInt p1 ≤ 1) → (za14, 34) ∈ Ps → FLD ws p0 10 14 (.ref za14) → (za16, 36) ∈ Ps → FLD ws p0 10 16 (.ref za16) → AX2 14 34 16 36 (fun f g => CSp p1 x2 f g) Ps ws p0 → WD D cy (GX za14) A s wr_X10_restore wa_X10_restore Ps w0 Ps ws H locs → lv_has ls 3 [(0, .ref p0), (1, .int p1), (2, .int x2)] → W p l e (headSpec (Cond.code yX10_restore cX10_restore 3 (some .boolean) :: gT) ({ frames := 2, cells := 0, slots := 0, locals := 400 } : Room)).room s m ([.ref p0, .int p1] : List Value).toArray below meth c H locs 0 0 Q (F0 m 27 ls []) := by
    intro nf27
    induction nf27 with
    | zero =>
      intro x2 z0_0 za14 za16 ws H locs ls hn27 r_p1 r_x2 r_z0_0 m_z0_0 x_IMG1_p1 h_za14 m_za14 h_za16 m_za16 x_CRS_p0_p1__2 hw hl
      exact absurd hn27 (by have q0 := r_x2.1; have u0 := r_x2.2; omega)
    | succ nf27 ih27 =>
      intro x2 z0_0 za14 za16 ws H locs ls hn27 r_p1 r_x2 r_z0_0 m_z0_0 x_IMG1_p1 h_za14 m_za14 h_za16 m_za16 x_CRS_p0_p1__2 hw hl
      refine lv_iload_n hx hb dX10_restore_27 rfl (lv_at hl 2 rfl) ?_
      refine lv_sipush (v := 414) hx hb dX10_restore_28 (by decide) ?_
      refine lv_icmp_ge (tgt := 58) hx hb dX10_restore_31 (by decide) (fun c_31 => ?_) (fun c_31 => ?_)
      · have r_x2 : RI x2 414 414 := rc_le2 rl_414 r_x2 (ti_le c_31) (by decide)
        have hw := WD.back hw h_za14 rfl (fun f9 q9 => by obtain ⟨g9, e9⟩ := AX2.arr hw x_CRS_p0_p1__2 m_za14 f9 q9; exact CS_end e9 (r_p1.to (by decide)) (r_x2.to (by decide)))
        refine lv_iconst (v := 0) hx hb dX10_restore_58 (by decide) ?_
        refine lv_istore_n (lv' := [(2, .int 0), (0, .ref p0), (1, .int p1)]) hx hb dX10_restore_59 rfl hl (by decide) rfl (fun ls hl => ?_)
        exact B60 4294967298 0 z0_0 ws _ _ ls (by have q0 := rl_0.1; have u0 := rl_0.2; omega) r_p1 (rl_0.to (by decide)) r_z0_0 m_z0_0 x_IMG1_p1 hw (lv_sub hl [1, 2, 0] rfl)
      · have r_x2 : RI x2 0 413 := rc_lt1 r_x2 rl_414 (ti_nle c_31) (by decide)
        refine lv_aload_n hx hb dX10_restore_34 rfl (lv_at hl 0 rfl) ?_
        refine tg_mem (ci := 10) (C := RX10) (T := TX10) (N := 49) hx hb hts inX10 hown hK hw 14 m_za14 rfl (by decide) (hts _ tw_1151) (fun _ h9 => h9) dX10_restore_35 ?_
        refine lv_iload_n hx hb dX10_restore_38 rfl (lv_at hl 2 rfl) ?_
        refine lv_aload_n hx hb dX10_restore_39 rfl (lv_at hl 0 rfl) ?_
        refine tg_mem (ci := 10) (C := RX10) (T := TX10) (N := 49) hx hb hts inX10 hown hK hw 16 m_za16 rfl (by decide) (hts _ tw_1153) (fun _ h9 => h9) dX10_restore_40 ?_
        refine lv_sipush (v := 414) hx hb dX10_restore_43 (by decide) ?_
        refine lv_iload_n hx hb dX10_restore_46 rfl (lv_at hl 1 rfl) ?_
        refine lv_imul hx hb dX10_restore_47 (lv_topi (fun v_8 e_v_8 => ?_))
        obtain ⟨t_v_8, r_v_8⟩ := tq_mul (lo := 0) (hi := 414) rl_414 r_p1 (by decide +kernel) e_v_8
        have t_v_8 : v_8.toInt = 414 * p1.toInt := t_v_8
        refine lv_iload_n hx hb dX10_restore_48 rfl (lv_at hl 2 rfl) ?_
        refine lv_iadd hx hb dX10_restore_49 (lv_topi (fun v_9 e_v_9 => ?_))
        obtain ⟨t_v_9, r_v_9⟩ := tq_add (lo := 0) (hi := 827) r_v_8 r_x2 (by decide +kernel) e_v_9
        refine tg_iald (lo := (-2147483648)) (hi := 2147483647) hx hb hK hw h_za16 rfl 0 827 r_v_9 (by decide) (by decide +kernel) dX10_restore_50 (fun v_10 r_v_10 m_v_10 o_v_10 => ?_)
        have x_CRSV_p0_p1_x2_v_9_v_10 : AX2 14 34 16 36 (fun f g => CSp p1 x2 f g ∧ g (Int32.toNatClampNeg v_9) = v_10) Ps ws p0 := AX2.el hw x_CRS_p0_p1__2 m_za16 m_v_10
        have hw8 := hw
        have e_11 : v_9.toNatClampNeg % 414 = x2.toNatClampNeg := by have k1 := r_v_9.cl (by decide); have k2 := r_x2.cl (by decide); have b10 := r_p1.1; have b20 := r_p1.2; have b11 := r_x2.1; have b21 := r_x2.2; have b12 := r_z0_0.1; have b22 := r_z0_0.2; have b13 := r_v_8.1; have b23 := r_v_8.2; have b14 := r_v_9.1; have b24 := r_v_9.2; have b15 := r_v_10.1; have b25 := r_v_10.2; omega
        refine tg_iasto hx hb hK hw h_za14 rfl 0 413 r_x2 (by decide) (show RI _ (canon (x2.toNatClampNeg)).1 (canon (x2.toNatClampNeg)).2 by rw [← e_11]; exact o_v_10) (fun _ _ _ _ _ => Or.inl rfl) (by decide) dX10_restore_51 (fun ws H locs hw hF9 hU9 => ?_)
        have x_CRST_p0_p1_x2 : AX2 14 34 16 36 (fun f g => ∀ k9 : Int32, k9.toInt = Int32.toInt x2 + 1 → CSp p1 k9 f g) Ps ws p0 := AX2.ast hF9 hU9 x_CRSV_p0_p1_x2_v_9_v_10 m_za14 (by decide) (fun f9 g9 h9 => fun k9 e9 => CS_step h9 (r_p1.to (by decide)) (r_x2.to (by decide)) (by have k1 := t_v_9; omega) e9)
        have m_v_10 := AEL.over hw8 hF9 h_za16 m_v_10 (by decide)
        have m_z0_0 := FLD.over hF9 m_z0_0 (by decide)
        have m_za14 := FLD.over hF9 m_za14 (by decide)
        have m_za16 := FLD.over hF9 m_za16 (by decide)
        obtain ⟨v_12, e_v_12⟩ : ∃ q9 : Int32, q9 = x2 + Int32.ofInt 1 := ⟨_, rfl⟩
        obtain ⟨t_v_12, r_v_12⟩ := tq_add (lo := 1) (hi := 414) r_x2 (show RI (Int32.ofInt 1) 1 1 by unfold RI; decide +kernel) (by decide +kernel) e_v_12
        have t_v_12 : v_12.toInt = x2.toInt + 1 := t_v_12
        refine lv_iinc (v := v_12) (lv' := [(2, .int v_12), (0, .ref p0), (1, .int p1)]) hx hb dX10_restore_52 hl (k := 2) rfl e_v_12.symm (by decide) rfl (fun ls hl => ?_)
        refine lv_goto (tgt := 27) hx hb dX10_restore_55 (by decide) ?_
        have x_CRS_p0_p1_v_12 : AX2 14 34 16 36 (fun f g => CSp p1 v_12 f g) Ps ws p0 := AX2.imp x_CRST_p0_p1_x2 (fun f9 g9 h9 => h9 _ t_v_12)
        exact ih27 v_12 z0_0 za14 za16 ws _ _ ls (by have q0 := r_v_12.1; have u0 := r_v_12.2; have o0 := r_x2.1; have p0 := r_x2.2; omega) r_p1 (r_v_12.to (by decide)) r_z0_0 m_z0_0 x_IMG1_p1 h_za14 m_za14 h_za16 m_za16 x_CRS_p0_p1_v_12 hw (lv_sub hl [1, 2, 0] rfl)
  refine lv_aload_n hx hb dX10_restore_0 rfl (lv_at hl 0 rfl) ?_
  refine lv_iconst (v := 0) hx hb dX10_restore_1 (by decide) ?_
  refine tg_put (ci := 10) (ts := ty_MODEL) (v := .int 0) (ty := .int) (C := RX10) (T := TX10) (N := 49) hx hb hts inX10 tyX10 tyX10_ok nmX10 hown hK hw h_p0 rfl rfl 0 (by decide) (hts _ tw_1137) (fun _ h9 => h9) rfl (by decide +kernel) rfl rfl (ft := vI (-2147483648) 2147483647) rfl ⟨_, rfl, (rl_0.to (by decide))⟩ (by decide) dX10_restore_2 (fun ws H locs hw n_k_13 hF9 => ?_)
  refine lv_iload_n hx hb dX10_restore_5 rfl (lv_at hl 1 rfl) ?_
  refine lv_iconst (v := 0) hx hb dX10_restore_6 (by decide) ?_
  refine lv_iconst (v := 1) hx hb dX10_restore_7 (by decide) ?_
  refine tk_ir (va_runS (As := [.int p1, .int 0, .int 1]) (rest := []) ⟨hx, hb, hml, hown, hts⟩ (c_X10_isIn__12 l D cy z H.size Ps ws hw.1 p1 0 1 r_p1 rl_0 rl_1) (va_cwS 3 hts (gS tw_1359 tw_1360 tw_15 tw_1361) rfl rfl rfl (by decide +kernel) ⟨Nat.le_of_ble_eq_true rfl, Nat.le_of_ble_eq_true rfl⟩) (tg_preS hw hK hSD hA) rfl rfl hl.1 rfl (lv_room (Nat.le_of_ble_eq_true rfl)) dX10_restore_8 ⟨Nat.le_of_ble_eq_true rfl, Nat.le_of_ble_eq_true rfl⟩) hw hA (fun v_14  H locs hp_v_14 hw => ?_)
  have r_v_14 : RI v_14 0 1 := hp_v_14.1
  by_cases c9_v_14 : v_14 = 0
  · have r_v_14 : RI v_14 0 0 := by rw [c9_v_14]; exact rl_0
    have x_IMG0_p1 := ((hp_v_14.2.1 c9_v_14).1)
    refine lv_if_eq (tgt := 23) hx hb dX10_restore_11 (by decide) (fun c_11 => ?_) (fun c_11 => ?_)
    · refine lv_iconst (v := 0) hx hb dX10_restore_23 (by decide) ?_
      subst hQ
      exact W.zret (v := 0) hx hb hr (rfl) (fun t ht hW => ⟨⟨0, ws, rfl, ⟨⟨rl_0.to (by decide), (fun h0 => trivial), (fun _ => trivial)⟩, hw.1, hw.2.2.2.2.1⟩, by rw [ht]; exact hw.2.1, va_K.moved hW.alike hK, hw.2.2.1⟩, hw.2.2.2.1.F ht⟩) hw.2.2.2.1.2.2 dX10_restore_24
    · exact absurd (r_v_14.eq.trans rl_0.eq.symm) ((ti_ne c_11))
  · have r_v_14 : RI v_14 1 1 := rc_neL r_v_14 rl_0 (ti_ne c9_v_14) (by decide)
    have r_p1 : RI p1 0 1 := ((hp_v_14.2.2 c9_v_14).1)
    have x_IMG1_p1 := ((hp_v_14.2.2 c9_v_14).2.1)
    refine lv_if_eq (tgt := 23) hx hb dX10_restore_11 (by decide) (fun c_11 => ?_) (fun c_11 => ?_)
    · have r_v_14 : RI v_14 1 0 := rc_eq1 r_v_14 rl_0 (ti_eq c_11) (by decide)
      exact (r_v_14.no (by decide)).elim
    · refine lv_aload_n hx hb dX10_restore_14 rfl (lv_at hl 0 rfl) ?_
      refine tg_get (ci := 10) (ts := ty_MODEL) (C := RX10) (T := TX10) (N := 49) hx hb hts inX10 hown hK hw h_p0 rfl rfl 23 (by decide) (hts _ tw_1160) (fun _ h9 => h9) (ft := vR 44) rfl dX10_restore_15 (fun u_15 hv_u_15 m_u_15 => ?_)
      obtain ⟨vu_15, rfl, h_vu_15⟩ := hv_u_15
      refine lv_iload_n hx hb dX10_restore_18 rfl (lv_at hl 1 rfl) ?_
      refine tg_zald (lo := (-2147483648)) (hi := 2147483647) hx hb hK hw h_vu_15 rfl 0 1 r_p1 (by decide) (by exact fun _ _ _ => ⟨Int.le_refl _, Int.le_refl _⟩) dX10_restore_19 (fun v_16 r_v_16 => ?_)
      refine lv_if_ne (tgt := 25) hx hb dX10_restore_20 (by decide) (fun c_20 => ?_) (fun c_20 => ?_)
      · refine lv_iconst (v := 0) hx hb dX10_restore_25 (by decide) ?_
        refine lv_istore_n (lv' := [(2, .int 0), (0, .ref p0), (1, .int p1)]) hx hb dX10_restore_26 rfl hl (by decide) rfl (fun ls hl => ?_)
        obtain ⟨b_17, m_b_17, h_b_17⟩ := tg_fldR (k := 14) (ci := 10) (ts := ty_MODEL) (u := 34) hw h_p0 rfl rfl
        obtain ⟨b_18, m_b_18, h_b_18⟩ := tg_fldR (k := 16) (ci := 10) (ts := ty_MODEL) (u := 36) hw h_p0 rfl rfl
        have x_CRS_p0_p1_0 : AX2 14 34 16 36 (fun f g => CSp p1 0 f g) Ps ws p0 := AX2.imp (AX.two (ax_of (k := 14) (t := 34) hw h_p0 rfl (fun _ => rfl)) (ax_of (k := 16) (t := 36) hw h_p0 rfl (fun _ => rfl))) (fun f9 g9 h9 => ⟨h9.2.1, fun j9 q9 => absurd q9 (by rw [Int32.toInt_zero]; omega)⟩)
        have hw := WD.weak b_17 hw
        exact B27 4294967298 0 0 b_17 b_18 ws _ _ ls (by have q0 := rl_0.1; have u0 := rl_0.2; omega) r_p1 (rl_0.to (by decide)) rl_0 n_k_13 x_IMG1_p1 h_b_17 m_b_17 h_b_18 m_b_18 x_CRS_p0_p1_0 hw (lv_sub hl [1, 2, 0] rfl)
      · have r_v_16 : RI v_16 0 0 := rc_eq1 r_v_16 rl_0 (ti_eq c_20) (by decide)
        refine lv_iconst (v := 0) hx hb dX10_restore_23 (by decide) ?_
        subst hQ
        exact W.zret (v := 0) hx hb hr (rfl) (fun t ht hW => ⟨⟨0, ws, rfl, ⟨⟨rl_0.to (by decide), (fun h0 => trivial), (fun _ => trivial)⟩, hw.1, hw.2.2.2.2.1⟩, by rw [ht]; exact hw.2.1, va_K.moved hW.alike hK, hw.2.2.1⟩, hw.2.2.2.1.F ht⟩) hw.2.2.2.1.2.2 dX10_restore_24
abbrev wr_X10_placeFrom__6 : List (Nat × Nat) := []
abbrev wa_X10_placeFrom__6 : List Nat := []
set_option maxHeartbeats 4000000 in
set_option maxRecDepth 100000 in
theorem c_X10_placeFrom__6 (l : Launch) (D : va_G) (cy : Nat → ClassId) (z : Nat → Nat) (sz : Nat) (Ps : PSI) (w0 : va_W) (hT : HT cy GG Ps w0) (p0 : Nat) (p1 : Int32) (p2 : Int32) (h_p0 : (p0, 55) ∈ Ps) (r_p1 : RI p1 6 6) (r_p2 : RI p2 0 5) (x_QLE_p0_p1 : AX 14 34 (fun f => Int32.toInt p1 ≤ (f 2).toInt) Ps w0 p0) : Met l yX10_placeFrom (Cond.code yX10_placeFrom cX10_placeFrom 6 (some .boolean) :: gT) ({ frames := 0, cells := 0, slots := 0, locals := 200 } : Room) (va_Pc [.ref p0, .int p1, .int p2] (PRE D cy z w0 sz)) (va_Qi (fun (r : Int32) (u : Unit) => RI r 1 1 ∧ (r = 0 → True) ∧ (¬ r = 0 → True)) (BB D cy (va_A w0 sz) (fun (u : Unit) => w0)) (va_A w0 sz)) 0 0 (va_A w0 sz) := by
  refine Met.ofW (cc := cX10_placeFrom) (maxL := 6) (ret := (some .boolean)) (by decide) rfl ?_
  intro p e s m args below meth c s₁ B hml hv
  obtain ⟨rfl, hsz, hP, hK, hD0, hSD⟩ := hv
  have hx := B.exec
  have hb := B.bytes
  have hr := B.returns
  have hlocks := B.notSynchronized
  have hts : ∀ w ∈ gT, w.before _ s = true := fun w h => atoms_spec (ws := Cond.code yX10_placeFrom cX10_placeFrom 6 (some .boolean) :: gT) B.pre w (List.mem_cons_of_mem _ h)
  have hown : s.vm.findClass RX10 = some m.cls := findClass_of_methodNamed B.named
  subst hsz
  have hD := hD0.self (sz := s.heap.size)
  generalize hAe : va_A w0 s.heap.size = A at hD hSD ⊢
  have hA : ∀ q : Nat, s.heap.size ≤ q → A q := fun q h => by rw [← hAe]; exact Or.inr h
  have hl := lv_entry ([.ref p0, .int p1, .int p2]) (n := 6) (Nat.le_of_ble_eq_true rfl)
  rw [lg_entry_eq]
  generalize (lg_sl ([.ref p0, .int p1, .int p2]) ++ List.replicate (6 - (lg_sl ([.ref p0, .int p1, .int p2])).length) Slot.unset).toArray = ls at hl ⊢
  have hl : lv_has ls 6 [(0, .ref p0), (1, .int p1), (2, .int p2)] := hl
  refine nameQ (fun Q hQ => ?_)
  have hw : WD D cy GG A s wr_X10_placeFrom__6 wa_X10_placeFrom__6 Ps w0 Ps w0 s.heap [] := ⟨hT, hP, hD, va_S.rf, FR.rf, hT.1, [], (List.append_nil _).symm⟩
  refine lv_iload_n hx hb dX10_placeFrom_0 rfl (lv_at hl 1 rfl) ?_
  refine lv_aload_n hx hb dX10_placeFrom_1 rfl (lv_at hl 0 rfl) ?_
  refine tg_get (ci := 10) (ts := ty_MODEL) (C := RX10) (T := TX10) (N := 49) hx hb hts inX10 hown hK hw h_p0 rfl rfl 14 (by decide) (hts _ tw_1151) (fun _ h9 => h9) (ft := vR 34) rfl dX10_placeFrom_2 (fun u_1 hv_u_1 m_u_1 => ?_)
  obtain ⟨vu_1, rfl, h_vu_1⟩ := hv_u_1
  refine lv_iconst (v := 2) hx hb dX10_placeFrom_5 (by decide) ?_
  refine tg_iald (lo := 0) (hi := 6) hx hb hK hw h_vu_1 rfl 2 2 rl_2 (by decide) (by decide +kernel) dX10_placeFrom_6 (fun v_2 r_v_2 m_v_2 o_v_2 => ?_)
  have x_P2_p0_v_2 : AX 14 34 (fun f => f 2 = v_2) Ps w0 p0 := AX.mk hw h_vu_1 rfl m_u_1 (fun f9 g9 _ => by have e9 := g9 _ _ m_v_2; have j9 : Int32.toNatClampNeg 2 = 2 := (by decide); rw [j9] at e9; exact e9)
  have g_ql : p1.toInt ≤ v_2.toInt := by obtain ⟨_, f9, _, _, h9⟩ := AX.and hw x_QLE_p0_p1 x_P2_p0_v_2; have k1 := h9.1; have k2 : f9 2 = v_2 := h9.2; rw [k2] at k1; exact k1
  have r_v_2 : RI v_2 6 6 := ⟨by have k1 := r_p1.1; have k2 := r_v_2.1; omega, r_v_2.2⟩
  refine lv_icmp_ne (tgt := 12) hx hb dX10_placeFrom_7 (by decide) (fun c_7 => ?_) (fun c_7 => ?_)
  · exact absurd (r_p1.eq.trans r_v_2.eq.symm) ((ti_ne c_7))
  · refine lv_iconst (v := 1) hx hb dX10_placeFrom_10 (by decide) ?_
    subst hQ
    exact W.zret (v := 1) hx hb hr (rfl) (fun t ht hW => ⟨⟨1, (), rfl, ⟨rl_1.to (by decide), (fun _ => trivial), (fun h0 => trivial)⟩, by rw [ht]; exact hw.2.1, va_K.moved hW.alike hK, hw.2.2.1⟩, hw.2.2.2.1.F ht⟩) hw.2.2.2.1.2.2 dX10_placeFrom_11
abbrev wr_X10_doQuarrel : List (Nat × Nat) := []
abbrev wa_X10_doQuarrel : List Nat := []
set_option maxHeartbeats 4000000 in
set_option maxRecDepth 100000 in
theorem c_X10_doQuarrel (l : Launch) (D : va_G) (cy : Nat → ClassId) (z : Nat → Nat) (sz : Nat) (Ps : PSI) (w0 : va_W) (hT : HT cy GG Ps w0) (p0 : Nat) (p1 : Int32) (p2 : Int32) (h_p0 : (p0, 55) ∈ Ps) (r_p1 : RI p1 0 5) (r_p2 : RI p2 0 5) : Met l yX10_doQuarrel (Cond.code yX10_doQuarrel cX10_doQuarrel 5 (some .boolean) :: gT) ({ frames := 3, cells := 0, slots := 0, locals := 600 } : Room) (va_Pc [.ref p0, .int p1, .int p2] (PRE D cy z w0 sz)) (va_Qi (fun (r : Int32) (u : Unit) => RI r 0 1 ∧ (r = 0 → True) ∧ (¬ r = 0 → True)) (BB D cy (va_A w0 sz) (fun (u : Unit) => w0)) (va_A w0 sz)) 0 0 (va_A w0 sz) := by
  refine Met.ofW (cc := cX10_doQuarrel) (maxL := 5) (ret := (some .boolean)) (by decide) rfl ?_
  intro p e s m args below meth c s₁ B hml hv
  obtain ⟨rfl, hsz, hP, hK, hD0, hSD⟩ := hv
  have hx := B.exec
  have hb := B.bytes
  have hr := B.returns
  have hlocks := B.notSynchronized
  have hts : ∀ w ∈ gT, w.before _ s = true := fun w h => atoms_spec (ws := Cond.code yX10_doQuarrel cX10_doQuarrel 5 (some .boolean) :: gT) B.pre w (List.mem_cons_of_mem _ h)
  have hown : s.vm.findClass RX10 = some m.cls := findClass_of_methodNamed B.named
  subst hsz
  have hD := hD0.self (sz := s.heap.size)
  generalize hAe : va_A w0 s.heap.size = A at hD hSD ⊢
  have hA : ∀ q : Nat, s.heap.size ≤ q → A q := fun q h => by rw [← hAe]; exact Or.inr h
  have hl := lv_entry ([.ref p0, .int p1, .int p2]) (n := 5) (Nat.le_of_ble_eq_true rfl)
  rw [lg_entry_eq]
  generalize (lg_sl ([.ref p0, .int p1, .int p2]) ++ List.replicate (5 - (lg_sl ([.ref p0, .int p1, .int p2])).length) Slot.unset).toArray = ls at hl ⊢
  have hl : lv_has ls 5 [(0, .ref p0), (1, .int p1), (2, .int p2)] := hl
  refine nameQ (fun Q hQ => ?_)
  have hw : WD D cy GG A s wr_X10_doQuarrel wa_X10_doQuarrel Ps w0 Ps w0 s.heap [] := ⟨hT, hP, hD, va_S.rf, FR.rf, hT.1, [], (List.append_nil _).symm⟩
  refine lv_aload_n hx hb dX10_doQuarrel_0 rfl (lv_at hl 0 rfl) ?_
  refine lv_iload_n hx hb dX10_doQuarrel_1 rfl (lv_at hl 1 rfl) ?_
  refine tk_ir (va_runV (As := [.int p1]) (rest := []) ⟨hx, hb, hml, hown, hts⟩ (c_X10_whatIs l D cy z s.heap.size Ps w0 hw.1 p0 p1 h_p0 r_p1) (cwV 1 hts (gV tw_1449 tw_1451 ts_69 tw_15 tw_1452) rfl rfl rfl (by decide +kernel) ⟨Nat.le_of_ble_eq_true rfl, Nat.le_of_ble_eq_true rfl⟩) (tg_preV hw hK hSD hA (ci := 10) (q := (RX10, TX10, 49)) rfl h_p0 rfl) rfl rfl hl.1 rfl (lv_room (Nat.le_of_ble_eq_true rfl)) dX10_doQuarrel_2 ⟨Nat.le_of_ble_eq_true rfl, Nat.le_of_ble_eq_true rfl⟩) hw hA (fun v_1  H locs hp_v_1 hw => ?_)
  have r_v_1 : RI v_1 (-1) 5 := hp_v_1.1
  by_cases c9_v_1 : v_1.toInt < 0
  · have r_v_1 : RI v_1 (-1) (-1) := by unfold RI at r_v_1 ⊢; omega
    have x_NB_p0_p1 := (hp_v_1.2.2.2.2.1 (by omega)).1
    refine lv_istore_n (lv' := [(3, .int v_1), (0, .ref p0), (1, .int p1), (2, .int p2)]) hx hb dX10_doQuarrel_5 rfl hl (by decide) rfl (fun ls hl => ?_)
    refine lv_aload_n hx hb dX10_doQuarrel_6 rfl (lv_at hl 1 rfl) ?_
    refine lv_iload_n hx hb dX10_doQuarrel_7 rfl (lv_at hl 3 rfl) ?_
    refine tk_ir (va_runV (As := [.int p2]) (rest := []) ⟨hx, hb, hml, hown, hts⟩ (c_X10_whatIs l D cy z H.size Ps w0 hw.1 p0 p2 h_p0 r_p2) (cwV 1 hts (gV tw_1449 tw_1451 ts_69 tw_15 tw_1452) rfl rfl rfl (by decide +kernel) ⟨Nat.le_of_ble_eq_true rfl, Nat.le_of_ble_eq_true rfl⟩) (tg_preV hw hK hSD hA (ci := 10) (q := (RX10, TX10, 49)) rfl h_p0 rfl) rfl rfl hl.1 rfl (lv_room (Nat.le_of_ble_eq_true rfl)) dX10_doQuarrel_8 ⟨Nat.le_of_ble_eq_true rfl, Nat.le_of_ble_eq_true rfl⟩) hw hA (fun v_2  H locs hp_v_2 hw => ?_)
    have r_v_2 : RI v_2 (-1) 5 := hp_v_2.1
    by_cases c9_v_2 : v_2.toInt < 0
    · have r_v_2 : RI v_2 (-1) (-1) := by unfold RI at r_v_2 ⊢; omega
      have x_NB_p0_p2 := (hp_v_2.2.2.2.2.1 (by omega)).1
      refine lv_istore (lv' := [(4, .int v_2), (3, .int v_1), (0, .ref p0), (1, .int p1), (2, .int p2)]) hx hb dX10_doQuarrel_11 hl (by decide) rfl (fun ls hl => ?_)
      refine lv_iload_n hx hb dX10_doQuarrel_13 rfl (lv_at hl 1 rfl) ?_
      refine lv_iconst (v := (-1)) hx hb dX10_doQuarrel_14 (by decide) ?_
      refine lv_icmp_eq (tgt := 45) hx hb dX10_doQuarrel_15 (by decide) (fun c_15 => ?_) (fun c_15 => ?_)
      · refine lv_iconst (v := 0) hx hb dX10_doQuarrel_45 (by decide) ?_
        subst hQ
        exact W.zret (v := 0) hx hb hr (rfl) (fun t ht hW => ⟨⟨0, (), rfl, ⟨rl_0.to (by decide), (fun h0 => trivial), (fun _ => trivial)⟩, by rw [ht]; exact hw.2.1, va_K.moved hW.alike hK, hw.2.2.1⟩, hw.2.2.2.1.F ht⟩) hw.2.2.2.1.2.2 dX10_doQuarrel_46
      · exact absurd (r_v_1.eq.trans rl_m1.eq.symm) ((ti_ne c_15))
    · have r_v_2 : RI v_2 0 5 := by unfold RI at r_v_2 ⊢; omega
      have x_WB_p0_p2_v_2 := (hp_v_2.2.2.2.2.2 (by omega)).1
      refine lv_istore (lv' := [(4, .int v_2), (3, .int v_1), (0, .ref p0), (1, .int p1), (2, .int p2)]) hx hb dX10_doQuarrel_11 hl (by decide) rfl (fun ls hl => ?_)
      refine lv_iload_n hx hb dX10_doQuarrel_13 rfl (lv_at hl 1 rfl) ?_
      refine lv_iconst (v := (-1)) hx hb dX10_doQuarrel_14 (by decide) ?_
      refine lv_icmp_eq (tgt := 45) hx hb dX10_doQuarrel_15 (by decide) (fun c_15 => ?_) (fun c_15 => ?_)
      · refine lv_iconst (v := 0) hx hb dX10_doQuarrel_45 (by decide) ?_
        subst hQ
        exact W.zret (v := 0) hx hb hr (rfl) (fun t ht hW => ⟨⟨0, (), rfl, ⟨rl_0.to (by decide), (fun h0 => trivial), (fun _ => trivial)⟩, by rw [ht]; exact hw.2.1, va_K.moved hW.alike hK, hw.2.2.1⟩, hw.2.2.2.1.F ht⟩) hw.2.2.2.1.2.2 dX10_doQuarrel_46
      · exact absurd (r_v_1.eq.trans rl_m1.eq.symm) ((ti_ne c_15))
  · have r_v_1 : RI v_1 0 5 := by unfold RI at r_v_1 ⊢; omega
    have x_WB_p0_p1_v_1 := (hp_v_1.2.2.2.2.2 (by omega)).1
    refine lv_istore_n (lv' := [(3, .int v_1), (0, .ref p0), (1, .int p1), (2, .int p2)]) hx hb dX10_doQuarrel_5 rfl hl (by decide) rfl (fun ls hl => ?_)
    refine lv_aload_n hx hb dX10_doQuarrel_6 rfl (lv_at hl 1 rfl) ?_
    refine lv_iload_n hx hb dX10_doQuarrel_7 rfl (lv_at hl 3 rfl) ?_
    refine tk_ir (va_runV (As := [.int p2]) (rest := []) ⟨hx, hb, hml, hown, hts⟩ (c_X10_whatIs l D cy z H.size Ps w0 hw.1 p0 p2 h_p0 r_p2) (cwV 1 hts (gV tw_1449 tw_1451 ts_69 tw_15 tw_1452) rfl rfl rfl (by decide +kernel) ⟨Nat.le_of_ble_eq_true rfl, Nat.le_of_ble_eq_true rfl⟩) (tg_preV hw hK hSD hA (ci := 10) (q := (RX10, TX10, 49)) rfl h_p0 rfl) rfl rfl hl.1 rfl (lv_room (Nat.le_of_ble_eq_true rfl)) dX10_doQuarrel_8 ⟨Nat.le_of_ble_eq_true rfl, Nat.le_of_ble_eq_true rfl⟩) hw hA (fun v_3  H locs hp_v_3 hw => ?_)
    have r_v_3 : RI v_3 (-1) 5 := hp_v_3.1
    by_cases c9_v_3 : v_3.toInt < 0
    · have r_v_3 : RI v_3 (-1) (-1) := by unfold RI at r_v_3 ⊢; omega
      have x_NB_p0_p2 := (hp_v_3.2.2.2.2.1 (by omega)).1
      refine lv_istore (lv' := [(4, .int v_3), (3, .int v_1), (0, .ref p0), (1, .int p1), (2, .int p2)]) hx hb dX10_doQuarrel_11 hl (by decide) rfl (fun ls hl => ?_)
      refine lv_iload_n hx hb dX10_doQuarrel_13 rfl (lv_at hl 1 rfl) ?_
      refine lv_iconst (v := (-1)) hx hb dX10_doQuarrel_14 (by decide) ?_
      refine lv_icmp_eq (tgt := 45) hx hb dX10_doQuarrel_15 (by decide) (fun c_15 => ?_) (fun c_15 => ?_)
      · have r_v_1 : RI v_1 0 (-1) := rc_eq1 r_v_1 rl_m1 (ti_eq c_15) (by decide)
        exact (r_v_1.no (by decide)).elim
      · refine lv_iload hx hb dX10_doQuarrel_18 (lv_at hl 0 rfl) ?_
        refine lv_iconst (v := (-1)) hx hb dX10_doQuarrel_20 (by decide) ?_
        refine lv_icmp_eq (tgt := 45) hx hb dX10_doQuarrel_21 (by decide) (fun c_21 => ?_) (fun c_21 => ?_)
        · refine lv_iconst (v := 0) hx hb dX10_doQuarrel_45 (by decide) ?_
          subst hQ
          exact W.zret (v := 0) hx hb hr (rfl) (fun t ht hW => ⟨⟨0, (), rfl, ⟨rl_0.to (by decide), (fun h0 => trivial), (fun _ => trivial)⟩, by rw [ht]; exact hw.2.1, va_K.moved hW.alike hK, hw.2.2.1⟩, hw.2.2.2.1.F ht⟩) hw.2.2.2.1.2.2 dX10_doQuarrel_46
        · exact absurd (r_v_3.eq.trans rl_m1.eq.symm) ((ti_ne c_21))
    · have r_v_3 : RI v_3 0 5 := by unfold RI at r_v_3 ⊢; omega
      have x_WB_p0_p2_v_3 := (hp_v_3.2.2.2.2.2 (by omega)).1
      refine lv_istore (lv' := [(4, .int v_3), (3, .int v_1), (0, .ref p0), (1, .int p1), (2, .int p2)]) hx hb dX10_doQuarrel_11 hl (by decide) rfl (fun ls hl => ?_)
      refine lv_iload_n hx hb dX10_doQuarrel_13 rfl (lv_at hl 1 rfl) ?_
      refine lv_iconst (v := (-1)) hx hb dX10_doQuarrel_14 (by decide) ?_
      refine lv_icmp_eq (tgt := 45) hx hb dX10_doQuarrel_15 (by decide) (fun c_15 => ?_) (fun c_15 => ?_)
      · have r_v_1 : RI v_1 0 (-1) := rc_eq1 r_v_1 rl_m1 (ti_eq c_15) (by decide)
        exact (r_v_1.no (by decide)).elim
      · refine lv_iload hx hb dX10_doQuarrel_18 (lv_at hl 0 rfl) ?_
        refine lv_iconst (v := (-1)) hx hb dX10_doQuarrel_20 (by decide) ?_
        refine lv_icmp_eq (tgt := 45) hx hb dX10_doQuarrel_21 (by decide) (fun c_21 => ?_) (fun c_21 => ?_)
        · have r_v_3 : RI v_3 0 (-1) := rc_eq1 r_v_3 rl_m1 (ti_eq c_21) (by decide)
          exact (r_v_3.no (by decide)).elim
        · refine lv_aload_n hx hb dX10_doQuarrel_24 rfl (lv_at hl 2 rfl) ?_
          refine tg_get (ci := 10) (ts := ty_MODEL) (C := RX10) (T := TX10) (N := 49) hx hb hts inX10 hown hK hw h_p0 rfl rfl 14 (by decide) (hts _ tw_1151) (fun _ h9 => h9) (ft := vR 34) rfl dX10_doQuarrel_25 (fun u_4 hv_u_4 m_u_4 => ?_)
          obtain ⟨vu_4, rfl, h_vu_4⟩ := hv_u_4
          refine lv_bipush (v := 12) hx hb dX10_doQuarrel_28 (by decide) ?_
          refine lv_iload_n hx hb dX10_doQuarrel_30 rfl (lv_at hl 1 rfl) ?_
          refine lv_iadd hx hb dX10_doQuarrel_31 (lv_topi (fun v_5 e_v_5 => ?_))
          obtain ⟨t_v_5, r_v_5⟩ := tq_add (lo := 12) (hi := 17) rl_12 r_v_1 (by decide +kernel) e_v_5
          have t_v_5 : v_5.toInt = 12 + v_1.toInt := t_v_5
          refine tg_iald (lo := (-2147483648)) (hi := 2147483647) hx hb hK hw h_vu_4 rfl 12 17 r_v_5 (by decide) (by decide +kernel) dX10_doQuarrel_32 (fun v_6 r_v_6 m_v_6 o_v_6 => ?_)
          refine lv_iload hx hb dX10_doQuarrel_33 (lv_at hl 0 rfl) ?_
          refine tk_ir (va_runS (As := [.int v_6, .int v_3]) (rest := []) ⟨hx, hb, hml, hown, hts⟩ (c_X10_has__2 l D cy z H.size Ps w0 hw.1 v_6 v_3 r_v_6 r_v_3) (va_cwS 2 hts (gS tw_1402 tw_1403 tw_15 tw_1404) rfl rfl rfl (by decide +kernel) ⟨Nat.le_of_ble_eq_true rfl, Nat.le_of_ble_eq_true rfl⟩) (tg_preS hw hK hSD hA) rfl rfl hl.1 rfl (lv_room (Nat.le_of_ble_eq_true rfl)) dX10_doQuarrel_35 ⟨Nat.le_of_ble_eq_true rfl, Nat.le_of_ble_eq_true rfl⟩) hw hA (fun v_7  H locs hp_v_7 hw => ?_)
          have r_v_7 : RI v_7 0 1 := hp_v_7.1
          refine lv_if_eq (tgt := 45) hx hb dX10_doQuarrel_38 (by decide) (fun c_38 => ?_) (fun c_38 => ?_)
          · have r_v_7 : RI v_7 0 0 := rc_eq1 r_v_7 rl_0 (ti_eq c_38) (by decide)
            refine lv_iconst (v := 0) hx hb dX10_doQuarrel_45 (by decide) ?_
            subst hQ
            exact W.zret (v := 0) hx hb hr (rfl) (fun t ht hW => ⟨⟨0, (), rfl, ⟨rl_0.to (by decide), (fun h0 => trivial), (fun _ => trivial)⟩, by rw [ht]; exact hw.2.1, va_K.moved hW.alike hK, hw.2.2.1⟩, hw.2.2.2.1.F ht⟩) hw.2.2.2.1.2.2 dX10_doQuarrel_46
          · have r_v_7 : RI v_7 1 1 := rc_neL r_v_7 rl_0 (ti_ne c_38) (by decide)
            refine lv_iconst (v := 1) hx hb dX10_doQuarrel_41 (by decide) ?_
            refine lv_goto (tgt := 46) hx hb dX10_doQuarrel_42 (by decide) ?_
            subst hQ
            exact W.zret (v := 1) hx hb hr (rfl) (fun t ht hW => ⟨⟨1, (), rfl, ⟨rl_1.to (by decide), (fun _ => trivial), (fun h0 => trivial)⟩, by rw [ht]; exact hw.2.1, va_K.moved hW.alike hK, hw.2.2.1⟩, hw.2.2.2.1.F ht⟩) hw.2.2.2.1.2.2 dX10_doQuarrel_46
abbrev wr_X10_placeFrom__5 : List (Nat × Nat) := []
abbrev wa_X10_placeFrom__5 : List Nat := [48]
set_option maxHeartbeats 4000000 in
set_option maxRecDepth 100000 in
theorem c_X10_placeFrom__5 (l : Launch) (D : va_G) (cy : Nat → ClassId) (z : Nat → Nat) (sz : Nat) (Ps : PSI) (w0 : va_W) (hT : HT cy GG Ps w0) (p0 : Nat) (p1 : Int32) (p2 : Int32) (h_p0 : (p0, 55) ∈ Ps) (r_p1 : RI p1 5 5) (r_p2 : RI p2 0 5) (x_QLE_p0_p1 : AX 14 34 (fun f => Int32.toInt p1 ≤ (f 2).toInt) Ps w0 p0) : Met l yX10_placeFrom (Cond.code yX10_placeFrom cX10_placeFrom 6 (some .boolean) :: gT) ({ frames := 4, cells := 0, slots := 0, locals := 800 } : Room) (va_Pc [.ref p0, .int p1, .int p2] (PRE D cy z w0 sz)) (va_Qi (fun (r : Int32) (u : va_W) => (RI r 0 1 ∧ (r = 0 → True) ∧ (¬ r = 0 → True)) ∧ HT cy GG Ps u ∧ FR wr_X10_placeFrom__5 wa_X10_placeFrom__5 Ps w0 u) (BB D cy (va_A w0 sz) (fun (u : va_W) => u)) (va_A w0 sz)) 0 0 (va_A w0 sz) := by
  refine Met.ofW (cc := cX10_placeFrom) (maxL := 6) (ret := (some .boolean)) (by decide) rfl ?_
  intro p e s m args below meth c s₁ B hml hv
  obtain ⟨rfl, hsz, hP, hK, hD0, hSD⟩ := hv
  have hx := B.exec
  have hb := B.bytes
  have hr := B.returns
  have hlocks := B.notSynchronized
  have hts : ∀ w ∈ gT, w.before _ s = true := fun w h => atoms_spec (ws := Cond.code yX10_placeFrom cX10_placeFrom 6 (some .boolean) :: gT) B.pre w (List.mem_cons_of_mem _ h)
  have hown : s.vm.findClass RX10 = some m.cls := findClass_of_methodNamed B.named
  subst hsz
  have hD := hD0.self (sz := s.heap.size)
  generalize hAe : va_A w0 s.heap.size = A at hD hSD ⊢
  have hA : ∀ q : Nat, s.heap.size ≤ q → A q := fun q h => by rw [← hAe]; exact Or.inr h
  have hl := lv_entry ([.ref p0, .int p1, .int p2]) (n := 6) (Nat.le_of_ble_eq_true rfl)
  rw [lg_entry_eq]
  generalize (lg_sl ([.ref p0, .int p1, .int p2]) ++ List.replicate (6 - (lg_sl ([.ref p0, .int p1, .int p2])).length) Slot.unset).toArray = ls at hl ⊢
  have hl : lv_has ls 6 [(0, .ref p0), (1, .int p1), (2, .int p2)] := hl
  refine nameQ (fun Q hQ => ?_)
  have hw : WD D cy GG A s wr_X10_placeFrom__5 wa_X10_placeFrom__5 Ps w0 Ps w0 s.heap [] := ⟨hT, hP, hD, va_S.rf, FR.rf, hT.1, [], (List.append_nil _).symm⟩
  have B14 : ∀ (nf : Nat) (x3 : Int32) (ws : va_W) (H : Heap) (locs : List Loc) (ls : Array Slot), 5 - x3.toInt < (nf : Int) → RI p1 5 5 → RI p2 0 5 → RI x3 0 5 → AX 14 34 (fun f => Int32.toInt p1 ≤ (f 2).toInt) Ps ws p0 → AX 14 34 (fun f => Int32.toInt p1 < (f 2).toInt) Ps ws p0 → WD D cy GG A s wr_X10_placeFrom__5 wa_X10_placeFrom__5 Ps w0 Ps ws H locs → lv_has ls 6 [(0, .ref p0), (1, .int p1), (2, .int p2), (3, .int x3)] → W p l e (headSpec (Cond.code yX10_placeFrom cX10_placeFrom 6 (some .boolean) :: gT) ({ frames := 4, cells := 0, slots := 0, locals := 800 } : Room)).room s m ([.ref p0, .int p1, .int p2] : List Value).toArray below meth c H locs 0 0 Q (F0 m 14 ls []) := by
    intro nf14
    induction nf14 with
    | zero =>
      intro x3 ws H locs ls hn14 r_p1 r_p2 r_x3 x_QLE_p0_p1 x_QLT_p0_p1 hw hl
      exact absurd hn14 (by have q0 := r_x3.1; have u0 := r_x3.2; omega)
    | succ nf14 ih14 =>
      have B25 : ∀ (nf : Nat) (x3 : Int32) (x4 : Int32) (x5 : Int32) (ws : va_W) (H : Heap) (locs : List Loc) (ls : Array Slot), 5 - x5.toInt < (nf : Int) → RI p1 5 5 → RI p2 1 5 → RI x3 0 4 → RI x4 0 1 → RI x5 0 5 → AX 14 34 (fun f => Int32.toInt p1 ≤ (f 2).toInt) Ps ws p0 → AX 14 34 (fun f => Int32.toInt p1 < (f 2).toInt) Ps ws p0 → 5 - x3.toInt < ((nf14 + 1 : Nat) : Int) → WD D cy GG A s wr_X10_placeFrom__5 wa_X10_placeFrom__5 Ps w0 Ps ws H locs → lv_has ls 6 [(0, .ref p0), (1, .int p1), (2, .int p2), (3, .int x3), (4, .int x4), (5, .int x5)] → W p l e (headSpec (Cond.code yX10_placeFrom cX10_placeFrom 6 (some .boolean) :: gT) ({ frames := 4, cells := 0, slots := 0, locals := 800 } : Room)).room s m ([.ref p0, .int p1, .int p2] : List Value).toArray below meth c H locs 0 0 Q (F0 m 25 ls []) := by
        intro nf25
        induction nf25 with
        | zero =>
          intro x3 x4 x5 ws H locs ls hn25 r_p1 r_p2 r_x3 r_x4 r_x5 x_QLE_p0_p1 x_QLT_p0_p1 hn14 hw hl
          exact absurd hn25 (by have q0 := r_x5.1; have u0 := r_x5.2; omega)
        | succ nf25 ih25 =>
          intro x3 x4 x5 ws H locs ls hn25 r_p1 r_p2 r_x3 r_x4 r_x5 x_QLE_p0_p1 x_QLT_p0_p1 hn14 hw hl
          refine lv_iload hx hb dX10_placeFrom_25 (lv_at hl 5 rfl) ?_
          refine lv_iload_n hx hb dX10_placeFrom_27 rfl (lv_at hl 1 rfl) ?_
          refine lv_icmp_ge (tgt := 61) hx hb dX10_placeFrom_28 (by decide) (fun c_28 => ?_) (fun c_28 => ?_)
          · have r_x5 : RI x5 5 5 := rc_le2 r_p1 r_x5 (ti_le c_28) (by decide)
            refine lv_iload hx hb dX10_placeFrom_61 (lv_at hl 4 rfl) ?_
            refine lv_if_ne (tgt := 69) hx hb dX10_placeFrom_63 (by decide) (fun c_63 => ?_) (fun c_63 => ?_)
            · have r_x4 : RI x4 1 1 := rc_neL r_x4 rl_0 (ti_ne c_63) (by decide)
              refine lv_aload_n hx hb dX10_placeFrom_69 rfl (lv_at hl 0 rfl) ?_
              refine tg_get (ci := 10) (ts := ty_MODEL) (C := RX10) (T := TX10) (N := 49) hx hb hts inX10 hown hK hw h_p0 rfl rfl 31 (by decide) (hts _ tw_1168) (fun _ h9 => h9) (ft := vR 48) rfl dX10_placeFrom_70 (fun u_1 hv_u_1 m_u_1 => ?_)
              obtain ⟨vu_1, rfl, h_vu_1⟩ := hv_u_1
              refine lv_iload_n hx hb dX10_placeFrom_73 rfl (lv_at hl 1 rfl) ?_
              refine lv_iload_n hx hb dX10_placeFrom_74 rfl (lv_at hl 3 rfl) ?_
              refine tg_iast hx hb hK hw h_vu_1 rfl 5 5 r_p1 (by decide) r_x3 (by exact fun _ _ _ => by decide) (fun _ _ _ _ _ => trivial) (by decide) dX10_placeFrom_75 (fun ws H locs hw hF9 hU9 => ?_)
              have x_QLE_p0_p1 := AX.over hF9 x_QLE_p0_p1 (by decide)
              have x_QLT_p0_p1 := AX.over hF9 x_QLT_p0_p1 (by decide)
              refine lv_aload_n hx hb dX10_placeFrom_76 rfl (lv_at hl 0 rfl) ?_
              refine lv_iload_n hx hb dX10_placeFrom_77 rfl (lv_at hl 1 rfl) ?_
              refine lv_iconst (v := 1) hx hb dX10_placeFrom_78 (by decide) ?_
              refine lv_iadd hx hb dX10_placeFrom_79 (lv_topi (fun v_2 e_v_2 => ?_))
              obtain ⟨t_v_2, r_v_2⟩ := tq_add (lo := 6) (hi := 6) r_p1 rl_1 (by decide +kernel) e_v_2
              have t_v_2 : v_2.toInt = p1.toInt + 1 := t_v_2
              refine lv_iload_n hx hb dX10_placeFrom_80 rfl (lv_at hl 2 rfl) ?_
              have x_QLE_p0_v_2 : AX 14 34 (fun f => Int32.toInt v_2 ≤ (f 2).toInt) Ps ws p0 := AX.imp x_QLT_p0_p1 (fun f9 h9 => by have k2 := t_v_2; show _ ≤ _; have k3 : p1.toInt < (f9 2).toInt := h9; omega)
              refine tk_ir (va_runV (As := [.int v_2, .int p2]) (rest := []) ⟨hx, hb, hml, hown, hts⟩ (c_X10_placeFrom__6 l D cy z H.size Ps ws hw.1 p0 v_2 p2 h_p0 r_v_2 (r_p2.to (by decide)) x_QLE_p0_v_2) (cwV 2 hts (gV tw_1634 tw_1636 ts_93 tw_15 tw_1637) rfl rfl rfl (by decide +kernel) ⟨Nat.le_of_ble_eq_true rfl, Nat.le_of_ble_eq_true rfl⟩) (tg_preV hw hK hSD hA (ci := 10) (q := (RX10, TX10, 49)) rfl h_p0 rfl) rfl rfl hl.1 rfl (lv_room (Nat.le_of_ble_eq_true rfl)) dX10_placeFrom_81 ⟨Nat.le_of_ble_eq_true rfl, Nat.le_of_ble_eq_true rfl⟩) hw hA (fun v_3  H locs hp_v_3 hw => ?_)
              have r_v_3 : RI v_3 1 1 := hp_v_3.1
              refine lv_if_eq (tgt := 89) hx hb dX10_placeFrom_84 (by decide) (fun c_84 => ?_) (fun c_84 => ?_)
              · have r_v_3 : RI v_3 1 0 := rc_eq1 r_v_3 rl_0 (ti_eq c_84) (by decide)
                exact (r_v_3.no (by decide)).elim
              · refine lv_iconst (v := 1) hx hb dX10_placeFrom_87 (by decide) ?_
                subst hQ
                exact W.zret (v := 1) hx hb hr (rfl) (fun t ht hW => ⟨⟨1, ws, rfl, ⟨⟨rl_1.to (by decide), (fun _ => trivial), (fun h0 => trivial)⟩, hw.1, hw.2.2.2.2.1⟩, by rw [ht]; exact hw.2.1, va_K.moved hW.alike hK, hw.2.2.1⟩, hw.2.2.2.1.F ht⟩) hw.2.2.2.1.2.2 dX10_placeFrom_88
            · have r_x4 : RI x4 0 0 := rc_eq1 r_x4 rl_0 (ti_eq c_63) (by decide)
              refine lv_goto (tgt := 89) hx hb dX10_placeFrom_66 (by decide) ?_
              obtain ⟨v_4, e_v_4⟩ : ∃ q9 : Int32, q9 = x3 + Int32.ofInt 1 := ⟨_, rfl⟩
              obtain ⟨t_v_4, r_v_4⟩ := tq_add (lo := 1) (hi := 5) r_x3 (show RI (Int32.ofInt 1) 1 1 by unfold RI; decide +kernel) (by decide +kernel) e_v_4
              have t_v_4 : v_4.toInt = x3.toInt + 1 := t_v_4
              refine lv_iinc (v := v_4) (lv' := [(3, .int v_4), (0, .ref p0), (1, .int p1), (2, .int p2), (4, .int x4), (5, .int x5)]) hx hb dX10_placeFrom_89 hl (k := 3) rfl e_v_4.symm (by decide) rfl (fun ls hl => ?_)
              refine lv_goto (tgt := 14) hx hb dX10_placeFrom_92 (by decide) ?_
              exact ih14 v_4 ws _ _ ls (by have q0 := r_v_4.1; have u0 := r_v_4.2; have o0 := r_x3.1; have p0 := r_x3.2; omega) r_p1 (r_p2.to (by decide)) (r_v_4.to (by decide)) x_QLE_p0_p1 x_QLT_p0_p1 hw (lv_sub hl [1, 2, 3, 0] rfl)
          · have r_x5 : RI x5 0 4 := rc_lt1 r_x5 r_p1 (ti_nle c_28) (by decide)
            refine lv_aload_n hx hb dX10_placeFrom_31 rfl (lv_at hl 0 rfl) ?_
            refine tg_get (ci := 10) (ts := ty_MODEL) (C := RX10) (T := TX10) (N := 49) hx hb hts inX10 hown hK hw h_p0 rfl rfl 31 (by decide) (hts _ tw_1168) (fun _ h9 => h9) (ft := vR 48) rfl dX10_placeFrom_32 (fun u_5 hv_u_5 m_u_5 => ?_)
            obtain ⟨vu_5, rfl, h_vu_5⟩ := hv_u_5
            refine lv_iload hx hb dX10_placeFrom_35 (lv_at hl 5 rfl) ?_
            refine tg_iald (lo := (-2147483648)) (hi := 2147483647) hx hb hK hw h_vu_5 rfl 0 4 r_x5 (by decide) (by exact fun _ _ _ => ⟨Int.le_refl _, Int.le_refl _⟩) dX10_placeFrom_37 (fun v_6 r_v_6 m_v_6 o_v_6 => ?_)
            refine lv_iload_n hx hb dX10_placeFrom_38 rfl (lv_at hl 3 rfl) ?_
            refine lv_icmp_ne (tgt := 55) hx hb dX10_placeFrom_39 (by decide) (fun c_39 => ?_) (fun c_39 => ?_)
            · obtain ⟨v_7, e_v_7⟩ : ∃ q9 : Int32, q9 = x5 + Int32.ofInt 1 := ⟨_, rfl⟩
              obtain ⟨t_v_7, r_v_7⟩ := tq_add (lo := 1) (hi := 5) r_x5 (show RI (Int32.ofInt 1) 1 1 by unfold RI; decide +kernel) (by decide +kernel) e_v_7
              have t_v_7 : v_7.toInt = x5.toInt + 1 := t_v_7
              refine lv_iinc (v := v_7) (lv' := [(5, .int v_7), (0, .ref p0), (1, .int p1), (2, .int p2), (3, .int x3), (4, .int x4)]) hx hb dX10_placeFrom_55 hl (k := 5) rfl e_v_7.symm (by decide) rfl (fun ls hl => ?_)
              refine lv_goto (tgt := 25) hx hb dX10_placeFrom_58 (by decide) ?_
              exact ih25 x3 x4 v_7 ws _ _ ls (by have q0 := r_v_7.1; have u0 := r_v_7.2; have o0 := r_x5.1; have p0 := r_x5.2; omega) r_p1 r_p2 r_x3 r_x4 (r_v_7.to (by decide)) x_QLE_p0_p1 x_QLT_p0_p1 (by have q0 := r_x3.1; have u0 := r_x3.2; omega) hw (lv_sub hl [1, 2, 3, 4, 5, 0] rfl)
            · have r_v_6 : RI v_6 0 4 := rc_eq1 r_v_6 r_x3 (ti_eq c_39) (by decide)
              refine lv_aload_n hx hb dX10_placeFrom_42 rfl (lv_at hl 0 rfl) ?_
              refine lv_iload_n hx hb dX10_placeFrom_43 rfl (lv_at hl 1 rfl) ?_
              refine lv_iload hx hb dX10_placeFrom_44 (lv_at hl 5 rfl) ?_
              refine tk_ir (va_runV (As := [.int p1, .int x5]) (rest := []) ⟨hx, hb, hml, hown, hts⟩ (c_X10_doQuarrel l D cy z H.size Ps ws hw.1 p0 p1 x5 h_p0 (r_p1.to (by decide)) (r_x5.to (by decide))) (cwV 2 hts (gV tw_1638 tw_1640 ts_94 tw_15 tw_1641) rfl rfl rfl (by decide +kernel) ⟨Nat.le_of_ble_eq_true rfl, Nat.le_of_ble_eq_true rfl⟩) (tg_preV hw hK hSD hA (ci := 10) (q := (RX10, TX10, 49)) rfl h_p0 rfl) rfl rfl hl.1 rfl (lv_room (Nat.le_of_ble_eq_true rfl)) dX10_placeFrom_46 ⟨Nat.le_of_ble_eq_true rfl, Nat.le_of_ble_eq_true rfl⟩) hw hA (fun v_8  H locs hp_v_8 hw => ?_)
              have r_v_8 : RI v_8 0 1 := hp_v_8.1
              refine lv_if_eq (tgt := 55) hx hb dX10_placeFrom_49 (by decide) (fun c_49 => ?_) (fun c_49 => ?_)
              · have r_v_8 : RI v_8 0 0 := rc_eq1 r_v_8 rl_0 (ti_eq c_49) (by decide)
                obtain ⟨v_9, e_v_9⟩ : ∃ q9 : Int32, q9 = x5 + Int32.ofInt 1 := ⟨_, rfl⟩
                obtain ⟨t_v_9, r_v_9⟩ := tq_add (lo := 1) (hi := 5) r_x5 (show RI (Int32.ofInt 1) 1 1 by unfold RI; decide +kernel) (by decide +kernel) e_v_9
                have t_v_9 : v_9.toInt = x5.toInt + 1 := t_v_9
                refine lv_iinc (v := v_9) (lv' := [(5, .int v_9), (0, .ref p0), (1, .int p1), (2, .int p2), (3, .int x3), (4, .int x4)]) hx hb dX10_placeFrom_55 hl (k := 5) rfl e_v_9.symm (by decide) rfl (fun ls hl => ?_)
                refine lv_goto (tgt := 25) hx hb dX10_placeFrom_58 (by decide) ?_
                exact ih25 x3 x4 v_9 ws _ _ ls (by have q0 := r_v_9.1; have u0 := r_v_9.2; have o0 := r_x5.1; have p0 := r_x5.2; omega) r_p1 r_p2 r_x3 r_x4 (r_v_9.to (by decide)) x_QLE_p0_p1 x_QLT_p0_p1 (by have q0 := r_x3.1; have u0 := r_x3.2; omega) hw (lv_sub hl [1, 2, 3, 4, 5, 0] rfl)
              · have r_v_8 : RI v_8 1 1 := rc_neL r_v_8 rl_0 (ti_ne c_49) (by decide)
                refine lv_iconst (v := 0) hx hb dX10_placeFrom_52 (by decide) ?_
                refine lv_istore (lv' := [(4, .int 0), (0, .ref p0), (1, .int p1), (2, .int p2), (3, .int x3), (5, .int x5)]) hx hb dX10_placeFrom_53 hl (by decide) rfl (fun ls hl => ?_)
                obtain ⟨v_10, e_v_10⟩ : ∃ q9 : Int32, q9 = x5 + Int32.ofInt 1 := ⟨_, rfl⟩
                obtain ⟨t_v_10, r_v_10⟩ := tq_add (lo := 1) (hi := 5) r_x5 (show RI (Int32.ofInt 1) 1 1 by unfold RI; decide +kernel) (by decide +kernel) e_v_10
                have t_v_10 : v_10.toInt = x5.toInt + 1 := t_v_10
                refine lv_iinc (v := v_10) (lv' := [(5, .int v_10), (4, .int 0), (0, .ref p0), (1, .int p1), (2, .int p2), (3, .int x3)]) hx hb dX10_placeFrom_55 hl (k := 5) rfl e_v_10.symm (by decide) rfl (fun ls hl => ?_)
                refine lv_goto (tgt := 25) hx hb dX10_placeFrom_58 (by decide) ?_
                exact ih25 x3 0 v_10 ws _ _ ls (by have q0 := r_v_10.1; have u0 := r_v_10.2; have o0 := r_x5.1; have p0 := r_x5.2; omega) r_p1 r_p2 r_x3 (rl_0.to (by decide)) (r_v_10.to (by decide)) x_QLE_p0_p1 x_QLT_p0_p1 (by have q0 := r_x3.1; have u0 := r_x3.2; omega) hw (lv_sub hl [2, 3, 4, 5, 1, 0] rfl)
      intro x3 ws H locs ls hn14 r_p1 r_p2 r_x3 x_QLE_p0_p1 x_QLT_p0_p1 hw hl
      refine lv_iload_n hx hb dX10_placeFrom_14 rfl (lv_at hl 3 rfl) ?_
      refine lv_iload_n hx hb dX10_placeFrom_15 rfl (lv_at hl 2 rfl) ?_
      refine lv_icmp_ge (tgt := 95) hx hb dX10_placeFrom_16 (by decide) (fun c_16 => ?_) (fun c_16 => ?_)
      · refine lv_iconst (v := 0) hx hb dX10_placeFrom_95 (by decide) ?_
        subst hQ
        exact W.zret (v := 0) hx hb hr (rfl) (fun t ht hW => ⟨⟨0, ws, rfl, ⟨⟨rl_0.to (by decide), (fun h0 => trivial), (fun _ => trivial)⟩, hw.1, hw.2.2.2.2.1⟩, by rw [ht]; exact hw.2.1, va_K.moved hW.alike hK, hw.2.2.1⟩, hw.2.2.2.1.F ht⟩) hw.2.2.2.1.2.2 dX10_placeFrom_96
      · have r_x3 : RI x3 0 4 := rc_lt1 r_x3 r_p2 (ti_nle c_16) (by decide)
        have r_p2 : RI p2 1 5 := rc_lt2 r_x3 r_p2 (ti_nle c_16) (by decide)
        refine lv_iconst (v := 1) hx hb dX10_placeFrom_19 (by decide) ?_
        refine lv_istore (lv' := [(4, .int 1), (0, .ref p0), (1, .int p1), (2, .int p2), (3, .int x3)]) hx hb dX10_placeFrom_20 hl (by decide) rfl (fun ls hl => ?_)
        refine lv_iconst (v := 0) hx hb dX10_placeFrom_22 (by decide) ?_
        refine lv_istore (lv' := [(5, .int 0), (4, .int 1), (0, .ref p0), (1, .int p1), (2, .int p2), (3, .int x3)]) hx hb dX10_placeFrom_23 hl (by decide) rfl (fun ls hl => ?_)
        exact B25 4294967298 x3 1 0 ws _ _ ls (by have q0 := rl_0.1; have u0 := rl_0.2; omega) r_p1 r_p2 r_x3 (rl_1.to (by decide)) (rl_0.to (by decide)) x_QLE_p0_p1 x_QLT_p0_p1 (by have q0 := r_x3.1; have u0 := r_x3.2; omega) hw (lv_sub hl [2, 3, 4, 5, 1, 0] rfl)
  refine lv_iload_n hx hb dX10_placeFrom_0 rfl (lv_at hl 1 rfl) ?_
  refine lv_aload_n hx hb dX10_placeFrom_1 rfl (lv_at hl 0 rfl) ?_
  refine tg_get (ci := 10) (ts := ty_MODEL) (C := RX10) (T := TX10) (N := 49) hx hb hts inX10 hown hK hw h_p0 rfl rfl 14 (by decide) (hts _ tw_1151) (fun _ h9 => h9) (ft := vR 34) rfl dX10_placeFrom_2 (fun u_11 hv_u_11 m_u_11 => ?_)
  obtain ⟨vu_11, rfl, h_vu_11⟩ := hv_u_11
  refine lv_iconst (v := 2) hx hb dX10_placeFrom_5 (by decide) ?_
  refine tg_iald (lo := 0) (hi := 6) hx hb hK hw h_vu_11 rfl 2 2 rl_2 (by decide) (by decide +kernel) dX10_placeFrom_6 (fun v_12 r_v_12 m_v_12 o_v_12 => ?_)
  have x_P2_p0_v_12 : AX 14 34 (fun f => f 2 = v_12) Ps w0 p0 := AX.mk hw h_vu_11 rfl m_u_11 (fun f9 g9 _ => by have e9 := g9 _ _ m_v_12; have j9 : Int32.toNatClampNeg 2 = 2 := (by decide); rw [j9] at e9; exact e9)
  have g_ql : p1.toInt ≤ v_12.toInt := by obtain ⟨_, f9, _, _, h9⟩ := AX.and hw x_QLE_p0_p1 x_P2_p0_v_12; have k1 := h9.1; have k2 : f9 2 = v_12 := h9.2; rw [k2] at k1; exact k1
  have r_v_12 : RI v_12 5 6 := ⟨by have k1 := r_p1.1; have k2 := r_v_12.1; omega, r_v_12.2⟩
  refine lv_icmp_ne (tgt := 12) hx hb dX10_placeFrom_7 (by decide) (fun c_7 => ?_) (fun c_7 => ?_)
  · have r_v_12 : RI v_12 6 6 := rc_neL r_v_12 r_p1 (ti_ne c_7).symm (by decide)
    have x_QLT_p0_p1 : AX 14 34 (fun f => Int32.toInt p1 < (f 2).toInt) Ps w0 p0 := AX.imp x_P2_p0_v_12 (fun f9 h9 => by have k1 : f9 2 = v_12 := h9; show _ < _; rw [k1]; have k3 := ti_ne c_7; have k4 := g_ql; omega)
    refine lv_iconst (v := 0) hx hb dX10_placeFrom_12 (by decide) ?_
    refine lv_istore_n (lv' := [(3, .int 0), (0, .ref p0), (1, .int p1), (2, .int p2)]) hx hb dX10_placeFrom_13 rfl hl (by decide) rfl (fun ls hl => ?_)
    exact B14 4294967298 0 w0 _ _ ls (by have q0 := rl_0.1; have u0 := rl_0.2; omega) r_p1 r_p2 (rl_0.to (by decide)) x_QLE_p0_p1 x_QLT_p0_p1 hw (lv_sub hl [1, 2, 3, 0] rfl)
  · have r_v_12 : RI v_12 5 5 := rc_eq2 r_p1 r_v_12 (ti_eq c_7) (by decide)
    refine lv_iconst (v := 1) hx hb dX10_placeFrom_10 (by decide) ?_
    subst hQ
    exact W.zret (v := 1) hx hb hr (rfl) (fun t ht hW => ⟨⟨1, w0, rfl, ⟨⟨rl_1.to (by decide), (fun _ => trivial), (fun h0 => trivial)⟩, hw.1, hw.2.2.2.2.1⟩, by rw [ht]; exact hw.2.1, va_K.moved hW.alike hK, hw.2.2.1⟩, hw.2.2.2.1.F ht⟩) hw.2.2.2.1.2.2 dX10_placeFrom_11
abbrev wr_X10_placeFrom__4 : List (Nat × Nat) := []
abbrev wa_X10_placeFrom__4 : List Nat := [48]
set_option maxHeartbeats 4000000 in
set_option maxRecDepth 100000 in
theorem c_X10_placeFrom__4 (l : Launch) (D : va_G) (cy : Nat → ClassId) (z : Nat → Nat) (sz : Nat) (Ps : PSI) (w0 : va_W) (hT : HT cy GG Ps w0) (p0 : Nat) (p1 : Int32) (p2 : Int32) (h_p0 : (p0, 55) ∈ Ps) (r_p1 : RI p1 4 4) (r_p2 : RI p2 0 5) (x_QLE_p0_p1 : AX 14 34 (fun f => Int32.toInt p1 ≤ (f 2).toInt) Ps w0 p0) : Met l yX10_placeFrom (Cond.code yX10_placeFrom cX10_placeFrom 6 (some .boolean) :: gT) ({ frames := 5, cells := 0, slots := 0, locals := 1000 } : Room) (va_Pc [.ref p0, .int p1, .int p2] (PRE D cy z w0 sz)) (va_Qi (fun (r : Int32) (u : va_W) => (RI r 0 1 ∧ (r = 0 → True) ∧ (¬ r = 0 → True)) ∧ HT cy GG Ps u ∧ FR wr_X10_placeFrom__4 wa_X10_placeFrom__4 Ps w0 u) (BB D cy (va_A w0 sz) (fun (u : va_W) => u)) (va_A w0 sz)) 0 0 (va_A w0 sz) := by
  refine Met.ofW (cc := cX10_placeFrom) (maxL := 6) (ret := (some .boolean)) (by decide) rfl ?_
  intro p e s m args below meth c s₁ B hml hv
  obtain ⟨rfl, hsz, hP, hK, hD0, hSD⟩ := hv
  have hx := B.exec
  have hb := B.bytes
  have hr := B.returns
  have hlocks := B.notSynchronized
  have hts : ∀ w ∈ gT, w.before _ s = true := fun w h => atoms_spec (ws := Cond.code yX10_placeFrom cX10_placeFrom 6 (some .boolean) :: gT) B.pre w (List.mem_cons_of_mem _ h)
  have hown : s.vm.findClass RX10 = some m.cls := findClass_of_methodNamed B.named
  subst hsz
  have hD := hD0.self (sz := s.heap.size)
  generalize hAe : va_A w0 s.heap.size = A at hD hSD ⊢
  have hA : ∀ q : Nat, s.heap.size ≤ q → A q := fun q h => by rw [← hAe]; exact Or.inr h
  have hl := lv_entry ([.ref p0, .int p1, .int p2]) (n := 6) (Nat.le_of_ble_eq_true rfl)
  rw [lg_entry_eq]
  generalize (lg_sl ([.ref p0, .int p1, .int p2]) ++ List.replicate (6 - (lg_sl ([.ref p0, .int p1, .int p2])).length) Slot.unset).toArray = ls at hl ⊢
  have hl : lv_has ls 6 [(0, .ref p0), (1, .int p1), (2, .int p2)] := hl
  refine nameQ (fun Q hQ => ?_)
  have hw : WD D cy GG A s wr_X10_placeFrom__4 wa_X10_placeFrom__4 Ps w0 Ps w0 s.heap [] := ⟨hT, hP, hD, va_S.rf, FR.rf, hT.1, [], (List.append_nil _).symm⟩
  have B14 : ∀ (nf : Nat) (x3 : Int32) (ws : va_W) (H : Heap) (locs : List Loc) (ls : Array Slot), 5 - x3.toInt < (nf : Int) → RI p1 4 4 → RI p2 0 5 → RI x3 0 5 → AX 14 34 (fun f => Int32.toInt p1 ≤ (f 2).toInt) Ps ws p0 → AX 14 34 (fun f => Int32.toInt p1 < (f 2).toInt) Ps ws p0 → WD D cy GG A s wr_X10_placeFrom__4 wa_X10_placeFrom__4 Ps w0 Ps ws H locs → lv_has ls 6 [(0, .ref p0), (1, .int p1), (2, .int p2), (3, .int x3)] → W p l e (headSpec (Cond.code yX10_placeFrom cX10_placeFrom 6 (some .boolean) :: gT) ({ frames := 5, cells := 0, slots := 0, locals := 1000 } : Room)).room s m ([.ref p0, .int p1, .int p2] : List Value).toArray below meth c H locs 0 0 Q (F0 m 14 ls []) := by
    intro nf14
    induction nf14 with
    | zero =>
      intro x3 ws H locs ls hn14 r_p1 r_p2 r_x3 x_QLE_p0_p1 x_QLT_p0_p1 hw hl
      exact absurd hn14 (by have q0 := r_x3.1; have u0 := r_x3.2; omega)
    | succ nf14 ih14 =>
      have B25 : ∀ (nf : Nat) (x3 : Int32) (x4 : Int32) (x5 : Int32) (ws : va_W) (H : Heap) (locs : List Loc) (ls : Array Slot), 4 - x5.toInt < (nf : Int) → RI p1 4 4 → RI p2 1 5 → RI x3 0 4 → RI x4 0 1 → RI x5 0 4 → AX 14 34 (fun f => Int32.toInt p1 ≤ (f 2).toInt) Ps ws p0 → AX 14 34 (fun f => Int32.toInt p1 < (f 2).toInt) Ps ws p0 → 5 - x3.toInt < ((nf14 + 1 : Nat) : Int) → WD D cy GG A s wr_X10_placeFrom__4 wa_X10_placeFrom__4 Ps w0 Ps ws H locs → lv_has ls 6 [(0, .ref p0), (1, .int p1), (2, .int p2), (3, .int x3), (4, .int x4), (5, .int x5)] → W p l e (headSpec (Cond.code yX10_placeFrom cX10_placeFrom 6 (some .boolean) :: gT) ({ frames := 5, cells := 0, slots := 0, locals := 1000 } : Room)).room s m ([.ref p0, .int p1, .int p2] : List Value).toArray below meth c H locs 0 0 Q (F0 m 25 ls []) := by
        intro nf25
        induction nf25 with
        | zero =>
          intro x3 x4 x5 ws H locs ls hn25 r_p1 r_p2 r_x3 r_x4 r_x5 x_QLE_p0_p1 x_QLT_p0_p1 hn14 hw hl
          exact absurd hn25 (by have q0 := r_x5.1; have u0 := r_x5.2; omega)
        | succ nf25 ih25 =>
          intro x3 x4 x5 ws H locs ls hn25 r_p1 r_p2 r_x3 r_x4 r_x5 x_QLE_p0_p1 x_QLT_p0_p1 hn14 hw hl
          refine lv_iload hx hb dX10_placeFrom_25 (lv_at hl 5 rfl) ?_
          refine lv_iload_n hx hb dX10_placeFrom_27 rfl (lv_at hl 1 rfl) ?_
          refine lv_icmp_ge (tgt := 61) hx hb dX10_placeFrom_28 (by decide) (fun c_28 => ?_) (fun c_28 => ?_)
          · have r_x5 : RI x5 4 4 := rc_le2 r_p1 r_x5 (ti_le c_28) (by decide)
            refine lv_iload hx hb dX10_placeFrom_61 (lv_at hl 4 rfl) ?_
            refine lv_if_ne (tgt := 69) hx hb dX10_placeFrom_63 (by decide) (fun c_63 => ?_) (fun c_63 => ?_)
            · have r_x4 : RI x4 1 1 := rc_neL r_x4 rl_0 (ti_ne c_63) (by decide)
              refine lv_aload_n hx hb dX10_placeFrom_69 rfl (lv_at hl 0 rfl) ?_
              refine tg_get (ci := 10) (ts := ty_MODEL) (C := RX10) (T := TX10) (N := 49) hx hb hts inX10 hown hK hw h_p0 rfl rfl 31 (by decide) (hts _ tw_1168) (fun _ h9 => h9) (ft := vR 48) rfl dX10_placeFrom_70 (fun u_1 hv_u_1 m_u_1 => ?_)
              obtain ⟨vu_1, rfl, h_vu_1⟩ := hv_u_1
              refine lv_iload_n hx hb dX10_placeFrom_73 rfl (lv_at hl 1 rfl) ?_
              refine lv_iload_n hx hb dX10_placeFrom_74 rfl (lv_at hl 3 rfl) ?_
              refine tg_iast hx hb hK hw h_vu_1 rfl 4 4 r_p1 (by decide) r_x3 (by exact fun _ _ _ => by decide) (fun _ _ _ _ _ => trivial) (by decide) dX10_placeFrom_75 (fun ws H locs hw hF9 hU9 => ?_)
              have x_QLE_p0_p1 := AX.over hF9 x_QLE_p0_p1 (by decide)
              have x_QLT_p0_p1 := AX.over hF9 x_QLT_p0_p1 (by decide)
              refine lv_aload_n hx hb dX10_placeFrom_76 rfl (lv_at hl 0 rfl) ?_
              refine lv_iload_n hx hb dX10_placeFrom_77 rfl (lv_at hl 1 rfl) ?_
              refine lv_iconst (v := 1) hx hb dX10_placeFrom_78 (by decide) ?_
              refine lv_iadd hx hb dX10_placeFrom_79 (lv_topi (fun v_2 e_v_2 => ?_))
              obtain ⟨t_v_2, r_v_2⟩ := tq_add (lo := 5) (hi := 5) r_p1 rl_1 (by decide +kernel) e_v_2
              have t_v_2 : v_2.toInt = p1.toInt + 1 := t_v_2
              refine lv_iload_n hx hb dX10_placeFrom_80 rfl (lv_at hl 2 rfl) ?_
              have x_QLE_p0_v_2 : AX 14 34 (fun f => Int32.toInt v_2 ≤ (f 2).toInt) Ps ws p0 := AX.imp x_QLT_p0_p1 (fun f9 h9 => by have k2 := t_v_2; show _ ≤ _; have k3 : p1.toInt < (f9 2).toInt := h9; omega)
              refine tk_i (va_runV (As := [.int v_2, .int p2]) (rest := []) ⟨hx, hb, hml, hown, hts⟩ (c_X10_placeFrom__5 l D cy z H.size Ps ws hw.1 p0 v_2 p2 h_p0 r_v_2 (r_p2.to (by decide)) x_QLE_p0_v_2) (cwV 2 hts (gV tw_1634 tw_1636 ts_93 tw_15 tw_1637) rfl rfl rfl (by decide +kernel) ⟨Nat.le_of_ble_eq_true rfl, Nat.le_of_ble_eq_true rfl⟩) (tg_preV hw hK hSD hA (ci := 10) (q := (RX10, TX10, 49)) rfl h_p0 rfl) rfl rfl hl.1 rfl (lv_room (Nat.le_of_ble_eq_true rfl)) dX10_placeFrom_81 ⟨Nat.le_of_ble_eq_true rfl, Nat.le_of_ble_eq_true rfl⟩) hw hA ⟨by decide, by decide⟩ (fun v_3 ws H locs hp_v_3 hw hF9 => ?_)
              have x_QLE_p0_p1 := AX.over hF9 x_QLE_p0_p1 (by decide)
              have x_QLT_p0_p1 := AX.over hF9 x_QLT_p0_p1 (by decide)
              have x_QLE_p0_v_2 := AX.over hF9 x_QLE_p0_v_2 (by decide)
              have r_v_3 : RI v_3 0 1 := hp_v_3.1
              refine lv_if_eq (tgt := 89) hx hb dX10_placeFrom_84 (by decide) (fun c_84 => ?_) (fun c_84 => ?_)
              · have r_v_3 : RI v_3 0 0 := rc_eq1 r_v_3 rl_0 (ti_eq c_84) (by decide)
                obtain ⟨v_4, e_v_4⟩ : ∃ q9 : Int32, q9 = x3 + Int32.ofInt 1 := ⟨_, rfl⟩
                obtain ⟨t_v_4, r_v_4⟩ := tq_add (lo := 1) (hi := 5) r_x3 (show RI (Int32.ofInt 1) 1 1 by unfold RI; decide +kernel) (by decide +kernel) e_v_4
                have t_v_4 : v_4.toInt = x3.toInt + 1 := t_v_4
                refine lv_iinc (v := v_4) (lv' := [(3, .int v_4), (0, .ref p0), (1, .int p1), (2, .int p2), (4, .int x4), (5, .int x5)]) hx hb dX10_placeFrom_89 hl (k := 3) rfl e_v_4.symm (by decide) rfl (fun ls hl => ?_)
                refine lv_goto (tgt := 14) hx hb dX10_placeFrom_92 (by decide) ?_
                exact ih14 v_4 ws _ _ ls (by have q0 := r_v_4.1; have u0 := r_v_4.2; have o0 := r_x3.1; have p0 := r_x3.2; omega) r_p1 (r_p2.to (by decide)) (r_v_4.to (by decide)) x_QLE_p0_p1 x_QLT_p0_p1 hw (lv_sub hl [1, 2, 3, 0] rfl)
              · have r_v_3 : RI v_3 1 1 := rc_neL r_v_3 rl_0 (ti_ne c_84) (by decide)
                refine lv_iconst (v := 1) hx hb dX10_placeFrom_87 (by decide) ?_
                subst hQ
                exact W.zret (v := 1) hx hb hr (rfl) (fun t ht hW => ⟨⟨1, ws, rfl, ⟨⟨rl_1.to (by decide), (fun _ => trivial), (fun h0 => trivial)⟩, hw.1, hw.2.2.2.2.1⟩, by rw [ht]; exact hw.2.1, va_K.moved hW.alike hK, hw.2.2.1⟩, hw.2.2.2.1.F ht⟩) hw.2.2.2.1.2.2 dX10_placeFrom_88
            · have r_x4 : RI x4 0 0 := rc_eq1 r_x4 rl_0 (ti_eq c_63) (by decide)
              refine lv_goto (tgt := 89) hx hb dX10_placeFrom_66 (by decide) ?_
              obtain ⟨v_5, e_v_5⟩ : ∃ q9 : Int32, q9 = x3 + Int32.ofInt 1 := ⟨_, rfl⟩
              obtain ⟨t_v_5, r_v_5⟩ := tq_add (lo := 1) (hi := 5) r_x3 (show RI (Int32.ofInt 1) 1 1 by unfold RI; decide +kernel) (by decide +kernel) e_v_5
              have t_v_5 : v_5.toInt = x3.toInt + 1 := t_v_5
              refine lv_iinc (v := v_5) (lv' := [(3, .int v_5), (0, .ref p0), (1, .int p1), (2, .int p2), (4, .int x4), (5, .int x5)]) hx hb dX10_placeFrom_89 hl (k := 3) rfl e_v_5.symm (by decide) rfl (fun ls hl => ?_)
              refine lv_goto (tgt := 14) hx hb dX10_placeFrom_92 (by decide) ?_
              exact ih14 v_5 ws _ _ ls (by have q0 := r_v_5.1; have u0 := r_v_5.2; have o0 := r_x3.1; have p0 := r_x3.2; omega) r_p1 (r_p2.to (by decide)) (r_v_5.to (by decide)) x_QLE_p0_p1 x_QLT_p0_p1 hw (lv_sub hl [1, 2, 3, 0] rfl)
          · have r_x5 : RI x5 0 3 := rc_lt1 r_x5 r_p1 (ti_nle c_28) (by decide)
            refine lv_aload_n hx hb dX10_placeFrom_31 rfl (lv_at hl 0 rfl) ?_
            refine tg_get (ci := 10) (ts := ty_MODEL) (C := RX10) (T := TX10) (N := 49) hx hb hts inX10 hown hK hw h_p0 rfl rfl 31 (by decide) (hts _ tw_1168) (fun _ h9 => h9) (ft := vR 48) rfl dX10_placeFrom_32 (fun u_6 hv_u_6 m_u_6 => ?_)
            obtain ⟨vu_6, rfl, h_vu_6⟩ := hv_u_6
            refine lv_iload hx hb dX10_placeFrom_35 (lv_at hl 5 rfl) ?_
            refine tg_iald (lo := (-2147483648)) (hi := 2147483647) hx hb hK hw h_vu_6 rfl 0 3 r_x5 (by decide) (by exact fun _ _ _ => ⟨Int.le_refl _, Int.le_refl _⟩) dX10_placeFrom_37 (fun v_7 r_v_7 m_v_7 o_v_7 => ?_)
            refine lv_iload_n hx hb dX10_placeFrom_38 rfl (lv_at hl 3 rfl) ?_
            refine lv_icmp_ne (tgt := 55) hx hb dX10_placeFrom_39 (by decide) (fun c_39 => ?_) (fun c_39 => ?_)
            · obtain ⟨v_8, e_v_8⟩ : ∃ q9 : Int32, q9 = x5 + Int32.ofInt 1 := ⟨_, rfl⟩
              obtain ⟨t_v_8, r_v_8⟩ := tq_add (lo := 1) (hi := 4) r_x5 (show RI (Int32.ofInt 1) 1 1 by unfold RI; decide +kernel) (by decide +kernel) e_v_8
              have t_v_8 : v_8.toInt = x5.toInt + 1 := t_v_8
              refine lv_iinc (v := v_8) (lv' := [(5, .int v_8), (0, .ref p0), (1, .int p1), (2, .int p2), (3, .int x3), (4, .int x4)]) hx hb dX10_placeFrom_55 hl (k := 5) rfl e_v_8.symm (by decide) rfl (fun ls hl => ?_)
              refine lv_goto (tgt := 25) hx hb dX10_placeFrom_58 (by decide) ?_
              exact ih25 x3 x4 v_8 ws _ _ ls (by have q0 := r_v_8.1; have u0 := r_v_8.2; have o0 := r_x5.1; have p0 := r_x5.2; omega) r_p1 r_p2 r_x3 r_x4 (r_v_8.to (by decide)) x_QLE_p0_p1 x_QLT_p0_p1 (by have q0 := r_x3.1; have u0 := r_x3.2; omega) hw (lv_sub hl [1, 2, 3, 4, 5, 0] rfl)
            · have r_v_7 : RI v_7 0 4 := rc_eq1 r_v_7 r_x3 (ti_eq c_39) (by decide)
              refine lv_aload_n hx hb dX10_placeFrom_42 rfl (lv_at hl 0 rfl) ?_
              refine lv_iload_n hx hb dX10_placeFrom_43 rfl (lv_at hl 1 rfl) ?_
              refine lv_iload hx hb dX10_placeFrom_44 (lv_at hl 5 rfl) ?_
              refine tk_ir (va_runV (As := [.int p1, .int x5]) (rest := []) ⟨hx, hb, hml, hown, hts⟩ (c_X10_doQuarrel l D cy z H.size Ps ws hw.1 p0 p1 x5 h_p0 (r_p1.to (by decide)) (r_x5.to (by decide))) (cwV 2 hts (gV tw_1638 tw_1640 ts_94 tw_15 tw_1641) rfl rfl rfl (by decide +kernel) ⟨Nat.le_of_ble_eq_true rfl, Nat.le_of_ble_eq_true rfl⟩) (tg_preV hw hK hSD hA (ci := 10) (q := (RX10, TX10, 49)) rfl h_p0 rfl) rfl rfl hl.1 rfl (lv_room (Nat.le_of_ble_eq_true rfl)) dX10_placeFrom_46 ⟨Nat.le_of_ble_eq_true rfl, Nat.le_of_ble_eq_true rfl⟩) hw hA (fun v_9  H locs hp_v_9 hw => ?_)
              have r_v_9 : RI v_9 0 1 := hp_v_9.1
              refine lv_if_eq (tgt := 55) hx hb dX10_placeFrom_49 (by decide) (fun c_49 => ?_) (fun c_49 => ?_)
              · have r_v_9 : RI v_9 0 0 := rc_eq1 r_v_9 rl_0 (ti_eq c_49) (by decide)
                obtain ⟨v_10, e_v_10⟩ : ∃ q9 : Int32, q9 = x5 + Int32.ofInt 1 := ⟨_, rfl⟩
                obtain ⟨t_v_10, r_v_10⟩ := tq_add (lo := 1) (hi := 4) r_x5 (show RI (Int32.ofInt 1) 1 1 by unfold RI; decide +kernel) (by decide +kernel) e_v_10
                have t_v_10 : v_10.toInt = x5.toInt + 1 := t_v_10
                refine lv_iinc (v := v_10) (lv' := [(5, .int v_10), (0, .ref p0), (1, .int p1), (2, .int p2), (3, .int x3), (4, .int x4)]) hx hb dX10_placeFrom_55 hl (k := 5) rfl e_v_10.symm (by decide) rfl (fun ls hl => ?_)
                refine lv_goto (tgt := 25) hx hb dX10_placeFrom_58 (by decide) ?_
                exact ih25 x3 x4 v_10 ws _ _ ls (by have q0 := r_v_10.1; have u0 := r_v_10.2; have o0 := r_x5.1; have p0 := r_x5.2; omega) r_p1 r_p2 r_x3 r_x4 (r_v_10.to (by decide)) x_QLE_p0_p1 x_QLT_p0_p1 (by have q0 := r_x3.1; have u0 := r_x3.2; omega) hw (lv_sub hl [1, 2, 3, 4, 5, 0] rfl)
              · have r_v_9 : RI v_9 1 1 := rc_neL r_v_9 rl_0 (ti_ne c_49) (by decide)
                refine lv_iconst (v := 0) hx hb dX10_placeFrom_52 (by decide) ?_
                refine lv_istore (lv' := [(4, .int 0), (0, .ref p0), (1, .int p1), (2, .int p2), (3, .int x3), (5, .int x5)]) hx hb dX10_placeFrom_53 hl (by decide) rfl (fun ls hl => ?_)
                obtain ⟨v_11, e_v_11⟩ : ∃ q9 : Int32, q9 = x5 + Int32.ofInt 1 := ⟨_, rfl⟩
                obtain ⟨t_v_11, r_v_11⟩ := tq_add (lo := 1) (hi := 4) r_x5 (show RI (Int32.ofInt 1) 1 1 by unfold RI; decide +kernel) (by decide +kernel) e_v_11
                have t_v_11 : v_11.toInt = x5.toInt + 1 := t_v_11
                refine lv_iinc (v := v_11) (lv' := [(5, .int v_11), (4, .int 0), (0, .ref p0), (1, .int p1), (2, .int p2), (3, .int x3)]) hx hb dX10_placeFrom_55 hl (k := 5) rfl e_v_11.symm (by decide) rfl (fun ls hl => ?_)
                refine lv_goto (tgt := 25) hx hb dX10_placeFrom_58 (by decide) ?_
                exact ih25 x3 0 v_11 ws _ _ ls (by have q0 := r_v_11.1; have u0 := r_v_11.2; have o0 := r_x5.1; have p0 := r_x5.2; omega) r_p1 r_p2 r_x3 (rl_0.to (by decide)) (r_v_11.to (by decide)) x_QLE_p0_p1 x_QLT_p0_p1 (by have q0 := r_x3.1; have u0 := r_x3.2; omega) hw (lv_sub hl [2, 3, 4, 5, 1, 0] rfl)
      intro x3 ws H locs ls hn14 r_p1 r_p2 r_x3 x_QLE_p0_p1 x_QLT_p0_p1 hw hl
      refine lv_iload_n hx hb dX10_placeFrom_14 rfl (lv_at hl 3 rfl) ?_
      refine lv_iload_n hx hb dX10_placeFrom_15 rfl (lv_at hl 2 rfl) ?_
      refine lv_icmp_ge (tgt := 95) hx hb dX10_placeFrom_16 (by decide) (fun c_16 => ?_) (fun c_16 => ?_)
      · refine lv_iconst (v := 0) hx hb dX10_placeFrom_95 (by decide) ?_
        subst hQ
        exact W.zret (v := 0) hx hb hr (rfl) (fun t ht hW => ⟨⟨0, ws, rfl, ⟨⟨rl_0.to (by decide), (fun h0 => trivial), (fun _ => trivial)⟩, hw.1, hw.2.2.2.2.1⟩, by rw [ht]; exact hw.2.1, va_K.moved hW.alike hK, hw.2.2.1⟩, hw.2.2.2.1.F ht⟩) hw.2.2.2.1.2.2 dX10_placeFrom_96
      · have r_x3 : RI x3 0 4 := rc_lt1 r_x3 r_p2 (ti_nle c_16) (by decide)
        have r_p2 : RI p2 1 5 := rc_lt2 r_x3 r_p2 (ti_nle c_16) (by decide)
        refine lv_iconst (v := 1) hx hb dX10_placeFrom_19 (by decide) ?_
        refine lv_istore (lv' := [(4, .int 1), (0, .ref p0), (1, .int p1), (2, .int p2), (3, .int x3)]) hx hb dX10_placeFrom_20 hl (by decide) rfl (fun ls hl => ?_)
        refine lv_iconst (v := 0) hx hb dX10_placeFrom_22 (by decide) ?_
        refine lv_istore (lv' := [(5, .int 0), (4, .int 1), (0, .ref p0), (1, .int p1), (2, .int p2), (3, .int x3)]) hx hb dX10_placeFrom_23 hl (by decide) rfl (fun ls hl => ?_)
        exact B25 4294967298 x3 1 0 ws _ _ ls (by have q0 := rl_0.1; have u0 := rl_0.2; omega) r_p1 r_p2 r_x3 (rl_1.to (by decide)) (rl_0.to (by decide)) x_QLE_p0_p1 x_QLT_p0_p1 (by have q0 := r_x3.1; have u0 := r_x3.2; omega) hw (lv_sub hl [2, 3, 4, 5, 1, 0] rfl)
  refine lv_iload_n hx hb dX10_placeFrom_0 rfl (lv_at hl 1 rfl) ?_
  refine lv_aload_n hx hb dX10_placeFrom_1 rfl (lv_at hl 0 rfl) ?_
  refine tg_get (ci := 10) (ts := ty_MODEL) (C := RX10) (T := TX10) (N := 49) hx hb hts inX10 hown hK hw h_p0 rfl rfl 14 (by decide) (hts _ tw_1151) (fun _ h9 => h9) (ft := vR 34) rfl dX10_placeFrom_2 (fun u_12 hv_u_12 m_u_12 => ?_)
  obtain ⟨vu_12, rfl, h_vu_12⟩ := hv_u_12
  refine lv_iconst (v := 2) hx hb dX10_placeFrom_5 (by decide) ?_
  refine tg_iald (lo := 0) (hi := 6) hx hb hK hw h_vu_12 rfl 2 2 rl_2 (by decide) (by decide +kernel) dX10_placeFrom_6 (fun v_13 r_v_13 m_v_13 o_v_13 => ?_)
  have x_P2_p0_v_13 : AX 14 34 (fun f => f 2 = v_13) Ps w0 p0 := AX.mk hw h_vu_12 rfl m_u_12 (fun f9 g9 _ => by have e9 := g9 _ _ m_v_13; have j9 : Int32.toNatClampNeg 2 = 2 := (by decide); rw [j9] at e9; exact e9)
  have g_ql : p1.toInt ≤ v_13.toInt := by obtain ⟨_, f9, _, _, h9⟩ := AX.and hw x_QLE_p0_p1 x_P2_p0_v_13; have k1 := h9.1; have k2 : f9 2 = v_13 := h9.2; rw [k2] at k1; exact k1
  have r_v_13 : RI v_13 4 6 := ⟨by have k1 := r_p1.1; have k2 := r_v_13.1; omega, r_v_13.2⟩
  refine lv_icmp_ne (tgt := 12) hx hb dX10_placeFrom_7 (by decide) (fun c_7 => ?_) (fun c_7 => ?_)
  · have r_v_13 : RI v_13 5 6 := rc_neL r_v_13 r_p1 (ti_ne c_7).symm (by decide)
    have x_QLT_p0_p1 : AX 14 34 (fun f => Int32.toInt p1 < (f 2).toInt) Ps w0 p0 := AX.imp x_P2_p0_v_13 (fun f9 h9 => by have k1 : f9 2 = v_13 := h9; show _ < _; rw [k1]; have k3 := ti_ne c_7; have k4 := g_ql; omega)
    refine lv_iconst (v := 0) hx hb dX10_placeFrom_12 (by decide) ?_
    refine lv_istore_n (lv' := [(3, .int 0), (0, .ref p0), (1, .int p1), (2, .int p2)]) hx hb dX10_placeFrom_13 rfl hl (by decide) rfl (fun ls hl => ?_)
    exact B14 4294967298 0 w0 _ _ ls (by have q0 := rl_0.1; have u0 := rl_0.2; omega) r_p1 r_p2 (rl_0.to (by decide)) x_QLE_p0_p1 x_QLT_p0_p1 hw (lv_sub hl [1, 2, 3, 0] rfl)
  · have r_v_13 : RI v_13 4 4 := rc_eq2 r_p1 r_v_13 (ti_eq c_7) (by decide)
    refine lv_iconst (v := 1) hx hb dX10_placeFrom_10 (by decide) ?_
    subst hQ
    exact W.zret (v := 1) hx hb hr (rfl) (fun t ht hW => ⟨⟨1, w0, rfl, ⟨⟨rl_1.to (by decide), (fun _ => trivial), (fun h0 => trivial)⟩, hw.1, hw.2.2.2.2.1⟩, by rw [ht]; exact hw.2.1, va_K.moved hW.alike hK, hw.2.2.1⟩, hw.2.2.2.1.F ht⟩) hw.2.2.2.1.2.2 dX10_placeFrom_11
abbrev wr_X10_placeFrom__3 : List (Nat × Nat) := []
abbrev wa_X10_placeFrom__3 : List Nat := [48]
set_option maxHeartbeats 4000000 in
set_option maxRecDepth 100000 in
theorem c_X10_placeFrom__3 (l : Launch) (D : va_G) (cy : Nat → ClassId) (z : Nat → Nat) (sz : Nat) (Ps : PSI) (w0 : va_W) (hT : HT cy GG Ps w0) (p0 : Nat) (p1 : Int32) (p2 : Int32) (h_p0 : (p0, 55) ∈ Ps) (r_p1 : RI p1 3 3) (r_p2 : RI p2 0 5) (x_QLE_p0_p1 : AX 14 34 (fun f => Int32.toInt p1 ≤ (f 2).toInt) Ps w0 p0) : Met l yX10_placeFrom (Cond.code yX10_placeFrom cX10_placeFrom 6 (some .boolean) :: gT) ({ frames := 6, cells := 0, slots := 0, locals := 1200 } : Room) (va_Pc [.ref p0, .int p1, .int p2] (PRE D cy z w0 sz)) (va_Qi (fun (r : Int32) (u : va_W) => (RI r 0 1 ∧ (r = 0 → True) ∧ (¬ r = 0 → True)) ∧ HT cy GG Ps u ∧ FR wr_X10_placeFrom__3 wa_X10_placeFrom__3 Ps w0 u) (BB D cy (va_A w0 sz) (fun (u : va_W) => u)) (va_A w0 sz)) 0 0 (va_A w0 sz) := by
  refine Met.ofW (cc := cX10_placeFrom) (maxL := 6) (ret := (some .boolean)) (by decide) rfl ?_
  intro p e s m args below meth c s₁ B hml hv
  obtain ⟨rfl, hsz, hP, hK, hD0, hSD⟩ := hv
  have hx := B.exec
  have hb := B.bytes
  have hr := B.returns
  have hlocks := B.notSynchronized
  have hts : ∀ w ∈ gT, w.before _ s = true := fun w h => atoms_spec (ws := Cond.code yX10_placeFrom cX10_placeFrom 6 (some .boolean) :: gT) B.pre w (List.mem_cons_of_mem _ h)
  have hown : s.vm.findClass RX10 = some m.cls := findClass_of_methodNamed B.named
  subst hsz
  have hD := hD0.self (sz := s.heap.size)
  generalize hAe : va_A w0 s.heap.size = A at hD hSD ⊢
  have hA : ∀ q : Nat, s.heap.size ≤ q → A q := fun q h => by rw [← hAe]; exact Or.inr h
  have hl := lv_entry ([.ref p0, .int p1, .int p2]) (n := 6) (Nat.le_of_ble_eq_true rfl)
  rw [lg_entry_eq]
  generalize (lg_sl ([.ref p0, .int p1, .int p2]) ++ List.replicate (6 - (lg_sl ([.ref p0, .int p1, .int p2])).length) Slot.unset).toArray = ls at hl ⊢
  have hl : lv_has ls 6 [(0, .ref p0), (1, .int p1), (2, .int p2)] := hl
  refine nameQ (fun Q hQ => ?_)
  have hw : WD D cy GG A s wr_X10_placeFrom__3 wa_X10_placeFrom__3 Ps w0 Ps w0 s.heap [] := ⟨hT, hP, hD, va_S.rf, FR.rf, hT.1, [], (List.append_nil _).symm⟩
  have B14 : ∀ (nf : Nat) (x3 : Int32) (ws : va_W) (H : Heap) (locs : List Loc) (ls : Array Slot), 5 - x3.toInt < (nf : Int) → RI p1 3 3 → RI p2 0 5 → RI x3 0 5 → AX 14 34 (fun f => Int32.toInt p1 ≤ (f 2).toInt) Ps ws p0 → AX 14 34 (fun f => Int32.toInt p1 < (f 2).toInt) Ps ws p0 → WD D cy GG A s wr_X10_placeFrom__3 wa_X10_placeFrom__3 Ps w0 Ps ws H locs → lv_has ls 6 [(0, .ref p0), (1, .int p1), (2, .int p2), (3, .int x3)] → W p l e (headSpec (Cond.code yX10_placeFrom cX10_placeFrom 6 (some .boolean) :: gT) ({ frames := 6, cells := 0, slots := 0, locals := 1200 } : Room)).room s m ([.ref p0, .int p1, .int p2] : List Value).toArray below meth c H locs 0 0 Q (F0 m 14 ls []) := by
    intro nf14
    induction nf14 with
    | zero =>
      intro x3 ws H locs ls hn14 r_p1 r_p2 r_x3 x_QLE_p0_p1 x_QLT_p0_p1 hw hl
      exact absurd hn14 (by have q0 := r_x3.1; have u0 := r_x3.2; omega)
    | succ nf14 ih14 =>
      have B25 : ∀ (nf : Nat) (x3 : Int32) (x4 : Int32) (x5 : Int32) (ws : va_W) (H : Heap) (locs : List Loc) (ls : Array Slot), 3 - x5.toInt < (nf : Int) → RI p1 3 3 → RI p2 1 5 → RI x3 0 4 → RI x4 0 1 → RI x5 0 3 → AX 14 34 (fun f => Int32.toInt p1 ≤ (f 2).toInt) Ps ws p0 → AX 14 34 (fun f => Int32.toInt p1 < (f 2).toInt) Ps ws p0 → 5 - x3.toInt < ((nf14 + 1 : Nat) : Int) → WD D cy GG A s wr_X10_placeFrom__3 wa_X10_placeFrom__3 Ps w0 Ps ws H locs → lv_has ls 6 [(0, .ref p0), (1, .int p1), (2, .int p2), (3, .int x3), (4, .int x4), (5, .int x5)] → W p l e (headSpec (Cond.code yX10_placeFrom cX10_placeFrom 6 (some .boolean) :: gT) ({ frames := 6, cells := 0, slots := 0, locals := 1200 } : Room)).room s m ([.ref p0, .int p1, .int p2] : List Value).toArray below meth c H locs 0 0 Q (F0 m 25 ls []) := by
        intro nf25
        induction nf25 with
        | zero =>
          intro x3 x4 x5 ws H locs ls hn25 r_p1 r_p2 r_x3 r_x4 r_x5 x_QLE_p0_p1 x_QLT_p0_p1 hn14 hw hl
          exact absurd hn25 (by have q0 := r_x5.1; have u0 := r_x5.2; omega)
        | succ nf25 ih25 =>
          intro x3 x4 x5 ws H locs ls hn25 r_p1 r_p2 r_x3 r_x4 r_x5 x_QLE_p0_p1 x_QLT_p0_p1 hn14 hw hl
          refine lv_iload hx hb dX10_placeFrom_25 (lv_at hl 5 rfl) ?_
          refine lv_iload_n hx hb dX10_placeFrom_27 rfl (lv_at hl 1 rfl) ?_
          refine lv_icmp_ge (tgt := 61) hx hb dX10_placeFrom_28 (by decide) (fun c_28 => ?_) (fun c_28 => ?_)
          · have r_x5 : RI x5 3 3 := rc_le2 r_p1 r_x5 (ti_le c_28) (by decide)
            refine lv_iload hx hb dX10_placeFrom_61 (lv_at hl 4 rfl) ?_
            refine lv_if_ne (tgt := 69) hx hb dX10_placeFrom_63 (by decide) (fun c_63 => ?_) (fun c_63 => ?_)
            · have r_x4 : RI x4 1 1 := rc_neL r_x4 rl_0 (ti_ne c_63) (by decide)
              refine lv_aload_n hx hb dX10_placeFrom_69 rfl (lv_at hl 0 rfl) ?_
              refine tg_get (ci := 10) (ts := ty_MODEL) (C := RX10) (T := TX10) (N := 49) hx hb hts inX10 hown hK hw h_p0 rfl rfl 31 (by decide) (hts _ tw_1168) (fun _ h9 => h9) (ft := vR 48) rfl dX10_placeFrom_70 (fun u_1 hv_u_1 m_u_1 => ?_)
              obtain ⟨vu_1, rfl, h_vu_1⟩ := hv_u_1
              refine lv_iload_n hx hb dX10_placeFrom_73 rfl (lv_at hl 1 rfl) ?_
              refine lv_iload_n hx hb dX10_placeFrom_74 rfl (lv_at hl 3 rfl) ?_
              refine tg_iast hx hb hK hw h_vu_1 rfl 3 3 r_p1 (by decide) r_x3 (by exact fun _ _ _ => by decide) (fun _ _ _ _ _ => trivial) (by decide) dX10_placeFrom_75 (fun ws H locs hw hF9 hU9 => ?_)
              have x_QLE_p0_p1 := AX.over hF9 x_QLE_p0_p1 (by decide)
              have x_QLT_p0_p1 := AX.over hF9 x_QLT_p0_p1 (by decide)
              refine lv_aload_n hx hb dX10_placeFrom_76 rfl (lv_at hl 0 rfl) ?_
              refine lv_iload_n hx hb dX10_placeFrom_77 rfl (lv_at hl 1 rfl) ?_
              refine lv_iconst (v := 1) hx hb dX10_placeFrom_78 (by decide) ?_
              refine lv_iadd hx hb dX10_placeFrom_79 (lv_topi (fun v_2 e_v_2 => ?_))
              obtain ⟨t_v_2, r_v_2⟩ := tq_add (lo := 4) (hi := 4) r_p1 rl_1 (by decide +kernel) e_v_2
              have t_v_2 : v_2.toInt = p1.toInt + 1 := t_v_2
              refine lv_iload_n hx hb dX10_placeFrom_80 rfl (lv_at hl 2 rfl) ?_
              have x_QLE_p0_v_2 : AX 14 34 (fun f => Int32.toInt v_2 ≤ (f 2).toInt) Ps ws p0 := AX.imp x_QLT_p0_p1 (fun f9 h9 => by have k2 := t_v_2; show _ ≤ _; have k3 : p1.toInt < (f9 2).toInt := h9; omega)
              refine tk_i (va_runV (As := [.int v_2, .int p2]) (rest := []) ⟨hx, hb, hml, hown, hts⟩ (c_X10_placeFrom__4 l D cy z H.size Ps ws hw.1 p0 v_2 p2 h_p0 r_v_2 (r_p2.to (by decide)) x_QLE_p0_v_2) (cwV 2 hts (gV tw_1634 tw_1636 ts_93 tw_15 tw_1637) rfl rfl rfl (by decide +kernel) ⟨Nat.le_of_ble_eq_true rfl, Nat.le_of_ble_eq_true rfl⟩) (tg_preV hw hK hSD hA (ci := 10) (q := (RX10, TX10, 49)) rfl h_p0 rfl) rfl rfl hl.1 rfl (lv_room (Nat.le_of_ble_eq_true rfl)) dX10_placeFrom_81 ⟨Nat.le_of_ble_eq_true rfl, Nat.le_of_ble_eq_true rfl⟩) hw hA ⟨by decide, by decide⟩ (fun v_3 ws H locs hp_v_3 hw hF9 => ?_)
              have x_QLE_p0_p1 := AX.over hF9 x_QLE_p0_p1 (by decide)
              have x_QLT_p0_p1 := AX.over hF9 x_QLT_p0_p1 (by decide)
              have x_QLE_p0_v_2 := AX.over hF9 x_QLE_p0_v_2 (by decide)
              have r_v_3 : RI v_3 0 1 := hp_v_3.1
              refine lv_if_eq (tgt := 89) hx hb dX10_placeFrom_84 (by decide) (fun c_84 => ?_) (fun c_84 => ?_)
              · have r_v_3 : RI v_3 0 0 := rc_eq1 r_v_3 rl_0 (ti_eq c_84) (by decide)
                obtain ⟨v_4, e_v_4⟩ : ∃ q9 : Int32, q9 = x3 + Int32.ofInt 1 := ⟨_, rfl⟩
                obtain ⟨t_v_4, r_v_4⟩ := tq_add (lo := 1) (hi := 5) r_x3 (show RI (Int32.ofInt 1) 1 1 by unfold RI; decide +kernel) (by decide +kernel) e_v_4
                have t_v_4 : v_4.toInt = x3.toInt + 1 := t_v_4
                refine lv_iinc (v := v_4) (lv' := [(3, .int v_4), (0, .ref p0), (1, .int p1), (2, .int p2), (4, .int x4), (5, .int x5)]) hx hb dX10_placeFrom_89 hl (k := 3) rfl e_v_4.symm (by decide) rfl (fun ls hl => ?_)
                refine lv_goto (tgt := 14) hx hb dX10_placeFrom_92 (by decide) ?_
                exact ih14 v_4 ws _ _ ls (by have q0 := r_v_4.1; have u0 := r_v_4.2; have o0 := r_x3.1; have p0 := r_x3.2; omega) r_p1 (r_p2.to (by decide)) (r_v_4.to (by decide)) x_QLE_p0_p1 x_QLT_p0_p1 hw (lv_sub hl [1, 2, 3, 0] rfl)
              · have r_v_3 : RI v_3 1 1 := rc_neL r_v_3 rl_0 (ti_ne c_84) (by decide)
                refine lv_iconst (v := 1) hx hb dX10_placeFrom_87 (by decide) ?_
                subst hQ
                exact W.zret (v := 1) hx hb hr (rfl) (fun t ht hW => ⟨⟨1, ws, rfl, ⟨⟨rl_1.to (by decide), (fun _ => trivial), (fun h0 => trivial)⟩, hw.1, hw.2.2.2.2.1⟩, by rw [ht]; exact hw.2.1, va_K.moved hW.alike hK, hw.2.2.1⟩, hw.2.2.2.1.F ht⟩) hw.2.2.2.1.2.2 dX10_placeFrom_88
            · have r_x4 : RI x4 0 0 := rc_eq1 r_x4 rl_0 (ti_eq c_63) (by decide)
              refine lv_goto (tgt := 89) hx hb dX10_placeFrom_66 (by decide) ?_
              obtain ⟨v_5, e_v_5⟩ : ∃ q9 : Int32, q9 = x3 + Int32.ofInt 1 := ⟨_, rfl⟩
              obtain ⟨t_v_5, r_v_5⟩ := tq_add (lo := 1) (hi := 5) r_x3 (show RI (Int32.ofInt 1) 1 1 by unfold RI; decide +kernel) (by decide +kernel) e_v_5
              have t_v_5 : v_5.toInt = x3.toInt + 1 := t_v_5
              refine lv_iinc (v := v_5) (lv' := [(3, .int v_5), (0, .ref p0), (1, .int p1), (2, .int p2), (4, .int x4), (5, .int x5)]) hx hb dX10_placeFrom_89 hl (k := 3) rfl e_v_5.symm (by decide) rfl (fun ls hl => ?_)
              refine lv_goto (tgt := 14) hx hb dX10_placeFrom_92 (by decide) ?_
              exact ih14 v_5 ws _ _ ls (by have q0 := r_v_5.1; have u0 := r_v_5.2; have o0 := r_x3.1; have p0 := r_x3.2; omega) r_p1 (r_p2.to (by decide)) (r_v_5.to (by decide)) x_QLE_p0_p1 x_QLT_p0_p1 hw (lv_sub hl [1, 2, 3, 0] rfl)
          · have r_x5 : RI x5 0 2 := rc_lt1 r_x5 r_p1 (ti_nle c_28) (by decide)
            refine lv_aload_n hx hb dX10_placeFrom_31 rfl (lv_at hl 0 rfl) ?_
            refine tg_get (ci := 10) (ts := ty_MODEL) (C := RX10) (T := TX10) (N := 49) hx hb hts inX10 hown hK hw h_p0 rfl rfl 31 (by decide) (hts _ tw_1168) (fun _ h9 => h9) (ft := vR 48) rfl dX10_placeFrom_32 (fun u_6 hv_u_6 m_u_6 => ?_)
            obtain ⟨vu_6, rfl, h_vu_6⟩ := hv_u_6
            refine lv_iload hx hb dX10_placeFrom_35 (lv_at hl 5 rfl) ?_
            refine tg_iald (lo := (-2147483648)) (hi := 2147483647) hx hb hK hw h_vu_6 rfl 0 2 r_x5 (by decide) (by exact fun _ _ _ => ⟨Int.le_refl _, Int.le_refl _⟩) dX10_placeFrom_37 (fun v_7 r_v_7 m_v_7 o_v_7 => ?_)
            refine lv_iload_n hx hb dX10_placeFrom_38 rfl (lv_at hl 3 rfl) ?_
            refine lv_icmp_ne (tgt := 55) hx hb dX10_placeFrom_39 (by decide) (fun c_39 => ?_) (fun c_39 => ?_)
            · obtain ⟨v_8, e_v_8⟩ : ∃ q9 : Int32, q9 = x5 + Int32.ofInt 1 := ⟨_, rfl⟩
              obtain ⟨t_v_8, r_v_8⟩ := tq_add (lo := 1) (hi := 3) r_x5 (show RI (Int32.ofInt 1) 1 1 by unfold RI; decide +kernel) (by decide +kernel) e_v_8
              have t_v_8 : v_8.toInt = x5.toInt + 1 := t_v_8
              refine lv_iinc (v := v_8) (lv' := [(5, .int v_8), (0, .ref p0), (1, .int p1), (2, .int p2), (3, .int x3), (4, .int x4)]) hx hb dX10_placeFrom_55 hl (k := 5) rfl e_v_8.symm (by decide) rfl (fun ls hl => ?_)
              refine lv_goto (tgt := 25) hx hb dX10_placeFrom_58 (by decide) ?_
              exact ih25 x3 x4 v_8 ws _ _ ls (by have q0 := r_v_8.1; have u0 := r_v_8.2; have o0 := r_x5.1; have p0 := r_x5.2; omega) r_p1 r_p2 r_x3 r_x4 (r_v_8.to (by decide)) x_QLE_p0_p1 x_QLT_p0_p1 (by have q0 := r_x3.1; have u0 := r_x3.2; omega) hw (lv_sub hl [1, 2, 3, 4, 5, 0] rfl)
            · have r_v_7 : RI v_7 0 4 := rc_eq1 r_v_7 r_x3 (ti_eq c_39) (by decide)
              refine lv_aload_n hx hb dX10_placeFrom_42 rfl (lv_at hl 0 rfl) ?_
              refine lv_iload_n hx hb dX10_placeFrom_43 rfl (lv_at hl 1 rfl) ?_
              refine lv_iload hx hb dX10_placeFrom_44 (lv_at hl 5 rfl) ?_
              refine tk_ir (va_runV (As := [.int p1, .int x5]) (rest := []) ⟨hx, hb, hml, hown, hts⟩ (c_X10_doQuarrel l D cy z H.size Ps ws hw.1 p0 p1 x5 h_p0 (r_p1.to (by decide)) (r_x5.to (by decide))) (cwV 2 hts (gV tw_1638 tw_1640 ts_94 tw_15 tw_1641) rfl rfl rfl (by decide +kernel) ⟨Nat.le_of_ble_eq_true rfl, Nat.le_of_ble_eq_true rfl⟩) (tg_preV hw hK hSD hA (ci := 10) (q := (RX10, TX10, 49)) rfl h_p0 rfl) rfl rfl hl.1 rfl (lv_room (Nat.le_of_ble_eq_true rfl)) dX10_placeFrom_46 ⟨Nat.le_of_ble_eq_true rfl, Nat.le_of_ble_eq_true rfl⟩) hw hA (fun v_9  H locs hp_v_9 hw => ?_)
              have r_v_9 : RI v_9 0 1 := hp_v_9.1
              refine lv_if_eq (tgt := 55) hx hb dX10_placeFrom_49 (by decide) (fun c_49 => ?_) (fun c_49 => ?_)
              · have r_v_9 : RI v_9 0 0 := rc_eq1 r_v_9 rl_0 (ti_eq c_49) (by decide)
                obtain ⟨v_10, e_v_10⟩ : ∃ q9 : Int32, q9 = x5 + Int32.ofInt 1 := ⟨_, rfl⟩
                obtain ⟨t_v_10, r_v_10⟩ := tq_add (lo := 1) (hi := 3) r_x5 (show RI (Int32.ofInt 1) 1 1 by unfold RI; decide +kernel) (by decide +kernel) e_v_10
                have t_v_10 : v_10.toInt = x5.toInt + 1 := t_v_10
                refine lv_iinc (v := v_10) (lv' := [(5, .int v_10), (0, .ref p0), (1, .int p1), (2, .int p2), (3, .int x3), (4, .int x4)]) hx hb dX10_placeFrom_55 hl (k := 5) rfl e_v_10.symm (by decide) rfl (fun ls hl => ?_)
                refine lv_goto (tgt := 25) hx hb dX10_placeFrom_58 (by decide) ?_
                exact ih25 x3 x4 v_10 ws _ _ ls (by have q0 := r_v_10.1; have u0 := r_v_10.2; have o0 := r_x5.1; have p0 := r_x5.2; omega) r_p1 r_p2 r_x3 r_x4 (r_v_10.to (by decide)) x_QLE_p0_p1 x_QLT_p0_p1 (by have q0 := r_x3.1; have u0 := r_x3.2; omega) hw (lv_sub hl [1, 2, 3, 4, 5, 0] rfl)
              · have r_v_9 : RI v_9 1 1 := rc_neL r_v_9 rl_0 (ti_ne c_49) (by decide)
                refine lv_iconst (v := 0) hx hb dX10_placeFrom_52 (by decide) ?_
                refine lv_istore (lv' := [(4, .int 0), (0, .ref p0), (1, .int p1), (2, .int p2), (3, .int x3), (5, .int x5)]) hx hb dX10_placeFrom_53 hl (by decide) rfl (fun ls hl => ?_)
                obtain ⟨v_11, e_v_11⟩ : ∃ q9 : Int32, q9 = x5 + Int32.ofInt 1 := ⟨_, rfl⟩
                obtain ⟨t_v_11, r_v_11⟩ := tq_add (lo := 1) (hi := 3) r_x5 (show RI (Int32.ofInt 1) 1 1 by unfold RI; decide +kernel) (by decide +kernel) e_v_11
                have t_v_11 : v_11.toInt = x5.toInt + 1 := t_v_11
                refine lv_iinc (v := v_11) (lv' := [(5, .int v_11), (4, .int 0), (0, .ref p0), (1, .int p1), (2, .int p2), (3, .int x3)]) hx hb dX10_placeFrom_55 hl (k := 5) rfl e_v_11.symm (by decide) rfl (fun ls hl => ?_)
                refine lv_goto (tgt := 25) hx hb dX10_placeFrom_58 (by decide) ?_
                exact ih25 x3 0 v_11 ws _ _ ls (by have q0 := r_v_11.1; have u0 := r_v_11.2; have o0 := r_x5.1; have p0 := r_x5.2; omega) r_p1 r_p2 r_x3 (rl_0.to (by decide)) (r_v_11.to (by decide)) x_QLE_p0_p1 x_QLT_p0_p1 (by have q0 := r_x3.1; have u0 := r_x3.2; omega) hw (lv_sub hl [2, 3, 4, 5, 1, 0] rfl)
      intro x3 ws H locs ls hn14 r_p1 r_p2 r_x3 x_QLE_p0_p1 x_QLT_p0_p1 hw hl
      refine lv_iload_n hx hb dX10_placeFrom_14 rfl (lv_at hl 3 rfl) ?_
      refine lv_iload_n hx hb dX10_placeFrom_15 rfl (lv_at hl 2 rfl) ?_
      refine lv_icmp_ge (tgt := 95) hx hb dX10_placeFrom_16 (by decide) (fun c_16 => ?_) (fun c_16 => ?_)
      · refine lv_iconst (v := 0) hx hb dX10_placeFrom_95 (by decide) ?_
        subst hQ
        exact W.zret (v := 0) hx hb hr (rfl) (fun t ht hW => ⟨⟨0, ws, rfl, ⟨⟨rl_0.to (by decide), (fun h0 => trivial), (fun _ => trivial)⟩, hw.1, hw.2.2.2.2.1⟩, by rw [ht]; exact hw.2.1, va_K.moved hW.alike hK, hw.2.2.1⟩, hw.2.2.2.1.F ht⟩) hw.2.2.2.1.2.2 dX10_placeFrom_96
      · have r_x3 : RI x3 0 4 := rc_lt1 r_x3 r_p2 (ti_nle c_16) (by decide)
        have r_p2 : RI p2 1 5 := rc_lt2 r_x3 r_p2 (ti_nle c_16) (by decide)
        refine lv_iconst (v := 1) hx hb dX10_placeFrom_19 (by decide) ?_
        refine lv_istore (lv' := [(4, .int 1), (0, .ref p0), (1, .int p1), (2, .int p2), (3, .int x3)]) hx hb dX10_placeFrom_20 hl (by decide) rfl (fun ls hl => ?_)
        refine lv_iconst (v := 0) hx hb dX10_placeFrom_22 (by decide) ?_
        refine lv_istore (lv' := [(5, .int 0), (4, .int 1), (0, .ref p0), (1, .int p1), (2, .int p2), (3, .int x3)]) hx hb dX10_placeFrom_23 hl (by decide) rfl (fun ls hl => ?_)
        exact B25 4294967298 x3 1 0 ws _ _ ls (by have q0 := rl_0.1; have u0 := rl_0.2; omega) r_p1 r_p2 r_x3 (rl_1.to (by decide)) (rl_0.to (by decide)) x_QLE_p0_p1 x_QLT_p0_p1 (by have q0 := r_x3.1; have u0 := r_x3.2; omega) hw (lv_sub hl [2, 3, 4, 5, 1, 0] rfl)
  refine lv_iload_n hx hb dX10_placeFrom_0 rfl (lv_at hl 1 rfl) ?_
  refine lv_aload_n hx hb dX10_placeFrom_1 rfl (lv_at hl 0 rfl) ?_
  refine tg_get (ci := 10) (ts := ty_MODEL) (C := RX10) (T := TX10) (N := 49) hx hb hts inX10 hown hK hw h_p0 rfl rfl 14 (by decide) (hts _ tw_1151) (fun _ h9 => h9) (ft := vR 34) rfl dX10_placeFrom_2 (fun u_12 hv_u_12 m_u_12 => ?_)
  obtain ⟨vu_12, rfl, h_vu_12⟩ := hv_u_12
  refine lv_iconst (v := 2) hx hb dX10_placeFrom_5 (by decide) ?_
  refine tg_iald (lo := 0) (hi := 6) hx hb hK hw h_vu_12 rfl 2 2 rl_2 (by decide) (by decide +kernel) dX10_placeFrom_6 (fun v_13 r_v_13 m_v_13 o_v_13 => ?_)
  have x_P2_p0_v_13 : AX 14 34 (fun f => f 2 = v_13) Ps w0 p0 := AX.mk hw h_vu_12 rfl m_u_12 (fun f9 g9 _ => by have e9 := g9 _ _ m_v_13; have j9 : Int32.toNatClampNeg 2 = 2 := (by decide); rw [j9] at e9; exact e9)
  have g_ql : p1.toInt ≤ v_13.toInt := by obtain ⟨_, f9, _, _, h9⟩ := AX.and hw x_QLE_p0_p1 x_P2_p0_v_13; have k1 := h9.1; have k2 : f9 2 = v_13 := h9.2; rw [k2] at k1; exact k1
  have r_v_13 : RI v_13 3 6 := ⟨by have k1 := r_p1.1; have k2 := r_v_13.1; omega, r_v_13.2⟩
  refine lv_icmp_ne (tgt := 12) hx hb dX10_placeFrom_7 (by decide) (fun c_7 => ?_) (fun c_7 => ?_)
  · have r_v_13 : RI v_13 4 6 := rc_neL r_v_13 r_p1 (ti_ne c_7).symm (by decide)
    have x_QLT_p0_p1 : AX 14 34 (fun f => Int32.toInt p1 < (f 2).toInt) Ps w0 p0 := AX.imp x_P2_p0_v_13 (fun f9 h9 => by have k1 : f9 2 = v_13 := h9; show _ < _; rw [k1]; have k3 := ti_ne c_7; have k4 := g_ql; omega)
    refine lv_iconst (v := 0) hx hb dX10_placeFrom_12 (by decide) ?_
    refine lv_istore_n (lv' := [(3, .int 0), (0, .ref p0), (1, .int p1), (2, .int p2)]) hx hb dX10_placeFrom_13 rfl hl (by decide) rfl (fun ls hl => ?_)
    exact B14 4294967298 0 w0 _ _ ls (by have q0 := rl_0.1; have u0 := rl_0.2; omega) r_p1 r_p2 (rl_0.to (by decide)) x_QLE_p0_p1 x_QLT_p0_p1 hw (lv_sub hl [1, 2, 3, 0] rfl)
  · have r_v_13 : RI v_13 3 3 := rc_eq2 r_p1 r_v_13 (ti_eq c_7) (by decide)
    refine lv_iconst (v := 1) hx hb dX10_placeFrom_10 (by decide) ?_
    subst hQ
    exact W.zret (v := 1) hx hb hr (rfl) (fun t ht hW => ⟨⟨1, w0, rfl, ⟨⟨rl_1.to (by decide), (fun _ => trivial), (fun h0 => trivial)⟩, hw.1, hw.2.2.2.2.1⟩, by rw [ht]; exact hw.2.1, va_K.moved hW.alike hK, hw.2.2.1⟩, hw.2.2.2.1.F ht⟩) hw.2.2.2.1.2.2 dX10_placeFrom_11
abbrev wr_X10_placeFrom__2 : List (Nat × Nat) := []
abbrev wa_X10_placeFrom__2 : List Nat := [48]
set_option maxHeartbeats 4000000 in
set_option maxRecDepth 100000 in
theorem c_X10_placeFrom__2 (l : Launch) (D : va_G) (cy : Nat → ClassId) (z : Nat → Nat) (sz : Nat) (Ps : PSI) (w0 : va_W) (hT : HT cy GG Ps w0) (p0 : Nat) (p1 : Int32) (p2 : Int32) (h_p0 : (p0, 55) ∈ Ps) (r_p1 : RI p1 2 2) (r_p2 : RI p2 0 5) (x_QLE_p0_p1 : AX 14 34 (fun f => Int32.toInt p1 ≤ (f 2).toInt) Ps w0 p0) : Met l yX10_placeFrom (Cond.code yX10_placeFrom cX10_placeFrom 6 (some .boolean) :: gT) ({ frames := 7, cells := 0, slots := 0, locals := 1400 } : Room) (va_Pc [.ref p0, .int p1, .int p2] (PRE D cy z w0 sz)) (va_Qi (fun (r : Int32) (u : va_W) => (RI r 0 1 ∧ (r = 0 → True) ∧ (¬ r = 0 → True)) ∧ HT cy GG Ps u ∧ FR wr_X10_placeFrom__2 wa_X10_placeFrom__2 Ps w0 u) (BB D cy (va_A w0 sz) (fun (u : va_W) => u)) (va_A w0 sz)) 0 0 (va_A w0 sz) := by
  refine Met.ofW (cc := cX10_placeFrom) (maxL := 6) (ret := (some .boolean)) (by decide) rfl ?_
  intro p e s m args below meth c s₁ B hml hv
  obtain ⟨rfl, hsz, hP, hK, hD0, hSD⟩ := hv
  have hx := B.exec
  have hb := B.bytes
  have hr := B.returns
  have hlocks := B.notSynchronized
  have hts : ∀ w ∈ gT, w.before _ s = true := fun w h => atoms_spec (ws := Cond.code yX10_placeFrom cX10_placeFrom 6 (some .boolean) :: gT) B.pre w (List.mem_cons_of_mem _ h)
  have hown : s.vm.findClass RX10 = some m.cls := findClass_of_methodNamed B.named
  subst hsz
  have hD := hD0.self (sz := s.heap.size)
  generalize hAe : va_A w0 s.heap.size = A at hD hSD ⊢
  have hA : ∀ q : Nat, s.heap.size ≤ q → A q := fun q h => by rw [← hAe]; exact Or.inr h
  have hl := lv_entry ([.ref p0, .int p1, .int p2]) (n := 6) (Nat.le_of_ble_eq_true rfl)
  rw [lg_entry_eq]
  generalize (lg_sl ([.ref p0, .int p1, .int p2]) ++ List.replicate (6 - (lg_sl ([.ref p0, .int p1, .int p2])).length) Slot.unset).toArray = ls at hl ⊢
  have hl : lv_has ls 6 [(0, .ref p0), (1, .int p1), (2, .int p2)] := hl
  refine nameQ (fun Q hQ => ?_)
  have hw : WD D cy GG A s wr_X10_placeFrom__2 wa_X10_placeFrom__2 Ps w0 Ps w0 s.heap [] := ⟨hT, hP, hD, va_S.rf, FR.rf, hT.1, [], (List.append_nil _).symm⟩
  have B14 : ∀ (nf : Nat) (x3 : Int32) (ws : va_W) (H : Heap) (locs : List Loc) (ls : Array Slot), 5 - x3.toInt < (nf : Int) → RI p1 2 2 → RI p2 0 5 → RI x3 0 5 → AX 14 34 (fun f => Int32.toInt p1 ≤ (f 2).toInt) Ps ws p0 → AX 14 34 (fun f => Int32.toInt p1 < (f 2).toInt) Ps ws p0 → WD D cy GG A s wr_X10_placeFrom__2 wa_X10_placeFrom__2 Ps w0 Ps ws H locs → lv_has ls 6 [(0, .ref p0), (1, .int p1), (2, .int p2), (3, .int x3)] → W p l e (headSpec (Cond.code yX10_placeFrom cX10_placeFrom 6 (some .boolean) :: gT) ({ frames := 7, cells := 0, slots := 0, locals := 1400 } : Room)).room s m ([.ref p0, .int p1, .int p2] : List Value).toArray below meth c H locs 0 0 Q (F0 m 14 ls []) := by
    intro nf14
    induction nf14 with
    | zero =>
      intro x3 ws H locs ls hn14 r_p1 r_p2 r_x3 x_QLE_p0_p1 x_QLT_p0_p1 hw hl
      exact absurd hn14 (by have q0 := r_x3.1; have u0 := r_x3.2; omega)
    | succ nf14 ih14 =>
      have B25 : ∀ (nf : Nat) (x3 : Int32) (x4 : Int32) (x5 : Int32) (ws : va_W) (H : Heap) (locs : List Loc) (ls : Array Slot), 2 - x5.toInt < (nf : Int) → RI p1 2 2 → RI p2 1 5 → RI x3 0 4 → RI x4 0 1 → RI x5 0 2 → AX 14 34 (fun f => Int32.toInt p1 ≤ (f 2).toInt) Ps ws p0 → AX 14 34 (fun f => Int32.toInt p1 < (f 2).toInt) Ps ws p0 → 5 - x3.toInt < ((nf14 + 1 : Nat) : Int) → WD D cy GG A s wr_X10_placeFrom__2 wa_X10_placeFrom__2 Ps w0 Ps ws H locs → lv_has ls 6 [(0, .ref p0), (1, .int p1), (2, .int p2), (3, .int x3), (4, .int x4), (5, .int x5)] → W p l e (headSpec (Cond.code yX10_placeFrom cX10_placeFrom 6 (some .boolean) :: gT) ({ frames := 7, cells := 0, slots := 0, locals := 1400 } : Room)).room s m ([.ref p0, .int p1, .int p2] : List Value).toArray below meth c H locs 0 0 Q (F0 m 25 ls []) := by
        intro nf25
        induction nf25 with
        | zero =>
          intro x3 x4 x5 ws H locs ls hn25 r_p1 r_p2 r_x3 r_x4 r_x5 x_QLE_p0_p1 x_QLT_p0_p1 hn14 hw hl
          exact absurd hn25 (by have q0 := r_x5.1; have u0 := r_x5.2; omega)
        | succ nf25 ih25 =>
          intro x3 x4 x5 ws H locs ls hn25 r_p1 r_p2 r_x3 r_x4 r_x5 x_QLE_p0_p1 x_QLT_p0_p1 hn14 hw hl
          refine lv_iload hx hb dX10_placeFrom_25 (lv_at hl 5 rfl) ?_
          refine lv_iload_n hx hb dX10_placeFrom_27 rfl (lv_at hl 1 rfl) ?_
          refine lv_icmp_ge (tgt := 61) hx hb dX10_placeFrom_28 (by decide) (fun c_28 => ?_) (fun c_28 => ?_)
          · have r_x5 : RI x5 2 2 := rc_le2 r_p1 r_x5 (ti_le c_28) (by decide)
            refine lv_iload hx hb dX10_placeFrom_61 (lv_at hl 4 rfl) ?_
            refine lv_if_ne (tgt := 69) hx hb dX10_placeFrom_63 (by decide) (fun c_63 => ?_) (fun c_63 => ?_)
            · have r_x4 : RI x4 1 1 := rc_neL r_x4 rl_0 (ti_ne c_63) (by decide)
              refine lv_aload_n hx hb dX10_placeFrom_69 rfl (lv_at hl 0 rfl) ?_
              refine tg_get (ci := 10) (ts := ty_MODEL) (C := RX10) (T := TX10) (N := 49) hx hb hts inX10 hown hK hw h_p0 rfl rfl 31 (by decide) (hts _ tw_1168) (fun _ h9 => h9) (ft := vR 48) rfl dX10_placeFrom_70 (fun u_1 hv_u_1 m_u_1 => ?_)
              obtain ⟨vu_1, rfl, h_vu_1⟩ := hv_u_1
              refine lv_iload_n hx hb dX10_placeFrom_73 rfl (lv_at hl 1 rfl) ?_
              refine lv_iload_n hx hb dX10_placeFrom_74 rfl (lv_at hl 3 rfl) ?_
              refine tg_iast hx hb hK hw h_vu_1 rfl 2 2 r_p1 (by decide) r_x3 (by exact fun _ _ _ => by decide) (fun _ _ _ _ _ => trivial) (by decide) dX10_placeFrom_75 (fun ws H locs hw hF9 hU9 => ?_)
              have x_QLE_p0_p1 := AX.over hF9 x_QLE_p0_p1 (by decide)
              have x_QLT_p0_p1 := AX.over hF9 x_QLT_p0_p1 (by decide)
              refine lv_aload_n hx hb dX10_placeFrom_76 rfl (lv_at hl 0 rfl) ?_
              refine lv_iload_n hx hb dX10_placeFrom_77 rfl (lv_at hl 1 rfl) ?_
              refine lv_iconst (v := 1) hx hb dX10_placeFrom_78 (by decide) ?_
              refine lv_iadd hx hb dX10_placeFrom_79 (lv_topi (fun v_2 e_v_2 => ?_))
              obtain ⟨t_v_2, r_v_2⟩ := tq_add (lo := 3) (hi := 3) r_p1 rl_1 (by decide +kernel) e_v_2
              have t_v_2 : v_2.toInt = p1.toInt + 1 := t_v_2
              refine lv_iload_n hx hb dX10_placeFrom_80 rfl (lv_at hl 2 rfl) ?_
              have x_QLE_p0_v_2 : AX 14 34 (fun f => Int32.toInt v_2 ≤ (f 2).toInt) Ps ws p0 := AX.imp x_QLT_p0_p1 (fun f9 h9 => by have k2 := t_v_2; show _ ≤ _; have k3 : p1.toInt < (f9 2).toInt := h9; omega)
              refine tk_i (va_runV (As := [.int v_2, .int p2]) (rest := []) ⟨hx, hb, hml, hown, hts⟩ (c_X10_placeFrom__3 l D cy z H.size Ps ws hw.1 p0 v_2 p2 h_p0 r_v_2 (r_p2.to (by decide)) x_QLE_p0_v_2) (cwV 2 hts (gV tw_1634 tw_1636 ts_93 tw_15 tw_1637) rfl rfl rfl (by decide +kernel) ⟨Nat.le_of_ble_eq_true rfl, Nat.le_of_ble_eq_true rfl⟩) (tg_preV hw hK hSD hA (ci := 10) (q := (RX10, TX10, 49)) rfl h_p0 rfl) rfl rfl hl.1 rfl (lv_room (Nat.le_of_ble_eq_true rfl)) dX10_placeFrom_81 ⟨Nat.le_of_ble_eq_true rfl, Nat.le_of_ble_eq_true rfl⟩) hw hA ⟨by decide, by decide⟩ (fun v_3 ws H locs hp_v_3 hw hF9 => ?_)
              have x_QLE_p0_p1 := AX.over hF9 x_QLE_p0_p1 (by decide)
              have x_QLT_p0_p1 := AX.over hF9 x_QLT_p0_p1 (by decide)
              have x_QLE_p0_v_2 := AX.over hF9 x_QLE_p0_v_2 (by decide)
              have r_v_3 : RI v_3 0 1 := hp_v_3.1
              refine lv_if_eq (tgt := 89) hx hb dX10_placeFrom_84 (by decide) (fun c_84 => ?_) (fun c_84 => ?_)
              · have r_v_3 : RI v_3 0 0 := rc_eq1 r_v_3 rl_0 (ti_eq c_84) (by decide)
                obtain ⟨v_4, e_v_4⟩ : ∃ q9 : Int32, q9 = x3 + Int32.ofInt 1 := ⟨_, rfl⟩
                obtain ⟨t_v_4, r_v_4⟩ := tq_add (lo := 1) (hi := 5) r_x3 (show RI (Int32.ofInt 1) 1 1 by unfold RI; decide +kernel) (by decide +kernel) e_v_4
                have t_v_4 : v_4.toInt = x3.toInt + 1 := t_v_4
                refine lv_iinc (v := v_4) (lv' := [(3, .int v_4), (0, .ref p0), (1, .int p1), (2, .int p2), (4, .int x4), (5, .int x5)]) hx hb dX10_placeFrom_89 hl (k := 3) rfl e_v_4.symm (by decide) rfl (fun ls hl => ?_)
                refine lv_goto (tgt := 14) hx hb dX10_placeFrom_92 (by decide) ?_
                exact ih14 v_4 ws _ _ ls (by have q0 := r_v_4.1; have u0 := r_v_4.2; have o0 := r_x3.1; have p0 := r_x3.2; omega) r_p1 (r_p2.to (by decide)) (r_v_4.to (by decide)) x_QLE_p0_p1 x_QLT_p0_p1 hw (lv_sub hl [1, 2, 3, 0] rfl)
              · have r_v_3 : RI v_3 1 1 := rc_neL r_v_3 rl_0 (ti_ne c_84) (by decide)
                refine lv_iconst (v := 1) hx hb dX10_placeFrom_87 (by decide) ?_
                subst hQ
                exact W.zret (v := 1) hx hb hr (rfl) (fun t ht hW => ⟨⟨1, ws, rfl, ⟨⟨rl_1.to (by decide), (fun _ => trivial), (fun h0 => trivial)⟩, hw.1, hw.2.2.2.2.1⟩, by rw [ht]; exact hw.2.1, va_K.moved hW.alike hK, hw.2.2.1⟩, hw.2.2.2.1.F ht⟩) hw.2.2.2.1.2.2 dX10_placeFrom_88
            · have r_x4 : RI x4 0 0 := rc_eq1 r_x4 rl_0 (ti_eq c_63) (by decide)
              refine lv_goto (tgt := 89) hx hb dX10_placeFrom_66 (by decide) ?_
              obtain ⟨v_5, e_v_5⟩ : ∃ q9 : Int32, q9 = x3 + Int32.ofInt 1 := ⟨_, rfl⟩
              obtain ⟨t_v_5, r_v_5⟩ := tq_add (lo := 1) (hi := 5) r_x3 (show RI (Int32.ofInt 1) 1 1 by unfold RI; decide +kernel) (by decide +kernel) e_v_5
              have t_v_5 : v_5.toInt = x3.toInt + 1 := t_v_5
              refine lv_iinc (v := v_5) (lv' := [(3, .int v_5), (0, .ref p0), (1, .int p1), (2, .int p2), (4, .int x4), (5, .int x5)]) hx hb dX10_placeFrom_89 hl (k := 3) rfl e_v_5.symm (by decide) rfl (fun ls hl => ?_)
              refine lv_goto (tgt := 14) hx hb dX10_placeFrom_92 (by decide) ?_
              exact ih14 v_5 ws _ _ ls (by have q0 := r_v_5.1; have u0 := r_v_5.2; have o0 := r_x3.1; have p0 := r_x3.2; omega) r_p1 (r_p2.to (by decide)) (r_v_5.to (by decide)) x_QLE_p0_p1 x_QLT_p0_p1 hw (lv_sub hl [1, 2, 3, 0] rfl)
          · have r_x5 : RI x5 0 1 := rc_lt1 r_x5 r_p1 (ti_nle c_28) (by decide)
            refine lv_aload_n hx hb dX10_placeFrom_31 rfl (lv_at hl 0 rfl) ?_
            refine tg_get (ci := 10) (ts := ty_MODEL) (C := RX10) (T := TX10) (N := 49) hx hb hts inX10 hown hK hw h_p0 rfl rfl 31 (by decide) (hts _ tw_1168) (fun _ h9 => h9) (ft := vR 48) rfl dX10_placeFrom_32 (fun u_6 hv_u_6 m_u_6 => ?_)
            obtain ⟨vu_6, rfl, h_vu_6⟩ := hv_u_6
            refine lv_iload hx hb dX10_placeFrom_35 (lv_at hl 5 rfl) ?_
            refine tg_iald (lo := (-2147483648)) (hi := 2147483647) hx hb hK hw h_vu_6 rfl 0 1 r_x5 (by decide) (by exact fun _ _ _ => ⟨Int.le_refl _, Int.le_refl _⟩) dX10_placeFrom_37 (fun v_7 r_v_7 m_v_7 o_v_7 => ?_)
            refine lv_iload_n hx hb dX10_placeFrom_38 rfl (lv_at hl 3 rfl) ?_
            refine lv_icmp_ne (tgt := 55) hx hb dX10_placeFrom_39 (by decide) (fun c_39 => ?_) (fun c_39 => ?_)
            · obtain ⟨v_8, e_v_8⟩ : ∃ q9 : Int32, q9 = x5 + Int32.ofInt 1 := ⟨_, rfl⟩
              obtain ⟨t_v_8, r_v_8⟩ := tq_add (lo := 1) (hi := 2) r_x5 (show RI (Int32.ofInt 1) 1 1 by unfold RI; decide +kernel) (by decide +kernel) e_v_8
              have t_v_8 : v_8.toInt = x5.toInt + 1 := t_v_8
              refine lv_iinc (v := v_8) (lv' := [(5, .int v_8), (0, .ref p0), (1, .int p1), (2, .int p2), (3, .int x3), (4, .int x4)]) hx hb dX10_placeFrom_55 hl (k := 5) rfl e_v_8.symm (by decide) rfl (fun ls hl => ?_)
              refine lv_goto (tgt := 25) hx hb dX10_placeFrom_58 (by decide) ?_
              exact ih25 x3 x4 v_8 ws _ _ ls (by have q0 := r_v_8.1; have u0 := r_v_8.2; have o0 := r_x5.1; have p0 := r_x5.2; omega) r_p1 r_p2 r_x3 r_x4 (r_v_8.to (by decide)) x_QLE_p0_p1 x_QLT_p0_p1 (by have q0 := r_x3.1; have u0 := r_x3.2; omega) hw (lv_sub hl [1, 2, 3, 4, 5, 0] rfl)
            · have r_v_7 : RI v_7 0 4 := rc_eq1 r_v_7 r_x3 (ti_eq c_39) (by decide)
              refine lv_aload_n hx hb dX10_placeFrom_42 rfl (lv_at hl 0 rfl) ?_
              refine lv_iload_n hx hb dX10_placeFrom_43 rfl (lv_at hl 1 rfl) ?_
              refine lv_iload hx hb dX10_placeFrom_44 (lv_at hl 5 rfl) ?_
              refine tk_ir (va_runV (As := [.int p1, .int x5]) (rest := []) ⟨hx, hb, hml, hown, hts⟩ (c_X10_doQuarrel l D cy z H.size Ps ws hw.1 p0 p1 x5 h_p0 (r_p1.to (by decide)) (r_x5.to (by decide))) (cwV 2 hts (gV tw_1638 tw_1640 ts_94 tw_15 tw_1641) rfl rfl rfl (by decide +kernel) ⟨Nat.le_of_ble_eq_true rfl, Nat.le_of_ble_eq_true rfl⟩) (tg_preV hw hK hSD hA (ci := 10) (q := (RX10, TX10, 49)) rfl h_p0 rfl) rfl rfl hl.1 rfl (lv_room (Nat.le_of_ble_eq_true rfl)) dX10_placeFrom_46 ⟨Nat.le_of_ble_eq_true rfl, Nat.le_of_ble_eq_true rfl⟩) hw hA (fun v_9  H locs hp_v_9 hw => ?_)
              have r_v_9 : RI v_9 0 1 := hp_v_9.1
              refine lv_if_eq (tgt := 55) hx hb dX10_placeFrom_49 (by decide) (fun c_49 => ?_) (fun c_49 => ?_)
              · have r_v_9 : RI v_9 0 0 := rc_eq1 r_v_9 rl_0 (ti_eq c_49) (by decide)
                obtain ⟨v_10, e_v_10⟩ : ∃ q9 : Int32, q9 = x5 + Int32.ofInt 1 := ⟨_, rfl⟩
                obtain ⟨t_v_10, r_v_10⟩ := tq_add (lo := 1) (hi := 2) r_x5 (show RI (Int32.ofInt 1) 1 1 by unfold RI; decide +kernel) (by decide +kernel) e_v_10
                have t_v_10 : v_10.toInt = x5.toInt + 1 := t_v_10
                refine lv_iinc (v := v_10) (lv' := [(5, .int v_10), (0, .ref p0), (1, .int p1), (2, .int p2), (3, .int x3), (4, .int x4)]) hx hb dX10_placeFrom_55 hl (k := 5) rfl e_v_10.symm (by decide) rfl (fun ls hl => ?_)
                refine lv_goto (tgt := 25) hx hb dX10_placeFrom_58 (by decide) ?_
                exact ih25 x3 x4 v_10 ws _ _ ls (by have q0 := r_v_10.1; have u0 := r_v_10.2; have o0 := r_x5.1; have p0 := r_x5.2; omega) r_p1 r_p2 r_x3 r_x4 (r_v_10.to (by decide)) x_QLE_p0_p1 x_QLT_p0_p1 (by have q0 := r_x3.1; have u0 := r_x3.2; omega) hw (lv_sub hl [1, 2, 3, 4, 5, 0] rfl)
              · have r_v_9 : RI v_9 1 1 := rc_neL r_v_9 rl_0 (ti_ne c_49) (by decide)
                refine lv_iconst (v := 0) hx hb dX10_placeFrom_52 (by decide) ?_
                refine lv_istore (lv' := [(4, .int 0), (0, .ref p0), (1, .int p1), (2, .int p2), (3, .int x3), (5, .int x5)]) hx hb dX10_placeFrom_53 hl (by decide) rfl (fun ls hl => ?_)
                obtain ⟨v_11, e_v_11⟩ : ∃ q9 : Int32, q9 = x5 + Int32.ofInt 1 := ⟨_, rfl⟩
                obtain ⟨t_v_11, r_v_11⟩ := tq_add (lo := 1) (hi := 2) r_x5 (show RI (Int32.ofInt 1) 1 1 by unfold RI; decide +kernel) (by decide +kernel) e_v_11
                have t_v_11 : v_11.toInt = x5.toInt + 1 := t_v_11
                refine lv_iinc (v := v_11) (lv' := [(5, .int v_11), (4, .int 0), (0, .ref p0), (1, .int p1), (2, .int p2), (3, .int x3)]) hx hb dX10_placeFrom_55 hl (k := 5) rfl e_v_11.symm (by decide) rfl (fun ls hl => ?_)
                refine lv_goto (tgt := 25) hx hb dX10_placeFrom_58 (by decide) ?_
                exact ih25 x3 0 v_11 ws _ _ ls (by have q0 := r_v_11.1; have u0 := r_v_11.2; have o0 := r_x5.1; have p0 := r_x5.2; omega) r_p1 r_p2 r_x3 (rl_0.to (by decide)) (r_v_11.to (by decide)) x_QLE_p0_p1 x_QLT_p0_p1 (by have q0 := r_x3.1; have u0 := r_x3.2; omega) hw (lv_sub hl [2, 3, 4, 5, 1, 0] rfl)
      intro x3 ws H locs ls hn14 r_p1 r_p2 r_x3 x_QLE_p0_p1 x_QLT_p0_p1 hw hl
      refine lv_iload_n hx hb dX10_placeFrom_14 rfl (lv_at hl 3 rfl) ?_
      refine lv_iload_n hx hb dX10_placeFrom_15 rfl (lv_at hl 2 rfl) ?_
      refine lv_icmp_ge (tgt := 95) hx hb dX10_placeFrom_16 (by decide) (fun c_16 => ?_) (fun c_16 => ?_)
      · refine lv_iconst (v := 0) hx hb dX10_placeFrom_95 (by decide) ?_
        subst hQ
        exact W.zret (v := 0) hx hb hr (rfl) (fun t ht hW => ⟨⟨0, ws, rfl, ⟨⟨rl_0.to (by decide), (fun h0 => trivial), (fun _ => trivial)⟩, hw.1, hw.2.2.2.2.1⟩, by rw [ht]; exact hw.2.1, va_K.moved hW.alike hK, hw.2.2.1⟩, hw.2.2.2.1.F ht⟩) hw.2.2.2.1.2.2 dX10_placeFrom_96
      · have r_x3 : RI x3 0 4 := rc_lt1 r_x3 r_p2 (ti_nle c_16) (by decide)
        have r_p2 : RI p2 1 5 := rc_lt2 r_x3 r_p2 (ti_nle c_16) (by decide)
        refine lv_iconst (v := 1) hx hb dX10_placeFrom_19 (by decide) ?_
        refine lv_istore (lv' := [(4, .int 1), (0, .ref p0), (1, .int p1), (2, .int p2), (3, .int x3)]) hx hb dX10_placeFrom_20 hl (by decide) rfl (fun ls hl => ?_)
        refine lv_iconst (v := 0) hx hb dX10_placeFrom_22 (by decide) ?_
        refine lv_istore (lv' := [(5, .int 0), (4, .int 1), (0, .ref p0), (1, .int p1), (2, .int p2), (3, .int x3)]) hx hb dX10_placeFrom_23 hl (by decide) rfl (fun ls hl => ?_)
        exact B25 4294967298 x3 1 0 ws _ _ ls (by have q0 := rl_0.1; have u0 := rl_0.2; omega) r_p1 r_p2 r_x3 (rl_1.to (by decide)) (rl_0.to (by decide)) x_QLE_p0_p1 x_QLT_p0_p1 (by have q0 := r_x3.1; have u0 := r_x3.2; omega) hw (lv_sub hl [2, 3, 4, 5, 1, 0] rfl)
  refine lv_iload_n hx hb dX10_placeFrom_0 rfl (lv_at hl 1 rfl) ?_
  refine lv_aload_n hx hb dX10_placeFrom_1 rfl (lv_at hl 0 rfl) ?_
  refine tg_get (ci := 10) (ts := ty_MODEL) (C := RX10) (T := TX10) (N := 49) hx hb hts inX10 hown hK hw h_p0 rfl rfl 14 (by decide) (hts _ tw_1151) (fun _ h9 => h9) (ft := vR 34) rfl dX10_placeFrom_2 (fun u_12 hv_u_12 m_u_12 => ?_)
  obtain ⟨vu_12, rfl, h_vu_12⟩ := hv_u_12
  refine lv_iconst (v := 2) hx hb dX10_placeFrom_5 (by decide) ?_
  refine tg_iald (lo := 0) (hi := 6) hx hb hK hw h_vu_12 rfl 2 2 rl_2 (by decide) (by decide +kernel) dX10_placeFrom_6 (fun v_13 r_v_13 m_v_13 o_v_13 => ?_)
  have x_P2_p0_v_13 : AX 14 34 (fun f => f 2 = v_13) Ps w0 p0 := AX.mk hw h_vu_12 rfl m_u_12 (fun f9 g9 _ => by have e9 := g9 _ _ m_v_13; have j9 : Int32.toNatClampNeg 2 = 2 := (by decide); rw [j9] at e9; exact e9)
  have g_ql : p1.toInt ≤ v_13.toInt := by obtain ⟨_, f9, _, _, h9⟩ := AX.and hw x_QLE_p0_p1 x_P2_p0_v_13; have k1 := h9.1; have k2 : f9 2 = v_13 := h9.2; rw [k2] at k1; exact k1
  have r_v_13 : RI v_13 2 6 := ⟨by have k1 := r_p1.1; have k2 := r_v_13.1; omega, r_v_13.2⟩
  refine lv_icmp_ne (tgt := 12) hx hb dX10_placeFrom_7 (by decide) (fun c_7 => ?_) (fun c_7 => ?_)
  · have r_v_13 : RI v_13 3 6 := rc_neL r_v_13 r_p1 (ti_ne c_7).symm (by decide)
    have x_QLT_p0_p1 : AX 14 34 (fun f => Int32.toInt p1 < (f 2).toInt) Ps w0 p0 := AX.imp x_P2_p0_v_13 (fun f9 h9 => by have k1 : f9 2 = v_13 := h9; show _ < _; rw [k1]; have k3 := ti_ne c_7; have k4 := g_ql; omega)
    refine lv_iconst (v := 0) hx hb dX10_placeFrom_12 (by decide) ?_
    refine lv_istore_n (lv' := [(3, .int 0), (0, .ref p0), (1, .int p1), (2, .int p2)]) hx hb dX10_placeFrom_13 rfl hl (by decide) rfl (fun ls hl => ?_)
    exact B14 4294967298 0 w0 _ _ ls (by have q0 := rl_0.1; have u0 := rl_0.2; omega) r_p1 r_p2 (rl_0.to (by decide)) x_QLE_p0_p1 x_QLT_p0_p1 hw (lv_sub hl [1, 2, 3, 0] rfl)
  · have r_v_13 : RI v_13 2 2 := rc_eq2 r_p1 r_v_13 (ti_eq c_7) (by decide)
    refine lv_iconst (v := 1) hx hb dX10_placeFrom_10 (by decide) ?_
    subst hQ
    exact W.zret (v := 1) hx hb hr (rfl) (fun t ht hW => ⟨⟨1, w0, rfl, ⟨⟨rl_1.to (by decide), (fun _ => trivial), (fun h0 => trivial)⟩, hw.1, hw.2.2.2.2.1⟩, by rw [ht]; exact hw.2.1, va_K.moved hW.alike hK, hw.2.2.1⟩, hw.2.2.2.1.F ht⟩) hw.2.2.2.1.2.2 dX10_placeFrom_11
abbrev wr_X10_placeFrom__1 : List (Nat × Nat) := []
abbrev wa_X10_placeFrom__1 : List Nat := [48]
set_option maxHeartbeats 4000000 in
set_option maxRecDepth 100000 in
theorem c_X10_placeFrom__1 (l : Launch) (D : va_G) (cy : Nat → ClassId) (z : Nat → Nat) (sz : Nat) (Ps : PSI) (w0 : va_W) (hT : HT cy GG Ps w0) (p0 : Nat) (p1 : Int32) (p2 : Int32) (h_p0 : (p0, 55) ∈ Ps) (r_p1 : RI p1 1 1) (r_p2 : RI p2 0 5) (x_QLE_p0_p1 : AX 14 34 (fun f => Int32.toInt p1 ≤ (f 2).toInt) Ps w0 p0) : Met l yX10_placeFrom (Cond.code yX10_placeFrom cX10_placeFrom 6 (some .boolean) :: gT) ({ frames := 8, cells := 0, slots := 0, locals := 1600 } : Room) (va_Pc [.ref p0, .int p1, .int p2] (PRE D cy z w0 sz)) (va_Qi (fun (r : Int32) (u : va_W) => (RI r 0 1 ∧ (r = 0 → True) ∧ (¬ r = 0 → True)) ∧ HT cy GG Ps u ∧ FR wr_X10_placeFrom__1 wa_X10_placeFrom__1 Ps w0 u) (BB D cy (va_A w0 sz) (fun (u : va_W) => u)) (va_A w0 sz)) 0 0 (va_A w0 sz) := by
  refine Met.ofW (cc := cX10_placeFrom) (maxL := 6) (ret := (some .boolean)) (by decide) rfl ?_
  intro p e s m args below meth c s₁ B hml hv
  obtain ⟨rfl, hsz, hP, hK, hD0, hSD⟩ := hv
  have hx := B.exec
  have hb := B.bytes
  have hr := B.returns
  have hlocks := B.notSynchronized
  have hts : ∀ w ∈ gT, w.before _ s = true := fun w h => atoms_spec (ws := Cond.code yX10_placeFrom cX10_placeFrom 6 (some .boolean) :: gT) B.pre w (List.mem_cons_of_mem _ h)
  have hown : s.vm.findClass RX10 = some m.cls := findClass_of_methodNamed B.named
  subst hsz
  have hD := hD0.self (sz := s.heap.size)
  generalize hAe : va_A w0 s.heap.size = A at hD hSD ⊢
  have hA : ∀ q : Nat, s.heap.size ≤ q → A q := fun q h => by rw [← hAe]; exact Or.inr h
  have hl := lv_entry ([.ref p0, .int p1, .int p2]) (n := 6) (Nat.le_of_ble_eq_true rfl)
  rw [lg_entry_eq]
  generalize (lg_sl ([.ref p0, .int p1, .int p2]) ++ List.replicate (6 - (lg_sl ([.ref p0, .int p1, .int p2])).length) Slot.unset).toArray = ls at hl ⊢
  have hl : lv_has ls 6 [(0, .ref p0), (1, .int p1), (2, .int p2)] := hl
  refine nameQ (fun Q hQ => ?_)
  have hw : WD D cy GG A s wr_X10_placeFrom__1 wa_X10_placeFrom__1 Ps w0 Ps w0 s.heap [] := ⟨hT, hP, hD, va_S.rf, FR.rf, hT.1, [], (List.append_nil _).symm⟩
  have B14 : ∀ (nf : Nat) (x3 : Int32) (ws : va_W) (H : Heap) (locs : List Loc) (ls : Array Slot), 5 - x3.toInt < (nf : Int) → RI p1 1 1 → RI p2 0 5 → RI x3 0 5 → AX 14 34 (fun f => Int32.toInt p1 ≤ (f 2).toInt) Ps ws p0 → AX 14 34 (fun f => Int32.toInt p1 < (f 2).toInt) Ps ws p0 → WD D cy GG A s wr_X10_placeFrom__1 wa_X10_placeFrom__1 Ps w0 Ps ws H locs → lv_has ls 6 [(0, .ref p0), (1, .int p1), (2, .int p2), (3, .int x3)] → W p l e (headSpec (Cond.code yX10_placeFrom cX10_placeFrom 6 (some .boolean) :: gT) ({ frames := 8, cells := 0, slots := 0, locals := 1600 } : Room)).room s m ([.ref p0, .int p1, .int p2] : List Value).toArray below meth c H locs 0 0 Q (F0 m 14 ls []) := by
    intro nf14
    induction nf14 with
    | zero =>
      intro x3 ws H locs ls hn14 r_p1 r_p2 r_x3 x_QLE_p0_p1 x_QLT_p0_p1 hw hl
      exact absurd hn14 (by have q0 := r_x3.1; have u0 := r_x3.2; omega)
    | succ nf14 ih14 =>
      have B25 : ∀ (nf : Nat) (x3 : Int32) (x4 : Int32) (x5 : Int32) (ws : va_W) (H : Heap) (locs : List Loc) (ls : Array Slot), 1 - x5.toInt < (nf : Int) → RI p1 1 1 → RI p2 1 5 → RI x3 0 4 → RI x4 0 1 → RI x5 0 1 → AX 14 34 (fun f => Int32.toInt p1 ≤ (f 2).toInt) Ps ws p0 → AX 14 34 (fun f => Int32.toInt p1 < (f 2).toInt) Ps ws p0 → 5 - x3.toInt < ((nf14 + 1 : Nat) : Int) → WD D cy GG A s wr_X10_placeFrom__1 wa_X10_placeFrom__1 Ps w0 Ps ws H locs → lv_has ls 6 [(0, .ref p0), (1, .int p1), (2, .int p2), (3, .int x3), (4, .int x4), (5, .int x5)] → W p l e (headSpec (Cond.code yX10_placeFrom cX10_placeFrom 6 (some .boolean) :: gT) ({ frames := 8, cells := 0, slots := 0, locals := 1600 } : Room)).room s m ([.ref p0, .int p1, .int p2] : List Value).toArray below meth c H locs 0 0 Q (F0 m 25 ls []) := by
        intro nf25
        induction nf25 with
        | zero =>
          intro x3 x4 x5 ws H locs ls hn25 r_p1 r_p2 r_x3 r_x4 r_x5 x_QLE_p0_p1 x_QLT_p0_p1 hn14 hw hl
          exact absurd hn25 (by have q0 := r_x5.1; have u0 := r_x5.2; omega)
        | succ nf25 ih25 =>
          intro x3 x4 x5 ws H locs ls hn25 r_p1 r_p2 r_x3 r_x4 r_x5 x_QLE_p0_p1 x_QLT_p0_p1 hn14 hw hl
          refine lv_iload hx hb dX10_placeFrom_25 (lv_at hl 5 rfl) ?_
          refine lv_iload_n hx hb dX10_placeFrom_27 rfl (lv_at hl 1 rfl) ?_
          refine lv_icmp_ge (tgt := 61) hx hb dX10_placeFrom_28 (by decide) (fun c_28 => ?_) (fun c_28 => ?_)
          · have r_x5 : RI x5 1 1 := rc_le2 r_p1 r_x5 (ti_le c_28) (by decide)
            refine lv_iload hx hb dX10_placeFrom_61 (lv_at hl 4 rfl) ?_
            refine lv_if_ne (tgt := 69) hx hb dX10_placeFrom_63 (by decide) (fun c_63 => ?_) (fun c_63 => ?_)
            · have r_x4 : RI x4 1 1 := rc_neL r_x4 rl_0 (ti_ne c_63) (by decide)
              refine lv_aload_n hx hb dX10_placeFrom_69 rfl (lv_at hl 0 rfl) ?_
              refine tg_get (ci := 10) (ts := ty_MODEL) (C := RX10) (T := TX10) (N := 49) hx hb hts inX10 hown hK hw h_p0 rfl rfl 31 (by decide) (hts _ tw_1168) (fun _ h9 => h9) (ft := vR 48) rfl dX10_placeFrom_70 (fun u_1 hv_u_1 m_u_1 => ?_)
              obtain ⟨vu_1, rfl, h_vu_1⟩ := hv_u_1
              refine lv_iload_n hx hb dX10_placeFrom_73 rfl (lv_at hl 1 rfl) ?_
              refine lv_iload_n hx hb dX10_placeFrom_74 rfl (lv_at hl 3 rfl) ?_
              refine tg_iast hx hb hK hw h_vu_1 rfl 1 1 r_p1 (by decide) r_x3 (by exact fun _ _ _ => by decide) (fun _ _ _ _ _ => trivial) (by decide) dX10_placeFrom_75 (fun ws H locs hw hF9 hU9 => ?_)
              have x_QLE_p0_p1 := AX.over hF9 x_QLE_p0_p1 (by decide)
              have x_QLT_p0_p1 := AX.over hF9 x_QLT_p0_p1 (by decide)
              refine lv_aload_n hx hb dX10_placeFrom_76 rfl (lv_at hl 0 rfl) ?_
              refine lv_iload_n hx hb dX10_placeFrom_77 rfl (lv_at hl 1 rfl) ?_
              refine lv_iconst (v := 1) hx hb dX10_placeFrom_78 (by decide) ?_
              refine lv_iadd hx hb dX10_placeFrom_79 (lv_topi (fun v_2 e_v_2 => ?_))
              obtain ⟨t_v_2, r_v_2⟩ := tq_add (lo := 2) (hi := 2) r_p1 rl_1 (by decide +kernel) e_v_2
              have t_v_2 : v_2.toInt = p1.toInt + 1 := t_v_2
              refine lv_iload_n hx hb dX10_placeFrom_80 rfl (lv_at hl 2 rfl) ?_
              have x_QLE_p0_v_2 : AX 14 34 (fun f => Int32.toInt v_2 ≤ (f 2).toInt) Ps ws p0 := AX.imp x_QLT_p0_p1 (fun f9 h9 => by have k2 := t_v_2; show _ ≤ _; have k3 : p1.toInt < (f9 2).toInt := h9; omega)
              refine tk_i (va_runV (As := [.int v_2, .int p2]) (rest := []) ⟨hx, hb, hml, hown, hts⟩ (c_X10_placeFrom__2 l D cy z H.size Ps ws hw.1 p0 v_2 p2 h_p0 r_v_2 (r_p2.to (by decide)) x_QLE_p0_v_2) (cwV 2 hts (gV tw_1634 tw_1636 ts_93 tw_15 tw_1637) rfl rfl rfl (by decide +kernel) ⟨Nat.le_of_ble_eq_true rfl, Nat.le_of_ble_eq_true rfl⟩) (tg_preV hw hK hSD hA (ci := 10) (q := (RX10, TX10, 49)) rfl h_p0 rfl) rfl rfl hl.1 rfl (lv_room (Nat.le_of_ble_eq_true rfl)) dX10_placeFrom_81 ⟨Nat.le_of_ble_eq_true rfl, Nat.le_of_ble_eq_true rfl⟩) hw hA ⟨by decide, by decide⟩ (fun v_3 ws H locs hp_v_3 hw hF9 => ?_)
              have x_QLE_p0_p1 := AX.over hF9 x_QLE_p0_p1 (by decide)
              have x_QLT_p0_p1 := AX.over hF9 x_QLT_p0_p1 (by decide)
              have x_QLE_p0_v_2 := AX.over hF9 x_QLE_p0_v_2 (by decide)
              have r_v_3 : RI v_3 0 1 := hp_v_3.1
              refine lv_if_eq (tgt := 89) hx hb dX10_placeFrom_84 (by decide) (fun c_84 => ?_) (fun c_84 => ?_)
              · have r_v_3 : RI v_3 0 0 := rc_eq1 r_v_3 rl_0 (ti_eq c_84) (by decide)
                obtain ⟨v_4, e_v_4⟩ : ∃ q9 : Int32, q9 = x3 + Int32.ofInt 1 := ⟨_, rfl⟩
                obtain ⟨t_v_4, r_v_4⟩ := tq_add (lo := 1) (hi := 5) r_x3 (show RI (Int32.ofInt 1) 1 1 by unfold RI; decide +kernel) (by decide +kernel) e_v_4
                have t_v_4 : v_4.toInt = x3.toInt + 1 := t_v_4
                refine lv_iinc (v := v_4) (lv' := [(3, .int v_4), (0, .ref p0), (1, .int p1), (2, .int p2), (4, .int x4), (5, .int x5)]) hx hb dX10_placeFrom_89 hl (k := 3) rfl e_v_4.symm (by decide) rfl (fun ls hl => ?_)
                refine lv_goto (tgt := 14) hx hb dX10_placeFrom_92 (by decide) ?_
                exact ih14 v_4 ws _ _ ls (by have q0 := r_v_4.1; have u0 := r_v_4.2; have o0 := r_x3.1; have p0 := r_x3.2; omega) r_p1 (r_p2.to (by decide)) (r_v_4.to (by decide)) x_QLE_p0_p1 x_QLT_p0_p1 hw (lv_sub hl [1, 2, 3, 0] rfl)
              · have r_v_3 : RI v_3 1 1 := rc_neL r_v_3 rl_0 (ti_ne c_84) (by decide)
                refine lv_iconst (v := 1) hx hb dX10_placeFrom_87 (by decide) ?_
                subst hQ
                exact W.zret (v := 1) hx hb hr (rfl) (fun t ht hW => ⟨⟨1, ws, rfl, ⟨⟨rl_1.to (by decide), (fun _ => trivial), (fun h0 => trivial)⟩, hw.1, hw.2.2.2.2.1⟩, by rw [ht]; exact hw.2.1, va_K.moved hW.alike hK, hw.2.2.1⟩, hw.2.2.2.1.F ht⟩) hw.2.2.2.1.2.2 dX10_placeFrom_88
            · have r_x4 : RI x4 0 0 := rc_eq1 r_x4 rl_0 (ti_eq c_63) (by decide)
              refine lv_goto (tgt := 89) hx hb dX10_placeFrom_66 (by decide) ?_
              obtain ⟨v_5, e_v_5⟩ : ∃ q9 : Int32, q9 = x3 + Int32.ofInt 1 := ⟨_, rfl⟩
              obtain ⟨t_v_5, r_v_5⟩ := tq_add (lo := 1) (hi := 5) r_x3 (show RI (Int32.ofInt 1) 1 1 by unfold RI; decide +kernel) (by decide +kernel) e_v_5
              have t_v_5 : v_5.toInt = x3.toInt + 1 := t_v_5
              refine lv_iinc (v := v_5) (lv' := [(3, .int v_5), (0, .ref p0), (1, .int p1), (2, .int p2), (4, .int x4), (5, .int x5)]) hx hb dX10_placeFrom_89 hl (k := 3) rfl e_v_5.symm (by decide) rfl (fun ls hl => ?_)
              refine lv_goto (tgt := 14) hx hb dX10_placeFrom_92 (by decide) ?_
              exact ih14 v_5 ws _ _ ls (by have q0 := r_v_5.1; have u0 := r_v_5.2; have o0 := r_x3.1; have p0 := r_x3.2; omega) r_p1 (r_p2.to (by decide)) (r_v_5.to (by decide)) x_QLE_p0_p1 x_QLT_p0_p1 hw (lv_sub hl [1, 2, 3, 0] rfl)
          · have r_x5 : RI x5 0 0 := rc_lt1 r_x5 r_p1 (ti_nle c_28) (by decide)
            refine lv_aload_n hx hb dX10_placeFrom_31 rfl (lv_at hl 0 rfl) ?_
            refine tg_get (ci := 10) (ts := ty_MODEL) (C := RX10) (T := TX10) (N := 49) hx hb hts inX10 hown hK hw h_p0 rfl rfl 31 (by decide) (hts _ tw_1168) (fun _ h9 => h9) (ft := vR 48) rfl dX10_placeFrom_32 (fun u_6 hv_u_6 m_u_6 => ?_)
            obtain ⟨vu_6, rfl, h_vu_6⟩ := hv_u_6
            refine lv_iload hx hb dX10_placeFrom_35 (lv_at hl 5 rfl) ?_
            refine tg_iald (lo := (-2147483648)) (hi := 2147483647) hx hb hK hw h_vu_6 rfl 0 0 r_x5 (by decide) (by exact fun _ _ _ => ⟨Int.le_refl _, Int.le_refl _⟩) dX10_placeFrom_37 (fun v_7 r_v_7 m_v_7 o_v_7 => ?_)
            refine lv_iload_n hx hb dX10_placeFrom_38 rfl (lv_at hl 3 rfl) ?_
            refine lv_icmp_ne (tgt := 55) hx hb dX10_placeFrom_39 (by decide) (fun c_39 => ?_) (fun c_39 => ?_)
            · obtain ⟨v_8, e_v_8⟩ : ∃ q9 : Int32, q9 = x5 + Int32.ofInt 1 := ⟨_, rfl⟩
              obtain ⟨t_v_8, r_v_8⟩ := tq_add (lo := 1) (hi := 1) r_x5 (show RI (Int32.ofInt 1) 1 1 by unfold RI; decide +kernel) (by decide +kernel) e_v_8
              have t_v_8 : v_8.toInt = x5.toInt + 1 := t_v_8
              refine lv_iinc (v := v_8) (lv' := [(5, .int v_8), (0, .ref p0), (1, .int p1), (2, .int p2), (3, .int x3), (4, .int x4)]) hx hb dX10_placeFrom_55 hl (k := 5) rfl e_v_8.symm (by decide) rfl (fun ls hl => ?_)
              refine lv_goto (tgt := 25) hx hb dX10_placeFrom_58 (by decide) ?_
              exact ih25 x3 x4 v_8 ws _ _ ls (by have q0 := r_v_8.1; have u0 := r_v_8.2; have o0 := r_x5.1; have p0 := r_x5.2; omega) r_p1 r_p2 r_x3 r_x4 (r_v_8.to (by decide)) x_QLE_p0_p1 x_QLT_p0_p1 (by have q0 := r_x3.1; have u0 := r_x3.2; omega) hw (lv_sub hl [1, 2, 3, 4, 5, 0] rfl)
            · have r_v_7 : RI v_7 0 4 := rc_eq1 r_v_7 r_x3 (ti_eq c_39) (by decide)
              refine lv_aload_n hx hb dX10_placeFrom_42 rfl (lv_at hl 0 rfl) ?_
              refine lv_iload_n hx hb dX10_placeFrom_43 rfl (lv_at hl 1 rfl) ?_
              refine lv_iload hx hb dX10_placeFrom_44 (lv_at hl 5 rfl) ?_
              refine tk_ir (va_runV (As := [.int p1, .int x5]) (rest := []) ⟨hx, hb, hml, hown, hts⟩ (c_X10_doQuarrel l D cy z H.size Ps ws hw.1 p0 p1 x5 h_p0 (r_p1.to (by decide)) (r_x5.to (by decide))) (cwV 2 hts (gV tw_1638 tw_1640 ts_94 tw_15 tw_1641) rfl rfl rfl (by decide +kernel) ⟨Nat.le_of_ble_eq_true rfl, Nat.le_of_ble_eq_true rfl⟩) (tg_preV hw hK hSD hA (ci := 10) (q := (RX10, TX10, 49)) rfl h_p0 rfl) rfl rfl hl.1 rfl (lv_room (Nat.le_of_ble_eq_true rfl)) dX10_placeFrom_46 ⟨Nat.le_of_ble_eq_true rfl, Nat.le_of_ble_eq_true rfl⟩) hw hA (fun v_9  H locs hp_v_9 hw => ?_)
              have r_v_9 : RI v_9 0 1 := hp_v_9.1
              refine lv_if_eq (tgt := 55) hx hb dX10_placeFrom_49 (by decide) (fun c_49 => ?_) (fun c_49 => ?_)
              · have r_v_9 : RI v_9 0 0 := rc_eq1 r_v_9 rl_0 (ti_eq c_49) (by decide)
                obtain ⟨v_10, e_v_10⟩ : ∃ q9 : Int32, q9 = x5 + Int32.ofInt 1 := ⟨_, rfl⟩
                obtain ⟨t_v_10, r_v_10⟩ := tq_add (lo := 1) (hi := 1) r_x5 (show RI (Int32.ofInt 1) 1 1 by unfold RI; decide +kernel) (by decide +kernel) e_v_10
                have t_v_10 : v_10.toInt = x5.toInt + 1 := t_v_10
                refine lv_iinc (v := v_10) (lv' := [(5, .int v_10), (0, .ref p0), (1, .int p1), (2, .int p2), (3, .int x3), (4, .int x4)]) hx hb dX10_placeFrom_55 hl (k := 5) rfl e_v_10.symm (by decide) rfl (fun ls hl => ?_)
                refine lv_goto (tgt := 25) hx hb dX10_placeFrom_58 (by decide) ?_
                exact ih25 x3 x4 v_10 ws _ _ ls (by have q0 := r_v_10.1; have u0 := r_v_10.2; have o0 := r_x5.1; have p0 := r_x5.2; omega) r_p1 r_p2 r_x3 r_x4 (r_v_10.to (by decide)) x_QLE_p0_p1 x_QLT_p0_p1 (by have q0 := r_x3.1; have u0 := r_x3.2; omega) hw (lv_sub hl [1, 2, 3, 4, 5, 0] rfl)
              · have r_v_9 : RI v_9 1 1 := rc_neL r_v_9 rl_0 (ti_ne c_49) (by decide)
                refine lv_iconst (v := 0) hx hb dX10_placeFrom_52 (by decide) ?_
                refine lv_istore (lv' := [(4, .int 0), (0, .ref p0), (1, .int p1), (2, .int p2), (3, .int x3), (5, .int x5)]) hx hb dX10_placeFrom_53 hl (by decide) rfl (fun ls hl => ?_)
                obtain ⟨v_11, e_v_11⟩ : ∃ q9 : Int32, q9 = x5 + Int32.ofInt 1 := ⟨_, rfl⟩
                obtain ⟨t_v_11, r_v_11⟩ := tq_add (lo := 1) (hi := 1) r_x5 (show RI (Int32.ofInt 1) 1 1 by unfold RI; decide +kernel) (by decide +kernel) e_v_11
                have t_v_11 : v_11.toInt = x5.toInt + 1 := t_v_11
                refine lv_iinc (v := v_11) (lv' := [(5, .int v_11), (4, .int 0), (0, .ref p0), (1, .int p1), (2, .int p2), (3, .int x3)]) hx hb dX10_placeFrom_55 hl (k := 5) rfl e_v_11.symm (by decide) rfl (fun ls hl => ?_)
                refine lv_goto (tgt := 25) hx hb dX10_placeFrom_58 (by decide) ?_
                exact ih25 x3 0 v_11 ws _ _ ls (by have q0 := r_v_11.1; have u0 := r_v_11.2; have o0 := r_x5.1; have p0 := r_x5.2; omega) r_p1 r_p2 r_x3 (rl_0.to (by decide)) (r_v_11.to (by decide)) x_QLE_p0_p1 x_QLT_p0_p1 (by have q0 := r_x3.1; have u0 := r_x3.2; omega) hw (lv_sub hl [2, 3, 4, 5, 1, 0] rfl)
      intro x3 ws H locs ls hn14 r_p1 r_p2 r_x3 x_QLE_p0_p1 x_QLT_p0_p1 hw hl
      refine lv_iload_n hx hb dX10_placeFrom_14 rfl (lv_at hl 3 rfl) ?_
      refine lv_iload_n hx hb dX10_placeFrom_15 rfl (lv_at hl 2 rfl) ?_
      refine lv_icmp_ge (tgt := 95) hx hb dX10_placeFrom_16 (by decide) (fun c_16 => ?_) (fun c_16 => ?_)
      · refine lv_iconst (v := 0) hx hb dX10_placeFrom_95 (by decide) ?_
        subst hQ
        exact W.zret (v := 0) hx hb hr (rfl) (fun t ht hW => ⟨⟨0, ws, rfl, ⟨⟨rl_0.to (by decide), (fun h0 => trivial), (fun _ => trivial)⟩, hw.1, hw.2.2.2.2.1⟩, by rw [ht]; exact hw.2.1, va_K.moved hW.alike hK, hw.2.2.1⟩, hw.2.2.2.1.F ht⟩) hw.2.2.2.1.2.2 dX10_placeFrom_96
      · have r_x3 : RI x3 0 4 := rc_lt1 r_x3 r_p2 (ti_nle c_16) (by decide)
        have r_p2 : RI p2 1 5 := rc_lt2 r_x3 r_p2 (ti_nle c_16) (by decide)
        refine lv_iconst (v := 1) hx hb dX10_placeFrom_19 (by decide) ?_
        refine lv_istore (lv' := [(4, .int 1), (0, .ref p0), (1, .int p1), (2, .int p2), (3, .int x3)]) hx hb dX10_placeFrom_20 hl (by decide) rfl (fun ls hl => ?_)
        refine lv_iconst (v := 0) hx hb dX10_placeFrom_22 (by decide) ?_
        refine lv_istore (lv' := [(5, .int 0), (4, .int 1), (0, .ref p0), (1, .int p1), (2, .int p2), (3, .int x3)]) hx hb dX10_placeFrom_23 hl (by decide) rfl (fun ls hl => ?_)
        exact B25 4294967298 x3 1 0 ws _ _ ls (by have q0 := rl_0.1; have u0 := rl_0.2; omega) r_p1 r_p2 r_x3 (rl_1.to (by decide)) (rl_0.to (by decide)) x_QLE_p0_p1 x_QLT_p0_p1 (by have q0 := r_x3.1; have u0 := r_x3.2; omega) hw (lv_sub hl [2, 3, 4, 5, 1, 0] rfl)
  refine lv_iload_n hx hb dX10_placeFrom_0 rfl (lv_at hl 1 rfl) ?_
  refine lv_aload_n hx hb dX10_placeFrom_1 rfl (lv_at hl 0 rfl) ?_
  refine tg_get (ci := 10) (ts := ty_MODEL) (C := RX10) (T := TX10) (N := 49) hx hb hts inX10 hown hK hw h_p0 rfl rfl 14 (by decide) (hts _ tw_1151) (fun _ h9 => h9) (ft := vR 34) rfl dX10_placeFrom_2 (fun u_12 hv_u_12 m_u_12 => ?_)
  obtain ⟨vu_12, rfl, h_vu_12⟩ := hv_u_12
  refine lv_iconst (v := 2) hx hb dX10_placeFrom_5 (by decide) ?_
  refine tg_iald (lo := 0) (hi := 6) hx hb hK hw h_vu_12 rfl 2 2 rl_2 (by decide) (by decide +kernel) dX10_placeFrom_6 (fun v_13 r_v_13 m_v_13 o_v_13 => ?_)
  have x_P2_p0_v_13 : AX 14 34 (fun f => f 2 = v_13) Ps w0 p0 := AX.mk hw h_vu_12 rfl m_u_12 (fun f9 g9 _ => by have e9 := g9 _ _ m_v_13; have j9 : Int32.toNatClampNeg 2 = 2 := (by decide); rw [j9] at e9; exact e9)
  have g_ql : p1.toInt ≤ v_13.toInt := by obtain ⟨_, f9, _, _, h9⟩ := AX.and hw x_QLE_p0_p1 x_P2_p0_v_13; have k1 := h9.1; have k2 : f9 2 = v_13 := h9.2; rw [k2] at k1; exact k1
  have r_v_13 : RI v_13 1 6 := ⟨by have k1 := r_p1.1; have k2 := r_v_13.1; omega, r_v_13.2⟩
  refine lv_icmp_ne (tgt := 12) hx hb dX10_placeFrom_7 (by decide) (fun c_7 => ?_) (fun c_7 => ?_)
  · have r_v_13 : RI v_13 2 6 := rc_neL r_v_13 r_p1 (ti_ne c_7).symm (by decide)
    have x_QLT_p0_p1 : AX 14 34 (fun f => Int32.toInt p1 < (f 2).toInt) Ps w0 p0 := AX.imp x_P2_p0_v_13 (fun f9 h9 => by have k1 : f9 2 = v_13 := h9; show _ < _; rw [k1]; have k3 := ti_ne c_7; have k4 := g_ql; omega)
    refine lv_iconst (v := 0) hx hb dX10_placeFrom_12 (by decide) ?_
    refine lv_istore_n (lv' := [(3, .int 0), (0, .ref p0), (1, .int p1), (2, .int p2)]) hx hb dX10_placeFrom_13 rfl hl (by decide) rfl (fun ls hl => ?_)
    exact B14 4294967298 0 w0 _ _ ls (by have q0 := rl_0.1; have u0 := rl_0.2; omega) r_p1 r_p2 (rl_0.to (by decide)) x_QLE_p0_p1 x_QLT_p0_p1 hw (lv_sub hl [1, 2, 3, 0] rfl)
  · have r_v_13 : RI v_13 1 1 := rc_eq2 r_p1 r_v_13 (ti_eq c_7) (by decide)
    refine lv_iconst (v := 1) hx hb dX10_placeFrom_10 (by decide) ?_
    subst hQ
    exact W.zret (v := 1) hx hb hr (rfl) (fun t ht hW => ⟨⟨1, w0, rfl, ⟨⟨rl_1.to (by decide), (fun _ => trivial), (fun h0 => trivial)⟩, hw.1, hw.2.2.2.2.1⟩, by rw [ht]; exact hw.2.1, va_K.moved hW.alike hK, hw.2.2.1⟩, hw.2.2.2.1.F ht⟩) hw.2.2.2.1.2.2 dX10_placeFrom_11
abbrev wr_X10_placeFrom : List (Nat × Nat) := []
abbrev wa_X10_placeFrom : List Nat := [48]
set_option maxHeartbeats 4000000 in
set_option maxRecDepth 100000 in
theorem c_X10_placeFrom (l : Launch) (D : va_G) (cy : Nat → ClassId) (z : Nat → Nat) (sz : Nat) (Ps : PSI) (w0 : va_W) (hT : HT cy GG Ps w0) (p0 : Nat) (p1 : Int32) (p2 : Int32) (h_p0 : (p0, 55) ∈ Ps) (r_p1 : RI p1 0 0) (r_p2 : RI p2 0 5) (x_QLE_p0_p1 : AX 14 34 (fun f => Int32.toInt p1 ≤ (f 2).toInt) Ps w0 p0) : Met l yX10_placeFrom (Cond.code yX10_placeFrom cX10_placeFrom 6 (some .boolean) :: gT) ({ frames := 9, cells := 0, slots := 0, locals := 1800 } : Room) (va_Pc [.ref p0, .int p1, .int p2] (PRE D cy z w0 sz)) (va_Qi (fun (r : Int32) (u : va_W) => (RI r 0 1 ∧ (r = 0 → True) ∧ (¬ r = 0 → True)) ∧ HT cy GG Ps u ∧ FR wr_X10_placeFrom wa_X10_placeFrom Ps w0 u) (BB D cy (va_A w0 sz) (fun (u : va_W) => u)) (va_A w0 sz)) 0 0 (va_A w0 sz) := by
  refine Met.ofW (cc := cX10_placeFrom) (maxL := 6) (ret := (some .boolean)) (by decide) rfl ?_
  intro p e s m args below meth c s₁ B hml hv
  obtain ⟨rfl, hsz, hP, hK, hD0, hSD⟩ := hv
  have hx := B.exec
  have hb := B.bytes
  have hr := B.returns
  have hlocks := B.notSynchronized
  have hts : ∀ w ∈ gT, w.before _ s = true := fun w h => atoms_spec (ws := Cond.code yX10_placeFrom cX10_placeFrom 6 (some .boolean) :: gT) B.pre w (List.mem_cons_of_mem _ h)
  have hown : s.vm.findClass RX10 = some m.cls := findClass_of_methodNamed B.named
  subst hsz
  have hD := hD0.self (sz := s.heap.size)
  generalize hAe : va_A w0 s.heap.size = A at hD hSD ⊢
  have hA : ∀ q : Nat, s.heap.size ≤ q → A q := fun q h => by rw [← hAe]; exact Or.inr h
  have hl := lv_entry ([.ref p0, .int p1, .int p2]) (n := 6) (Nat.le_of_ble_eq_true rfl)
  rw [lg_entry_eq]
  generalize (lg_sl ([.ref p0, .int p1, .int p2]) ++ List.replicate (6 - (lg_sl ([.ref p0, .int p1, .int p2])).length) Slot.unset).toArray = ls at hl ⊢
  have hl : lv_has ls 6 [(0, .ref p0), (1, .int p1), (2, .int p2)] := hl
  refine nameQ (fun Q hQ => ?_)
  have hw : WD D cy GG A s wr_X10_placeFrom wa_X10_placeFrom Ps w0 Ps w0 s.heap [] := ⟨hT, hP, hD, va_S.rf, FR.rf, hT.1, [], (List.append_nil _).symm⟩
  have B14 : ∀ (nf : Nat) (x3 : Int32) (ws : va_W) (H : Heap) (locs : List Loc) (ls : Array Slot), 5 - x3.toInt < (nf : Int) → RI p1 0 0 → RI p2 0 5 → RI x3 0 5 → AX 14 34 (fun f => Int32.toInt p1 ≤ (f 2).toInt) Ps ws p0 → AX 14 34 (fun f => Int32.toInt p1 < (f 2).toInt) Ps ws p0 → WD D cy GG A s wr_X10_placeFrom wa_X10_placeFrom Ps w0 Ps ws H locs → lv_has ls 6 [(0, .ref p0), (1, .int p1), (2, .int p2), (3, .int x3)] → W p l e (headSpec (Cond.code yX10_placeFrom cX10_placeFrom 6 (some .boolean) :: gT) ({ frames := 9, cells := 0, slots := 0, locals := 1800 } : Room)).room s m ([.ref p0, .int p1, .int p2] : List Value).toArray below meth c H locs 0 0 Q (F0 m 14 ls []) := by
    intro nf14
    induction nf14 with
    | zero =>
      intro x3 ws H locs ls hn14 r_p1 r_p2 r_x3 x_QLE_p0_p1 x_QLT_p0_p1 hw hl
      exact absurd hn14 (by have q0 := r_x3.1; have u0 := r_x3.2; omega)
    | succ nf14 ih14 =>
      have B25 : ∀ (nf : Nat) (x3 : Int32) (x4 : Int32) (x5 : Int32) (ws : va_W) (H : Heap) (locs : List Loc) (ls : Array Slot), 0 - x5.toInt < (nf : Int) → RI p1 0 0 → RI p2 1 5 → RI x3 0 4 → RI x4 1 1 → RI x5 0 0 → AX 14 34 (fun f => Int32.toInt p1 ≤ (f 2).toInt) Ps ws p0 → AX 14 34 (fun f => Int32.toInt p1 < (f 2).toInt) Ps ws p0 → 5 - x3.toInt < ((nf14 + 1 : Nat) : Int) → WD D cy GG A s wr_X10_placeFrom wa_X10_placeFrom Ps w0 Ps ws H locs → lv_has ls 6 [(0, .ref p0), (1, .int p1), (2, .int p2), (3, .int x3), (4, .int x4), (5, .int x5)] → W p l e (headSpec (Cond.code yX10_placeFrom cX10_placeFrom 6 (some .boolean) :: gT) ({ frames := 9, cells := 0, slots := 0, locals := 1800 } : Room)).room s m ([.ref p0, .int p1, .int p2] : List Value).toArray below meth c H locs 0 0 Q (F0 m 25 ls []) := by
        intro nf25
        induction nf25 with
        | zero =>
          intro x3 x4 x5 ws H locs ls hn25 r_p1 r_p2 r_x3 r_x4 r_x5 x_QLE_p0_p1 x_QLT_p0_p1 hn14 hw hl
          exact absurd hn25 (by have q0 := r_x5.1; have u0 := r_x5.2; omega)
        | succ nf25 ih25 =>
          intro x3 x4 x5 ws H locs ls hn25 r_p1 r_p2 r_x3 r_x4 r_x5 x_QLE_p0_p1 x_QLT_p0_p1 hn14 hw hl
          refine lv_iload hx hb dX10_placeFrom_25 (lv_at hl 5 rfl) ?_
          refine lv_iload_n hx hb dX10_placeFrom_27 rfl (lv_at hl 1 rfl) ?_
          refine lv_icmp_ge (tgt := 61) hx hb dX10_placeFrom_28 (by decide) (fun c_28 => ?_) (fun c_28 => ?_)
          · refine lv_iload hx hb dX10_placeFrom_61 (lv_at hl 4 rfl) ?_
            refine lv_if_ne (tgt := 69) hx hb dX10_placeFrom_63 (by decide) (fun c_63 => ?_) (fun c_63 => ?_)
            · refine lv_aload_n hx hb dX10_placeFrom_69 rfl (lv_at hl 0 rfl) ?_
              refine tg_get (ci := 10) (ts := ty_MODEL) (C := RX10) (T := TX10) (N := 49) hx hb hts inX10 hown hK hw h_p0 rfl rfl 31 (by decide) (hts _ tw_1168) (fun _ h9 => h9) (ft := vR 48) rfl dX10_placeFrom_70 (fun u_1 hv_u_1 m_u_1 => ?_)
              obtain ⟨vu_1, rfl, h_vu_1⟩ := hv_u_1
              refine lv_iload_n hx hb dX10_placeFrom_73 rfl (lv_at hl 1 rfl) ?_
              refine lv_iload_n hx hb dX10_placeFrom_74 rfl (lv_at hl 3 rfl) ?_
              refine tg_iast hx hb hK hw h_vu_1 rfl 0 0 r_p1 (by decide) r_x3 (by exact fun _ _ _ => by decide) (fun _ _ _ _ _ => trivial) (by decide) dX10_placeFrom_75 (fun ws H locs hw hF9 hU9 => ?_)
              have x_QLE_p0_p1 := AX.over hF9 x_QLE_p0_p1 (by decide)
              have x_QLT_p0_p1 := AX.over hF9 x_QLT_p0_p1 (by decide)
              refine lv_aload_n hx hb dX10_placeFrom_76 rfl (lv_at hl 0 rfl) ?_
              refine lv_iload_n hx hb dX10_placeFrom_77 rfl (lv_at hl 1 rfl) ?_
              refine lv_iconst (v := 1) hx hb dX10_placeFrom_78 (by decide) ?_
              refine lv_iadd hx hb dX10_placeFrom_79 (lv_topi (fun v_2 e_v_2 => ?_))
              obtain ⟨t_v_2, r_v_2⟩ := tq_add (lo := 1) (hi := 1) r_p1 rl_1 (by decide +kernel) e_v_2
              have t_v_2 : v_2.toInt = p1.toInt + 1 := t_v_2
              refine lv_iload_n hx hb dX10_placeFrom_80 rfl (lv_at hl 2 rfl) ?_
              have x_QLE_p0_v_2 : AX 14 34 (fun f => Int32.toInt v_2 ≤ (f 2).toInt) Ps ws p0 := AX.imp x_QLT_p0_p1 (fun f9 h9 => by have k2 := t_v_2; show _ ≤ _; have k3 : p1.toInt < (f9 2).toInt := h9; omega)
              refine tk_i (va_runV (As := [.int v_2, .int p2]) (rest := []) ⟨hx, hb, hml, hown, hts⟩ (c_X10_placeFrom__1 l D cy z H.size Ps ws hw.1 p0 v_2 p2 h_p0 r_v_2 (r_p2.to (by decide)) x_QLE_p0_v_2) (cwV 2 hts (gV tw_1634 tw_1636 ts_93 tw_15 tw_1637) rfl rfl rfl (by decide +kernel) ⟨Nat.le_of_ble_eq_true rfl, Nat.le_of_ble_eq_true rfl⟩) (tg_preV hw hK hSD hA (ci := 10) (q := (RX10, TX10, 49)) rfl h_p0 rfl) rfl rfl hl.1 rfl (lv_room (Nat.le_of_ble_eq_true rfl)) dX10_placeFrom_81 ⟨Nat.le_of_ble_eq_true rfl, Nat.le_of_ble_eq_true rfl⟩) hw hA ⟨by decide, by decide⟩ (fun v_3 ws H locs hp_v_3 hw hF9 => ?_)
              have x_QLE_p0_p1 := AX.over hF9 x_QLE_p0_p1 (by decide)
              have x_QLT_p0_p1 := AX.over hF9 x_QLT_p0_p1 (by decide)
              have x_QLE_p0_v_2 := AX.over hF9 x_QLE_p0_v_2 (by decide)
              have r_v_3 : RI v_3 0 1 := hp_v_3.1
              refine lv_if_eq (tgt := 89) hx hb dX10_placeFrom_84 (by decide) (fun c_84 => ?_) (fun c_84 => ?_)
              · have r_v_3 : RI v_3 0 0 := rc_eq1 r_v_3 rl_0 (ti_eq c_84) (by decide)
                obtain ⟨v_4, e_v_4⟩ : ∃ q9 : Int32, q9 = x3 + Int32.ofInt 1 := ⟨_, rfl⟩
                obtain ⟨t_v_4, r_v_4⟩ := tq_add (lo := 1) (hi := 5) r_x3 (show RI (Int32.ofInt 1) 1 1 by unfold RI; decide +kernel) (by decide +kernel) e_v_4
                have t_v_4 : v_4.toInt = x3.toInt + 1 := t_v_4
                refine lv_iinc (v := v_4) (lv' := [(3, .int v_4), (0, .ref p0), (1, .int p1), (2, .int p2), (4, .int x4), (5, .int x5)]) hx hb dX10_placeFrom_89 hl (k := 3) rfl e_v_4.symm (by decide) rfl (fun ls hl => ?_)
                refine lv_goto (tgt := 14) hx hb dX10_placeFrom_92 (by decide) ?_
                exact ih14 v_4 ws _ _ ls (by have q0 := r_v_4.1; have u0 := r_v_4.2; have o0 := r_x3.1; have p0 := r_x3.2; omega) r_p1 (r_p2.to (by decide)) (r_v_4.to (by decide)) x_QLE_p0_p1 x_QLT_p0_p1 hw (lv_sub hl [1, 2, 3, 0] rfl)
              · have r_v_3 : RI v_3 1 1 := rc_neL r_v_3 rl_0 (ti_ne c_84) (by decide)
                refine lv_iconst (v := 1) hx hb dX10_placeFrom_87 (by decide) ?_
                subst hQ
                exact W.zret (v := 1) hx hb hr (rfl) (fun t ht hW => ⟨⟨1, ws, rfl, ⟨⟨rl_1.to (by decide), (fun _ => trivial), (fun h0 => trivial)⟩, hw.1, hw.2.2.2.2.1⟩, by rw [ht]; exact hw.2.1, va_K.moved hW.alike hK, hw.2.2.1⟩, hw.2.2.2.1.F ht⟩) hw.2.2.2.1.2.2 dX10_placeFrom_88
            · have r_x4 : RI x4 1 0 := rc_eq1 r_x4 rl_0 (ti_eq c_63) (by decide)
              exact (r_x4.no (by decide)).elim
          · have r_x5 : RI x5 0 (-1) := rc_lt1 r_x5 r_p1 (ti_nle c_28) (by decide)
            have r_p1 : RI p1 1 0 := rc_lt2 r_x5 r_p1 (ti_nle c_28) (by decide)
            exact (r_x5.no (by decide)).elim
      intro x3 ws H locs ls hn14 r_p1 r_p2 r_x3 x_QLE_p0_p1 x_QLT_p0_p1 hw hl
      refine lv_iload_n hx hb dX10_placeFrom_14 rfl (lv_at hl 3 rfl) ?_
      refine lv_iload_n hx hb dX10_placeFrom_15 rfl (lv_at hl 2 rfl) ?_
      refine lv_icmp_ge (tgt := 95) hx hb dX10_placeFrom_16 (by decide) (fun c_16 => ?_) (fun c_16 => ?_)
      · refine lv_iconst (v := 0) hx hb dX10_placeFrom_95 (by decide) ?_
        subst hQ
        exact W.zret (v := 0) hx hb hr (rfl) (fun t ht hW => ⟨⟨0, ws, rfl, ⟨⟨rl_0.to (by decide), (fun h0 => trivial), (fun _ => trivial)⟩, hw.1, hw.2.2.2.2.1⟩, by rw [ht]; exact hw.2.1, va_K.moved hW.alike hK, hw.2.2.1⟩, hw.2.2.2.1.F ht⟩) hw.2.2.2.1.2.2 dX10_placeFrom_96
      · have r_x3 : RI x3 0 4 := rc_lt1 r_x3 r_p2 (ti_nle c_16) (by decide)
        have r_p2 : RI p2 1 5 := rc_lt2 r_x3 r_p2 (ti_nle c_16) (by decide)
        refine lv_iconst (v := 1) hx hb dX10_placeFrom_19 (by decide) ?_
        refine lv_istore (lv' := [(4, .int 1), (0, .ref p0), (1, .int p1), (2, .int p2), (3, .int x3)]) hx hb dX10_placeFrom_20 hl (by decide) rfl (fun ls hl => ?_)
        refine lv_iconst (v := 0) hx hb dX10_placeFrom_22 (by decide) ?_
        refine lv_istore (lv' := [(5, .int 0), (4, .int 1), (0, .ref p0), (1, .int p1), (2, .int p2), (3, .int x3)]) hx hb dX10_placeFrom_23 hl (by decide) rfl (fun ls hl => ?_)
        exact B25 4294967298 x3 1 0 ws _ _ ls (by have q0 := rl_0.1; have u0 := rl_0.2; omega) r_p1 r_p2 r_x3 rl_1 rl_0 x_QLE_p0_p1 x_QLT_p0_p1 (by have q0 := r_x3.1; have u0 := r_x3.2; omega) hw (lv_sub hl [2, 3, 4, 5, 1, 0] rfl)
  refine lv_iload_n hx hb dX10_placeFrom_0 rfl (lv_at hl 1 rfl) ?_
  refine lv_aload_n hx hb dX10_placeFrom_1 rfl (lv_at hl 0 rfl) ?_
  refine tg_get (ci := 10) (ts := ty_MODEL) (C := RX10) (T := TX10) (N := 49) hx hb hts inX10 hown hK hw h_p0 rfl rfl 14 (by decide) (hts _ tw_1151) (fun _ h9 => h9) (ft := vR 34) rfl dX10_placeFrom_2 (fun u_5 hv_u_5 m_u_5 => ?_)
  obtain ⟨vu_5, rfl, h_vu_5⟩ := hv_u_5
  refine lv_iconst (v := 2) hx hb dX10_placeFrom_5 (by decide) ?_
  refine tg_iald (lo := 0) (hi := 6) hx hb hK hw h_vu_5 rfl 2 2 rl_2 (by decide) (by decide +kernel) dX10_placeFrom_6 (fun v_6 r_v_6 m_v_6 o_v_6 => ?_)
  have x_P2_p0_v_6 : AX 14 34 (fun f => f 2 = v_6) Ps w0 p0 := AX.mk hw h_vu_5 rfl m_u_5 (fun f9 g9 _ => by have e9 := g9 _ _ m_v_6; have j9 : Int32.toNatClampNeg 2 = 2 := (by decide); rw [j9] at e9; exact e9)
  have g_ql : p1.toInt ≤ v_6.toInt := by obtain ⟨_, f9, _, _, h9⟩ := AX.and hw x_QLE_p0_p1 x_P2_p0_v_6; have k1 := h9.1; have k2 : f9 2 = v_6 := h9.2; rw [k2] at k1; exact k1
  have r_v_6 : RI v_6 0 6 := ⟨by have k1 := r_p1.1; have k2 := r_v_6.1; omega, r_v_6.2⟩
  refine lv_icmp_ne (tgt := 12) hx hb dX10_placeFrom_7 (by decide) (fun c_7 => ?_) (fun c_7 => ?_)
  · have r_v_6 : RI v_6 1 6 := rc_neL r_v_6 r_p1 (ti_ne c_7).symm (by decide)
    have x_QLT_p0_p1 : AX 14 34 (fun f => Int32.toInt p1 < (f 2).toInt) Ps w0 p0 := AX.imp x_P2_p0_v_6 (fun f9 h9 => by have k1 : f9 2 = v_6 := h9; show _ < _; rw [k1]; have k3 := ti_ne c_7; have k4 := g_ql; omega)
    refine lv_iconst (v := 0) hx hb dX10_placeFrom_12 (by decide) ?_
    refine lv_istore_n (lv' := [(3, .int 0), (0, .ref p0), (1, .int p1), (2, .int p2)]) hx hb dX10_placeFrom_13 rfl hl (by decide) rfl (fun ls hl => ?_)
    exact B14 4294967298 0 w0 _ _ ls (by have q0 := rl_0.1; have u0 := rl_0.2; omega) r_p1 r_p2 (rl_0.to (by decide)) x_QLE_p0_p1 x_QLT_p0_p1 hw (lv_sub hl [1, 2, 3, 0] rfl)
  · have r_v_6 : RI v_6 0 0 := rc_eq2 r_p1 r_v_6 (ti_eq c_7) (by decide)
    refine lv_iconst (v := 1) hx hb dX10_placeFrom_10 (by decide) ?_
    subst hQ
    exact W.zret (v := 1) hx hb hr (rfl) (fun t ht hW => ⟨⟨1, w0, rfl, ⟨⟨rl_1.to (by decide), (fun _ => trivial), (fun h0 => trivial)⟩, hw.1, hw.2.2.2.2.1⟩, by rw [ht]; exact hw.2.1, va_K.moved hW.alike hK, hw.2.2.1⟩, hw.2.2.2.1.F ht⟩) hw.2.2.2.1.2.2 dX10_placeFrom_11
abbrev wr_X10_placeFrom__13 : List (Nat × Nat) := []
abbrev wa_X10_placeFrom__13 : List Nat := []
set_option maxHeartbeats 4000000 in
set_option maxRecDepth 100000 in
theorem c_X10_placeFrom__13 (l : Launch) (D : va_G) (cy : Nat → ClassId) (z : Nat → Nat) (sz : Nat) (Ps : PSI) (w0 : va_W) (hT : HT cy GG Ps w0) (p0 : Nat) (p1 : Int32) (p2 : Int32) (h_p0 : (p0, 55) ∈ Ps) (r_p1 : RI p1 6 6) (r_p2 : RI p2 6 6) (x_QLE_p0_p1 : AX 14 34 (fun f => Int32.toInt p1 ≤ (f 2).toInt) Ps w0 p0) : Met l yX10_placeFrom (Cond.code yX10_placeFrom cX10_placeFrom 6 (some .boolean) :: gT) ({ frames := 0, cells := 0, slots := 0, locals := 200 } : Room) (va_Pc [.ref p0, .int p1, .int p2] (PRE D cy z w0 sz)) (va_Qi (fun (r : Int32) (u : Unit) => RI r 1 1 ∧ (r = 0 → True) ∧ (¬ r = 0 → True)) (BB D cy (va_A w0 sz) (fun (u : Unit) => w0)) (va_A w0 sz)) 0 0 (va_A w0 sz) := by
  refine Met.ofW (cc := cX10_placeFrom) (maxL := 6) (ret := (some .boolean)) (by decide) rfl ?_
  intro p e s m args below meth c s₁ B hml hv
  obtain ⟨rfl, hsz, hP, hK, hD0, hSD⟩ := hv
  have hx := B.exec
  have hb := B.bytes
  have hr := B.returns
  have hlocks := B.notSynchronized
  have hts : ∀ w ∈ gT, w.before _ s = true := fun w h => atoms_spec (ws := Cond.code yX10_placeFrom cX10_placeFrom 6 (some .boolean) :: gT) B.pre w (List.mem_cons_of_mem _ h)
  have hown : s.vm.findClass RX10 = some m.cls := findClass_of_methodNamed B.named
  subst hsz
  have hD := hD0.self (sz := s.heap.size)
  generalize hAe : va_A w0 s.heap.size = A at hD hSD ⊢
  have hA : ∀ q : Nat, s.heap.size ≤ q → A q := fun q h => by rw [← hAe]; exact Or.inr h
  have hl := lv_entry ([.ref p0, .int p1, .int p2]) (n := 6) (Nat.le_of_ble_eq_true rfl)
  rw [lg_entry_eq]
  generalize (lg_sl ([.ref p0, .int p1, .int p2]) ++ List.replicate (6 - (lg_sl ([.ref p0, .int p1, .int p2])).length) Slot.unset).toArray = ls at hl ⊢
  have hl : lv_has ls 6 [(0, .ref p0), (1, .int p1), (2, .int p2)] := hl
  refine nameQ (fun Q hQ => ?_)
  have hw : WD D cy GG A s wr_X10_placeFrom__13 wa_X10_placeFrom__13 Ps w0 Ps w0 s.heap [] := ⟨hT, hP, hD, va_S.rf, FR.rf, hT.1, [], (List.append_nil _).symm⟩
  refine lv_iload_n hx hb dX10_placeFrom_0 rfl (lv_at hl 1 rfl) ?_
  refine lv_aload_n hx hb dX10_placeFrom_1 rfl (lv_at hl 0 rfl) ?_
  refine tg_get (ci := 10) (ts := ty_MODEL) (C := RX10) (T := TX10) (N := 49) hx hb hts inX10 hown hK hw h_p0 rfl rfl 14 (by decide) (hts _ tw_1151) (fun _ h9 => h9) (ft := vR 34) rfl dX10_placeFrom_2 (fun u_1 hv_u_1 m_u_1 => ?_)
  obtain ⟨vu_1, rfl, h_vu_1⟩ := hv_u_1
  refine lv_iconst (v := 2) hx hb dX10_placeFrom_5 (by decide) ?_
  refine tg_iald (lo := 0) (hi := 6) hx hb hK hw h_vu_1 rfl 2 2 rl_2 (by decide) (by decide +kernel) dX10_placeFrom_6 (fun v_2 r_v_2 m_v_2 o_v_2 => ?_)
  have x_P2_p0_v_2 : AX 14 34 (fun f => f 2 = v_2) Ps w0 p0 := AX.mk hw h_vu_1 rfl m_u_1 (fun f9 g9 _ => by have e9 := g9 _ _ m_v_2; have j9 : Int32.toNatClampNeg 2 = 2 := (by decide); rw [j9] at e9; exact e9)
  have g_ql : p1.toInt ≤ v_2.toInt := by obtain ⟨_, f9, _, _, h9⟩ := AX.and hw x_QLE_p0_p1 x_P2_p0_v_2; have k1 := h9.1; have k2 : f9 2 = v_2 := h9.2; rw [k2] at k1; exact k1
  have r_v_2 : RI v_2 6 6 := ⟨by have k1 := r_p1.1; have k2 := r_v_2.1; omega, r_v_2.2⟩
  refine lv_icmp_ne (tgt := 12) hx hb dX10_placeFrom_7 (by decide) (fun c_7 => ?_) (fun c_7 => ?_)
  · exact absurd (r_p1.eq.trans r_v_2.eq.symm) ((ti_ne c_7))
  · refine lv_iconst (v := 1) hx hb dX10_placeFrom_10 (by decide) ?_
    subst hQ
    exact W.zret (v := 1) hx hb hr (rfl) (fun t ht hW => ⟨⟨1, (), rfl, ⟨rl_1.to (by decide), (fun _ => trivial), (fun h0 => trivial)⟩, by rw [ht]; exact hw.2.1, va_K.moved hW.alike hK, hw.2.2.1⟩, hw.2.2.2.1.F ht⟩) hw.2.2.2.1.2.2 dX10_placeFrom_11
abbrev wr_X10_placeFrom__12 : List (Nat × Nat) := []
abbrev wa_X10_placeFrom__12 : List Nat := [48]
set_option maxHeartbeats 4000000 in
set_option maxRecDepth 100000 in
theorem c_X10_placeFrom__12 (l : Launch) (D : va_G) (cy : Nat → ClassId) (z : Nat → Nat) (sz : Nat) (Ps : PSI) (w0 : va_W) (hT : HT cy GG Ps w0) (p0 : Nat) (p1 : Int32) (p2 : Int32) (h_p0 : (p0, 55) ∈ Ps) (r_p1 : RI p1 5 5) (r_p2 : RI p2 6 6) (x_QLE_p0_p1 : AX 14 34 (fun f => Int32.toInt p1 ≤ (f 2).toInt) Ps w0 p0) : Met l yX10_placeFrom (Cond.code yX10_placeFrom cX10_placeFrom 6 (some .boolean) :: gT) ({ frames := 4, cells := 0, slots := 0, locals := 800 } : Room) (va_Pc [.ref p0, .int p1, .int p2] (PRE D cy z w0 sz)) (va_Qi (fun (r : Int32) (u : va_W) => (RI r 1 1 ∧ (r = 0 → True) ∧ (¬ r = 0 → True)) ∧ HT cy GG Ps u ∧ FR wr_X10_placeFrom__12 wa_X10_placeFrom__12 Ps w0 u) (BB D cy (va_A w0 sz) (fun (u : va_W) => u)) (va_A w0 sz)) 0 0 (va_A w0 sz) := by
  refine Met.ofW (cc := cX10_placeFrom) (maxL := 6) (ret := (some .boolean)) (by decide) rfl ?_
  intro p e s m args below meth c s₁ B hml hv
  obtain ⟨rfl, hsz, hP, hK, hD0, hSD⟩ := hv
  have hx := B.exec
  have hb := B.bytes
  have hr := B.returns
  have hlocks := B.notSynchronized
  have hts : ∀ w ∈ gT, w.before _ s = true := fun w h => atoms_spec (ws := Cond.code yX10_placeFrom cX10_placeFrom 6 (some .boolean) :: gT) B.pre w (List.mem_cons_of_mem _ h)
  have hown : s.vm.findClass RX10 = some m.cls := findClass_of_methodNamed B.named
  subst hsz
  have hD := hD0.self (sz := s.heap.size)
  generalize hAe : va_A w0 s.heap.size = A at hD hSD ⊢
  have hA : ∀ q : Nat, s.heap.size ≤ q → A q := fun q h => by rw [← hAe]; exact Or.inr h
  have hl := lv_entry ([.ref p0, .int p1, .int p2]) (n := 6) (Nat.le_of_ble_eq_true rfl)
  rw [lg_entry_eq]
  generalize (lg_sl ([.ref p0, .int p1, .int p2]) ++ List.replicate (6 - (lg_sl ([.ref p0, .int p1, .int p2])).length) Slot.unset).toArray = ls at hl ⊢
  have hl : lv_has ls 6 [(0, .ref p0), (1, .int p1), (2, .int p2)] := hl
  refine nameQ (fun Q hQ => ?_)
  have hw : WD D cy GG A s wr_X10_placeFrom__12 wa_X10_placeFrom__12 Ps w0 Ps w0 s.heap [] := ⟨hT, hP, hD, va_S.rf, FR.rf, hT.1, [], (List.append_nil _).symm⟩
  have B14 : ∀ (nf : Nat) (x3 : Int32) (ws : va_W) (H : Heap) (locs : List Loc) (ls : Array Slot), 6 - x3.toInt < (nf : Int) → RI p1 5 5 → RI p2 6 6 → RI x3 0 6 → AX 14 34 (fun f => Int32.toInt p1 ≤ (f 2).toInt) Ps ws p0 → AX 14 34 (fun f => Int32.toInt p1 < (f 2).toInt) Ps ws p0 → AX 31 48 (fun f => PGp f p1 x3) Ps ws p0 → WD D cy GG A s wr_X10_placeFrom__12 wa_X10_placeFrom__12 Ps w0 Ps ws H locs → lv_has ls 6 [(0, .ref p0), (1, .int p1), (2, .int p2), (3, .int x3)] → W p l e (headSpec (Cond.code yX10_placeFrom cX10_placeFrom 6 (some .boolean) :: gT) ({ frames := 4, cells := 0, slots := 0, locals := 800 } : Room)).room s m ([.ref p0, .int p1, .int p2] : List Value).toArray below meth c H locs 0 0 Q (F0 m 14 ls []) := by
    intro nf14
    induction nf14 with
    | zero =>
      intro x3 ws H locs ls hn14 r_p1 r_p2 r_x3 x_QLE_p0_p1 x_QLT_p0_p1 x_PG_p0_p1__3 hw hl
      exact absurd hn14 (by have q0 := r_x3.1; have u0 := r_x3.2; omega)
    | succ nf14 ih14 =>
      have B25 : ∀ (nf : Nat) (x3 : Int32) (x4 : Int32) (x5 : Int32) (ws : va_W) (H : Heap) (locs : List Loc) (ls : Array Slot), 5 - x5.toInt < (nf : Int) → RI p1 5 5 → RI p2 6 6 → RI x3 0 5 → RI x4 0 1 → RI x5 0 5 → AX 14 34 (fun f => Int32.toInt p1 ≤ (f 2).toInt) Ps ws p0 → AX 14 34 (fun f => Int32.toInt p1 < (f 2).toInt) Ps ws p0 → AX 31 48 (fun f => PGp f p1 x3) Ps ws p0 → AX 31 48 (fun f => GDp f p1 x3 x4) Ps ws p0 → 6 - x3.toInt < ((nf14 + 1 : Nat) : Int) → WD D cy GG A s wr_X10_placeFrom__12 wa_X10_placeFrom__12 Ps w0 Ps ws H locs → lv_has ls 6 [(0, .ref p0), (1, .int p1), (2, .int p2), (3, .int x3), (4, .int x4), (5, .int x5)] → W p l e (headSpec (Cond.code yX10_placeFrom cX10_placeFrom 6 (some .boolean) :: gT) ({ frames := 4, cells := 0, slots := 0, locals := 800 } : Room)).room s m ([.ref p0, .int p1, .int p2] : List Value).toArray below meth c H locs 0 0 Q (F0 m 25 ls []) := by
        intro nf25
        induction nf25 with
        | zero =>
          intro x3 x4 x5 ws H locs ls hn25 r_p1 r_p2 r_x3 r_x4 r_x5 x_QLE_p0_p1 x_QLT_p0_p1 x_PG_p0_p1__3 x_GD_p0_p1__3__4 hn14 hw hl
          exact absurd hn25 (by have q0 := r_x5.1; have u0 := r_x5.2; omega)
        | succ nf25 ih25 =>
          intro x3 x4 x5 ws H locs ls hn25 r_p1 r_p2 r_x3 r_x4 r_x5 x_QLE_p0_p1 x_QLT_p0_p1 x_PG_p0_p1__3 x_GD_p0_p1__3__4 hn14 hw hl
          refine lv_iload hx hb dX10_placeFrom_25 (lv_at hl 5 rfl) ?_
          refine lv_iload_n hx hb dX10_placeFrom_27 rfl (lv_at hl 1 rfl) ?_
          refine lv_icmp_ge (tgt := 61) hx hb dX10_placeFrom_28 (by decide) (fun c_28 => ?_) (fun c_28 => ?_)
          · have r_x5 : RI x5 5 5 := rc_le2 r_p1 r_x5 (ti_le c_28) (by decide)
            refine lv_iload hx hb dX10_placeFrom_61 (lv_at hl 4 rfl) ?_
            refine lv_if_ne (tgt := 69) hx hb dX10_placeFrom_63 (by decide) (fun c_63 => ?_) (fun c_63 => ?_)
            · have r_x4 : RI x4 1 1 := rc_neL r_x4 rl_0 (ti_ne c_63) (by decide)
              refine lv_aload_n hx hb dX10_placeFrom_69 rfl (lv_at hl 0 rfl) ?_
              refine tg_get (ci := 10) (ts := ty_MODEL) (C := RX10) (T := TX10) (N := 49) hx hb hts inX10 hown hK hw h_p0 rfl rfl 31 (by decide) (hts _ tw_1168) (fun _ h9 => h9) (ft := vR 48) rfl dX10_placeFrom_70 (fun u_1 hv_u_1 m_u_1 => ?_)
              obtain ⟨vu_1, rfl, h_vu_1⟩ := hv_u_1
              refine lv_iload_n hx hb dX10_placeFrom_73 rfl (lv_at hl 1 rfl) ?_
              refine lv_iload_n hx hb dX10_placeFrom_74 rfl (lv_at hl 3 rfl) ?_
              refine tg_iast hx hb hK hw h_vu_1 rfl 5 5 r_p1 (by decide) r_x3 (by exact fun _ _ _ => by decide) (fun _ _ _ _ _ => trivial) (by decide) dX10_placeFrom_75 (fun ws H locs hw hF9 hU9 => ?_)
              have x_QLE_p0_p1 := AX.over hF9 x_QLE_p0_p1 (by decide)
              have x_QLT_p0_p1 := AX.over hF9 x_QLT_p0_p1 (by decide)
              refine lv_aload_n hx hb dX10_placeFrom_76 rfl (lv_at hl 0 rfl) ?_
              refine lv_iload_n hx hb dX10_placeFrom_77 rfl (lv_at hl 1 rfl) ?_
              refine lv_iconst (v := 1) hx hb dX10_placeFrom_78 (by decide) ?_
              refine lv_iadd hx hb dX10_placeFrom_79 (lv_topi (fun v_2 e_v_2 => ?_))
              obtain ⟨t_v_2, r_v_2⟩ := tq_add (lo := 6) (hi := 6) r_p1 rl_1 (by decide +kernel) e_v_2
              have t_v_2 : v_2.toInt = p1.toInt + 1 := t_v_2
              refine lv_iload_n hx hb dX10_placeFrom_80 rfl (lv_at hl 2 rfl) ?_
              have x_QLE_p0_v_2 : AX 14 34 (fun f => Int32.toInt v_2 ≤ (f 2).toInt) Ps ws p0 := AX.imp x_QLT_p0_p1 (fun f9 h9 => by have k2 := t_v_2; show _ ≤ _; have k3 : p1.toInt < (f9 2).toInt := h9; omega)
              refine tk_ir (va_runV (As := [.int v_2, .int p2]) (rest := []) ⟨hx, hb, hml, hown, hts⟩ (c_X10_placeFrom__13 l D cy z H.size Ps ws hw.1 p0 v_2 p2 h_p0 r_v_2 r_p2 x_QLE_p0_v_2) (cwV 2 hts (gV tw_1634 tw_1636 ts_93 tw_15 tw_1637) rfl rfl rfl (by decide +kernel) ⟨Nat.le_of_ble_eq_true rfl, Nat.le_of_ble_eq_true rfl⟩) (tg_preV hw hK hSD hA (ci := 10) (q := (RX10, TX10, 49)) rfl h_p0 rfl) rfl rfl hl.1 rfl (lv_room (Nat.le_of_ble_eq_true rfl)) dX10_placeFrom_81 ⟨Nat.le_of_ble_eq_true rfl, Nat.le_of_ble_eq_true rfl⟩) hw hA (fun v_3  H locs hp_v_3 hw => ?_)
              have r_v_3 : RI v_3 1 1 := hp_v_3.1
              refine lv_if_eq (tgt := 89) hx hb dX10_placeFrom_84 (by decide) (fun c_84 => ?_) (fun c_84 => ?_)
              · have r_v_3 : RI v_3 1 0 := rc_eq1 r_v_3 rl_0 (ti_eq c_84) (by decide)
                exact (r_v_3.no (by decide)).elim
              · refine lv_iconst (v := 1) hx hb dX10_placeFrom_87 (by decide) ?_
                subst hQ
                exact W.zret (v := 1) hx hb hr (rfl) (fun t ht hW => ⟨⟨1, ws, rfl, ⟨⟨rl_1.to (by decide), (fun _ => trivial), (fun h0 => trivial)⟩, hw.1, hw.2.2.2.2.1⟩, by rw [ht]; exact hw.2.1, va_K.moved hW.alike hK, hw.2.2.1⟩, hw.2.2.2.1.F ht⟩) hw.2.2.2.1.2.2 dX10_placeFrom_88
            · have r_x4 : RI x4 0 0 := rc_eq1 r_x4 rl_0 (ti_eq c_63) (by decide)
              refine lv_goto (tgt := 89) hx hb dX10_placeFrom_66 (by decide) ?_
              obtain ⟨v_4, e_v_4⟩ : ∃ q9 : Int32, q9 = x3 + Int32.ofInt 1 := ⟨_, rfl⟩
              obtain ⟨t_v_4, r_v_4⟩ := tq_add (lo := 1) (hi := 6) r_x3 (show RI (Int32.ofInt 1) 1 1 by unfold RI; decide +kernel) (by decide +kernel) e_v_4
              have t_v_4 : v_4.toInt = x3.toInt + 1 := t_v_4
              refine lv_iinc (v := v_4) (lv' := [(3, .int v_4), (0, .ref p0), (1, .int p1), (2, .int p2), (4, .int x4), (5, .int x5)]) hx hb dX10_placeFrom_89 hl (k := 3) rfl e_v_4.symm (by decide) rfl (fun ls hl => ?_)
              refine lv_goto (tgt := 14) hx hb dX10_placeFrom_92 (by decide) ?_
              have x_PG_p0_p1_v_4 : AX 31 48 (fun f => PGp f p1 v_4) Ps ws p0 := AX.imp (AX.and hw x_PG_p0_p1__3 x_GD_p0_p1__3__4) (fun f9 h9 => PG_next h9.1 h9.2 r_x4 (r_x3.to (by decide)) t_v_4)
              exact ih14 v_4 ws _ _ ls (by have q0 := r_v_4.1; have u0 := r_v_4.2; have o0 := r_x3.1; have p0 := r_x3.2; omega) r_p1 r_p2 (r_v_4.to (by decide)) x_QLE_p0_p1 x_QLT_p0_p1 x_PG_p0_p1_v_4 hw (lv_sub hl [1, 2, 3, 0] rfl)
          · have r_x5 : RI x5 0 4 := rc_lt1 r_x5 r_p1 (ti_nle c_28) (by decide)
            refine lv_aload_n hx hb dX10_placeFrom_31 rfl (lv_at hl 0 rfl) ?_
            refine tg_get (ci := 10) (ts := ty_MODEL) (C := RX10) (T := TX10) (N := 49) hx hb hts inX10 hown hK hw h_p0 rfl rfl 31 (by decide) (hts _ tw_1168) (fun _ h9 => h9) (ft := vR 48) rfl dX10_placeFrom_32 (fun u_5 hv_u_5 m_u_5 => ?_)
            obtain ⟨vu_5, rfl, h_vu_5⟩ := hv_u_5
            refine lv_iload hx hb dX10_placeFrom_35 (lv_at hl 5 rfl) ?_
            refine tg_iald (lo := (-2147483648)) (hi := 2147483647) hx hb hK hw h_vu_5 rfl 0 4 r_x5 (by decide) (by exact fun _ _ _ => ⟨Int.le_refl _, Int.le_refl _⟩) dX10_placeFrom_37 (fun v_6 r_v_6 m_v_6 o_v_6 => ?_)
            refine lv_iload_n hx hb dX10_placeFrom_38 rfl (lv_at hl 3 rfl) ?_
            refine lv_icmp_ne (tgt := 55) hx hb dX10_placeFrom_39 (by decide) (fun c_39 => ?_) (fun c_39 => ?_)
            · obtain ⟨v_7, e_v_7⟩ : ∃ q9 : Int32, q9 = x5 + Int32.ofInt 1 := ⟨_, rfl⟩
              obtain ⟨t_v_7, r_v_7⟩ := tq_add (lo := 1) (hi := 5) r_x5 (show RI (Int32.ofInt 1) 1 1 by unfold RI; decide +kernel) (by decide +kernel) e_v_7
              have t_v_7 : v_7.toInt = x5.toInt + 1 := t_v_7
              refine lv_iinc (v := v_7) (lv' := [(5, .int v_7), (0, .ref p0), (1, .int p1), (2, .int p2), (3, .int x3), (4, .int x4)]) hx hb dX10_placeFrom_55 hl (k := 5) rfl e_v_7.symm (by decide) rfl (fun ls hl => ?_)
              refine lv_goto (tgt := 25) hx hb dX10_placeFrom_58 (by decide) ?_
              exact ih25 x3 x4 v_7 ws _ _ ls (by have q0 := r_v_7.1; have u0 := r_v_7.2; have o0 := r_x5.1; have p0 := r_x5.2; omega) r_p1 r_p2 r_x3 r_x4 (r_v_7.to (by decide)) x_QLE_p0_p1 x_QLT_p0_p1 x_PG_p0_p1__3 x_GD_p0_p1__3__4 (by have q0 := r_x3.1; have u0 := r_x3.2; omega) hw (lv_sub hl [1, 2, 3, 4, 5, 0] rfl)
            · have r_v_6 : RI v_6 0 5 := rc_eq1 r_v_6 r_x3 (ti_eq c_39) (by decide)
              refine lv_aload_n hx hb dX10_placeFrom_42 rfl (lv_at hl 0 rfl) ?_
              refine lv_iload_n hx hb dX10_placeFrom_43 rfl (lv_at hl 1 rfl) ?_
              refine lv_iload hx hb dX10_placeFrom_44 (lv_at hl 5 rfl) ?_
              refine tk_ir (va_runV (As := [.int p1, .int x5]) (rest := []) ⟨hx, hb, hml, hown, hts⟩ (c_X10_doQuarrel l D cy z H.size Ps ws hw.1 p0 p1 x5 h_p0 (r_p1.to (by decide)) (r_x5.to (by decide))) (cwV 2 hts (gV tw_1638 tw_1640 ts_94 tw_15 tw_1641) rfl rfl rfl (by decide +kernel) ⟨Nat.le_of_ble_eq_true rfl, Nat.le_of_ble_eq_true rfl⟩) (tg_preV hw hK hSD hA (ci := 10) (q := (RX10, TX10, 49)) rfl h_p0 rfl) rfl rfl hl.1 rfl (lv_room (Nat.le_of_ble_eq_true rfl)) dX10_placeFrom_46 ⟨Nat.le_of_ble_eq_true rfl, Nat.le_of_ble_eq_true rfl⟩) hw hA (fun v_8  H locs hp_v_8 hw => ?_)
              have r_v_8 : RI v_8 0 1 := hp_v_8.1
              refine lv_if_eq (tgt := 55) hx hb dX10_placeFrom_49 (by decide) (fun c_49 => ?_) (fun c_49 => ?_)
              · have r_v_8 : RI v_8 0 0 := rc_eq1 r_v_8 rl_0 (ti_eq c_49) (by decide)
                obtain ⟨v_9, e_v_9⟩ : ∃ q9 : Int32, q9 = x5 + Int32.ofInt 1 := ⟨_, rfl⟩
                obtain ⟨t_v_9, r_v_9⟩ := tq_add (lo := 1) (hi := 5) r_x5 (show RI (Int32.ofInt 1) 1 1 by unfold RI; decide +kernel) (by decide +kernel) e_v_9
                have t_v_9 : v_9.toInt = x5.toInt + 1 := t_v_9
                refine lv_iinc (v := v_9) (lv' := [(5, .int v_9), (0, .ref p0), (1, .int p1), (2, .int p2), (3, .int x3), (4, .int x4)]) hx hb dX10_placeFrom_55 hl (k := 5) rfl e_v_9.symm (by decide) rfl (fun ls hl => ?_)
                refine lv_goto (tgt := 25) hx hb dX10_placeFrom_58 (by decide) ?_
                exact ih25 x3 x4 v_9 ws _ _ ls (by have q0 := r_v_9.1; have u0 := r_v_9.2; have o0 := r_x5.1; have p0 := r_x5.2; omega) r_p1 r_p2 r_x3 r_x4 (r_v_9.to (by decide)) x_QLE_p0_p1 x_QLT_p0_p1 x_PG_p0_p1__3 x_GD_p0_p1__3__4 (by have q0 := r_x3.1; have u0 := r_x3.2; omega) hw (lv_sub hl [1, 2, 3, 4, 5, 0] rfl)
              · have r_v_8 : RI v_8 1 1 := rc_neL r_v_8 rl_0 (ti_ne c_49) (by decide)
                refine lv_iconst (v := 0) hx hb dX10_placeFrom_52 (by decide) ?_
                refine lv_istore (lv' := [(4, .int 0), (0, .ref p0), (1, .int p1), (2, .int p2), (3, .int x3), (5, .int x5)]) hx hb dX10_placeFrom_53 hl (by decide) rfl (fun ls hl => ?_)
                obtain ⟨v_10, e_v_10⟩ : ∃ q9 : Int32, q9 = x5 + Int32.ofInt 1 := ⟨_, rfl⟩
                obtain ⟨t_v_10, r_v_10⟩ := tq_add (lo := 1) (hi := 5) r_x5 (show RI (Int32.ofInt 1) 1 1 by unfold RI; decide +kernel) (by decide +kernel) e_v_10
                have t_v_10 : v_10.toInt = x5.toInt + 1 := t_v_10
                refine lv_iinc (v := v_10) (lv' := [(5, .int v_10), (4, .int 0), (0, .ref p0), (1, .int p1), (2, .int p2), (3, .int x3)]) hx hb dX10_placeFrom_55 hl (k := 5) rfl e_v_10.symm (by decide) rfl (fun ls hl => ?_)
                refine lv_goto (tgt := 25) hx hb dX10_placeFrom_58 (by decide) ?_
                have x_GD_p0_p1_x3_0 : AX 31 48 (fun f => GDp f p1 x3 0) Ps ws p0 := AX.mk hw h_vu_5 rfl m_u_5 (fun f9 g9 _ => fun _ => ⟨Int32.toNatClampNeg x5, by have k1 := r_x5.cl (by decide); have k2 := ti_nle c_28; omega, by have e9 := g9 _ _ m_v_6; rw [e9]; exact ti_eq c_39⟩)
                exact ih25 x3 0 v_10 ws _ _ ls (by have q0 := r_v_10.1; have u0 := r_v_10.2; have o0 := r_x5.1; have p0 := r_x5.2; omega) r_p1 r_p2 r_x3 (rl_0.to (by decide)) (r_v_10.to (by decide)) x_QLE_p0_p1 x_QLT_p0_p1 x_PG_p0_p1__3 x_GD_p0_p1_x3_0 (by have q0 := r_x3.1; have u0 := r_x3.2; omega) hw (lv_sub hl [2, 3, 4, 5, 1, 0] rfl)
      intro x3 ws H locs ls hn14 r_p1 r_p2 r_x3 x_QLE_p0_p1 x_QLT_p0_p1 x_PG_p0_p1__3 hw hl
      refine lv_iload_n hx hb dX10_placeFrom_14 rfl (lv_at hl 3 rfl) ?_
      refine lv_iload_n hx hb dX10_placeFrom_15 rfl (lv_at hl 2 rfl) ?_
      refine lv_icmp_ge (tgt := 95) hx hb dX10_placeFrom_16 (by decide) (fun c_16 => ?_) (fun c_16 => ?_)
      · have r_x3 : RI x3 6 6 := rc_le2 r_p2 r_x3 (ti_le c_16) (by decide)
        exact (by obtain ⟨_, f9, _, _, h9⟩ := x_PG_p0_p1__3; exact PG_no h9 (r_p1.to (by decide)) (r_x3.to (by decide)) : False).elim
      · have r_x3 : RI x3 0 5 := rc_lt1 r_x3 r_p2 (ti_nle c_16) (by decide)
        refine lv_iconst (v := 1) hx hb dX10_placeFrom_19 (by decide) ?_
        refine lv_istore (lv' := [(4, .int 1), (0, .ref p0), (1, .int p1), (2, .int p2), (3, .int x3)]) hx hb dX10_placeFrom_20 hl (by decide) rfl (fun ls hl => ?_)
        refine lv_iconst (v := 0) hx hb dX10_placeFrom_22 (by decide) ?_
        refine lv_istore (lv' := [(5, .int 0), (4, .int 1), (0, .ref p0), (1, .int p1), (2, .int p2), (3, .int x3)]) hx hb dX10_placeFrom_23 hl (by decide) rfl (fun ls hl => ?_)
        have x_GD_p0_p1_x3_1 : AX 31 48 (fun f => GDp f p1 x3 1) Ps ws p0 := AX.imp (ax_of (k := 31) (t := 48) hw h_p0 rfl (fun _ => rfl)) (fun f9 _ => fun q9 => absurd q9 (by decide))
        exact B25 4294967298 x3 1 0 ws _ _ ls (by have q0 := rl_0.1; have u0 := rl_0.2; omega) r_p1 r_p2 r_x3 (rl_1.to (by decide)) (rl_0.to (by decide)) x_QLE_p0_p1 x_QLT_p0_p1 x_PG_p0_p1__3 x_GD_p0_p1_x3_1 (by have q0 := r_x3.1; have u0 := r_x3.2; omega) hw (lv_sub hl [2, 3, 4, 5, 1, 0] rfl)
  refine lv_iload_n hx hb dX10_placeFrom_0 rfl (lv_at hl 1 rfl) ?_
  refine lv_aload_n hx hb dX10_placeFrom_1 rfl (lv_at hl 0 rfl) ?_
  refine tg_get (ci := 10) (ts := ty_MODEL) (C := RX10) (T := TX10) (N := 49) hx hb hts inX10 hown hK hw h_p0 rfl rfl 14 (by decide) (hts _ tw_1151) (fun _ h9 => h9) (ft := vR 34) rfl dX10_placeFrom_2 (fun u_11 hv_u_11 m_u_11 => ?_)
  obtain ⟨vu_11, rfl, h_vu_11⟩ := hv_u_11
  refine lv_iconst (v := 2) hx hb dX10_placeFrom_5 (by decide) ?_
  refine tg_iald (lo := 0) (hi := 6) hx hb hK hw h_vu_11 rfl 2 2 rl_2 (by decide) (by decide +kernel) dX10_placeFrom_6 (fun v_12 r_v_12 m_v_12 o_v_12 => ?_)
  have x_P2_p0_v_12 : AX 14 34 (fun f => f 2 = v_12) Ps w0 p0 := AX.mk hw h_vu_11 rfl m_u_11 (fun f9 g9 _ => by have e9 := g9 _ _ m_v_12; have j9 : Int32.toNatClampNeg 2 = 2 := (by decide); rw [j9] at e9; exact e9)
  have g_ql : p1.toInt ≤ v_12.toInt := by obtain ⟨_, f9, _, _, h9⟩ := AX.and hw x_QLE_p0_p1 x_P2_p0_v_12; have k1 := h9.1; have k2 : f9 2 = v_12 := h9.2; rw [k2] at k1; exact k1
  have r_v_12 : RI v_12 5 6 := ⟨by have k1 := r_p1.1; have k2 := r_v_12.1; omega, r_v_12.2⟩
  refine lv_icmp_ne (tgt := 12) hx hb dX10_placeFrom_7 (by decide) (fun c_7 => ?_) (fun c_7 => ?_)
  · have r_v_12 : RI v_12 6 6 := rc_neL r_v_12 r_p1 (ti_ne c_7).symm (by decide)
    have x_QLT_p0_p1 : AX 14 34 (fun f => Int32.toInt p1 < (f 2).toInt) Ps w0 p0 := AX.imp x_P2_p0_v_12 (fun f9 h9 => by have k1 : f9 2 = v_12 := h9; show _ < _; rw [k1]; have k3 := ti_ne c_7; have k4 := g_ql; omega)
    refine lv_iconst (v := 0) hx hb dX10_placeFrom_12 (by decide) ?_
    refine lv_istore_n (lv' := [(3, .int 0), (0, .ref p0), (1, .int p1), (2, .int p2)]) hx hb dX10_placeFrom_13 rfl hl (by decide) rfl (fun ls hl => ?_)
    have x_PG_p0_p1_0 : AX 31 48 (fun f => PGp f p1 0) Ps w0 p0 := AX.imp (ax_of (k := 31) (t := 48) hw h_p0 rfl (fun _ => rfl)) (fun f9 _ => fun j9 q9 => absurd q9 (by rw [Int32.toInt_zero]; omega))
    exact B14 4294967298 0 w0 _ _ ls (by have q0 := rl_0.1; have u0 := rl_0.2; omega) r_p1 r_p2 (rl_0.to (by decide)) x_QLE_p0_p1 x_QLT_p0_p1 x_PG_p0_p1_0 hw (lv_sub hl [1, 2, 3, 0] rfl)
  · have r_v_12 : RI v_12 5 5 := rc_eq2 r_p1 r_v_12 (ti_eq c_7) (by decide)
    refine lv_iconst (v := 1) hx hb dX10_placeFrom_10 (by decide) ?_
    subst hQ
    exact W.zret (v := 1) hx hb hr (rfl) (fun t ht hW => ⟨⟨1, w0, rfl, ⟨⟨rl_1.to (by decide), (fun _ => trivial), (fun h0 => trivial)⟩, hw.1, hw.2.2.2.2.1⟩, by rw [ht]; exact hw.2.1, va_K.moved hW.alike hK, hw.2.2.1⟩, hw.2.2.2.1.F ht⟩) hw.2.2.2.1.2.2 dX10_placeFrom_11
abbrev wr_X10_placeFrom__11 : List (Nat × Nat) := []
abbrev wa_X10_placeFrom__11 : List Nat := [48]
set_option maxHeartbeats 4000000 in
set_option maxRecDepth 100000 in
theorem c_X10_placeFrom__11 (l : Launch) (D : va_G) (cy : Nat → ClassId) (z : Nat → Nat) (sz : Nat) (Ps : PSI) (w0 : va_W) (hT : HT cy GG Ps w0) (p0 : Nat) (p1 : Int32) (p2 : Int32) (h_p0 : (p0, 55) ∈ Ps) (r_p1 : RI p1 4 4) (r_p2 : RI p2 6 6) (x_QLE_p0_p1 : AX 14 34 (fun f => Int32.toInt p1 ≤ (f 2).toInt) Ps w0 p0) : Met l yX10_placeFrom (Cond.code yX10_placeFrom cX10_placeFrom 6 (some .boolean) :: gT) ({ frames := 5, cells := 0, slots := 0, locals := 1000 } : Room) (va_Pc [.ref p0, .int p1, .int p2] (PRE D cy z w0 sz)) (va_Qi (fun (r : Int32) (u : va_W) => (RI r 1 1 ∧ (r = 0 → True) ∧ (¬ r = 0 → True)) ∧ HT cy GG Ps u ∧ FR wr_X10_placeFrom__11 wa_X10_placeFrom__11 Ps w0 u) (BB D cy (va_A w0 sz) (fun (u : va_W) => u)) (va_A w0 sz)) 0 0 (va_A w0 sz) := by
  refine Met.ofW (cc := cX10_placeFrom) (maxL := 6) (ret := (some .boolean)) (by decide) rfl ?_
  intro p e s m args below meth c s₁ B hml hv
  obtain ⟨rfl, hsz, hP, hK, hD0, hSD⟩ := hv
  have hx := B.exec
  have hb := B.bytes
  have hr := B.returns
  have hlocks := B.notSynchronized
  have hts : ∀ w ∈ gT, w.before _ s = true := fun w h => atoms_spec (ws := Cond.code yX10_placeFrom cX10_placeFrom 6 (some .boolean) :: gT) B.pre w (List.mem_cons_of_mem _ h)
  have hown : s.vm.findClass RX10 = some m.cls := findClass_of_methodNamed B.named
  subst hsz
  have hD := hD0.self (sz := s.heap.size)
  generalize hAe : va_A w0 s.heap.size = A at hD hSD ⊢
  have hA : ∀ q : Nat, s.heap.size ≤ q → A q := fun q h => by rw [← hAe]; exact Or.inr h
  have hl := lv_entry ([.ref p0, .int p1, .int p2]) (n := 6) (Nat.le_of_ble_eq_true rfl)
  rw [lg_entry_eq]
  generalize (lg_sl ([.ref p0, .int p1, .int p2]) ++ List.replicate (6 - (lg_sl ([.ref p0, .int p1, .int p2])).length) Slot.unset).toArray = ls at hl ⊢
  have hl : lv_has ls 6 [(0, .ref p0), (1, .int p1), (2, .int p2)] := hl
  refine nameQ (fun Q hQ => ?_)
  have hw : WD D cy GG A s wr_X10_placeFrom__11 wa_X10_placeFrom__11 Ps w0 Ps w0 s.heap [] := ⟨hT, hP, hD, va_S.rf, FR.rf, hT.1, [], (List.append_nil _).symm⟩
  have B14 : ∀ (nf : Nat) (x3 : Int32) (ws : va_W) (H : Heap) (locs : List Loc) (ls : Array Slot), 6 - x3.toInt < (nf : Int) → RI p1 4 4 → RI p2 6 6 → RI x3 0 6 → AX 14 34 (fun f => Int32.toInt p1 ≤ (f 2).toInt) Ps ws p0 → AX 14 34 (fun f => Int32.toInt p1 < (f 2).toInt) Ps ws p0 → AX 31 48 (fun f => PGp f p1 x3) Ps ws p0 → WD D cy GG A s wr_X10_placeFrom__11 wa_X10_placeFrom__11 Ps w0 Ps ws H locs → lv_has ls 6 [(0, .ref p0), (1, .int p1), (2, .int p2), (3, .int x3)] → W p l e (headSpec (Cond.code yX10_placeFrom cX10_placeFrom 6 (some .boolean) :: gT) ({ frames := 5, cells := 0, slots := 0, locals := 1000 } : Room)).room s m ([.ref p0, .int p1, .int p2] : List Value).toArray below meth c H locs 0 0 Q (F0 m 14 ls []) := by
    intro nf14
    induction nf14 with
    | zero =>
      intro x3 ws H locs ls hn14 r_p1 r_p2 r_x3 x_QLE_p0_p1 x_QLT_p0_p1 x_PG_p0_p1__3 hw hl
      exact absurd hn14 (by have q0 := r_x3.1; have u0 := r_x3.2; omega)
    | succ nf14 ih14 =>
      have B25 : ∀ (nf : Nat) (x3 : Int32) (x4 : Int32) (x5 : Int32) (ws : va_W) (H : Heap) (locs : List Loc) (ls : Array Slot), 4 - x5.toInt < (nf : Int) → RI p1 4 4 → RI p2 6 6 → RI x3 0 5 → RI x4 0 1 → RI x5 0 4 → AX 14 34 (fun f => Int32.toInt p1 ≤ (f 2).toInt) Ps ws p0 → AX 14 34 (fun f => Int32.toInt p1 < (f 2).toInt) Ps ws p0 → AX 31 48 (fun f => PGp f p1 x3) Ps ws p0 → AX 31 48 (fun f => GDp f p1 x3 x4) Ps ws p0 → 6 - x3.toInt < ((nf14 + 1 : Nat) : Int) → WD D cy GG A s wr_X10_placeFrom__11 wa_X10_placeFrom__11 Ps w0 Ps ws H locs → lv_has ls 6 [(0, .ref p0), (1, .int p1), (2, .int p2), (3, .int x3), (4, .int x4), (5, .int x5)] → W p l e (headSpec (Cond.code yX10_placeFrom cX10_placeFrom 6 (some .boolean) :: gT) ({ frames := 5, cells := 0, slots := 0, locals := 1000 } : Room)).room s m ([.ref p0, .int p1, .int p2] : List Value).toArray below meth c H locs 0 0 Q (F0 m 25 ls []) := by
        intro nf25
        induction nf25 with
        | zero =>
          intro x3 x4 x5 ws H locs ls hn25 r_p1 r_p2 r_x3 r_x4 r_x5 x_QLE_p0_p1 x_QLT_p0_p1 x_PG_p0_p1__3 x_GD_p0_p1__3__4 hn14 hw hl
          exact absurd hn25 (by have q0 := r_x5.1; have u0 := r_x5.2; omega)
        | succ nf25 ih25 =>
          intro x3 x4 x5 ws H locs ls hn25 r_p1 r_p2 r_x3 r_x4 r_x5 x_QLE_p0_p1 x_QLT_p0_p1 x_PG_p0_p1__3 x_GD_p0_p1__3__4 hn14 hw hl
          refine lv_iload hx hb dX10_placeFrom_25 (lv_at hl 5 rfl) ?_
          refine lv_iload_n hx hb dX10_placeFrom_27 rfl (lv_at hl 1 rfl) ?_
          refine lv_icmp_ge (tgt := 61) hx hb dX10_placeFrom_28 (by decide) (fun c_28 => ?_) (fun c_28 => ?_)
          · have r_x5 : RI x5 4 4 := rc_le2 r_p1 r_x5 (ti_le c_28) (by decide)
            refine lv_iload hx hb dX10_placeFrom_61 (lv_at hl 4 rfl) ?_
            refine lv_if_ne (tgt := 69) hx hb dX10_placeFrom_63 (by decide) (fun c_63 => ?_) (fun c_63 => ?_)
            · have r_x4 : RI x4 1 1 := rc_neL r_x4 rl_0 (ti_ne c_63) (by decide)
              refine lv_aload_n hx hb dX10_placeFrom_69 rfl (lv_at hl 0 rfl) ?_
              refine tg_get (ci := 10) (ts := ty_MODEL) (C := RX10) (T := TX10) (N := 49) hx hb hts inX10 hown hK hw h_p0 rfl rfl 31 (by decide) (hts _ tw_1168) (fun _ h9 => h9) (ft := vR 48) rfl dX10_placeFrom_70 (fun u_1 hv_u_1 m_u_1 => ?_)
              obtain ⟨vu_1, rfl, h_vu_1⟩ := hv_u_1
              refine lv_iload_n hx hb dX10_placeFrom_73 rfl (lv_at hl 1 rfl) ?_
              refine lv_iload_n hx hb dX10_placeFrom_74 rfl (lv_at hl 3 rfl) ?_
              refine tg_iast hx hb hK hw h_vu_1 rfl 4 4 r_p1 (by decide) r_x3 (by exact fun _ _ _ => by decide) (fun _ _ _ _ _ => trivial) (by decide) dX10_placeFrom_75 (fun ws H locs hw hF9 hU9 => ?_)
              have x_QLE_p0_p1 := AX.over hF9 x_QLE_p0_p1 (by decide)
              have x_QLT_p0_p1 := AX.over hF9 x_QLT_p0_p1 (by decide)
              refine lv_aload_n hx hb dX10_placeFrom_76 rfl (lv_at hl 0 rfl) ?_
              refine lv_iload_n hx hb dX10_placeFrom_77 rfl (lv_at hl 1 rfl) ?_
              refine lv_iconst (v := 1) hx hb dX10_placeFrom_78 (by decide) ?_
              refine lv_iadd hx hb dX10_placeFrom_79 (lv_topi (fun v_2 e_v_2 => ?_))
              obtain ⟨t_v_2, r_v_2⟩ := tq_add (lo := 5) (hi := 5) r_p1 rl_1 (by decide +kernel) e_v_2
              have t_v_2 : v_2.toInt = p1.toInt + 1 := t_v_2
              refine lv_iload_n hx hb dX10_placeFrom_80 rfl (lv_at hl 2 rfl) ?_
              have x_QLE_p0_v_2 : AX 14 34 (fun f => Int32.toInt v_2 ≤ (f 2).toInt) Ps ws p0 := AX.imp x_QLT_p0_p1 (fun f9 h9 => by have k2 := t_v_2; show _ ≤ _; have k3 : p1.toInt < (f9 2).toInt := h9; omega)
              refine tk_i (va_runV (As := [.int v_2, .int p2]) (rest := []) ⟨hx, hb, hml, hown, hts⟩ (c_X10_placeFrom__12 l D cy z H.size Ps ws hw.1 p0 v_2 p2 h_p0 r_v_2 r_p2 x_QLE_p0_v_2) (cwV 2 hts (gV tw_1634 tw_1636 ts_93 tw_15 tw_1637) rfl rfl rfl (by decide +kernel) ⟨Nat.le_of_ble_eq_true rfl, Nat.le_of_ble_eq_true rfl⟩) (tg_preV hw hK hSD hA (ci := 10) (q := (RX10, TX10, 49)) rfl h_p0 rfl) rfl rfl hl.1 rfl (lv_room (Nat.le_of_ble_eq_true rfl)) dX10_placeFrom_81 ⟨Nat.le_of_ble_eq_true rfl, Nat.le_of_ble_eq_true rfl⟩) hw hA ⟨by decide, by decide⟩ (fun v_3 ws H locs hp_v_3 hw hF9 => ?_)
              have x_QLE_p0_p1 := AX.over hF9 x_QLE_p0_p1 (by decide)
              have x_QLT_p0_p1 := AX.over hF9 x_QLT_p0_p1 (by decide)
              have x_QLE_p0_v_2 := AX.over hF9 x_QLE_p0_v_2 (by decide)
              have r_v_3 : RI v_3 1 1 := hp_v_3.1
              refine lv_if_eq (tgt := 89) hx hb dX10_placeFrom_84 (by decide) (fun c_84 => ?_) (fun c_84 => ?_)
              · have r_v_3 : RI v_3 1 0 := rc_eq1 r_v_3 rl_0 (ti_eq c_84) (by decide)
                exact (r_v_3.no (by decide)).elim
              · refine lv_iconst (v := 1) hx hb dX10_placeFrom_87 (by decide) ?_
                subst hQ
                exact W.zret (v := 1) hx hb hr (rfl) (fun t ht hW => ⟨⟨1, ws, rfl, ⟨⟨rl_1.to (by decide), (fun _ => trivial), (fun h0 => trivial)⟩, hw.1, hw.2.2.2.2.1⟩, by rw [ht]; exact hw.2.1, va_K.moved hW.alike hK, hw.2.2.1⟩, hw.2.2.2.1.F ht⟩) hw.2.2.2.1.2.2 dX10_placeFrom_88
            · have r_x4 : RI x4 0 0 := rc_eq1 r_x4 rl_0 (ti_eq c_63) (by decide)
              refine lv_goto (tgt := 89) hx hb dX10_placeFrom_66 (by decide) ?_
              obtain ⟨v_4, e_v_4⟩ : ∃ q9 : Int32, q9 = x3 + Int32.ofInt 1 := ⟨_, rfl⟩
              obtain ⟨t_v_4, r_v_4⟩ := tq_add (lo := 1) (hi := 6) r_x3 (show RI (Int32.ofInt 1) 1 1 by unfold RI; decide +kernel) (by decide +kernel) e_v_4
              have t_v_4 : v_4.toInt = x3.toInt + 1 := t_v_4
              refine lv_iinc (v := v_4) (lv' := [(3, .int v_4), (0, .ref p0), (1, .int p1), (2, .int p2), (4, .int x4), (5, .int x5)]) hx hb dX10_placeFrom_89 hl (k := 3) rfl e_v_4.symm (by decide) rfl (fun ls hl => ?_)
              refine lv_goto (tgt := 14) hx hb dX10_placeFrom_92 (by decide) ?_
              have x_PG_p0_p1_v_4 : AX 31 48 (fun f => PGp f p1 v_4) Ps ws p0 := AX.imp (AX.and hw x_PG_p0_p1__3 x_GD_p0_p1__3__4) (fun f9 h9 => PG_next h9.1 h9.2 r_x4 (r_x3.to (by decide)) t_v_4)
              exact ih14 v_4 ws _ _ ls (by have q0 := r_v_4.1; have u0 := r_v_4.2; have o0 := r_x3.1; have p0 := r_x3.2; omega) r_p1 r_p2 (r_v_4.to (by decide)) x_QLE_p0_p1 x_QLT_p0_p1 x_PG_p0_p1_v_4 hw (lv_sub hl [1, 2, 3, 0] rfl)
          · have r_x5 : RI x5 0 3 := rc_lt1 r_x5 r_p1 (ti_nle c_28) (by decide)
            refine lv_aload_n hx hb dX10_placeFrom_31 rfl (lv_at hl 0 rfl) ?_
            refine tg_get (ci := 10) (ts := ty_MODEL) (C := RX10) (T := TX10) (N := 49) hx hb hts inX10 hown hK hw h_p0 rfl rfl 31 (by decide) (hts _ tw_1168) (fun _ h9 => h9) (ft := vR 48) rfl dX10_placeFrom_32 (fun u_5 hv_u_5 m_u_5 => ?_)
            obtain ⟨vu_5, rfl, h_vu_5⟩ := hv_u_5
            refine lv_iload hx hb dX10_placeFrom_35 (lv_at hl 5 rfl) ?_
            refine tg_iald (lo := (-2147483648)) (hi := 2147483647) hx hb hK hw h_vu_5 rfl 0 3 r_x5 (by decide) (by exact fun _ _ _ => ⟨Int.le_refl _, Int.le_refl _⟩) dX10_placeFrom_37 (fun v_6 r_v_6 m_v_6 o_v_6 => ?_)
            refine lv_iload_n hx hb dX10_placeFrom_38 rfl (lv_at hl 3 rfl) ?_
            refine lv_icmp_ne (tgt := 55) hx hb dX10_placeFrom_39 (by decide) (fun c_39 => ?_) (fun c_39 => ?_)
            · obtain ⟨v_7, e_v_7⟩ : ∃ q9 : Int32, q9 = x5 + Int32.ofInt 1 := ⟨_, rfl⟩
              obtain ⟨t_v_7, r_v_7⟩ := tq_add (lo := 1) (hi := 4) r_x5 (show RI (Int32.ofInt 1) 1 1 by unfold RI; decide +kernel) (by decide +kernel) e_v_7
              have t_v_7 : v_7.toInt = x5.toInt + 1 := t_v_7
              refine lv_iinc (v := v_7) (lv' := [(5, .int v_7), (0, .ref p0), (1, .int p1), (2, .int p2), (3, .int x3), (4, .int x4)]) hx hb dX10_placeFrom_55 hl (k := 5) rfl e_v_7.symm (by decide) rfl (fun ls hl => ?_)
              refine lv_goto (tgt := 25) hx hb dX10_placeFrom_58 (by decide) ?_
              exact ih25 x3 x4 v_7 ws _ _ ls (by have q0 := r_v_7.1; have u0 := r_v_7.2; have o0 := r_x5.1; have p0 := r_x5.2; omega) r_p1 r_p2 r_x3 r_x4 (r_v_7.to (by decide)) x_QLE_p0_p1 x_QLT_p0_p1 x_PG_p0_p1__3 x_GD_p0_p1__3__4 (by have q0 := r_x3.1; have u0 := r_x3.2; omega) hw (lv_sub hl [1, 2, 3, 4, 5, 0] rfl)
            · have r_v_6 : RI v_6 0 5 := rc_eq1 r_v_6 r_x3 (ti_eq c_39) (by decide)
              refine lv_aload_n hx hb dX10_placeFrom_42 rfl (lv_at hl 0 rfl) ?_
              refine lv_iload_n hx hb dX10_placeFrom_43 rfl (lv_at hl 1 rfl) ?_
              refine lv_iload hx hb dX10_placeFrom_44 (lv_at hl 5 rfl) ?_
              refine tk_ir (va_runV (As := [.int p1, .int x5]) (rest := []) ⟨hx, hb, hml, hown, hts⟩ (c_X10_doQuarrel l D cy z H.size Ps ws hw.1 p0 p1 x5 h_p0 (r_p1.to (by decide)) (r_x5.to (by decide))) (cwV 2 hts (gV tw_1638 tw_1640 ts_94 tw_15 tw_1641) rfl rfl rfl (by decide +kernel) ⟨Nat.le_of_ble_eq_true rfl, Nat.le_of_ble_eq_true rfl⟩) (tg_preV hw hK hSD hA (ci := 10) (q := (RX10, TX10, 49)) rfl h_p0 rfl) rfl rfl hl.1 rfl (lv_room (Nat.le_of_ble_eq_true rfl)) dX10_placeFrom_46 ⟨Nat.le_of_ble_eq_true rfl, Nat.le_of_ble_eq_true rfl⟩) hw hA (fun v_8  H locs hp_v_8 hw => ?_)
              have r_v_8 : RI v_8 0 1 := hp_v_8.1
              refine lv_if_eq (tgt := 55) hx hb dX10_placeFrom_49 (by decide) (fun c_49 => ?_) (fun c_49 => ?_)
              · have r_v_8 : RI v_8 0 0 := rc_eq1 r_v_8 rl_0 (ti_eq c_49) (by decide)
                obtain ⟨v_9, e_v_9⟩ : ∃ q9 : Int32, q9 = x5 + Int32.ofInt 1 := ⟨_, rfl⟩
                obtain ⟨t_v_9, r_v_9⟩ := tq_add (lo := 1) (hi := 4) r_x5 (show RI (Int32.ofInt 1) 1 1 by unfold RI; decide +kernel) (by decide +kernel) e_v_9
                have t_v_9 : v_9.toInt = x5.toInt + 1 := t_v_9
                refine lv_iinc (v := v_9) (lv' := [(5, .int v_9), (0, .ref p0), (1, .int p1), (2, .int p2), (3, .int x3), (4, .int x4)]) hx hb dX10_placeFrom_55 hl (k := 5) rfl e_v_9.symm (by decide) rfl (fun ls hl => ?_)
                refine lv_goto (tgt := 25) hx hb dX10_placeFrom_58 (by decide) ?_
                exact ih25 x3 x4 v_9 ws _ _ ls (by have q0 := r_v_9.1; have u0 := r_v_9.2; have o0 := r_x5.1; have p0 := r_x5.2; omega) r_p1 r_p2 r_x3 r_x4 (r_v_9.to (by decide)) x_QLE_p0_p1 x_QLT_p0_p1 x_PG_p0_p1__3 x_GD_p0_p1__3__4 (by have q0 := r_x3.1; have u0 := r_x3.2; omega) hw (lv_sub hl [1, 2, 3, 4, 5, 0] rfl)
              · have r_v_8 : RI v_8 1 1 := rc_neL r_v_8 rl_0 (ti_ne c_49) (by decide)
                refine lv_iconst (v := 0) hx hb dX10_placeFrom_52 (by decide) ?_
                refine lv_istore (lv' := [(4, .int 0), (0, .ref p0), (1, .int p1), (2, .int p2), (3, .int x3), (5, .int x5)]) hx hb dX10_placeFrom_53 hl (by decide) rfl (fun ls hl => ?_)
                obtain ⟨v_10, e_v_10⟩ : ∃ q9 : Int32, q9 = x5 + Int32.ofInt 1 := ⟨_, rfl⟩
                obtain ⟨t_v_10, r_v_10⟩ := tq_add (lo := 1) (hi := 4) r_x5 (show RI (Int32.ofInt 1) 1 1 by unfold RI; decide +kernel) (by decide +kernel) e_v_10
                have t_v_10 : v_10.toInt = x5.toInt + 1 := t_v_10
                refine lv_iinc (v := v_10) (lv' := [(5, .int v_10), (4, .int 0), (0, .ref p0), (1, .int p1), (2, .int p2), (3, .int x3)]) hx hb dX10_placeFrom_55 hl (k := 5) rfl e_v_10.symm (by decide) rfl (fun ls hl => ?_)
                refine lv_goto (tgt := 25) hx hb dX10_placeFrom_58 (by decide) ?_
                have x_GD_p0_p1_x3_0 : AX 31 48 (fun f => GDp f p1 x3 0) Ps ws p0 := AX.mk hw h_vu_5 rfl m_u_5 (fun f9 g9 _ => fun _ => ⟨Int32.toNatClampNeg x5, by have k1 := r_x5.cl (by decide); have k2 := ti_nle c_28; omega, by have e9 := g9 _ _ m_v_6; rw [e9]; exact ti_eq c_39⟩)
                exact ih25 x3 0 v_10 ws _ _ ls (by have q0 := r_v_10.1; have u0 := r_v_10.2; have o0 := r_x5.1; have p0 := r_x5.2; omega) r_p1 r_p2 r_x3 (rl_0.to (by decide)) (r_v_10.to (by decide)) x_QLE_p0_p1 x_QLT_p0_p1 x_PG_p0_p1__3 x_GD_p0_p1_x3_0 (by have q0 := r_x3.1; have u0 := r_x3.2; omega) hw (lv_sub hl [2, 3, 4, 5, 1, 0] rfl)
      intro x3 ws H locs ls hn14 r_p1 r_p2 r_x3 x_QLE_p0_p1 x_QLT_p0_p1 x_PG_p0_p1__3 hw hl
      refine lv_iload_n hx hb dX10_placeFrom_14 rfl (lv_at hl 3 rfl) ?_
      refine lv_iload_n hx hb dX10_placeFrom_15 rfl (lv_at hl 2 rfl) ?_
      refine lv_icmp_ge (tgt := 95) hx hb dX10_placeFrom_16 (by decide) (fun c_16 => ?_) (fun c_16 => ?_)
      · have r_x3 : RI x3 6 6 := rc_le2 r_p2 r_x3 (ti_le c_16) (by decide)
        exact (by obtain ⟨_, f9, _, _, h9⟩ := x_PG_p0_p1__3; exact PG_no h9 (r_p1.to (by decide)) (r_x3.to (by decide)) : False).elim
      · have r_x3 : RI x3 0 5 := rc_lt1 r_x3 r_p2 (ti_nle c_16) (by decide)
        refine lv_iconst (v := 1) hx hb dX10_placeFrom_19 (by decide) ?_
        refine lv_istore (lv' := [(4, .int 1), (0, .ref p0), (1, .int p1), (2, .int p2), (3, .int x3)]) hx hb dX10_placeFrom_20 hl (by decide) rfl (fun ls hl => ?_)
        refine lv_iconst (v := 0) hx hb dX10_placeFrom_22 (by decide) ?_
        refine lv_istore (lv' := [(5, .int 0), (4, .int 1), (0, .ref p0), (1, .int p1), (2, .int p2), (3, .int x3)]) hx hb dX10_placeFrom_23 hl (by decide) rfl (fun ls hl => ?_)
        have x_GD_p0_p1_x3_1 : AX 31 48 (fun f => GDp f p1 x3 1) Ps ws p0 := AX.imp (ax_of (k := 31) (t := 48) hw h_p0 rfl (fun _ => rfl)) (fun f9 _ => fun q9 => absurd q9 (by decide))
        exact B25 4294967298 x3 1 0 ws _ _ ls (by have q0 := rl_0.1; have u0 := rl_0.2; omega) r_p1 r_p2 r_x3 (rl_1.to (by decide)) (rl_0.to (by decide)) x_QLE_p0_p1 x_QLT_p0_p1 x_PG_p0_p1__3 x_GD_p0_p1_x3_1 (by have q0 := r_x3.1; have u0 := r_x3.2; omega) hw (lv_sub hl [2, 3, 4, 5, 1, 0] rfl)
  refine lv_iload_n hx hb dX10_placeFrom_0 rfl (lv_at hl 1 rfl) ?_
  refine lv_aload_n hx hb dX10_placeFrom_1 rfl (lv_at hl 0 rfl) ?_
  refine tg_get (ci := 10) (ts := ty_MODEL) (C := RX10) (T := TX10) (N := 49) hx hb hts inX10 hown hK hw h_p0 rfl rfl 14 (by decide) (hts _ tw_1151) (fun _ h9 => h9) (ft := vR 34) rfl dX10_placeFrom_2 (fun u_11 hv_u_11 m_u_11 => ?_)
  obtain ⟨vu_11, rfl, h_vu_11⟩ := hv_u_11
  refine lv_iconst (v := 2) hx hb dX10_placeFrom_5 (by decide) ?_
  refine tg_iald (lo := 0) (hi := 6) hx hb hK hw h_vu_11 rfl 2 2 rl_2 (by decide) (by decide +kernel) dX10_placeFrom_6 (fun v_12 r_v_12 m_v_12 o_v_12 => ?_)
  have x_P2_p0_v_12 : AX 14 34 (fun f => f 2 = v_12) Ps w0 p0 := AX.mk hw h_vu_11 rfl m_u_11 (fun f9 g9 _ => by have e9 := g9 _ _ m_v_12; have j9 : Int32.toNatClampNeg 2 = 2 := (by decide); rw [j9] at e9; exact e9)
  have g_ql : p1.toInt ≤ v_12.toInt := by obtain ⟨_, f9, _, _, h9⟩ := AX.and hw x_QLE_p0_p1 x_P2_p0_v_12; have k1 := h9.1; have k2 : f9 2 = v_12 := h9.2; rw [k2] at k1; exact k1
  have r_v_12 : RI v_12 4 6 := ⟨by have k1 := r_p1.1; have k2 := r_v_12.1; omega, r_v_12.2⟩
  refine lv_icmp_ne (tgt := 12) hx hb dX10_placeFrom_7 (by decide) (fun c_7 => ?_) (fun c_7 => ?_)
  · have r_v_12 : RI v_12 5 6 := rc_neL r_v_12 r_p1 (ti_ne c_7).symm (by decide)
    have x_QLT_p0_p1 : AX 14 34 (fun f => Int32.toInt p1 < (f 2).toInt) Ps w0 p0 := AX.imp x_P2_p0_v_12 (fun f9 h9 => by have k1 : f9 2 = v_12 := h9; show _ < _; rw [k1]; have k3 := ti_ne c_7; have k4 := g_ql; omega)
    refine lv_iconst (v := 0) hx hb dX10_placeFrom_12 (by decide) ?_
    refine lv_istore_n (lv' := [(3, .int 0), (0, .ref p0), (1, .int p1), (2, .int p2)]) hx hb dX10_placeFrom_13 rfl hl (by decide) rfl (fun ls hl => ?_)
    have x_PG_p0_p1_0 : AX 31 48 (fun f => PGp f p1 0) Ps w0 p0 := AX.imp (ax_of (k := 31) (t := 48) hw h_p0 rfl (fun _ => rfl)) (fun f9 _ => fun j9 q9 => absurd q9 (by rw [Int32.toInt_zero]; omega))
    exact B14 4294967298 0 w0 _ _ ls (by have q0 := rl_0.1; have u0 := rl_0.2; omega) r_p1 r_p2 (rl_0.to (by decide)) x_QLE_p0_p1 x_QLT_p0_p1 x_PG_p0_p1_0 hw (lv_sub hl [1, 2, 3, 0] rfl)
  · have r_v_12 : RI v_12 4 4 := rc_eq2 r_p1 r_v_12 (ti_eq c_7) (by decide)
    refine lv_iconst (v := 1) hx hb dX10_placeFrom_10 (by decide) ?_
    subst hQ
    exact W.zret (v := 1) hx hb hr (rfl) (fun t ht hW => ⟨⟨1, w0, rfl, ⟨⟨rl_1.to (by decide), (fun _ => trivial), (fun h0 => trivial)⟩, hw.1, hw.2.2.2.2.1⟩, by rw [ht]; exact hw.2.1, va_K.moved hW.alike hK, hw.2.2.1⟩, hw.2.2.2.1.F ht⟩) hw.2.2.2.1.2.2 dX10_placeFrom_11
abbrev wr_X10_placeFrom__10 : List (Nat × Nat) := []
abbrev wa_X10_placeFrom__10 : List Nat := [48]
set_option maxHeartbeats 4000000 in
set_option maxRecDepth 100000 in
theorem c_X10_placeFrom__10 (l : Launch) (D : va_G) (cy : Nat → ClassId) (z : Nat → Nat) (sz : Nat) (Ps : PSI) (w0 : va_W) (hT : HT cy GG Ps w0) (p0 : Nat) (p1 : Int32) (p2 : Int32) (h_p0 : (p0, 55) ∈ Ps) (r_p1 : RI p1 3 3) (r_p2 : RI p2 6 6) (x_QLE_p0_p1 : AX 14 34 (fun f => Int32.toInt p1 ≤ (f 2).toInt) Ps w0 p0) : Met l yX10_placeFrom (Cond.code yX10_placeFrom cX10_placeFrom 6 (some .boolean) :: gT) ({ frames := 6, cells := 0, slots := 0, locals := 1200 } : Room) (va_Pc [.ref p0, .int p1, .int p2] (PRE D cy z w0 sz)) (va_Qi (fun (r : Int32) (u : va_W) => (RI r 1 1 ∧ (r = 0 → True) ∧ (¬ r = 0 → True)) ∧ HT cy GG Ps u ∧ FR wr_X10_placeFrom__10 wa_X10_placeFrom__10 Ps w0 u) (BB D cy (va_A w0 sz) (fun (u : va_W) => u)) (va_A w0 sz)) 0 0 (va_A w0 sz) := by
  refine Met.ofW (cc := cX10_placeFrom) (maxL := 6) (ret := (some .boolean)) (by decide) rfl ?_
  intro p e s m args below meth c s₁ B hml hv
  obtain ⟨rfl, hsz, hP, hK, hD0, hSD⟩ := hv
  have hx := B.exec
  have hb := B.bytes
  have hr := B.returns
  have hlocks := B.notSynchronized
  have hts : ∀ w ∈ gT, w.before _ s = true := fun w h => atoms_spec (ws := Cond.code yX10_placeFrom cX10_placeFrom 6 (some .boolean) :: gT) B.pre w (List.mem_cons_of_mem _ h)
  have hown : s.vm.findClass RX10 = some m.cls := findClass_of_methodNamed B.named
  subst hsz
  have hD := hD0.self (sz := s.heap.size)
  generalize hAe : va_A w0 s.heap.size = A at hD hSD ⊢
  have hA : ∀ q : Nat, s.heap.size ≤ q → A q := fun q h => by rw [← hAe]; exact Or.inr h
  have hl := lv_entry ([.ref p0, .int p1, .int p2]) (n := 6) (Nat.le_of_ble_eq_true rfl)
  rw [lg_entry_eq]
  generalize (lg_sl ([.ref p0, .int p1, .int p2]) ++ List.replicate (6 - (lg_sl ([.ref p0, .int p1, .int p2])).length) Slot.unset).toArray = ls at hl ⊢
  have hl : lv_has ls 6 [(0, .ref p0), (1, .int p1), (2, .int p2)] := hl
  refine nameQ (fun Q hQ => ?_)
  have hw : WD D cy GG A s wr_X10_placeFrom__10 wa_X10_placeFrom__10 Ps w0 Ps w0 s.heap [] := ⟨hT, hP, hD, va_S.rf, FR.rf, hT.1, [], (List.append_nil _).symm⟩
  have B14 : ∀ (nf : Nat) (x3 : Int32) (ws : va_W) (H : Heap) (locs : List Loc) (ls : Array Slot), 6 - x3.toInt < (nf : Int) → RI p1 3 3 → RI p2 6 6 → RI x3 0 6 → AX 14 34 (fun f => Int32.toInt p1 ≤ (f 2).toInt) Ps ws p0 → AX 14 34 (fun f => Int32.toInt p1 < (f 2).toInt) Ps ws p0 → AX 31 48 (fun f => PGp f p1 x3) Ps ws p0 → WD D cy GG A s wr_X10_placeFrom__10 wa_X10_placeFrom__10 Ps w0 Ps ws H locs → lv_has ls 6 [(0, .ref p0), (1, .int p1), (2, .int p2), (3, .int x3)] → W p l e (headSpec (Cond.code yX10_placeFrom cX10_placeFrom 6 (some .boolean) :: gT) ({ frames := 6, cells := 0, slots := 0, locals := 1200 } : Room)).room s m ([.ref p0, .int p1, .int p2] : List Value).toArray below meth c H locs 0 0 Q (F0 m 14 ls []) := by
    intro nf14
    induction nf14 with
    | zero =>
      intro x3 ws H locs ls hn14 r_p1 r_p2 r_x3 x_QLE_p0_p1 x_QLT_p0_p1 x_PG_p0_p1__3 hw hl
      exact absurd hn14 (by have q0 := r_x3.1; have u0 := r_x3.2; omega)
    | succ nf14 ih14 =>
      have B25 : ∀ (nf : Nat) (x3 : Int32) (x4 : Int32) (x5 : Int32) (ws : va_W) (H : Heap) (locs : List Loc) (ls : Array Slot), 3 - x5.toInt < (nf : Int) → RI p1 3 3 → RI p2 6 6 → RI x3 0 5 → RI x4 0 1 → RI x5 0 3 → AX 14 34 (fun f => Int32.toInt p1 ≤ (f 2).toInt) Ps ws p0 → AX 14 34 (fun f => Int32.toInt p1 < (f 2).toInt) Ps ws p0 → AX 31 48 (fun f => PGp f p1 x3) Ps ws p0 → AX 31 48 (fun f => GDp f p1 x3 x4) Ps ws p0 → 6 - x3.toInt < ((nf14 + 1 : Nat) : Int) → WD D cy GG A s wr_X10_placeFrom__10 wa_X10_placeFrom__10 Ps w0 Ps ws H locs → lv_has ls 6 [(0, .ref p0), (1, .int p1), (2, .int p2), (3, .int x3), (4, .int x4), (5, .int x5)] → W p l e (headSpec (Cond.code yX10_placeFrom cX10_placeFrom 6 (some .boolean) :: gT) ({ frames := 6, cells := 0, slots := 0, locals := 1200 } : Room)).room s m ([.ref p0, .int p1, .int p2] : List Value).toArray below meth c H locs 0 0 Q (F0 m 25 ls []) := by
        intro nf25
        induction nf25 with
        | zero =>
          intro x3 x4 x5 ws H locs ls hn25 r_p1 r_p2 r_x3 r_x4 r_x5 x_QLE_p0_p1 x_QLT_p0_p1 x_PG_p0_p1__3 x_GD_p0_p1__3__4 hn14 hw hl
          exact absurd hn25 (by have q0 := r_x5.1; have u0 := r_x5.2; omega)
        | succ nf25 ih25 =>
          intro x3 x4 x5 ws H locs ls hn25 r_p1 r_p2 r_x3 r_x4 r_x5 x_QLE_p0_p1 x_QLT_p0_p1 x_PG_p0_p1__3 x_GD_p0_p1__3__4 hn14 hw hl
          refine lv_iload hx hb dX10_placeFrom_25 (lv_at hl 5 rfl) ?_
          refine lv_iload_n hx hb dX10_placeFrom_27 rfl (lv_at hl 1 rfl) ?_
          refine lv_icmp_ge (tgt := 61) hx hb dX10_placeFrom_28 (by decide) (fun c_28 => ?_) (fun c_28 => ?_)
          · have r_x5 : RI x5 3 3 := rc_le2 r_p1 r_x5 (ti_le c_28) (by decide)
            refine lv_iload hx hb dX10_placeFrom_61 (lv_at hl 4 rfl) ?_
            refine lv_if_ne (tgt := 69) hx hb dX10_placeFrom_63 (by decide) (fun c_63 => ?_) (fun c_63 => ?_)
            · have r_x4 : RI x4 1 1 := rc_neL r_x4 rl_0 (ti_ne c_63) (by decide)
              refine lv_aload_n hx hb dX10_placeFrom_69 rfl (lv_at hl 0 rfl) ?_
              refine tg_get (ci := 10) (ts := ty_MODEL) (C := RX10) (T := TX10) (N := 49) hx hb hts inX10 hown hK hw h_p0 rfl rfl 31 (by decide) (hts _ tw_1168) (fun _ h9 => h9) (ft := vR 48) rfl dX10_placeFrom_70 (fun u_1 hv_u_1 m_u_1 => ?_)
              obtain ⟨vu_1, rfl, h_vu_1⟩ := hv_u_1
              refine lv_iload_n hx hb dX10_placeFrom_73 rfl (lv_at hl 1 rfl) ?_
              refine lv_iload_n hx hb dX10_placeFrom_74 rfl (lv_at hl 3 rfl) ?_
              refine tg_iast hx hb hK hw h_vu_1 rfl 3 3 r_p1 (by decide) r_x3 (by exact fun _ _ _ => by decide) (fun _ _ _ _ _ => trivial) (by decide) dX10_placeFrom_75 (fun ws H locs hw hF9 hU9 => ?_)
              have x_QLE_p0_p1 := AX.over hF9 x_QLE_p0_p1 (by decide)
              have x_QLT_p0_p1 := AX.over hF9 x_QLT_p0_p1 (by decide)
              refine lv_aload_n hx hb dX10_placeFrom_76 rfl (lv_at hl 0 rfl) ?_
              refine lv_iload_n hx hb dX10_placeFrom_77 rfl (lv_at hl 1 rfl) ?_
              refine lv_iconst (v := 1) hx hb dX10_placeFrom_78 (by decide) ?_
              refine lv_iadd hx hb dX10_placeFrom_79 (lv_topi (fun v_2 e_v_2 => ?_))
              obtain ⟨t_v_2, r_v_2⟩ := tq_add (lo := 4) (hi := 4) r_p1 rl_1 (by decide +kernel) e_v_2
              have t_v_2 : v_2.toInt = p1.toInt + 1 := t_v_2
              refine lv_iload_n hx hb dX10_placeFrom_80 rfl (lv_at hl 2 rfl) ?_
              have x_QLE_p0_v_2 : AX 14 34 (fun f => Int32.toInt v_2 ≤ (f 2).toInt) Ps ws p0 := AX.imp x_QLT_p0_p1 (fun f9 h9 => by have k2 := t_v_2; show _ ≤ _; have k3 : p1.toInt < (f9 2).toInt := h9; omega)
              refine tk_i (va_runV (As := [.int v_2, .int p2]) (rest := []) ⟨hx, hb, hml, hown, hts⟩ (c_X10_placeFrom__11 l D cy z H.size Ps ws hw.1 p0 v_2 p2 h_p0 r_v_2 r_p2 x_QLE_p0_v_2) (cwV 2 hts (gV tw_1634 tw_1636 ts_93 tw_15 tw_1637) rfl rfl rfl (by decide +kernel) ⟨Nat.le_of_ble_eq_true rfl, Nat.le_of_ble_eq_true rfl⟩) (tg_preV hw hK hSD hA (ci := 10) (q := (RX10, TX10, 49)) rfl h_p0 rfl) rfl rfl hl.1 rfl (lv_room (Nat.le_of_ble_eq_true rfl)) dX10_placeFrom_81 ⟨Nat.le_of_ble_eq_true rfl, Nat.le_of_ble_eq_true rfl⟩) hw hA ⟨by decide, by decide⟩ (fun v_3 ws H locs hp_v_3 hw hF9 => ?_)
              have x_QLE_p0_p1 := AX.over hF9 x_QLE_p0_p1 (by decide)
              have x_QLT_p0_p1 := AX.over hF9 x_QLT_p0_p1 (by decide)
              have x_QLE_p0_v_2 := AX.over hF9 x_QLE_p0_v_2 (by decide)
              have r_v_3 : RI v_3 1 1 := hp_v_3.1
              refine lv_if_eq (tgt := 89) hx hb dX10_placeFrom_84 (by decide) (fun c_84 => ?_) (fun c_84 => ?_)
              · have r_v_3 : RI v_3 1 0 := rc_eq1 r_v_3 rl_0 (ti_eq c_84) (by decide)
                exact (r_v_3.no (by decide)).elim
              · refine lv_iconst (v := 1) hx hb dX10_placeFrom_87 (by decide) ?_
                subst hQ
                exact W.zret (v := 1) hx hb hr (rfl) (fun t ht hW => ⟨⟨1, ws, rfl, ⟨⟨rl_1.to (by decide), (fun _ => trivial), (fun h0 => trivial)⟩, hw.1, hw.2.2.2.2.1⟩, by rw [ht]; exact hw.2.1, va_K.moved hW.alike hK, hw.2.2.1⟩, hw.2.2.2.1.F ht⟩) hw.2.2.2.1.2.2 dX10_placeFrom_88
            · have r_x4 : RI x4 0 0 := rc_eq1 r_x4 rl_0 (ti_eq c_63) (by decide)
              refine lv_goto (tgt := 89) hx hb dX10_placeFrom_66 (by decide) ?_
              obtain ⟨v_4, e_v_4⟩ : ∃ q9 : Int32, q9 = x3 + Int32.ofInt 1 := ⟨_, rfl⟩
              obtain ⟨t_v_4, r_v_4⟩ := tq_add (lo := 1) (hi := 6) r_x3 (show RI (Int32.ofInt 1) 1 1 by unfold RI; decide +kernel) (by decide +kernel) e_v_4
              have t_v_4 : v_4.toInt = x3.toInt + 1 := t_v_4
              refine lv_iinc (v := v_4) (lv' := [(3, .int v_4), (0, .ref p0), (1, .int p1), (2, .int p2), (4, .int x4), (5, .int x5)]) hx hb dX10_placeFrom_89 hl (k := 3) rfl e_v_4.symm (by decide) rfl (fun ls hl => ?_)
              refine lv_goto (tgt := 14) hx hb dX10_placeFrom_92 (by decide) ?_
              have x_PG_p0_p1_v_4 : AX 31 48 (fun f => PGp f p1 v_4) Ps ws p0 := AX.imp (AX.and hw x_PG_p0_p1__3 x_GD_p0_p1__3__4) (fun f9 h9 => PG_next h9.1 h9.2 r_x4 (r_x3.to (by decide)) t_v_4)
              exact ih14 v_4 ws _ _ ls (by have q0 := r_v_4.1; have u0 := r_v_4.2; have o0 := r_x3.1; have p0 := r_x3.2; omega) r_p1 r_p2 (r_v_4.to (by decide)) x_QLE_p0_p1 x_QLT_p0_p1 x_PG_p0_p1_v_4 hw (lv_sub hl [1, 2, 3, 0] rfl)
          · have r_x5 : RI x5 0 2 := rc_lt1 r_x5 r_p1 (ti_nle c_28) (by decide)
            refine lv_aload_n hx hb dX10_placeFrom_31 rfl (lv_at hl 0 rfl) ?_
            refine tg_get (ci := 10) (ts := ty_MODEL) (C := RX10) (T := TX10) (N := 49) hx hb hts inX10 hown hK hw h_p0 rfl rfl 31 (by decide) (hts _ tw_1168) (fun _ h9 => h9) (ft := vR 48) rfl dX10_placeFrom_32 (fun u_5 hv_u_5 m_u_5 => ?_)
            obtain ⟨vu_5, rfl, h_vu_5⟩ := hv_u_5
            refine lv_iload hx hb dX10_placeFrom_35 (lv_at hl 5 rfl) ?_
            refine tg_iald (lo := (-2147483648)) (hi := 2147483647) hx hb hK hw h_vu_5 rfl 0 2 r_x5 (by decide) (by exact fun _ _ _ => ⟨Int.le_refl _, Int.le_refl _⟩) dX10_placeFrom_37 (fun v_6 r_v_6 m_v_6 o_v_6 => ?_)
            refine lv_iload_n hx hb dX10_placeFrom_38 rfl (lv_at hl 3 rfl) ?_
            refine lv_icmp_ne (tgt := 55) hx hb dX10_placeFrom_39 (by decide) (fun c_39 => ?_) (fun c_39 => ?_)
            · obtain ⟨v_7, e_v_7⟩ : ∃ q9 : Int32, q9 = x5 + Int32.ofInt 1 := ⟨_, rfl⟩
              obtain ⟨t_v_7, r_v_7⟩ := tq_add (lo := 1) (hi := 3) r_x5 (show RI (Int32.ofInt 1) 1 1 by unfold RI; decide +kernel) (by decide +kernel) e_v_7
              have t_v_7 : v_7.toInt = x5.toInt + 1 := t_v_7
              refine lv_iinc (v := v_7) (lv' := [(5, .int v_7), (0, .ref p0), (1, .int p1), (2, .int p2), (3, .int x3), (4, .int x4)]) hx hb dX10_placeFrom_55 hl (k := 5) rfl e_v_7.symm (by decide) rfl (fun ls hl => ?_)
              refine lv_goto (tgt := 25) hx hb dX10_placeFrom_58 (by decide) ?_
              exact ih25 x3 x4 v_7 ws _ _ ls (by have q0 := r_v_7.1; have u0 := r_v_7.2; have o0 := r_x5.1; have p0 := r_x5.2; omega) r_p1 r_p2 r_x3 r_x4 (r_v_7.to (by decide)) x_QLE_p0_p1 x_QLT_p0_p1 x_PG_p0_p1__3 x_GD_p0_p1__3__4 (by have q0 := r_x3.1; have u0 := r_x3.2; omega) hw (lv_sub hl [1, 2, 3, 4, 5, 0] rfl)
            · have r_v_6 : RI v_6 0 5 := rc_eq1 r_v_6 r_x3 (ti_eq c_39) (by decide)
              refine lv_aload_n hx hb dX10_placeFrom_42 rfl (lv_at hl 0 rfl) ?_
              refine lv_iload_n hx hb dX10_placeFrom_43 rfl (lv_at hl 1 rfl) ?_
              refine lv_iload hx hb dX10_placeFrom_44 (lv_at hl 5 rfl) ?_
              refine tk_ir (va_runV (As := [.int p1, .int x5]) (rest := []) ⟨hx, hb, hml, hown, hts⟩ (c_X10_doQuarrel l D cy z H.size Ps ws hw.1 p0 p1 x5 h_p0 (r_p1.to (by decide)) (r_x5.to (by decide))) (cwV 2 hts (gV tw_1638 tw_1640 ts_94 tw_15 tw_1641) rfl rfl rfl (by decide +kernel) ⟨Nat.le_of_ble_eq_true rfl, Nat.le_of_ble_eq_true rfl⟩) (tg_preV hw hK hSD hA (ci := 10) (q := (RX10, TX10, 49)) rfl h_p0 rfl) rfl rfl hl.1 rfl (lv_room (Nat.le_of_ble_eq_true rfl)) dX10_placeFrom_46 ⟨Nat.le_of_ble_eq_true rfl, Nat.le_of_ble_eq_true rfl⟩) hw hA (fun v_8  H locs hp_v_8 hw => ?_)
              have r_v_8 : RI v_8 0 1 := hp_v_8.1
              refine lv_if_eq (tgt := 55) hx hb dX10_placeFrom_49 (by decide) (fun c_49 => ?_) (fun c_49 => ?_)
              · have r_v_8 : RI v_8 0 0 := rc_eq1 r_v_8 rl_0 (ti_eq c_49) (by decide)
                obtain ⟨v_9, e_v_9⟩ : ∃ q9 : Int32, q9 = x5 + Int32.ofInt 1 := ⟨_, rfl⟩
                obtain ⟨t_v_9, r_v_9⟩ := tq_add (lo := 1) (hi := 3) r_x5 (show RI (Int32.ofInt 1) 1 1 by unfold RI; decide +kernel) (by decide +kernel) e_v_9
                have t_v_9 : v_9.toInt = x5.toInt + 1 := t_v_9
                refine lv_iinc (v := v_9) (lv' := [(5, .int v_9), (0, .ref p0), (1, .int p1), (2, .int p2), (3, .int x3), (4, .int x4)]) hx hb dX10_placeFrom_55 hl (k := 5) rfl e_v_9.symm (by decide) rfl (fun ls hl => ?_)
                refine lv_goto (tgt := 25) hx hb dX10_placeFrom_58 (by decide) ?_
                exact ih25 x3 x4 v_9 ws _ _ ls (by have q0 := r_v_9.1; have u0 := r_v_9.2; have o0 := r_x5.1; have p0 := r_x5.2; omega) r_p1 r_p2 r_x3 r_x4 (r_v_9.to (by decide)) x_QLE_p0_p1 x_QLT_p0_p1 x_PG_p0_p1__3 x_GD_p0_p1__3__4 (by have q0 := r_x3.1; have u0 := r_x3.2; omega) hw (lv_sub hl [1, 2, 3, 4, 5, 0] rfl)
              · have r_v_8 : RI v_8 1 1 := rc_neL r_v_8 rl_0 (ti_ne c_49) (by decide)
                refine lv_iconst (v := 0) hx hb dX10_placeFrom_52 (by decide) ?_
                refine lv_istore (lv' := [(4, .int 0), (0, .ref p0), (1, .int p1), (2, .int p2), (3, .int x3), (5, .int x5)]) hx hb dX10_placeFrom_53 hl (by decide) rfl (fun ls hl => ?_)
                obtain ⟨v_10, e_v_10⟩ : ∃ q9 : Int32, q9 = x5 + Int32.ofInt 1 := ⟨_, rfl⟩
                obtain ⟨t_v_10, r_v_10⟩ := tq_add (lo := 1) (hi := 3) r_x5 (show RI (Int32.ofInt 1) 1 1 by unfold RI; decide +kernel) (by decide +kernel) e_v_10
                have t_v_10 : v_10.toInt = x5.toInt + 1 := t_v_10
                refine lv_iinc (v := v_10) (lv' := [(5, .int v_10), (4, .int 0), (0, .ref p0), (1, .int p1), (2, .int p2), (3, .int x3)]) hx hb dX10_placeFrom_55 hl (k := 5) rfl e_v_10.symm (by decide) rfl (fun ls hl => ?_)
                refine lv_goto (tgt := 25) hx hb dX10_placeFrom_58 (by decide) ?_
                have x_GD_p0_p1_x3_0 : AX 31 48 (fun f => GDp f p1 x3 0) Ps ws p0 := AX.mk hw h_vu_5 rfl m_u_5 (fun f9 g9 _ => fun _ => ⟨Int32.toNatClampNeg x5, by have k1 := r_x5.cl (by decide); have k2 := ti_nle c_28; omega, by have e9 := g9 _ _ m_v_6; rw [e9]; exact ti_eq c_39⟩)
                exact ih25 x3 0 v_10 ws _ _ ls (by have q0 := r_v_10.1; have u0 := r_v_10.2; have o0 := r_x5.1; have p0 := r_x5.2; omega) r_p1 r_p2 r_x3 (rl_0.to (by decide)) (r_v_10.to (by decide)) x_QLE_p0_p1 x_QLT_p0_p1 x_PG_p0_p1__3 x_GD_p0_p1_x3_0 (by have q0 := r_x3.1; have u0 := r_x3.2; omega) hw (lv_sub hl [2, 3, 4, 5, 1, 0] rfl)
      intro x3 ws H locs ls hn14 r_p1 r_p2 r_x3 x_QLE_p0_p1 x_QLT_p0_p1 x_PG_p0_p1__3 hw hl
      refine lv_iload_n hx hb dX10_placeFrom_14 rfl (lv_at hl 3 rfl) ?_
      refine lv_iload_n hx hb dX10_placeFrom_15 rfl (lv_at hl 2 rfl) ?_
      refine lv_icmp_ge (tgt := 95) hx hb dX10_placeFrom_16 (by decide) (fun c_16 => ?_) (fun c_16 => ?_)
      · have r_x3 : RI x3 6 6 := rc_le2 r_p2 r_x3 (ti_le c_16) (by decide)
        exact (by obtain ⟨_, f9, _, _, h9⟩ := x_PG_p0_p1__3; exact PG_no h9 (r_p1.to (by decide)) (r_x3.to (by decide)) : False).elim
      · have r_x3 : RI x3 0 5 := rc_lt1 r_x3 r_p2 (ti_nle c_16) (by decide)
        refine lv_iconst (v := 1) hx hb dX10_placeFrom_19 (by decide) ?_
        refine lv_istore (lv' := [(4, .int 1), (0, .ref p0), (1, .int p1), (2, .int p2), (3, .int x3)]) hx hb dX10_placeFrom_20 hl (by decide) rfl (fun ls hl => ?_)
        refine lv_iconst (v := 0) hx hb dX10_placeFrom_22 (by decide) ?_
        refine lv_istore (lv' := [(5, .int 0), (4, .int 1), (0, .ref p0), (1, .int p1), (2, .int p2), (3, .int x3)]) hx hb dX10_placeFrom_23 hl (by decide) rfl (fun ls hl => ?_)
        have x_GD_p0_p1_x3_1 : AX 31 48 (fun f => GDp f p1 x3 1) Ps ws p0 := AX.imp (ax_of (k := 31) (t := 48) hw h_p0 rfl (fun _ => rfl)) (fun f9 _ => fun q9 => absurd q9 (by decide))
        exact B25 4294967298 x3 1 0 ws _ _ ls (by have q0 := rl_0.1; have u0 := rl_0.2; omega) r_p1 r_p2 r_x3 (rl_1.to (by decide)) (rl_0.to (by decide)) x_QLE_p0_p1 x_QLT_p0_p1 x_PG_p0_p1__3 x_GD_p0_p1_x3_1 (by have q0 := r_x3.1; have u0 := r_x3.2; omega) hw (lv_sub hl [2, 3, 4, 5, 1, 0] rfl)
  refine lv_iload_n hx hb dX10_placeFrom_0 rfl (lv_at hl 1 rfl) ?_
  refine lv_aload_n hx hb dX10_placeFrom_1 rfl (lv_at hl 0 rfl) ?_
  refine tg_get (ci := 10) (ts := ty_MODEL) (C := RX10) (T := TX10) (N := 49) hx hb hts inX10 hown hK hw h_p0 rfl rfl 14 (by decide) (hts _ tw_1151) (fun _ h9 => h9) (ft := vR 34) rfl dX10_placeFrom_2 (fun u_11 hv_u_11 m_u_11 => ?_)
  obtain ⟨vu_11, rfl, h_vu_11⟩ := hv_u_11
  refine lv_iconst (v := 2) hx hb dX10_placeFrom_5 (by decide) ?_
  refine tg_iald (lo := 0) (hi := 6) hx hb hK hw h_vu_11 rfl 2 2 rl_2 (by decide) (by decide +kernel) dX10_placeFrom_6 (fun v_12 r_v_12 m_v_12 o_v_12 => ?_)
  have x_P2_p0_v_12 : AX 14 34 (fun f => f 2 = v_12) Ps w0 p0 := AX.mk hw h_vu_11 rfl m_u_11 (fun f9 g9 _ => by have e9 := g9 _ _ m_v_12; have j9 : Int32.toNatClampNeg 2 = 2 := (by decide); rw [j9] at e9; exact e9)
  have g_ql : p1.toInt ≤ v_12.toInt := by obtain ⟨_, f9, _, _, h9⟩ := AX.and hw x_QLE_p0_p1 x_P2_p0_v_12; have k1 := h9.1; have k2 : f9 2 = v_12 := h9.2; rw [k2] at k1; exact k1
  have r_v_12 : RI v_12 3 6 := ⟨by have k1 := r_p1.1; have k2 := r_v_12.1; omega, r_v_12.2⟩
  refine lv_icmp_ne (tgt := 12) hx hb dX10_placeFrom_7 (by decide) (fun c_7 => ?_) (fun c_7 => ?_)
  · have r_v_12 : RI v_12 4 6 := rc_neL r_v_12 r_p1 (ti_ne c_7).symm (by decide)
    have x_QLT_p0_p1 : AX 14 34 (fun f => Int32.toInt p1 < (f 2).toInt) Ps w0 p0 := AX.imp x_P2_p0_v_12 (fun f9 h9 => by have k1 : f9 2 = v_12 := h9; show _ < _; rw [k1]; have k3 := ti_ne c_7; have k4 := g_ql; omega)
    refine lv_iconst (v := 0) hx hb dX10_placeFrom_12 (by decide) ?_
    refine lv_istore_n (lv' := [(3, .int 0), (0, .ref p0), (1, .int p1), (2, .int p2)]) hx hb dX10_placeFrom_13 rfl hl (by decide) rfl (fun ls hl => ?_)
    have x_PG_p0_p1_0 : AX 31 48 (fun f => PGp f p1 0) Ps w0 p0 := AX.imp (ax_of (k := 31) (t := 48) hw h_p0 rfl (fun _ => rfl)) (fun f9 _ => fun j9 q9 => absurd q9 (by rw [Int32.toInt_zero]; omega))
    exact B14 4294967298 0 w0 _ _ ls (by have q0 := rl_0.1; have u0 := rl_0.2; omega) r_p1 r_p2 (rl_0.to (by decide)) x_QLE_p0_p1 x_QLT_p0_p1 x_PG_p0_p1_0 hw (lv_sub hl [1, 2, 3, 0] rfl)
  · have r_v_12 : RI v_12 3 3 := rc_eq2 r_p1 r_v_12 (ti_eq c_7) (by decide)
    refine lv_iconst (v := 1) hx hb dX10_placeFrom_10 (by decide) ?_
    subst hQ
    exact W.zret (v := 1) hx hb hr (rfl) (fun t ht hW => ⟨⟨1, w0, rfl, ⟨⟨rl_1.to (by decide), (fun _ => trivial), (fun h0 => trivial)⟩, hw.1, hw.2.2.2.2.1⟩, by rw [ht]; exact hw.2.1, va_K.moved hW.alike hK, hw.2.2.1⟩, hw.2.2.2.1.F ht⟩) hw.2.2.2.1.2.2 dX10_placeFrom_11
abbrev wr_X10_placeFrom__9 : List (Nat × Nat) := []
abbrev wa_X10_placeFrom__9 : List Nat := [48]
set_option maxHeartbeats 4000000 in
set_option maxRecDepth 100000 in
theorem c_X10_placeFrom__9 (l : Launch) (D : va_G) (cy : Nat → ClassId) (z : Nat → Nat) (sz : Nat) (Ps : PSI) (w0 : va_W) (hT : HT cy GG Ps w0) (p0 : Nat) (p1 : Int32) (p2 : Int32) (h_p0 : (p0, 55) ∈ Ps) (r_p1 : RI p1 2 2) (r_p2 : RI p2 6 6) (x_QLE_p0_p1 : AX 14 34 (fun f => Int32.toInt p1 ≤ (f 2).toInt) Ps w0 p0) : Met l yX10_placeFrom (Cond.code yX10_placeFrom cX10_placeFrom 6 (some .boolean) :: gT) ({ frames := 7, cells := 0, slots := 0, locals := 1400 } : Room) (va_Pc [.ref p0, .int p1, .int p2] (PRE D cy z w0 sz)) (va_Qi (fun (r : Int32) (u : va_W) => (RI r 1 1 ∧ (r = 0 → True) ∧ (¬ r = 0 → True)) ∧ HT cy GG Ps u ∧ FR wr_X10_placeFrom__9 wa_X10_placeFrom__9 Ps w0 u) (BB D cy (va_A w0 sz) (fun (u : va_W) => u)) (va_A w0 sz)) 0 0 (va_A w0 sz) := by
  refine Met.ofW (cc := cX10_placeFrom) (maxL := 6) (ret := (some .boolean)) (by decide) rfl ?_
  intro p e s m args below meth c s₁ B hml hv
  obtain ⟨rfl, hsz, hP, hK, hD0, hSD⟩ := hv
  have hx := B.exec
  have hb := B.bytes
  have hr := B.returns
  have hlocks := B.notSynchronized
  have hts : ∀ w ∈ gT, w.before _ s = true := fun w h => atoms_spec (ws := Cond.code yX10_placeFrom cX10_placeFrom 6 (some .boolean) :: gT) B.pre w (List.mem_cons_of_mem _ h)
  have hown : s.vm.findClass RX10 = some m.cls := findClass_of_methodNamed B.named
  subst hsz
  have hD := hD0.self (sz := s.heap.size)
  generalize hAe : va_A w0 s.heap.size = A at hD hSD ⊢
  have hA : ∀ q : Nat, s.heap.size ≤ q → A q := fun q h => by rw [← hAe]; exact Or.inr h
  have hl := lv_entry ([.ref p0, .int p1, .int p2]) (n := 6) (Nat.le_of_ble_eq_true rfl)
  rw [lg_entry_eq]
  generalize (lg_sl ([.ref p0, .int p1, .int p2]) ++ List.replicate (6 - (lg_sl ([.ref p0, .int p1, .int p2])).length) Slot.unset).toArray = ls at hl ⊢
  have hl : lv_has ls 6 [(0, .ref p0), (1, .int p1), (2, .int p2)] := hl
  refine nameQ (fun Q hQ => ?_)
  have hw : WD D cy GG A s wr_X10_placeFrom__9 wa_X10_placeFrom__9 Ps w0 Ps w0 s.heap [] := ⟨hT, hP, hD, va_S.rf, FR.rf, hT.1, [], (List.append_nil _).symm⟩
  have B14 : ∀ (nf : Nat) (x3 : Int32) (ws : va_W) (H : Heap) (locs : List Loc) (ls : Array Slot), 6 - x3.toInt < (nf : Int) → RI p1 2 2 → RI p2 6 6 → RI x3 0 6 → AX 14 34 (fun f => Int32.toInt p1 ≤ (f 2).toInt) Ps ws p0 → AX 14 34 (fun f => Int32.toInt p1 < (f 2).toInt) Ps ws p0 → AX 31 48 (fun f => PGp f p1 x3) Ps ws p0 → WD D cy GG A s wr_X10_placeFrom__9 wa_X10_placeFrom__9 Ps w0 Ps ws H locs → lv_has ls 6 [(0, .ref p0), (1, .int p1), (2, .int p2), (3, .int x3)] → W p l e (headSpec (Cond.code yX10_placeFrom cX10_placeFrom 6 (some .boolean) :: gT) ({ frames := 7, cells := 0, slots := 0, locals := 1400 } : Room)).room s m ([.ref p0, .int p1, .int p2] : List Value).toArray below meth c H locs 0 0 Q (F0 m 14 ls []) := by
    intro nf14
    induction nf14 with
    | zero =>
      intro x3 ws H locs ls hn14 r_p1 r_p2 r_x3 x_QLE_p0_p1 x_QLT_p0_p1 x_PG_p0_p1__3 hw hl
      exact absurd hn14 (by have q0 := r_x3.1; have u0 := r_x3.2; omega)
    | succ nf14 ih14 =>
      have B25 : ∀ (nf : Nat) (x3 : Int32) (x4 : Int32) (x5 : Int32) (ws : va_W) (H : Heap) (locs : List Loc) (ls : Array Slot), 2 - x5.toInt < (nf : Int) → RI p1 2 2 → RI p2 6 6 → RI x3 0 5 → RI x4 0 1 → RI x5 0 2 → AX 14 34 (fun f => Int32.toInt p1 ≤ (f 2).toInt) Ps ws p0 → AX 14 34 (fun f => Int32.toInt p1 < (f 2).toInt) Ps ws p0 → AX 31 48 (fun f => PGp f p1 x3) Ps ws p0 → AX 31 48 (fun f => GDp f p1 x3 x4) Ps ws p0 → 6 - x3.toInt < ((nf14 + 1 : Nat) : Int) → WD D cy GG A s wr_X10_placeFrom__9 wa_X10_placeFrom__9 Ps w0 Ps ws H locs → lv_has ls 6 [(0, .ref p0), (1, .int p1), (2, .int p2), (3, .int x3), (4, .int x4), (5, .int x5)] → W p l e (headSpec (Cond.code yX10_placeFrom cX10_placeFrom 6 (some .boolean) :: gT) ({ frames := 7, cells := 0, slots := 0, locals := 1400 } : Room)).room s m ([.ref p0, .int p1, .int p2] : List Value).toArray below meth c H locs 0 0 Q (F0 m 25 ls []) := by
        intro nf25
        induction nf25 with
        | zero =>
          intro x3 x4 x5 ws H locs ls hn25 r_p1 r_p2 r_x3 r_x4 r_x5 x_QLE_p0_p1 x_QLT_p0_p1 x_PG_p0_p1__3 x_GD_p0_p1__3__4 hn14 hw hl
          exact absurd hn25 (by have q0 := r_x5.1; have u0 := r_x5.2; omega)
        | succ nf25 ih25 =>
          intro x3 x4 x5 ws H locs ls hn25 r_p1 r_p2 r_x3 r_x4 r_x5 x_QLE_p0_p1 x_QLT_p0_p1 x_PG_p0_p1__3 x_GD_p0_p1__3__4 hn14 hw hl
          refine lv_iload hx hb dX10_placeFrom_25 (lv_at hl 5 rfl) ?_
          refine lv_iload_n hx hb dX10_placeFrom_27 rfl (lv_at hl 1 rfl) ?_
          refine lv_icmp_ge (tgt := 61) hx hb dX10_placeFrom_28 (by decide) (fun c_28 => ?_) (fun c_28 => ?_)
          · have r_x5 : RI x5 2 2 := rc_le2 r_p1 r_x5 (ti_le c_28) (by decide)
            refine lv_iload hx hb dX10_placeFrom_61 (lv_at hl 4 rfl) ?_
            refine lv_if_ne (tgt := 69) hx hb dX10_placeFrom_63 (by decide) (fun c_63 => ?_) (fun c_63 => ?_)
            · have r_x4 : RI x4 1 1 := rc_neL r_x4 rl_0 (ti_ne c_63) (by decide)
              refine lv_aload_n hx hb dX10_placeFrom_69 rfl (lv_at hl 0 rfl) ?_
              refine tg_get (ci := 10) (ts := ty_MODEL) (C := RX10) (T := TX10) (N := 49) hx hb hts inX10 hown hK hw h_p0 rfl rfl 31 (by decide) (hts _ tw_1168) (fun _ h9 => h9) (ft := vR 48) rfl dX10_placeFrom_70 (fun u_1 hv_u_1 m_u_1 => ?_)
              obtain ⟨vu_1, rfl, h_vu_1⟩ := hv_u_1
              refine lv_iload_n hx hb dX10_placeFrom_73 rfl (lv_at hl 1 rfl) ?_
              refine lv_iload_n hx hb dX10_placeFrom_74 rfl (lv_at hl 3 rfl) ?_
              refine tg_iast hx hb hK hw h_vu_1 rfl 2 2 r_p1 (by decide) r_x3 (by exact fun _ _ _ => by decide) (fun _ _ _ _ _ => trivial) (by decide) dX10_placeFrom_75 (fun ws H locs hw hF9 hU9 => ?_)
              have x_QLE_p0_p1 := AX.over hF9 x_QLE_p0_p1 (by decide)
              have x_QLT_p0_p1 := AX.over hF9 x_QLT_p0_p1 (by decide)
              refine lv_aload_n hx hb dX10_placeFrom_76 rfl (lv_at hl 0 rfl) ?_
              refine lv_iload_n hx hb dX10_placeFrom_77 rfl (lv_at hl 1 rfl) ?_
              refine lv_iconst (v := 1) hx hb dX10_placeFrom_78 (by decide) ?_
              refine lv_iadd hx hb dX10_placeFrom_79 (lv_topi (fun v_2 e_v_2 => ?_))
              obtain ⟨t_v_2, r_v_2⟩ := tq_add (lo := 3) (hi := 3) r_p1 rl_1 (by decide +kernel) e_v_2
              have t_v_2 : v_2.toInt = p1.toInt + 1 := t_v_2
              refine lv_iload_n hx hb dX10_placeFrom_80 rfl (lv_at hl 2 rfl) ?_
              have x_QLE_p0_v_2 : AX 14 34 (fun f => Int32.toInt v_2 ≤ (f 2).toInt) Ps ws p0 := AX.imp x_QLT_p0_p1 (fun f9 h9 => by have k2 := t_v_2; show _ ≤ _; have k3 : p1.toInt < (f9 2).toInt := h9; omega)
              refine tk_i (va_runV (As := [.int v_2, .int p2]) (rest := []) ⟨hx, hb, hml, hown, hts⟩ (c_X10_placeFrom__10 l D cy z H.size Ps ws hw.1 p0 v_2 p2 h_p0 r_v_2 r_p2 x_QLE_p0_v_2) (cwV 2 hts (gV tw_1634 tw_1636 ts_93 tw_15 tw_1637) rfl rfl rfl (by decide +kernel) ⟨Nat.le_of_ble_eq_true rfl, Nat.le_of_ble_eq_true rfl⟩) (tg_preV hw hK hSD hA (ci := 10) (q := (RX10, TX10, 49)) rfl h_p0 rfl) rfl rfl hl.1 rfl (lv_room (Nat.le_of_ble_eq_true rfl)) dX10_placeFrom_81 ⟨Nat.le_of_ble_eq_true rfl, Nat.le_of_ble_eq_true rfl⟩) hw hA ⟨by decide, by decide⟩ (fun v_3 ws H locs hp_v_3 hw hF9 => ?_)
              have x_QLE_p0_p1 := AX.over hF9 x_QLE_p0_p1 (by decide)
              have x_QLT_p0_p1 := AX.over hF9 x_QLT_p0_p1 (by decide)
              have x_QLE_p0_v_2 := AX.over hF9 x_QLE_p0_v_2 (by decide)
              have r_v_3 : RI v_3 1 1 := hp_v_3.1
              refine lv_if_eq (tgt := 89) hx hb dX10_placeFrom_84 (by decide) (fun c_84 => ?_) (fun c_84 => ?_)
              · have r_v_3 : RI v_3 1 0 := rc_eq1 r_v_3 rl_0 (ti_eq c_84) (by decide)
                exact (r_v_3.no (by decide)).elim
              · refine lv_iconst (v := 1) hx hb dX10_placeFrom_87 (by decide) ?_
                subst hQ
                exact W.zret (v := 1) hx hb hr (rfl) (fun t ht hW => ⟨⟨1, ws, rfl, ⟨⟨rl_1.to (by decide), (fun _ => trivial), (fun h0 => trivial)⟩, hw.1, hw.2.2.2.2.1⟩, by rw [ht]; exact hw.2.1, va_K.moved hW.alike hK, hw.2.2.1⟩, hw.2.2.2.1.F ht⟩) hw.2.2.2.1.2.2 dX10_placeFrom_88
            · have r_x4 : RI x4 0 0 := rc_eq1 r_x4 rl_0 (ti_eq c_63) (by decide)
              refine lv_goto (tgt := 89) hx hb dX10_placeFrom_66 (by decide) ?_
              obtain ⟨v_4, e_v_4⟩ : ∃ q9 : Int32, q9 = x3 + Int32.ofInt 1 := ⟨_, rfl⟩
              obtain ⟨t_v_4, r_v_4⟩ := tq_add (lo := 1) (hi := 6) r_x3 (show RI (Int32.ofInt 1) 1 1 by unfold RI; decide +kernel) (by decide +kernel) e_v_4
              have t_v_4 : v_4.toInt = x3.toInt + 1 := t_v_4
              refine lv_iinc (v := v_4) (lv' := [(3, .int v_4), (0, .ref p0), (1, .int p1), (2, .int p2), (4, .int x4), (5, .int x5)]) hx hb dX10_placeFrom_89 hl (k := 3) rfl e_v_4.symm (by decide) rfl (fun ls hl => ?_)
              refine lv_goto (tgt := 14) hx hb dX10_placeFrom_92 (by decide) ?_
              have x_PG_p0_p1_v_4 : AX 31 48 (fun f => PGp f p1 v_4) Ps ws p0 := AX.imp (AX.and hw x_PG_p0_p1__3 x_GD_p0_p1__3__4) (fun f9 h9 => PG_next h9.1 h9.2 r_x4 (r_x3.to (by decide)) t_v_4)
              exact ih14 v_4 ws _ _ ls (by have q0 := r_v_4.1; have u0 := r_v_4.2; have o0 := r_x3.1; have p0 := r_x3.2; omega) r_p1 r_p2 (r_v_4.to (by decide)) x_QLE_p0_p1 x_QLT_p0_p1 x_PG_p0_p1_v_4 hw (lv_sub hl [1, 2, 3, 0] rfl)
          · have r_x5 : RI x5 0 1 := rc_lt1 r_x5 r_p1 (ti_nle c_28) (by decide)
            refine lv_aload_n hx hb dX10_placeFrom_31 rfl (lv_at hl 0 rfl) ?_
            refine tg_get (ci := 10) (ts := ty_MODEL) (C := RX10) (T := TX10) (N := 49) hx hb hts inX10 hown hK hw h_p0 rfl rfl 31 (by decide) (hts _ tw_1168) (fun _ h9 => h9) (ft := vR 48) rfl dX10_placeFrom_32 (fun u_5 hv_u_5 m_u_5 => ?_)
            obtain ⟨vu_5, rfl, h_vu_5⟩ := hv_u_5
            refine lv_iload hx hb dX10_placeFrom_35 (lv_at hl 5 rfl) ?_
            refine tg_iald (lo := (-2147483648)) (hi := 2147483647) hx hb hK hw h_vu_5 rfl 0 1 r_x5 (by decide) (by exact fun _ _ _ => ⟨Int.le_refl _, Int.le_refl _⟩) dX10_placeFrom_37 (fun v_6 r_v_6 m_v_6 o_v_6 => ?_)
            refine lv_iload_n hx hb dX10_placeFrom_38 rfl (lv_at hl 3 rfl) ?_
            refine lv_icmp_ne (tgt := 55) hx hb dX10_placeFrom_39 (by decide) (fun c_39 => ?_) (fun c_39 => ?_)
            · obtain ⟨v_7, e_v_7⟩ : ∃ q9 : Int32, q9 = x5 + Int32.ofInt 1 := ⟨_, rfl⟩
              obtain ⟨t_v_7, r_v_7⟩ := tq_add (lo := 1) (hi := 2) r_x5 (show RI (Int32.ofInt 1) 1 1 by unfold RI; decide +kernel) (by decide +kernel) e_v_7
              have t_v_7 : v_7.toInt = x5.toInt + 1 := t_v_7
              refine lv_iinc (v := v_7) (lv' := [(5, .int v_7), (0, .ref p0), (1, .int p1), (2, .int p2), (3, .int x3), (4, .int x4)]) hx hb dX10_placeFrom_55 hl (k := 5) rfl e_v_7.symm (by decide) rfl (fun ls hl => ?_)
              refine lv_goto (tgt := 25) hx hb dX10_placeFrom_58 (by decide) ?_
              exact ih25 x3 x4 v_7 ws _ _ ls (by have q0 := r_v_7.1; have u0 := r_v_7.2; have o0 := r_x5.1; have p0 := r_x5.2; omega) r_p1 r_p2 r_x3 r_x4 (r_v_7.to (by decide)) x_QLE_p0_p1 x_QLT_p0_p1 x_PG_p0_p1__3 x_GD_p0_p1__3__4 (by have q0 := r_x3.1; have u0 := r_x3.2; omega) hw (lv_sub hl [1, 2, 3, 4, 5, 0] rfl)
            · have r_v_6 : RI v_6 0 5 := rc_eq1 r_v_6 r_x3 (ti_eq c_39) (by decide)
              refine lv_aload_n hx hb dX10_placeFrom_42 rfl (lv_at hl 0 rfl) ?_
              refine lv_iload_n hx hb dX10_placeFrom_43 rfl (lv_at hl 1 rfl) ?_
              refine lv_iload hx hb dX10_placeFrom_44 (lv_at hl 5 rfl) ?_
              refine tk_ir (va_runV (As := [.int p1, .int x5]) (rest := []) ⟨hx, hb, hml, hown, hts⟩ (c_X10_doQuarrel l D cy z H.size Ps ws hw.1 p0 p1 x5 h_p0 (r_p1.to (by decide)) (r_x5.to (by decide))) (cwV 2 hts (gV tw_1638 tw_1640 ts_94 tw_15 tw_1641) rfl rfl rfl (by decide +kernel) ⟨Nat.le_of_ble_eq_true rfl, Nat.le_of_ble_eq_true rfl⟩) (tg_preV hw hK hSD hA (ci := 10) (q := (RX10, TX10, 49)) rfl h_p0 rfl) rfl rfl hl.1 rfl (lv_room (Nat.le_of_ble_eq_true rfl)) dX10_placeFrom_46 ⟨Nat.le_of_ble_eq_true rfl, Nat.le_of_ble_eq_true rfl⟩) hw hA (fun v_8  H locs hp_v_8 hw => ?_)
              have r_v_8 : RI v_8 0 1 := hp_v_8.1
              refine lv_if_eq (tgt := 55) hx hb dX10_placeFrom_49 (by decide) (fun c_49 => ?_) (fun c_49 => ?_)
              · have r_v_8 : RI v_8 0 0 := rc_eq1 r_v_8 rl_0 (ti_eq c_49) (by decide)
                obtain ⟨v_9, e_v_9⟩ : ∃ q9 : Int32, q9 = x5 + Int32.ofInt 1 := ⟨_, rfl⟩
                obtain ⟨t_v_9, r_v_9⟩ := tq_add (lo := 1) (hi := 2) r_x5 (show RI (Int32.ofInt 1) 1 1 by unfold RI; decide +kernel) (by decide +kernel) e_v_9
                have t_v_9 : v_9.toInt = x5.toInt + 1 := t_v_9
                refine lv_iinc (v := v_9) (lv' := [(5, .int v_9), (0, .ref p0), (1, .int p1), (2, .int p2), (3, .int x3), (4, .int x4)]) hx hb dX10_placeFrom_55 hl (k := 5) rfl e_v_9.symm (by decide) rfl (fun ls hl => ?_)
                refine lv_goto (tgt := 25) hx hb dX10_placeFrom_58 (by decide) ?_
                exact ih25 x3 x4 v_9 ws _ _ ls (by have q0 := r_v_9.1; have u0 := r_v_9.2; have o0 := r_x5.1; have p0 := r_x5.2; omega) r_p1 r_p2 r_x3 r_x4 (r_v_9.to (by decide)) x_QLE_p0_p1 x_QLT_p0_p1 x_PG_p0_p1__3 x_GD_p0_p1__3__4 (by have q0 := r_x3.1; have u0 := r_x3.2; omega) hw (lv_sub hl [1, 2, 3, 4, 5, 0] rfl)
              · have r_v_8 : RI v_8 1 1 := rc_neL r_v_8 rl_0 (ti_ne c_49) (by decide)
                refine lv_iconst (v := 0) hx hb dX10_placeFrom_52 (by decide) ?_
                refine lv_istore (lv' := [(4, .int 0), (0, .ref p0), (1, .int p1), (2, .int p2), (3, .int x3), (5, .int x5)]) hx hb dX10_placeFrom_53 hl (by decide) rfl (fun ls hl => ?_)
                obtain ⟨v_10, e_v_10⟩ : ∃ q9 : Int32, q9 = x5 + Int32.ofInt 1 := ⟨_, rfl⟩
                obtain ⟨t_v_10, r_v_10⟩ := tq_add (lo := 1) (hi := 2) r_x5 (show RI (Int32.ofInt 1) 1 1 by unfold RI; decide +kernel) (by decide +kernel) e_v_10
                have t_v_10 : v_10.toInt = x5.toInt + 1 := t_v_10
                refine lv_iinc (v := v_10) (lv' := [(5, .int v_10), (4, .int 0), (0, .ref p0), (1, .int p1), (2, .int p2), (3, .int x3)]) hx hb dX10_placeFrom_55 hl (k := 5) rfl e_v_10.symm (by decide) rfl (fun ls hl => ?_)
                refine lv_goto (tgt := 25) hx hb dX10_placeFrom_58 (by decide) ?_
                have x_GD_p0_p1_x3_0 : AX 31 48 (fun f => GDp f p1 x3 0) Ps ws p0 := AX.mk hw h_vu_5 rfl m_u_5 (fun f9 g9 _ => fun _ => ⟨Int32.toNatClampNeg x5, by have k1 := r_x5.cl (by decide); have k2 := ti_nle c_28; omega, by have e9 := g9 _ _ m_v_6; rw [e9]; exact ti_eq c_39⟩)
                exact ih25 x3 0 v_10 ws _ _ ls (by have q0 := r_v_10.1; have u0 := r_v_10.2; have o0 := r_x5.1; have p0 := r_x5.2; omega) r_p1 r_p2 r_x3 (rl_0.to (by decide)) (r_v_10.to (by decide)) x_QLE_p0_p1 x_QLT_p0_p1 x_PG_p0_p1__3 x_GD_p0_p1_x3_0 (by have q0 := r_x3.1; have u0 := r_x3.2; omega) hw (lv_sub hl [2, 3, 4, 5, 1, 0] rfl)
      intro x3 ws H locs ls hn14 r_p1 r_p2 r_x3 x_QLE_p0_p1 x_QLT_p0_p1 x_PG_p0_p1__3 hw hl
      refine lv_iload_n hx hb dX10_placeFrom_14 rfl (lv_at hl 3 rfl) ?_
      refine lv_iload_n hx hb dX10_placeFrom_15 rfl (lv_at hl 2 rfl) ?_
      refine lv_icmp_ge (tgt := 95) hx hb dX10_placeFrom_16 (by decide) (fun c_16 => ?_) (fun c_16 => ?_)
      · have r_x3 : RI x3 6 6 := rc_le2 r_p2 r_x3 (ti_le c_16) (by decide)
        exact (by obtain ⟨_, f9, _, _, h9⟩ := x_PG_p0_p1__3; exact PG_no h9 (r_p1.to (by decide)) (r_x3.to (by decide)) : False).elim
      · have r_x3 : RI x3 0 5 := rc_lt1 r_x3 r_p2 (ti_nle c_16) (by decide)
        refine lv_iconst (v := 1) hx hb dX10_placeFrom_19 (by decide) ?_
        refine lv_istore (lv' := [(4, .int 1), (0, .ref p0), (1, .int p1), (2, .int p2), (3, .int x3)]) hx hb dX10_placeFrom_20 hl (by decide) rfl (fun ls hl => ?_)
        refine lv_iconst (v := 0) hx hb dX10_placeFrom_22 (by decide) ?_
        refine lv_istore (lv' := [(5, .int 0), (4, .int 1), (0, .ref p0), (1, .int p1), (2, .int p2), (3, .int x3)]) hx hb dX10_placeFrom_23 hl (by decide) rfl (fun ls hl => ?_)
        have x_GD_p0_p1_x3_1 : AX 31 48 (fun f => GDp f p1 x3 1) Ps ws p0 := AX.imp (ax_of (k := 31) (t := 48) hw h_p0 rfl (fun _ => rfl)) (fun f9 _ => fun q9 => absurd q9 (by decide))
        exact B25 4294967298 x3 1 0 ws _ _ ls (by have q0 := rl_0.1; have u0 := rl_0.2; omega) r_p1 r_p2 r_x3 (rl_1.to (by decide)) (rl_0.to (by decide)) x_QLE_p0_p1 x_QLT_p0_p1 x_PG_p0_p1__3 x_GD_p0_p1_x3_1 (by have q0 := r_x3.1; have u0 := r_x3.2; omega) hw (lv_sub hl [2, 3, 4, 5, 1, 0] rfl)
  refine lv_iload_n hx hb dX10_placeFrom_0 rfl (lv_at hl 1 rfl) ?_
  refine lv_aload_n hx hb dX10_placeFrom_1 rfl (lv_at hl 0 rfl) ?_
  refine tg_get (ci := 10) (ts := ty_MODEL) (C := RX10) (T := TX10) (N := 49) hx hb hts inX10 hown hK hw h_p0 rfl rfl 14 (by decide) (hts _ tw_1151) (fun _ h9 => h9) (ft := vR 34) rfl dX10_placeFrom_2 (fun u_11 hv_u_11 m_u_11 => ?_)
  obtain ⟨vu_11, rfl, h_vu_11⟩ := hv_u_11
  refine lv_iconst (v := 2) hx hb dX10_placeFrom_5 (by decide) ?_
  refine tg_iald (lo := 0) (hi := 6) hx hb hK hw h_vu_11 rfl 2 2 rl_2 (by decide) (by decide +kernel) dX10_placeFrom_6 (fun v_12 r_v_12 m_v_12 o_v_12 => ?_)
  have x_P2_p0_v_12 : AX 14 34 (fun f => f 2 = v_12) Ps w0 p0 := AX.mk hw h_vu_11 rfl m_u_11 (fun f9 g9 _ => by have e9 := g9 _ _ m_v_12; have j9 : Int32.toNatClampNeg 2 = 2 := (by decide); rw [j9] at e9; exact e9)
  have g_ql : p1.toInt ≤ v_12.toInt := by obtain ⟨_, f9, _, _, h9⟩ := AX.and hw x_QLE_p0_p1 x_P2_p0_v_12; have k1 := h9.1; have k2 : f9 2 = v_12 := h9.2; rw [k2] at k1; exact k1
  have r_v_12 : RI v_12 2 6 := ⟨by have k1 := r_p1.1; have k2 := r_v_12.1; omega, r_v_12.2⟩
  refine lv_icmp_ne (tgt := 12) hx hb dX10_placeFrom_7 (by decide) (fun c_7 => ?_) (fun c_7 => ?_)
  · have r_v_12 : RI v_12 3 6 := rc_neL r_v_12 r_p1 (ti_ne c_7).symm (by decide)
    have x_QLT_p0_p1 : AX 14 34 (fun f => Int32.toInt p1 < (f 2).toInt) Ps w0 p0 := AX.imp x_P2_p0_v_12 (fun f9 h9 => by have k1 : f9 2 = v_12 := h9; show _ < _; rw [k1]; have k3 := ti_ne c_7; have k4 := g_ql; omega)
    refine lv_iconst (v := 0) hx hb dX10_placeFrom_12 (by decide) ?_
    refine lv_istore_n (lv' := [(3, .int 0), (0, .ref p0), (1, .int p1), (2, .int p2)]) hx hb dX10_placeFrom_13 rfl hl (by decide) rfl (fun ls hl => ?_)
    have x_PG_p0_p1_0 : AX 31 48 (fun f => PGp f p1 0) Ps w0 p0 := AX.imp (ax_of (k := 31) (t := 48) hw h_p0 rfl (fun _ => rfl)) (fun f9 _ => fun j9 q9 => absurd q9 (by rw [Int32.toInt_zero]; omega))
    exact B14 4294967298 0 w0 _ _ ls (by have q0 := rl_0.1; have u0 := rl_0.2; omega) r_p1 r_p2 (rl_0.to (by decide)) x_QLE_p0_p1 x_QLT_p0_p1 x_PG_p0_p1_0 hw (lv_sub hl [1, 2, 3, 0] rfl)
  · have r_v_12 : RI v_12 2 2 := rc_eq2 r_p1 r_v_12 (ti_eq c_7) (by decide)
    refine lv_iconst (v := 1) hx hb dX10_placeFrom_10 (by decide) ?_
    subst hQ
    exact W.zret (v := 1) hx hb hr (rfl) (fun t ht hW => ⟨⟨1, w0, rfl, ⟨⟨rl_1.to (by decide), (fun _ => trivial), (fun h0 => trivial)⟩, hw.1, hw.2.2.2.2.1⟩, by rw [ht]; exact hw.2.1, va_K.moved hW.alike hK, hw.2.2.1⟩, hw.2.2.2.1.F ht⟩) hw.2.2.2.1.2.2 dX10_placeFrom_11
abbrev wr_X10_placeFrom__8 : List (Nat × Nat) := []
abbrev wa_X10_placeFrom__8 : List Nat := [48]
set_option maxHeartbeats 4000000 in
set_option maxRecDepth 100000 in
theorem c_X10_placeFrom__8 (l : Launch) (D : va_G) (cy : Nat → ClassId) (z : Nat → Nat) (sz : Nat) (Ps : PSI) (w0 : va_W) (hT : HT cy GG Ps w0) (p0 : Nat) (p1 : Int32) (p2 : Int32) (h_p0 : (p0, 55) ∈ Ps) (r_p1 : RI p1 1 1) (r_p2 : RI p2 6 6) (x_QLE_p0_p1 : AX 14 34 (fun f => Int32.toInt p1 ≤ (f 2).toInt) Ps w0 p0) : Met l yX10_placeFrom (Cond.code yX10_placeFrom cX10_placeFrom 6 (some .boolean) :: gT) ({ frames := 8, cells := 0, slots := 0, locals := 1600 } : Room) (va_Pc [.ref p0, .int p1, .int p2] (PRE D cy z w0 sz)) (va_Qi (fun (r : Int32) (u : va_W) => (RI r 1 1 ∧ (r = 0 → True) ∧ (¬ r = 0 → True)) ∧ HT cy GG Ps u ∧ FR wr_X10_placeFrom__8 wa_X10_placeFrom__8 Ps w0 u) (BB D cy (va_A w0 sz) (fun (u : va_W) => u)) (va_A w0 sz)) 0 0 (va_A w0 sz) := by
  refine Met.ofW (cc := cX10_placeFrom) (maxL := 6) (ret := (some .boolean)) (by decide) rfl ?_
  intro p e s m args below meth c s₁ B hml hv
  obtain ⟨rfl, hsz, hP, hK, hD0, hSD⟩ := hv
  have hx := B.exec
  have hb := B.bytes
  have hr := B.returns
  have hlocks := B.notSynchronized
  have hts : ∀ w ∈ gT, w.before _ s = true := fun w h => atoms_spec (ws := Cond.code yX10_placeFrom cX10_placeFrom 6 (some .boolean) :: gT) B.pre w (List.mem_cons_of_mem _ h)
  have hown : s.vm.findClass RX10 = some m.cls := findClass_of_methodNamed B.named
  subst hsz
  have hD := hD0.self (sz := s.heap.size)
  generalize hAe : va_A w0 s.heap.size = A at hD hSD ⊢
  have hA : ∀ q : Nat, s.heap.size ≤ q → A q := fun q h => by rw [← hAe]; exact Or.inr h
  have hl := lv_entry ([.ref p0, .int p1, .int p2]) (n := 6) (Nat.le_of_ble_eq_true rfl)
  rw [lg_entry_eq]
  generalize (lg_sl ([.ref p0, .int p1, .int p2]) ++ List.replicate (6 - (lg_sl ([.ref p0, .int p1, .int p2])).length) Slot.unset).toArray = ls at hl ⊢
  have hl : lv_has ls 6 [(0, .ref p0), (1, .int p1), (2, .int p2)] := hl
  refine nameQ (fun Q hQ => ?_)
  have hw : WD D cy GG A s wr_X10_placeFrom__8 wa_X10_placeFrom__8 Ps w0 Ps w0 s.heap [] := ⟨hT, hP, hD, va_S.rf, FR.rf, hT.1, [], (List.append_nil _).symm⟩
  have B14 : ∀ (nf : Nat) (x3 : Int32) (ws : va_W) (H : Heap) (locs : List Loc) (ls : Array Slot), 6 - x3.toInt < (nf : Int) → RI p1 1 1 → RI p2 6 6 → RI x3 0 6 → AX 14 34 (fun f => Int32.toInt p1 ≤ (f 2).toInt) Ps ws p0 → AX 14 34 (fun f => Int32.toInt p1 < (f 2).toInt) Ps ws p0 → AX 31 48 (fun f => PGp f p1 x3) Ps ws p0 → WD D cy GG A s wr_X10_placeFrom__8 wa_X10_placeFrom__8 Ps w0 Ps ws H locs → lv_has ls 6 [(0, .ref p0), (1, .int p1), (2, .int p2), (3, .int x3)] → W p l e (headSpec (Cond.code yX10_placeFrom cX10_placeFrom 6 (some .boolean) :: gT) ({ frames := 8, cells := 0, slots := 0, locals := 1600 } : Room)).room s m ([.ref p0, .int p1, .int p2] : List Value).toArray below meth c H locs 0 0 Q (F0 m 14 ls []) := by
    intro nf14
    induction nf14 with
    | zero =>
      intro x3 ws H locs ls hn14 r_p1 r_p2 r_x3 x_QLE_p0_p1 x_QLT_p0_p1 x_PG_p0_p1__3 hw hl
      exact absurd hn14 (by have q0 := r_x3.1; have u0 := r_x3.2; omega)
    | succ nf14 ih14 =>
      have B25 : ∀ (nf : Nat) (x3 : Int32) (x4 : Int32) (x5 : Int32) (ws : va_W) (H : Heap) (locs : List Loc) (ls : Array Slot), 1 - x5.toInt < (nf : Int) → RI p1 1 1 → RI p2 6 6 → RI x3 0 5 → RI x4 0 1 → RI x5 0 1 → AX 14 34 (fun f => Int32.toInt p1 ≤ (f 2).toInt) Ps ws p0 → AX 14 34 (fun f => Int32.toInt p1 < (f 2).toInt) Ps ws p0 → AX 31 48 (fun f => PGp f p1 x3) Ps ws p0 → AX 31 48 (fun f => GDp f p1 x3 x4) Ps ws p0 → 6 - x3.toInt < ((nf14 + 1 : Nat) : Int) → WD D cy GG A s wr_X10_placeFrom__8 wa_X10_placeFrom__8 Ps w0 Ps ws H locs → lv_has ls 6 [(0, .ref p0), (1, .int p1), (2, .int p2), (3, .int x3), (4, .int x4), (5, .int x5)] → W p l e (headSpec (Cond.code yX10_placeFrom cX10_placeFrom 6 (some .boolean) :: gT) ({ frames := 8, cells := 0, slots := 0, locals := 1600 } : Room)).room s m ([.ref p0, .int p1, .int p2] : List Value).toArray below meth c H locs 0 0 Q (F0 m 25 ls []) := by
        intro nf25
        induction nf25 with
        | zero =>
          intro x3 x4 x5 ws H locs ls hn25 r_p1 r_p2 r_x3 r_x4 r_x5 x_QLE_p0_p1 x_QLT_p0_p1 x_PG_p0_p1__3 x_GD_p0_p1__3__4 hn14 hw hl
          exact absurd hn25 (by have q0 := r_x5.1; have u0 := r_x5.2; omega)
        | succ nf25 ih25 =>
          intro x3 x4 x5 ws H locs ls hn25 r_p1 r_p2 r_x3 r_x4 r_x5 x_QLE_p0_p1 x_QLT_p0_p1 x_PG_p0_p1__3 x_GD_p0_p1__3__4 hn14 hw hl
          refine lv_iload hx hb dX10_placeFrom_25 (lv_at hl 5 rfl) ?_
          refine lv_iload_n hx hb dX10_placeFrom_27 rfl (lv_at hl 1 rfl) ?_
          refine lv_icmp_ge (tgt := 61) hx hb dX10_placeFrom_28 (by decide) (fun c_28 => ?_) (fun c_28 => ?_)
          · have r_x5 : RI x5 1 1 := rc_le2 r_p1 r_x5 (ti_le c_28) (by decide)
            refine lv_iload hx hb dX10_placeFrom_61 (lv_at hl 4 rfl) ?_
            refine lv_if_ne (tgt := 69) hx hb dX10_placeFrom_63 (by decide) (fun c_63 => ?_) (fun c_63 => ?_)
            · have r_x4 : RI x4 1 1 := rc_neL r_x4 rl_0 (ti_ne c_63) (by decide)
              refine lv_aload_n hx hb dX10_placeFrom_69 rfl (lv_at hl 0 rfl) ?_
              refine tg_get (ci := 10) (ts := ty_MODEL) (C := RX10) (T := TX10) (N := 49) hx hb hts inX10 hown hK hw h_p0 rfl rfl 31 (by decide) (hts _ tw_1168) (fun _ h9 => h9) (ft := vR 48) rfl dX10_placeFrom_70 (fun u_1 hv_u_1 m_u_1 => ?_)
              obtain ⟨vu_1, rfl, h_vu_1⟩ := hv_u_1
              refine lv_iload_n hx hb dX10_placeFrom_73 rfl (lv_at hl 1 rfl) ?_
              refine lv_iload_n hx hb dX10_placeFrom_74 rfl (lv_at hl 3 rfl) ?_
              refine tg_iast hx hb hK hw h_vu_1 rfl 1 1 r_p1 (by decide) r_x3 (by exact fun _ _ _ => by decide) (fun _ _ _ _ _ => trivial) (by decide) dX10_placeFrom_75 (fun ws H locs hw hF9 hU9 => ?_)
              have x_QLE_p0_p1 := AX.over hF9 x_QLE_p0_p1 (by decide)
              have x_QLT_p0_p1 := AX.over hF9 x_QLT_p0_p1 (by decide)
              refine lv_aload_n hx hb dX10_placeFrom_76 rfl (lv_at hl 0 rfl) ?_
              refine lv_iload_n hx hb dX10_placeFrom_77 rfl (lv_at hl 1 rfl) ?_
              refine lv_iconst (v := 1) hx hb dX10_placeFrom_78 (by decide) ?_
              refine lv_iadd hx hb dX10_placeFrom_79 (lv_topi (fun v_2 e_v_2 => ?_))
              obtain ⟨t_v_2, r_v_2⟩ := tq_add (lo := 2) (hi := 2) r_p1 rl_1 (by decide +kernel) e_v_2
              have t_v_2 : v_2.toInt = p1.toInt + 1 := t_v_2
              refine lv_iload_n hx hb dX10_placeFrom_80 rfl (lv_at hl 2 rfl) ?_
              have x_QLE_p0_v_2 : AX 14 34 (fun f => Int32.toInt v_2 ≤ (f 2).toInt) Ps ws p0 := AX.imp x_QLT_p0_p1 (fun f9 h9 => by have k2 := t_v_2; show _ ≤ _; have k3 : p1.toInt < (f9 2).toInt := h9; omega)
              refine tk_i (va_runV (As := [.int v_2, .int p2]) (rest := []) ⟨hx, hb, hml, hown, hts⟩ (c_X10_placeFrom__9 l D cy z H.size Ps ws hw.1 p0 v_2 p2 h_p0 r_v_2 r_p2 x_QLE_p0_v_2) (cwV 2 hts (gV tw_1634 tw_1636 ts_93 tw_15 tw_1637) rfl rfl rfl (by decide +kernel) ⟨Nat.le_of_ble_eq_true rfl, Nat.le_of_ble_eq_true rfl⟩) (tg_preV hw hK hSD hA (ci := 10) (q := (RX10, TX10, 49)) rfl h_p0 rfl) rfl rfl hl.1 rfl (lv_room (Nat.le_of_ble_eq_true rfl)) dX10_placeFrom_81 ⟨Nat.le_of_ble_eq_true rfl, Nat.le_of_ble_eq_true rfl⟩) hw hA ⟨by decide, by decide⟩ (fun v_3 ws H locs hp_v_3 hw hF9 => ?_)
              have x_QLE_p0_p1 := AX.over hF9 x_QLE_p0_p1 (by decide)
              have x_QLT_p0_p1 := AX.over hF9 x_QLT_p0_p1 (by decide)
              have x_QLE_p0_v_2 := AX.over hF9 x_QLE_p0_v_2 (by decide)
              have r_v_3 : RI v_3 1 1 := hp_v_3.1
              refine lv_if_eq (tgt := 89) hx hb dX10_placeFrom_84 (by decide) (fun c_84 => ?_) (fun c_84 => ?_)
              · have r_v_3 : RI v_3 1 0 := rc_eq1 r_v_3 rl_0 (ti_eq c_84) (by decide)
                exact (r_v_3.no (by decide)).elim
              · refine lv_iconst (v := 1) hx hb dX10_placeFrom_87 (by decide) ?_
                subst hQ
                exact W.zret (v := 1) hx hb hr (rfl) (fun t ht hW => ⟨⟨1, ws, rfl, ⟨⟨rl_1.to (by decide), (fun _ => trivial), (fun h0 => trivial)⟩, hw.1, hw.2.2.2.2.1⟩, by rw [ht]; exact hw.2.1, va_K.moved hW.alike hK, hw.2.2.1⟩, hw.2.2.2.1.F ht⟩) hw.2.2.2.1.2.2 dX10_placeFrom_88
            · have r_x4 : RI x4 0 0 := rc_eq1 r_x4 rl_0 (ti_eq c_63) (by decide)
              refine lv_goto (tgt := 89) hx hb dX10_placeFrom_66 (by decide) ?_
              obtain ⟨v_4, e_v_4⟩ : ∃ q9 : Int32, q9 = x3 + Int32.ofInt 1 := ⟨_, rfl⟩
              obtain ⟨t_v_4, r_v_4⟩ := tq_add (lo := 1) (hi := 6) r_x3 (show RI (Int32.ofInt 1) 1 1 by unfold RI; decide +kernel) (by decide +kernel) e_v_4
              have t_v_4 : v_4.toInt = x3.toInt + 1 := t_v_4
              refine lv_iinc (v := v_4) (lv' := [(3, .int v_4), (0, .ref p0), (1, .int p1), (2, .int p2), (4, .int x4), (5, .int x5)]) hx hb dX10_placeFrom_89 hl (k := 3) rfl e_v_4.symm (by decide) rfl (fun ls hl => ?_)
              refine lv_goto (tgt := 14) hx hb dX10_placeFrom_92 (by decide) ?_
              have x_PG_p0_p1_v_4 : AX 31 48 (fun f => PGp f p1 v_4) Ps ws p0 := AX.imp (AX.and hw x_PG_p0_p1__3 x_GD_p0_p1__3__4) (fun f9 h9 => PG_next h9.1 h9.2 r_x4 (r_x3.to (by decide)) t_v_4)
              exact ih14 v_4 ws _ _ ls (by have q0 := r_v_4.1; have u0 := r_v_4.2; have o0 := r_x3.1; have p0 := r_x3.2; omega) r_p1 r_p2 (r_v_4.to (by decide)) x_QLE_p0_p1 x_QLT_p0_p1 x_PG_p0_p1_v_4 hw (lv_sub hl [1, 2, 3, 0] rfl)
          · have r_x5 : RI x5 0 0 := rc_lt1 r_x5 r_p1 (ti_nle c_28) (by decide)
            refine lv_aload_n hx hb dX10_placeFrom_31 rfl (lv_at hl 0 rfl) ?_
            refine tg_get (ci := 10) (ts := ty_MODEL) (C := RX10) (T := TX10) (N := 49) hx hb hts inX10 hown hK hw h_p0 rfl rfl 31 (by decide) (hts _ tw_1168) (fun _ h9 => h9) (ft := vR 48) rfl dX10_placeFrom_32 (fun u_5 hv_u_5 m_u_5 => ?_)
            obtain ⟨vu_5, rfl, h_vu_5⟩ := hv_u_5
            refine lv_iload hx hb dX10_placeFrom_35 (lv_at hl 5 rfl) ?_
            refine tg_iald (lo := (-2147483648)) (hi := 2147483647) hx hb hK hw h_vu_5 rfl 0 0 r_x5 (by decide) (by exact fun _ _ _ => ⟨Int.le_refl _, Int.le_refl _⟩) dX10_placeFrom_37 (fun v_6 r_v_6 m_v_6 o_v_6 => ?_)
            refine lv_iload_n hx hb dX10_placeFrom_38 rfl (lv_at hl 3 rfl) ?_
            refine lv_icmp_ne (tgt := 55) hx hb dX10_placeFrom_39 (by decide) (fun c_39 => ?_) (fun c_39 => ?_)
            · obtain ⟨v_7, e_v_7⟩ : ∃ q9 : Int32, q9 = x5 + Int32.ofInt 1 := ⟨_, rfl⟩
              obtain ⟨t_v_7, r_v_7⟩ := tq_add (lo := 1) (hi := 1) r_x5 (show RI (Int32.ofInt 1) 1 1 by unfold RI; decide +kernel) (by decide +kernel) e_v_7
              have t_v_7 : v_7.toInt = x5.toInt + 1 := t_v_7
              refine lv_iinc (v := v_7) (lv' := [(5, .int v_7), (0, .ref p0), (1, .int p1), (2, .int p2), (3, .int x3), (4, .int x4)]) hx hb dX10_placeFrom_55 hl (k := 5) rfl e_v_7.symm (by decide) rfl (fun ls hl => ?_)
              refine lv_goto (tgt := 25) hx hb dX10_placeFrom_58 (by decide) ?_
              exact ih25 x3 x4 v_7 ws _ _ ls (by have q0 := r_v_7.1; have u0 := r_v_7.2; have o0 := r_x5.1; have p0 := r_x5.2; omega) r_p1 r_p2 r_x3 r_x4 (r_v_7.to (by decide)) x_QLE_p0_p1 x_QLT_p0_p1 x_PG_p0_p1__3 x_GD_p0_p1__3__4 (by have q0 := r_x3.1; have u0 := r_x3.2; omega) hw (lv_sub hl [1, 2, 3, 4, 5, 0] rfl)
            · have r_v_6 : RI v_6 0 5 := rc_eq1 r_v_6 r_x3 (ti_eq c_39) (by decide)
              refine lv_aload_n hx hb dX10_placeFrom_42 rfl (lv_at hl 0 rfl) ?_
              refine lv_iload_n hx hb dX10_placeFrom_43 rfl (lv_at hl 1 rfl) ?_
              refine lv_iload hx hb dX10_placeFrom_44 (lv_at hl 5 rfl) ?_
              refine tk_ir (va_runV (As := [.int p1, .int x5]) (rest := []) ⟨hx, hb, hml, hown, hts⟩ (c_X10_doQuarrel l D cy z H.size Ps ws hw.1 p0 p1 x5 h_p0 (r_p1.to (by decide)) (r_x5.to (by decide))) (cwV 2 hts (gV tw_1638 tw_1640 ts_94 tw_15 tw_1641) rfl rfl rfl (by decide +kernel) ⟨Nat.le_of_ble_eq_true rfl, Nat.le_of_ble_eq_true rfl⟩) (tg_preV hw hK hSD hA (ci := 10) (q := (RX10, TX10, 49)) rfl h_p0 rfl) rfl rfl hl.1 rfl (lv_room (Nat.le_of_ble_eq_true rfl)) dX10_placeFrom_46 ⟨Nat.le_of_ble_eq_true rfl, Nat.le_of_ble_eq_true rfl⟩) hw hA (fun v_8  H locs hp_v_8 hw => ?_)
              have r_v_8 : RI v_8 0 1 := hp_v_8.1
              refine lv_if_eq (tgt := 55) hx hb dX10_placeFrom_49 (by decide) (fun c_49 => ?_) (fun c_49 => ?_)
              · have r_v_8 : RI v_8 0 0 := rc_eq1 r_v_8 rl_0 (ti_eq c_49) (by decide)
                obtain ⟨v_9, e_v_9⟩ : ∃ q9 : Int32, q9 = x5 + Int32.ofInt 1 := ⟨_, rfl⟩
                obtain ⟨t_v_9, r_v_9⟩ := tq_add (lo := 1) (hi := 1) r_x5 (show RI (Int32.ofInt 1) 1 1 by unfold RI; decide +kernel) (by decide +kernel) e_v_9
                have t_v_9 : v_9.toInt = x5.toInt + 1 := t_v_9
                refine lv_iinc (v := v_9) (lv' := [(5, .int v_9), (0, .ref p0), (1, .int p1), (2, .int p2), (3, .int x3), (4, .int x4)]) hx hb dX10_placeFrom_55 hl (k := 5) rfl e_v_9.symm (by decide) rfl (fun ls hl => ?_)
                refine lv_goto (tgt := 25) hx hb dX10_placeFrom_58 (by decide) ?_
                exact ih25 x3 x4 v_9 ws _ _ ls (by have q0 := r_v_9.1; have u0 := r_v_9.2; have o0 := r_x5.1; have p0 := r_x5.2; omega) r_p1 r_p2 r_x3 r_x4 (r_v_9.to (by decide)) x_QLE_p0_p1 x_QLT_p0_p1 x_PG_p0_p1__3 x_GD_p0_p1__3__4 (by have q0 := r_x3.1; have u0 := r_x3.2; omega) hw (lv_sub hl [1, 2, 3, 4, 5, 0] rfl)
              · have r_v_8 : RI v_8 1 1 := rc_neL r_v_8 rl_0 (ti_ne c_49) (by decide)
                refine lv_iconst (v := 0) hx hb dX10_placeFrom_52 (by decide) ?_
                refine lv_istore (lv' := [(4, .int 0), (0, .ref p0), (1, .int p1), (2, .int p2), (3, .int x3), (5, .int x5)]) hx hb dX10_placeFrom_53 hl (by decide) rfl (fun ls hl => ?_)
                obtain ⟨v_10, e_v_10⟩ : ∃ q9 : Int32, q9 = x5 + Int32.ofInt 1 := ⟨_, rfl⟩
                obtain ⟨t_v_10, r_v_10⟩ := tq_add (lo := 1) (hi := 1) r_x5 (show RI (Int32.ofInt 1) 1 1 by unfold RI; decide +kernel) (by decide +kernel) e_v_10
                have t_v_10 : v_10.toInt = x5.toInt + 1 := t_v_10
                refine lv_iinc (v := v_10) (lv' := [(5, .int v_10), (4, .int 0), (0, .ref p0), (1, .int p1), (2, .int p2), (3, .int x3)]) hx hb dX10_placeFrom_55 hl (k := 5) rfl e_v_10.symm (by decide) rfl (fun ls hl => ?_)
                refine lv_goto (tgt := 25) hx hb dX10_placeFrom_58 (by decide) ?_
                have x_GD_p0_p1_x3_0 : AX 31 48 (fun f => GDp f p1 x3 0) Ps ws p0 := AX.mk hw h_vu_5 rfl m_u_5 (fun f9 g9 _ => fun _ => ⟨Int32.toNatClampNeg x5, by have k1 := r_x5.cl (by decide); have k2 := ti_nle c_28; omega, by have e9 := g9 _ _ m_v_6; rw [e9]; exact ti_eq c_39⟩)
                exact ih25 x3 0 v_10 ws _ _ ls (by have q0 := r_v_10.1; have u0 := r_v_10.2; have o0 := r_x5.1; have p0 := r_x5.2; omega) r_p1 r_p2 r_x3 (rl_0.to (by decide)) (r_v_10.to (by decide)) x_QLE_p0_p1 x_QLT_p0_p1 x_PG_p0_p1__3 x_GD_p0_p1_x3_0 (by have q0 := r_x3.1; have u0 := r_x3.2; omega) hw (lv_sub hl [2, 3, 4, 5, 1, 0] rfl)
      intro x3 ws H locs ls hn14 r_p1 r_p2 r_x3 x_QLE_p0_p1 x_QLT_p0_p1 x_PG_p0_p1__3 hw hl
      refine lv_iload_n hx hb dX10_placeFrom_14 rfl (lv_at hl 3 rfl) ?_
      refine lv_iload_n hx hb dX10_placeFrom_15 rfl (lv_at hl 2 rfl) ?_
      refine lv_icmp_ge (tgt := 95) hx hb dX10_placeFrom_16 (by decide) (fun c_16 => ?_) (fun c_16 => ?_)
      · have r_x3 : RI x3 6 6 := rc_le2 r_p2 r_x3 (ti_le c_16) (by decide)
        exact (by obtain ⟨_, f9, _, _, h9⟩ := x_PG_p0_p1__3; exact PG_no h9 (r_p1.to (by decide)) (r_x3.to (by decide)) : False).elim
      · have r_x3 : RI x3 0 5 := rc_lt1 r_x3 r_p2 (ti_nle c_16) (by decide)
        refine lv_iconst (v := 1) hx hb dX10_placeFrom_19 (by decide) ?_
        refine lv_istore (lv' := [(4, .int 1), (0, .ref p0), (1, .int p1), (2, .int p2), (3, .int x3)]) hx hb dX10_placeFrom_20 hl (by decide) rfl (fun ls hl => ?_)
        refine lv_iconst (v := 0) hx hb dX10_placeFrom_22 (by decide) ?_
        refine lv_istore (lv' := [(5, .int 0), (4, .int 1), (0, .ref p0), (1, .int p1), (2, .int p2), (3, .int x3)]) hx hb dX10_placeFrom_23 hl (by decide) rfl (fun ls hl => ?_)
        have x_GD_p0_p1_x3_1 : AX 31 48 (fun f => GDp f p1 x3 1) Ps ws p0 := AX.imp (ax_of (k := 31) (t := 48) hw h_p0 rfl (fun _ => rfl)) (fun f9 _ => fun q9 => absurd q9 (by decide))
        exact B25 4294967298 x3 1 0 ws _ _ ls (by have q0 := rl_0.1; have u0 := rl_0.2; omega) r_p1 r_p2 r_x3 (rl_1.to (by decide)) (rl_0.to (by decide)) x_QLE_p0_p1 x_QLT_p0_p1 x_PG_p0_p1__3 x_GD_p0_p1_x3_1 (by have q0 := r_x3.1; have u0 := r_x3.2; omega) hw (lv_sub hl [2, 3, 4, 5, 1, 0] rfl)
  refine lv_iload_n hx hb dX10_placeFrom_0 rfl (lv_at hl 1 rfl) ?_
  refine lv_aload_n hx hb dX10_placeFrom_1 rfl (lv_at hl 0 rfl) ?_
  refine tg_get (ci := 10) (ts := ty_MODEL) (C := RX10) (T := TX10) (N := 49) hx hb hts inX10 hown hK hw h_p0 rfl rfl 14 (by decide) (hts _ tw_1151) (fun _ h9 => h9) (ft := vR 34) rfl dX10_placeFrom_2 (fun u_11 hv_u_11 m_u_11 => ?_)
  obtain ⟨vu_11, rfl, h_vu_11⟩ := hv_u_11
  refine lv_iconst (v := 2) hx hb dX10_placeFrom_5 (by decide) ?_
  refine tg_iald (lo := 0) (hi := 6) hx hb hK hw h_vu_11 rfl 2 2 rl_2 (by decide) (by decide +kernel) dX10_placeFrom_6 (fun v_12 r_v_12 m_v_12 o_v_12 => ?_)
  have x_P2_p0_v_12 : AX 14 34 (fun f => f 2 = v_12) Ps w0 p0 := AX.mk hw h_vu_11 rfl m_u_11 (fun f9 g9 _ => by have e9 := g9 _ _ m_v_12; have j9 : Int32.toNatClampNeg 2 = 2 := (by decide); rw [j9] at e9; exact e9)
  have g_ql : p1.toInt ≤ v_12.toInt := by obtain ⟨_, f9, _, _, h9⟩ := AX.and hw x_QLE_p0_p1 x_P2_p0_v_12; have k1 := h9.1; have k2 : f9 2 = v_12 := h9.2; rw [k2] at k1; exact k1
  have r_v_12 : RI v_12 1 6 := ⟨by have k1 := r_p1.1; have k2 := r_v_12.1; omega, r_v_12.2⟩
  refine lv_icmp_ne (tgt := 12) hx hb dX10_placeFrom_7 (by decide) (fun c_7 => ?_) (fun c_7 => ?_)
  · have r_v_12 : RI v_12 2 6 := rc_neL r_v_12 r_p1 (ti_ne c_7).symm (by decide)
    have x_QLT_p0_p1 : AX 14 34 (fun f => Int32.toInt p1 < (f 2).toInt) Ps w0 p0 := AX.imp x_P2_p0_v_12 (fun f9 h9 => by have k1 : f9 2 = v_12 := h9; show _ < _; rw [k1]; have k3 := ti_ne c_7; have k4 := g_ql; omega)
    refine lv_iconst (v := 0) hx hb dX10_placeFrom_12 (by decide) ?_
    refine lv_istore_n (lv' := [(3, .int 0), (0, .ref p0), (1, .int p1), (2, .int p2)]) hx hb dX10_placeFrom_13 rfl hl (by decide) rfl (fun ls hl => ?_)
    have x_PG_p0_p1_0 : AX 31 48 (fun f => PGp f p1 0) Ps w0 p0 := AX.imp (ax_of (k := 31) (t := 48) hw h_p0 rfl (fun _ => rfl)) (fun f9 _ => fun j9 q9 => absurd q9 (by rw [Int32.toInt_zero]; omega))
    exact B14 4294967298 0 w0 _ _ ls (by have q0 := rl_0.1; have u0 := rl_0.2; omega) r_p1 r_p2 (rl_0.to (by decide)) x_QLE_p0_p1 x_QLT_p0_p1 x_PG_p0_p1_0 hw (lv_sub hl [1, 2, 3, 0] rfl)
  · have r_v_12 : RI v_12 1 1 := rc_eq2 r_p1 r_v_12 (ti_eq c_7) (by decide)
    refine lv_iconst (v := 1) hx hb dX10_placeFrom_10 (by decide) ?_
    subst hQ
    exact W.zret (v := 1) hx hb hr (rfl) (fun t ht hW => ⟨⟨1, w0, rfl, ⟨⟨rl_1.to (by decide), (fun _ => trivial), (fun h0 => trivial)⟩, hw.1, hw.2.2.2.2.1⟩, by rw [ht]; exact hw.2.1, va_K.moved hW.alike hK, hw.2.2.1⟩, hw.2.2.2.1.F ht⟩) hw.2.2.2.1.2.2 dX10_placeFrom_11
abbrev wr_X10_placeFrom__7 : List (Nat × Nat) := []
abbrev wa_X10_placeFrom__7 : List Nat := [48]
set_option maxHeartbeats 4000000 in
set_option maxRecDepth 100000 in
theorem c_X10_placeFrom__7 (l : Launch) (D : va_G) (cy : Nat → ClassId) (z : Nat → Nat) (sz : Nat) (Ps : PSI) (w0 : va_W) (hT : HT cy GG Ps w0) (p0 : Nat) (p1 : Int32) (p2 : Int32) (h_p0 : (p0, 55) ∈ Ps) (r_p1 : RI p1 0 0) (r_p2 : RI p2 6 6) (x_QLE_p0_p1 : AX 14 34 (fun f => Int32.toInt p1 ≤ (f 2).toInt) Ps w0 p0) : Met l yX10_placeFrom (Cond.code yX10_placeFrom cX10_placeFrom 6 (some .boolean) :: gT) ({ frames := 9, cells := 0, slots := 0, locals := 1800 } : Room) (va_Pc [.ref p0, .int p1, .int p2] (PRE D cy z w0 sz)) (va_Qi (fun (r : Int32) (u : va_W) => (RI r 1 1 ∧ (r = 0 → True) ∧ (¬ r = 0 → True)) ∧ HT cy GG Ps u ∧ FR wr_X10_placeFrom__7 wa_X10_placeFrom__7 Ps w0 u) (BB D cy (va_A w0 sz) (fun (u : va_W) => u)) (va_A w0 sz)) 0 0 (va_A w0 sz) := by
  refine Met.ofW (cc := cX10_placeFrom) (maxL := 6) (ret := (some .boolean)) (by decide) rfl ?_
  intro p e s m args below meth c s₁ B hml hv
  obtain ⟨rfl, hsz, hP, hK, hD0, hSD⟩ := hv
  have hx := B.exec
  have hb := B.bytes
  have hr := B.returns
  have hlocks := B.notSynchronized
  have hts : ∀ w ∈ gT, w.before _ s = true := fun w h => atoms_spec (ws := Cond.code yX10_placeFrom cX10_placeFrom 6 (some .boolean) :: gT) B.pre w (List.mem_cons_of_mem _ h)
  have hown : s.vm.findClass RX10 = some m.cls := findClass_of_methodNamed B.named
  subst hsz
  have hD := hD0.self (sz := s.heap.size)
  generalize hAe : va_A w0 s.heap.size = A at hD hSD ⊢
  have hA : ∀ q : Nat, s.heap.size ≤ q → A q := fun q h => by rw [← hAe]; exact Or.inr h
  have hl := lv_entry ([.ref p0, .int p1, .int p2]) (n := 6) (Nat.le_of_ble_eq_true rfl)
  rw [lg_entry_eq]
  generalize (lg_sl ([.ref p0, .int p1, .int p2]) ++ List.replicate (6 - (lg_sl ([.ref p0, .int p1, .int p2])).length) Slot.unset).toArray = ls at hl ⊢
  have hl : lv_has ls 6 [(0, .ref p0), (1, .int p1), (2, .int p2)] := hl
  refine nameQ (fun Q hQ => ?_)
  have hw : WD D cy GG A s wr_X10_placeFrom__7 wa_X10_placeFrom__7 Ps w0 Ps w0 s.heap [] := ⟨hT, hP, hD, va_S.rf, FR.rf, hT.1, [], (List.append_nil _).symm⟩
  have B14 : ∀ (nf : Nat) (x3 : Int32) (ws : va_W) (H : Heap) (locs : List Loc) (ls : Array Slot), 0 - x3.toInt < (nf : Int) → RI p1 0 0 → RI p2 6 6 → RI x3 0 0 → AX 14 34 (fun f => Int32.toInt p1 ≤ (f 2).toInt) Ps ws p0 → AX 14 34 (fun f => Int32.toInt p1 < (f 2).toInt) Ps ws p0 → AX 31 48 (fun f => PGp f p1 x3) Ps ws p0 → WD D cy GG A s wr_X10_placeFrom__7 wa_X10_placeFrom__7 Ps w0 Ps ws H locs → lv_has ls 6 [(0, .ref p0), (1, .int p1), (2, .int p2), (3, .int x3)] → W p l e (headSpec (Cond.code yX10_placeFrom cX10_placeFrom 6 (some .boolean) :: gT) ({ frames := 9, cells := 0, slots := 0, locals := 1800 } : Room)).room s m ([.ref p0, .int p1, .int p2] : List Value).toArray below meth c H locs 0 0 Q (F0 m 14 ls []) := by
    intro nf14
    induction nf14 with
    | zero =>
      intro x3 ws H locs ls hn14 r_p1 r_p2 r_x3 x_QLE_p0_p1 x_QLT_p0_p1 x_PG_p0_p1__3 hw hl
      exact absurd hn14 (by have q0 := r_x3.1; have u0 := r_x3.2; omega)
    | succ nf14 ih14 =>
      have B25 : ∀ (nf : Nat) (x3 : Int32) (x4 : Int32) (x5 : Int32) (ws : va_W) (H : Heap) (locs : List Loc) (ls : Array Slot), 0 - x5.toInt < (nf : Int) → RI p1 0 0 → RI p2 6 6 → RI x3 0 0 → RI x4 1 1 → RI x5 0 0 → AX 14 34 (fun f => Int32.toInt p1 ≤ (f 2).toInt) Ps ws p0 → AX 14 34 (fun f => Int32.toInt p1 < (f 2).toInt) Ps ws p0 → AX 31 48 (fun f => PGp f p1 x3) Ps ws p0 → AX 31 48 (fun f => GDp f p1 x3 x4) Ps ws p0 → 0 - x3.toInt < ((nf14 + 1 : Nat) : Int) → WD D cy GG A s wr_X10_placeFrom__7 wa_X10_placeFrom__7 Ps w0 Ps ws H locs → lv_has ls 6 [(0, .ref p0), (1, .int p1), (2, .int p2), (3, .int x3), (4, .int x4), (5, .int x5)] → W p l e (headSpec (Cond.code yX10_placeFrom cX10_placeFrom 6 (some .boolean) :: gT) ({ frames := 9, cells := 0, slots := 0, locals := 1800 } : Room)).room s m ([.ref p0, .int p1, .int p2] : List Value).toArray below meth c H locs 0 0 Q (F0 m 25 ls []) := by
        intro nf25
        induction nf25 with
        | zero =>
          intro x3 x4 x5 ws H locs ls hn25 r_p1 r_p2 r_x3 r_x4 r_x5 x_QLE_p0_p1 x_QLT_p0_p1 x_PG_p0_p1__3 x_GD_p0_p1__3__4 hn14 hw hl
          exact absurd hn25 (by have q0 := r_x5.1; have u0 := r_x5.2; omega)
        | succ nf25 ih25 =>
          intro x3 x4 x5 ws H locs ls hn25 r_p1 r_p2 r_x3 r_x4 r_x5 x_QLE_p0_p1 x_QLT_p0_p1 x_PG_p0_p1__3 x_GD_p0_p1__3__4 hn14 hw hl
          refine lv_iload hx hb dX10_placeFrom_25 (lv_at hl 5 rfl) ?_
          refine lv_iload_n hx hb dX10_placeFrom_27 rfl (lv_at hl 1 rfl) ?_
          refine lv_icmp_ge (tgt := 61) hx hb dX10_placeFrom_28 (by decide) (fun c_28 => ?_) (fun c_28 => ?_)
          · refine lv_iload hx hb dX10_placeFrom_61 (lv_at hl 4 rfl) ?_
            refine lv_if_ne (tgt := 69) hx hb dX10_placeFrom_63 (by decide) (fun c_63 => ?_) (fun c_63 => ?_)
            · refine lv_aload_n hx hb dX10_placeFrom_69 rfl (lv_at hl 0 rfl) ?_
              refine tg_get (ci := 10) (ts := ty_MODEL) (C := RX10) (T := TX10) (N := 49) hx hb hts inX10 hown hK hw h_p0 rfl rfl 31 (by decide) (hts _ tw_1168) (fun _ h9 => h9) (ft := vR 48) rfl dX10_placeFrom_70 (fun u_1 hv_u_1 m_u_1 => ?_)
              obtain ⟨vu_1, rfl, h_vu_1⟩ := hv_u_1
              refine lv_iload_n hx hb dX10_placeFrom_73 rfl (lv_at hl 1 rfl) ?_
              refine lv_iload_n hx hb dX10_placeFrom_74 rfl (lv_at hl 3 rfl) ?_
              refine tg_iast hx hb hK hw h_vu_1 rfl 0 0 r_p1 (by decide) r_x3 (by exact fun _ _ _ => by decide) (fun _ _ _ _ _ => trivial) (by decide) dX10_placeFrom_75 (fun ws H locs hw hF9 hU9 => ?_)
              have x_QLE_p0_p1 := AX.over hF9 x_QLE_p0_p1 (by decide)
              have x_QLT_p0_p1 := AX.over hF9 x_QLT_p0_p1 (by decide)
              refine lv_aload_n hx hb dX10_placeFrom_76 rfl (lv_at hl 0 rfl) ?_
              refine lv_iload_n hx hb dX10_placeFrom_77 rfl (lv_at hl 1 rfl) ?_
              refine lv_iconst (v := 1) hx hb dX10_placeFrom_78 (by decide) ?_
              refine lv_iadd hx hb dX10_placeFrom_79 (lv_topi (fun v_2 e_v_2 => ?_))
              obtain ⟨t_v_2, r_v_2⟩ := tq_add (lo := 1) (hi := 1) r_p1 rl_1 (by decide +kernel) e_v_2
              have t_v_2 : v_2.toInt = p1.toInt + 1 := t_v_2
              refine lv_iload_n hx hb dX10_placeFrom_80 rfl (lv_at hl 2 rfl) ?_
              have x_QLE_p0_v_2 : AX 14 34 (fun f => Int32.toInt v_2 ≤ (f 2).toInt) Ps ws p0 := AX.imp x_QLT_p0_p1 (fun f9 h9 => by have k2 := t_v_2; show _ ≤ _; have k3 : p1.toInt < (f9 2).toInt := h9; omega)
              refine tk_i (va_runV (As := [.int v_2, .int p2]) (rest := []) ⟨hx, hb, hml, hown, hts⟩ (c_X10_placeFrom__8 l D cy z H.size Ps ws hw.1 p0 v_2 p2 h_p0 r_v_2 r_p2 x_QLE_p0_v_2) (cwV 2 hts (gV tw_1634 tw_1636 ts_93 tw_15 tw_1637) rfl rfl rfl (by decide +kernel) ⟨Nat.le_of_ble_eq_true rfl, Nat.le_of_ble_eq_true rfl⟩) (tg_preV hw hK hSD hA (ci := 10) (q := (RX10, TX10, 49)) rfl h_p0 rfl) rfl rfl hl.1 rfl (lv_room (Nat.le_of_ble_eq_true rfl)) dX10_placeFrom_81 ⟨Nat.le_of_ble_eq_true rfl, Nat.le_of_ble_eq_true rfl⟩) hw hA ⟨by decide, by decide⟩ (fun v_3 ws H locs hp_v_3 hw hF9 => ?_)
              have x_QLE_p0_p1 := AX.over hF9 x_QLE_p0_p1 (by decide)
              have x_QLT_p0_p1 := AX.over hF9 x_QLT_p0_p1 (by decide)
              have x_QLE_p0_v_2 := AX.over hF9 x_QLE_p0_v_2 (by decide)
              have r_v_3 : RI v_3 1 1 := hp_v_3.1
              refine lv_if_eq (tgt := 89) hx hb dX10_placeFrom_84 (by decide) (fun c_84 => ?_) (fun c_84 => ?_)
              · have r_v_3 : RI v_3 1 0 := rc_eq1 r_v_3 rl_0 (ti_eq c_84) (by decide)
                exact (r_v_3.no (by decide)).elim
              · refine lv_iconst (v := 1) hx hb dX10_placeFrom_87 (by decide) ?_
                subst hQ
                exact W.zret (v := 1) hx hb hr (rfl) (fun t ht hW => ⟨⟨1, ws, rfl, ⟨⟨rl_1.to (by decide), (fun _ => trivial), (fun h0 => trivial)⟩, hw.1, hw.2.2.2.2.1⟩, by rw [ht]; exact hw.2.1, va_K.moved hW.alike hK, hw.2.2.1⟩, hw.2.2.2.1.F ht⟩) hw.2.2.2.1.2.2 dX10_placeFrom_88
            · have r_x4 : RI x4 1 0 := rc_eq1 r_x4 rl_0 (ti_eq c_63) (by decide)
              exact (r_x4.no (by decide)).elim
          · have r_x5 : RI x5 0 (-1) := rc_lt1 r_x5 r_p1 (ti_nle c_28) (by decide)
            have r_p1 : RI p1 1 0 := rc_lt2 r_x5 r_p1 (ti_nle c_28) (by decide)
            exact (r_x5.no (by decide)).elim
      intro x3 ws H locs ls hn14 r_p1 r_p2 r_x3 x_QLE_p0_p1 x_QLT_p0_p1 x_PG_p0_p1__3 hw hl
      refine lv_iload_n hx hb dX10_placeFrom_14 rfl (lv_at hl 3 rfl) ?_
      refine lv_iload_n hx hb dX10_placeFrom_15 rfl (lv_at hl 2 rfl) ?_
      refine lv_icmp_ge (tgt := 95) hx hb dX10_placeFrom_16 (by decide) (fun c_16 => ?_) (fun c_16 => ?_)
      · have r_p2 : RI p2 6 0 := rc_le1 r_p2 r_x3 (ti_le c_16) (by decide)
        have r_x3 : RI x3 6 0 := rc_le2 r_p2 r_x3 (ti_le c_16) (by decide)
        exact (r_p2.no (by decide)).elim
      · refine lv_iconst (v := 1) hx hb dX10_placeFrom_19 (by decide) ?_
        refine lv_istore (lv' := [(4, .int 1), (0, .ref p0), (1, .int p1), (2, .int p2), (3, .int x3)]) hx hb dX10_placeFrom_20 hl (by decide) rfl (fun ls hl => ?_)
        refine lv_iconst (v := 0) hx hb dX10_placeFrom_22 (by decide) ?_
        refine lv_istore (lv' := [(5, .int 0), (4, .int 1), (0, .ref p0), (1, .int p1), (2, .int p2), (3, .int x3)]) hx hb dX10_placeFrom_23 hl (by decide) rfl (fun ls hl => ?_)
        have x_GD_p0_p1_x3_1 : AX 31 48 (fun f => GDp f p1 x3 1) Ps ws p0 := AX.imp (ax_of (k := 31) (t := 48) hw h_p0 rfl (fun _ => rfl)) (fun f9 _ => fun q9 => absurd q9 (by decide))
        exact B25 4294967298 x3 1 0 ws _ _ ls (by have q0 := rl_0.1; have u0 := rl_0.2; omega) r_p1 r_p2 r_x3 rl_1 rl_0 x_QLE_p0_p1 x_QLT_p0_p1 x_PG_p0_p1__3 x_GD_p0_p1_x3_1 (by have q0 := r_x3.1; have u0 := r_x3.2; omega) hw (lv_sub hl [2, 3, 4, 5, 1, 0] rfl)
  refine lv_iload_n hx hb dX10_placeFrom_0 rfl (lv_at hl 1 rfl) ?_
  refine lv_aload_n hx hb dX10_placeFrom_1 rfl (lv_at hl 0 rfl) ?_
  refine tg_get (ci := 10) (ts := ty_MODEL) (C := RX10) (T := TX10) (N := 49) hx hb hts inX10 hown hK hw h_p0 rfl rfl 14 (by decide) (hts _ tw_1151) (fun _ h9 => h9) (ft := vR 34) rfl dX10_placeFrom_2 (fun u_4 hv_u_4 m_u_4 => ?_)
  obtain ⟨vu_4, rfl, h_vu_4⟩ := hv_u_4
  refine lv_iconst (v := 2) hx hb dX10_placeFrom_5 (by decide) ?_
  refine tg_iald (lo := 0) (hi := 6) hx hb hK hw h_vu_4 rfl 2 2 rl_2 (by decide) (by decide +kernel) dX10_placeFrom_6 (fun v_5 r_v_5 m_v_5 o_v_5 => ?_)
  have x_P2_p0_v_5 : AX 14 34 (fun f => f 2 = v_5) Ps w0 p0 := AX.mk hw h_vu_4 rfl m_u_4 (fun f9 g9 _ => by have e9 := g9 _ _ m_v_5; have j9 : Int32.toNatClampNeg 2 = 2 := (by decide); rw [j9] at e9; exact e9)
  have g_ql : p1.toInt ≤ v_5.toInt := by obtain ⟨_, f9, _, _, h9⟩ := AX.and hw x_QLE_p0_p1 x_P2_p0_v_5; have k1 := h9.1; have k2 : f9 2 = v_5 := h9.2; rw [k2] at k1; exact k1
  have r_v_5 : RI v_5 0 6 := ⟨by have k1 := r_p1.1; have k2 := r_v_5.1; omega, r_v_5.2⟩
  refine lv_icmp_ne (tgt := 12) hx hb dX10_placeFrom_7 (by decide) (fun c_7 => ?_) (fun c_7 => ?_)
  · have r_v_5 : RI v_5 1 6 := rc_neL r_v_5 r_p1 (ti_ne c_7).symm (by decide)
    have x_QLT_p0_p1 : AX 14 34 (fun f => Int32.toInt p1 < (f 2).toInt) Ps w0 p0 := AX.imp x_P2_p0_v_5 (fun f9 h9 => by have k1 : f9 2 = v_5 := h9; show _ < _; rw [k1]; have k3 := ti_ne c_7; have k4 := g_ql; omega)
    refine lv_iconst (v := 0) hx hb dX10_placeFrom_12 (by decide) ?_
    refine lv_istore_n (lv' := [(3, .int 0), (0, .ref p0), (1, .int p1), (2, .int p2)]) hx hb dX10_placeFrom_13 rfl hl (by decide) rfl (fun ls hl => ?_)
    have x_PG_p0_p1_0 : AX 31 48 (fun f => PGp f p1 0) Ps w0 p0 := AX.imp (ax_of (k := 31) (t := 48) hw h_p0 rfl (fun _ => rfl)) (fun f9 _ => fun j9 q9 => absurd q9 (by rw [Int32.toInt_zero]; omega))
    exact B14 4294967298 0 w0 _ _ ls (by have q0 := rl_0.1; have u0 := rl_0.2; omega) r_p1 r_p2 rl_0 x_QLE_p0_p1 x_QLT_p0_p1 x_PG_p0_p1_0 hw (lv_sub hl [1, 2, 3, 0] rfl)
  · have r_v_5 : RI v_5 0 0 := rc_eq2 r_p1 r_v_5 (ti_eq c_7) (by decide)
    refine lv_iconst (v := 1) hx hb dX10_placeFrom_10 (by decide) ?_
    subst hQ
    exact W.zret (v := 1) hx hb hr (rfl) (fun t ht hW => ⟨⟨1, w0, rfl, ⟨⟨rl_1.to (by decide), (fun _ => trivial), (fun h0 => trivial)⟩, hw.1, hw.2.2.2.2.1⟩, by rw [ht]; exact hw.2.1, va_K.moved hW.alike hK, hw.2.2.1⟩, hw.2.2.2.1.F ht⟩) hw.2.2.2.1.2.2 dX10_placeFrom_11
abbrev wr_X10_rooms : List (Nat × Nat) := [(10, 0), (10, 33), (10, 34)]
abbrev wa_X10_rooms : List Nat := [48, 49]
set_option maxHeartbeats 4000000 in
set_option maxRecDepth 100000 in
theorem c_X10_rooms (l : Launch) (D : va_G) (cy : Nat → ClassId) (z : Nat → Nat) (sz : Nat) (Ps : PSI) (w0 : va_W) (hT : HT cy GG Ps w0) (p0 : Nat) (h_p0 : (p0, 55) ∈ Ps) : Met l yX10_rooms (Cond.code yX10_rooms cX10_rooms 3 (some .int) :: gT) ({ frames := 10, cells := 0, slots := 0, locals := 2000 } : Room) (va_Pc [.ref p0] (PRE D cy z w0 sz)) (va_Qi (fun (r : Int32) (u : va_W) => (RI r 0 6 ∧ (r = 0 → True) ∧ (¬ r = 0 → True)) ∧ HT cy GG Ps u ∧ FR wr_X10_rooms wa_X10_rooms Ps w0 u) (BB D cy (va_A w0 sz) (fun (u : va_W) => u)) (va_A w0 sz)) 0 0 (va_A w0 sz) := by
  refine Met.ofW (cc := cX10_rooms) (maxL := 3) (ret := (some .int)) (by decide) rfl ?_
  intro p e s m args below meth c s₁ B hml hv
  obtain ⟨rfl, hsz, hP, hK, hD0, hSD⟩ := hv
  have hx := B.exec
  have hb := B.bytes
  have hr := B.returns
  have hlocks := B.notSynchronized
  have hts : ∀ w ∈ gT, w.before _ s = true := fun w h => atoms_spec (ws := Cond.code yX10_rooms cX10_rooms 3 (some .int) :: gT) B.pre w (List.mem_cons_of_mem _ h)
  have hown : s.vm.findClass RX10 = some m.cls := findClass_of_methodNamed B.named
  subst hsz
  have hD := hD0.self (sz := s.heap.size)
  generalize hAe : va_A w0 s.heap.size = A at hD hSD ⊢
  have hA : ∀ q : Nat, s.heap.size ≤ q → A q := fun q h => by rw [← hAe]; exact Or.inr h
  have hl := lv_entry ([.ref p0]) (n := 3) (Nat.le_of_ble_eq_true rfl)
  rw [lg_entry_eq]
  generalize (lg_sl ([.ref p0]) ++ List.replicate (3 - (lg_sl ([.ref p0])).length) Slot.unset).toArray = ls at hl ⊢
  have hl : lv_has ls 3 [(0, .ref p0)] := hl
  refine nameQ (fun Q hQ => ?_)
  have hw : WD D cy GG A s wr_X10_rooms wa_X10_rooms Ps w0 Ps w0 s.heap [] := ⟨hT, hP, hD, va_S.rf, FR.rf, hT.1, [], (List.append_nil _).symm⟩
  have B24 : ∀ (nf : Nat) (x1 : Int32) (x2 : Int32) (z0_0 : Int32) (ws : va_W) (H : Heap) (locs : List Loc) (ls : Array Slot), 6 - x2.toInt < (nf : Int) → RI x1 0 6 → RI x2 0 6 → RI z0_0 0 0 → FLD ws p0 10 0 (.int z0_0) → AX 14 34 (fun f => Int32.toInt 0 ≤ (f 2).toInt) Ps ws p0 → WD D cy GG A s wr_X10_rooms wa_X10_rooms Ps w0 Ps ws H locs → lv_has ls 3 [(0, .ref p0), (1, .int x1), (2, .int x2)] → W p l e (headSpec (Cond.code yX10_rooms cX10_rooms 3 (some .int) :: gT) ({ frames := 10, cells := 0, slots := 0, locals := 2000 } : Room)).room s m ([.ref p0] : List Value).toArray below meth c H locs 0 0 Q (F0 m 24 ls []) := by
    intro nf24
    induction nf24 with
    | zero =>
      intro x1 x2 z0_0 ws H locs ls hn24 r_x1 r_x2 r_z0_0 m_z0_0 x_QLE_p0_0 hw hl
      exact absurd hn24 (by have q0 := r_x2.1; have u0 := r_x2.2; omega)
    | succ nf24 ih24 =>
      intro x1 x2 z0_0 ws H locs ls hn24 r_x1 r_x2 r_z0_0 m_z0_0 x_QLE_p0_0 hw hl
      refine lv_iload_n hx hb dX10_rooms_24 rfl (lv_at hl 2 rfl) ?_
      refine lv_bipush (v := 6) hx hb dX10_rooms_25 (by decide) ?_
      refine lv_icmp_ge (tgt := 48) hx hb dX10_rooms_27 (by decide) (fun c_27 => ?_) (fun c_27 => ?_)
      · have r_x2 : RI x2 6 6 := rc_le2 rl_6 r_x2 (ti_le c_27) (by decide)
        refine lv_aload_n hx hb dX10_rooms_48 rfl (lv_at hl 0 rfl) ?_
        refine lv_aload_n hx hb dX10_rooms_49 rfl (lv_at hl 0 rfl) ?_
        refine tg_get (ci := 10) (ts := ty_MODEL) (C := RX10) (T := TX10) (N := 49) hx hb hts inX10 hown hK hw h_p0 rfl rfl 14 (by decide) (hts _ tw_1151) (fun _ h9 => h9) (ft := vR 34) rfl dX10_rooms_50 (fun u_1 hv_u_1 m_u_1 => ?_)
        obtain ⟨vu_1, rfl, h_vu_1⟩ := hv_u_1
        refine lv_iconst (v := 2) hx hb dX10_rooms_53 (by decide) ?_
        refine tg_iald (lo := 0) (hi := 6) hx hb hK hw h_vu_1 rfl 2 2 rl_2 (by decide) (by decide +kernel) dX10_rooms_54 (fun v_2 r_v_2 m_v_2 o_v_2 => ?_)
        refine tg_put (ci := 10) (ts := ty_MODEL) (v := .int v_2) (ty := .int) (C := RX10) (T := TX10) (N := 49) hx hb hts inX10 tyX10 tyX10_ok nmX10 hown hK hw h_p0 rfl rfl 33 (by decide) (hts _ tw_1170) (fun _ h9 => h9) rfl (by decide +kernel) rfl rfl (ft := vI 0 6) rfl ⟨_, rfl, r_v_2⟩ (by decide) dX10_rooms_55 (fun ws H locs hw n_k_3 hF9 => ?_)
        have m_z0_0 := FLD.over hF9 m_z0_0 (by decide)
        have x_QLE_p0_0 := AX.over hF9 x_QLE_p0_0 (by decide)
        refine lv_aload_n hx hb dX10_rooms_58 rfl (lv_at hl 0 rfl) ?_
        refine lv_iconst (v := 1) hx hb dX10_rooms_59 (by decide) ?_
        refine tg_put (ci := 10) (ts := ty_MODEL) (v := .int 1) (ty := .boolean) (C := RX10) (T := TX10) (N := 49) hx hb hts inX10 tyX10 tyX10_ok nmX10 hown hK hw h_p0 rfl rfl 34 (by decide) (hts _ tw_1171) (fun _ h9 => h9) rfl (by decide +kernel) rfl rfl (ft := vI 0 1) rfl ⟨_, rfl, (rl_1.to (by decide))⟩ (by decide) dX10_rooms_60 (fun ws H locs hw n_k_4 hF9 => ?_)
        have m_z0_0 := FLD.over hF9 m_z0_0 (by decide)
        have n_k_3 := FLD.over hF9 n_k_3 (by decide)
        have x_QLE_p0_0 := AX.over hF9 x_QLE_p0_0 (by decide)
        refine lv_iload_n hx hb dX10_rooms_63 rfl (lv_at hl 1 rfl) ?_
        subst hQ
        exact W.iret (v := x1) hx hb hr (fun t ht hW => ⟨⟨x1, ws, rfl, ⟨⟨r_x1.to (by decide), (fun h0 => trivial), (fun h0 => trivial)⟩, hw.1, hw.2.2.2.2.1⟩, by rw [ht]; exact hw.2.1, va_K.moved hW.alike hK, hw.2.2.1⟩, hw.2.2.2.1.F ht⟩) hw.2.2.2.1.2.2 dX10_rooms_64
      · have r_x2 : RI x2 0 5 := rc_lt1 r_x2 rl_6 (ti_nle c_27) (by decide)
        refine lv_aload_n hx hb dX10_rooms_30 rfl (lv_at hl 0 rfl) ?_
        refine tg_get (ci := 10) (ts := ty_MODEL) (C := RX10) (T := TX10) (N := 49) hx hb hts inX10 hown hK hw h_p0 rfl rfl 32 (by decide) (hts _ tw_1169) (fun _ h9 => h9) (ft := vR 49) rfl dX10_rooms_31 (fun u_5 hv_u_5 m_u_5 => ?_)
        obtain ⟨vu_5, rfl, h_vu_5⟩ := hv_u_5
        refine lv_iload_n hx hb dX10_rooms_34 rfl (lv_at hl 2 rfl) ?_
        refine lv_aload_n hx hb dX10_rooms_35 rfl (lv_at hl 0 rfl) ?_
        refine tg_get (ci := 10) (ts := ty_MODEL) (C := RX10) (T := TX10) (N := 49) hx hb hts inX10 hown hK hw h_p0 rfl rfl 31 (by decide) (hts _ tw_1168) (fun _ h9 => h9) (ft := vR 48) rfl dX10_rooms_36 (fun u_6 hv_u_6 m_u_6 => ?_)
        obtain ⟨vu_6, rfl, h_vu_6⟩ := hv_u_6
        refine lv_iload_n hx hb dX10_rooms_39 rfl (lv_at hl 2 rfl) ?_
        refine tg_iald (lo := (-2147483648)) (hi := 2147483647) hx hb hK hw h_vu_6 rfl 0 5 r_x2 (by decide) (by exact fun _ _ _ => ⟨Int.le_refl _, Int.le_refl _⟩) dX10_rooms_40 (fun v_7 r_v_7 m_v_7 o_v_7 => ?_)
        refine tg_iast hx hb hK hw h_vu_5 rfl 0 5 r_x2 (by decide) r_v_7 (by exact fun _ _ _ => by decide) (fun _ _ _ _ _ => trivial) (by decide) dX10_rooms_41 (fun ws H locs hw hF9 hU9 => ?_)
        have x_QLE_p0_0 := AX.over hF9 x_QLE_p0_0 (by decide)
        have m_z0_0 := FLD.over hF9 m_z0_0 (by decide)
        obtain ⟨v_8, e_v_8⟩ : ∃ q9 : Int32, q9 = x2 + Int32.ofInt 1 := ⟨_, rfl⟩
        obtain ⟨t_v_8, r_v_8⟩ := tq_add (lo := 1) (hi := 6) r_x2 (show RI (Int32.ofInt 1) 1 1 by unfold RI; decide +kernel) (by decide +kernel) e_v_8
        have t_v_8 : v_8.toInt = x2.toInt + 1 := t_v_8
        refine lv_iinc (v := v_8) (lv' := [(2, .int v_8), (0, .ref p0), (1, .int x1)]) hx hb dX10_rooms_42 hl (k := 2) rfl e_v_8.symm (by decide) rfl (fun ls hl => ?_)
        refine lv_goto (tgt := 24) hx hb dX10_rooms_45 (by decide) ?_
        exact ih24 x1 v_8 z0_0 ws _ _ ls (by have q0 := r_v_8.1; have u0 := r_v_8.2; have o0 := r_x2.1; have p0 := r_x2.2; omega) r_x1 (r_v_8.to (by decide)) r_z0_0 m_z0_0 x_QLE_p0_0 hw (lv_sub hl [1, 2, 0] rfl)
  have B7 : ∀ (nf : Nat) (x1 : Int32) (z0_0 : Int32) (ws : va_W) (H : Heap) (locs : List Loc) (ls : Array Slot), 6 - x1.toInt < (nf : Int) → RI x1 0 6 → RI z0_0 0 0 → FLD ws p0 10 0 (.int z0_0) → WD D cy GG A s wr_X10_rooms wa_X10_rooms Ps w0 Ps ws H locs → lv_has ls 3 [(0, .ref p0), (1, .int x1)] → W p l e (headSpec (Cond.code yX10_rooms cX10_rooms 3 (some .int) :: gT) ({ frames := 10, cells := 0, slots := 0, locals := 2000 } : Room)).room s m ([.ref p0] : List Value).toArray below meth c H locs 0 0 Q (F0 m 7 ls []) := by
    intro nf7
    induction nf7 with
    | zero =>
      intro x1 z0_0 ws H locs ls hn7 r_x1 r_z0_0 m_z0_0 hw hl
      exact absurd hn7 (by have q0 := r_x1.1; have u0 := r_x1.2; omega)
    | succ nf7 ih7 =>
      intro x1 z0_0 ws H locs ls hn7 r_x1 r_z0_0 m_z0_0 hw hl
      refine lv_aload_n hx hb dX10_rooms_7 rfl (lv_at hl 0 rfl) ?_
      refine lv_iconst (v := 0) hx hb dX10_rooms_8 (by decide) ?_
      refine lv_iload_n hx hb dX10_rooms_9 rfl (lv_at hl 1 rfl) ?_
      by_cases c8_x1 : x1.toInt < 6
      · have r_x1 : RI x1 0 5 := by have k1 := r_x1.1; have k2 := r_x1.2; exact ⟨by omega, by omega⟩
        have x_QLE_p0_0 : AX 14 34 (fun f => Int32.toInt 0 ≤ (f 2).toInt) Ps ws p0 := AX.imp (ax_of (k := 14) (t := 34) hw h_p0 rfl (fun _ => rfl)) (fun f9 h9 => by have k1 := (h9.2 2 (by decide)).1; show _ ≤ _; rw [Int32.toInt_zero]; exact k1)
        refine tk_i (va_runV (As := [.int 0, .int x1]) (rest := []) ⟨hx, hb, hml, hown, hts⟩ (c_X10_placeFrom l D cy z H.size Ps ws hw.1 p0 0 x1 h_p0 rl_0 r_x1 x_QLE_p0_0) (cwV 2 hts (gV tw_1634 tw_1636 ts_93 tw_15 tw_1637) rfl rfl rfl (by decide +kernel) ⟨Nat.le_of_ble_eq_true rfl, Nat.le_of_ble_eq_true rfl⟩) (tg_preV hw hK hSD hA (ci := 10) (q := (RX10, TX10, 49)) rfl h_p0 rfl) rfl rfl hl.1 rfl (lv_room (Nat.le_of_ble_eq_true rfl)) dX10_rooms_10 ⟨Nat.le_of_ble_eq_true rfl, Nat.le_of_ble_eq_true rfl⟩) hw hA ⟨by decide, by decide⟩ (fun v_9 ws H locs hp_v_9 hw hF9 => ?_)
        have m_z0_0 := FLD.over hF9 m_z0_0 (by decide)
        have x_QLE_p0_0 := AX.over hF9 x_QLE_p0_0 (by decide)
        have r_v_9 : RI v_9 0 1 := hp_v_9.1
        refine lv_if_ne (tgt := 22) hx hb dX10_rooms_13 (by decide) (fun c_13 => ?_) (fun c_13 => ?_)
        · have r_v_9 : RI v_9 1 1 := rc_neL r_v_9 rl_0 (ti_ne c_13) (by decide)
          refine lv_iconst (v := 0) hx hb dX10_rooms_22 (by decide) ?_
          refine lv_istore_n (lv' := [(2, .int 0), (0, .ref p0), (1, .int x1)]) hx hb dX10_rooms_23 rfl hl (by decide) rfl (fun ls hl => ?_)
          exact B24 4294967298 x1 0 z0_0 ws _ _ ls (by have q0 := rl_0.1; have u0 := rl_0.2; omega) (r_x1.to (by decide)) (rl_0.to (by decide)) r_z0_0 m_z0_0 x_QLE_p0_0 hw (lv_sub hl [1, 2, 0] rfl)
        · have r_v_9 : RI v_9 0 0 := rc_eq1 r_v_9 rl_0 (ti_eq c_13) (by decide)
          obtain ⟨v_10, e_v_10⟩ : ∃ q9 : Int32, q9 = x1 + Int32.ofInt 1 := ⟨_, rfl⟩
          obtain ⟨t_v_10, r_v_10⟩ := tq_add (lo := 1) (hi := 6) r_x1 (show RI (Int32.ofInt 1) 1 1 by unfold RI; decide +kernel) (by decide +kernel) e_v_10
          have t_v_10 : v_10.toInt = x1.toInt + 1 := t_v_10
          refine lv_iinc (v := v_10) (lv' := [(1, .int v_10), (0, .ref p0)]) hx hb dX10_rooms_16 hl (k := 1) rfl e_v_10.symm (by decide) rfl (fun ls hl => ?_)
          refine lv_goto (tgt := 7) hx hb dX10_rooms_19 (by decide) ?_
          exact ih7 v_10 z0_0 ws _ _ ls (by have q0 := r_v_10.1; have u0 := r_v_10.2; have o0 := r_x1.1; have p0 := r_x1.2; omega) (r_v_10.to (by decide)) r_z0_0 m_z0_0 hw (lv_sub hl [1, 0] rfl)
      · have r_x1 : RI x1 6 6 := by have k1 := r_x1.1; have k2 := r_x1.2; exact ⟨by omega, by omega⟩
        have x_QLE_p0_0 : AX 14 34 (fun f => Int32.toInt 0 ≤ (f 2).toInt) Ps ws p0 := AX.imp (ax_of (k := 14) (t := 34) hw h_p0 rfl (fun _ => rfl)) (fun f9 h9 => by have k1 := (h9.2 2 (by decide)).1; show _ ≤ _; rw [Int32.toInt_zero]; exact k1)
        refine tk_i (va_runV (As := [.int 0, .int x1]) (rest := []) ⟨hx, hb, hml, hown, hts⟩ (c_X10_placeFrom__7 l D cy z H.size Ps ws hw.1 p0 0 x1 h_p0 rl_0 r_x1 x_QLE_p0_0) (cwV 2 hts (gV tw_1634 tw_1636 ts_93 tw_15 tw_1637) rfl rfl rfl (by decide +kernel) ⟨Nat.le_of_ble_eq_true rfl, Nat.le_of_ble_eq_true rfl⟩) (tg_preV hw hK hSD hA (ci := 10) (q := (RX10, TX10, 49)) rfl h_p0 rfl) rfl rfl hl.1 rfl (lv_room (Nat.le_of_ble_eq_true rfl)) dX10_rooms_10 ⟨Nat.le_of_ble_eq_true rfl, Nat.le_of_ble_eq_true rfl⟩) hw hA ⟨by decide, by decide⟩ (fun v_11 ws H locs hp_v_11 hw hF9 => ?_)
        have m_z0_0 := FLD.over hF9 m_z0_0 (by decide)
        have x_QLE_p0_0 := AX.over hF9 x_QLE_p0_0 (by decide)
        have r_v_11 : RI v_11 1 1 := hp_v_11.1
        refine lv_if_ne (tgt := 22) hx hb dX10_rooms_13 (by decide) (fun c_13 => ?_) (fun c_13 => ?_)
        · refine lv_iconst (v := 0) hx hb dX10_rooms_22 (by decide) ?_
          refine lv_istore_n (lv' := [(2, .int 0), (0, .ref p0), (1, .int x1)]) hx hb dX10_rooms_23 rfl hl (by decide) rfl (fun ls hl => ?_)
          exact B24 4294967298 x1 0 z0_0 ws _ _ ls (by have q0 := rl_0.1; have u0 := rl_0.2; omega) (r_x1.to (by decide)) (rl_0.to (by decide)) r_z0_0 m_z0_0 x_QLE_p0_0 hw (lv_sub hl [1, 2, 0] rfl)
        · have r_v_11 : RI v_11 1 0 := rc_eq1 r_v_11 rl_0 (ti_eq c_13) (by decide)
          exact (r_v_11.no (by decide)).elim
  refine lv_aload_n hx hb dX10_rooms_0 rfl (lv_at hl 0 rfl) ?_
  refine lv_iconst (v := 0) hx hb dX10_rooms_1 (by decide) ?_
  refine tg_put (ci := 10) (ts := ty_MODEL) (v := .int 0) (ty := .int) (C := RX10) (T := TX10) (N := 49) hx hb hts inX10 tyX10 tyX10_ok nmX10 hown hK hw h_p0 rfl rfl 0 (by decide) (hts _ tw_1137) (fun _ h9 => h9) rfl (by decide +kernel) rfl rfl (ft := vI (-2147483648) 2147483647) rfl ⟨_, rfl, (rl_0.to (by decide))⟩ (by decide) dX10_rooms_2 (fun ws H locs hw n_k_12 hF9 => ?_)
  refine lv_iconst (v := 0) hx hb dX10_rooms_5 (by decide) ?_
  refine lv_istore_n (lv' := [(1, .int 0), (0, .ref p0)]) hx hb dX10_rooms_6 rfl hl (by decide) rfl (fun ls hl => ?_)
  exact B7 4294967298 0 0 ws _ _ ls (by have q0 := rl_0.1; have u0 := rl_0.2; omega) (rl_0.to (by decide)) rl_0 n_k_12 hw (lv_sub hl [1, 0] rfl)
