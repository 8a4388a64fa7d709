/-! the reference's post, with what it leaves in now -/
theorem p_in {T : Nat → Nat} {n lim p : Nat} (h0 : tK T n lim p ≠ 0) (h1 : tK T n lim p ≠ 1) : p < n := by
  have q := tok_inside h0 h1
  have hb := (tB0_le T (tStop n lim) (tStop n lim - p) p rfl).1
  have e : tB T n lim p = tB0 T (tStop n lim) p := by
    have q1 := q.1
    unfold tB at q1 ⊢
    by_cases e : tStop n lim ≤ tB0 T (tStop n lim) p
    · rw [if_pos e] at q1; omega
    · rw [if_neg e]
  have q2 := q.2.1
  omega
theorem sLine_p {T : Nat → Nat} {n lim p p1 : Nat} {R R1 : Nat → Int32} {N N1 : Nat → Nat} (h : sLine T n lim R N p = .inr (p1, R1, N1)) : p < p1 ∧ p < n := by
  have nb : ¬ (tK T n lim p < 128 ∨ 136 < tK T n lim p) := fun z => by
    rw [sl_no z] at h
    cases h
  have h9 := tA_gt (T := T) (n := n) (lim := lim) (p := p) (by omega) (by omega)
  refine ⟨?_, p_in (T := T) (lim := lim) (by omega) (by omega)⟩
  rcases (show tK T n lim p = 128 ∨ tK T n lim p = 129 ∨ tK T n lim p = 130 ∨ tK T n lim p = 131 ∨ tK T n lim p = 132 ∨ tK T n lim p = 133 ∨ tK T n lim p = 134 ∨ tK T n lim p = 135 ∨ tK T n lim p = 136 by omega) with k | k | k | k | k | k | k | k | k
  · rw [sl_128 k] at h; exact sIdea_p h9 h
  · rw [sl_129 k] at h; exact sRoom_p h9 h
  · rw [sl_130 k] at h; exact sParcel_p h9 h
  · rw [sl_131 k] at h; exact sPerson_p h9 h
  · rw [sl_132 k] at h; exact sSits_p h9 h
  · rw [sl_133 k] at h; exact sHas_p h9 h
  · rw [sl_134 k] at h; exact sQuarrel_p h9 h
  · rw [sl_135 k] at h; exact sOnce_p h9 h
  · rw [sl_136 k] at h; exact sOnce_p h9 h
def POE (S : (Nat × Nat) ⊕ (Nat × (Nat → Int32) × (Nat → Nat))) (r : OS × Int32) : Prop := r.2 = sAns S ∧ (∀ e, S = .inl e → r.1.1 99 = 2) ∧ ∀ l R N, S = .inr (l, R, N) → r.1.1 99 = 1 ∧ ∀ j, j < 84 → r.1.2.2.1 15 j = R j
theorem po_113 {x1 : Int32} {o : OS} : ∀ (f k : Nat), k ≤ 24 → 24 - k < f → f_X10_post__3_113 f x1 (nI k) o = (sI (sI o 25 (0 : Int32)) 99 (1 : Int32), x1) := by
  intro f
  induction f with
  | zero => intro k _ h; omega
  | succ f ih =>
    intro k hk hf
    rw [f_X10_post__3_113]
    by_cases e : 24 ≤ k
    · rw [if_pos (show (24 : Int32) ≤ nI k from nI_le (a := 24) e (by omega))]
    · rw [if_neg (show ¬ (24 : Int32) ≤ nI k from nI_ge (b := 24) (by omega) (by decide)), nI_1]
      exact ih (k + 1) (by omega) (by omega)
theorem po_87 {x1 : Int32} {o : OS} : ∀ (f k : Nat), k ≤ 84 → 84 - k < f → f_X10_post__3_87 f x1 (nI k) o = (sI (sI o 25 (0 : Int32)) 99 (1 : Int32), x1) := by
  intro f
  induction f with
  | zero => intro k _ h; omega
  | succ f ih =>
    intro k hk hf
    rw [f_X10_post__3_87]
    by_cases e : 84 ≤ k
    · rw [if_pos (show (84 : Int32) ≤ nI k from nI_le (a := 84) e (by omega))]
      exact po_113 4294967298 0 (by decide) (by decide)
    · rw [if_neg (show ¬ (84 : Int32) ≤ nI k from nI_ge (b := 84) (by omega) (by decide)), nI_1]
      exact ih (k + 1) (by omega) (by omega)
theorem POE.bad {b : Nat × Nat} {o : OS} {v : Int32} (h : v = -1 - nI b.2) : POE (.inl b) (sI o 99 (2 : Int32), v) := ⟨h, fun _ _ => rfl, fun _ _ _ q => by cases q⟩
theorem po_51 {T : Nat → Nat} {n lim : Nat} : ∀ (f l : Nat) (o : OS) (p : Nat) (R : Nat → Int32) (N : Nat → Nat), RT o T n lim p → RP o R N → n - p + 1 < f → POE (sPost T n lim f R N p l) (f_X10_post__3_51 f (nI l) o) := by
  intro f
  induction f with
  | zero => intro l o p R N _ _ h; omega
  | succ f ih =>
    intro l o p R N h hP hf
    rw [f_X10_post__3_51, sPost, h.2.2.1]
    have c := nI_eq (a := RK (tK T n lim p)) (b := 0) (by have := RK_lt (tK T n lim p); omega) (by decide)
    by_cases e0 : tK T n lim p = 0
    · rw [if_pos (show nI _ = (0 : Int32) from c.mpr (RK_is0.mpr e0)), if_pos e0]
      have z := po_87 (x1 := nI l) (o := o) 4294967298 0 (by decide) (by decide)
      rw [nI_0] at z
      rw [z]
      exact ⟨rfl, fun e q => (by cases q), fun l R N q => (by cases q; exact ⟨rfl, fun j hj => hP.1 j hj⟩)⟩
    · rw [if_neg (fun q : nI _ = (0 : Int32) => e0 (RK_is0.mp (c.mp q))), if_neg e0]
      have q := readLine_ h hP
      generalize f_X10_readLine__1 o = r at q ⊢
      cases e1 : sLine T n lim R N p with
      | inl b =>
        have z := q.1 b e1
        rw [if_pos z.1]
        exact POE.bad (by rw [z.2.2])
      | inr w =>
        obtain ⟨p1, R1, N1⟩ := w
        obtain ⟨a1, a2, a3⟩ := q.2 p1 R1 N1 e1
        have hp := sLine_p e1
        rw [if_neg (ne1 a1)]
        have q2 := readEnd_ a2 a3
        generalize f_X10_readEnd__2 r.1 = r2 at q2 ⊢
        show POE (if tK T n lim p1 ≠ 59 then _ else _) _
        by_cases e2 : tK T n lim p1 = 59
        · obtain ⟨b1, b2, b3⟩ := q2.2 e2
          rw [if_neg (ne1 b1), nI_1, if_neg (nn e2)]
          have hg := tA_gt (T := T) (n := n) (lim := lim) (p := p1) (by omega) (by omega)
          exact ih (l + 1) r2.1 (tA T n lim p1) R1 N1 b2 b3 (by omega)
        · have z := q2.1 e2
          rw [if_pos z.1, if_pos e2]
          exact POE.bad (by rw [z.2.2])
theorem po_9 {T : Nat → Nat} {n lim : Nat} (hn9 : n ≤ 940) : ∀ (f k : Nat) (o : OS), k ≤ 84 → 84 - k < f → RT o T n lim 0 → (∀ j, j < k → o.2.2.1 15 j = 0) → POE (sPost T n lim 4294967298 R0 N0 0 0) (f_X10_post__3_9 f (nI k) o) := by
  intro f
  induction f with
  | zero => intro k o _ h; omega
  | succ f ih =>
    intro k o hk hf h hz
    rw [f_X10_post__3_9]
    by_cases e : 84 ≤ k
    · rw [if_pos (show (84 : Int32) ≤ nI k from nI_le (a := 84) e (by omega))]
      have hA : ∀ j, (sA (sA (sA o 24 (Int32.toNatClampNeg (0 : Int32)) (vp_nar .boolean (0 : Int32))) 24 (Int32.toNatClampNeg (1 : Int32)) (vp_nar .boolean (0 : Int32))) 15 (Int32.toNatClampNeg (5 : Int32)) (5 : Int32)).2.2.1 15 j = upd (o.2.2.1 15) 5 5 j := fun j => rfl
      refine po_51 4294967298 0 _ 0 R0 N0 (((h.of (fun _ _ => rfl) rfl rfl).of (fun _ _ => rfl) rfl rfl).of (fun _ _ => rfl) rfl rfl) ⟨fun j hj => ?_, ?_, ?_, fun s b m q => ?_⟩ (by omega)
      · rw [hA j]
        by_cases e5 : j = 5
        · rw [e5, pk_us]; rfl
        · rw [pk_un e5, hz j (by omega)]
          exact (if_neg e5).symm
      · rfl
      · rfl
      · have e0 : R0 s = 0 := if_neg (by omega)
        have ec : ct R0 s = 0 := by
          show (R0 s).toNatClampNeg = 0
          rw [e0]
          rfl
        rw [ec, e0]
        exact ⟨rfl, Nat.zero_le _, fun k hk => by omega⟩
    · rw [if_neg (show ¬ (84 : Int32) ≤ nI k from nI_ge (b := 84) (by omega) (by decide)), nI_1, nI_clamp (by omega)]
      refine ih (k + 1) _ (by omega) (by omega) (h.of (fun _ _ => rfl) rfl (sA_ne (by decide))) (fun j hj => ?_)
      rw [sA_get]
      by_cases e5 : j = k
      · rw [e5, pk_us]
      · rw [pk_un e5]; exact hz j (by omega)
theorem po_ {T : Nat → Nat} {g : Int} {o : OS} (h : RXT o T g.toNat) : POE (SP T g) (f_X10_post__3 o) := by
  unfold f_X10_post__3
  exact po_9 h.1 4294967298 0 _ (by decide) (by decide) (begin_ h) (fun j hj => by omega)
/-- what post leaves in the reference -/
def PXM (Ps : PSI) (ws : va_W) (y : Nat) (R : Nat → Int32) (T : Nat → Nat) (gh : Int) : Prop := (∀ e, SP T gh = .inl e → AX 14 34 (HDp R) Ps ws y) ∧ ∀ l R' N, SP T gh = .inr (l, R', N) → AX 14 34 (HDp R') Ps ws y
theorem pxm_ {A : Nat → Prop} {Ps : PSI} {u : va_W} {y : Nat} {R : Nat → Int32} {T : Nat → Nat} {gh : Int} {r : OS × Int32} (hD : va_D A u) (hP : POE (SP T gh) r) (ho : OV vw_MODEL Ps u y r.1) (hA : r.1.1 99 = 2 → AX 14 34 (HDp R) Ps u y) (hB : r.1.1 99 = 1 → AX2 14 34 15 35 (fun f g => NRp f g) Ps u y) : PXM Ps u y R T gh := by
  refine ⟨fun e z => hA (hP.2.1 e z), fun l R' N z => ?_⟩
  obtain ⟨h1, h2⟩ := hP.2.2 l R' N z
  obtain ⟨a, f, b, g, x1, x2, x3, x4, x5⟩ := hB h1
  have e := ARR.inj hD (OV.arrA (V := vw_MODEL) (t := 35) hD ho x3 (by decide)) x4
  refine ⟨a, f, x1, x2, fun j hj => ?_⟩
  rw [x5 j hj, ← e]
  exact h2 j hj
theorem PXM.over {wr : List (Nat × Nat)} {wa : List Nat} {Ps : PSI} {ws ws' : va_W} {y : Nat} {R : Nat → Int32} {T : Nat → Nat} {gh : Int} (hF : FR wr wa Ps ws ws') (h : PXM Ps ws y R T gh) (hn : (10, 14) ∉ wr ∧ 34 ∉ wa) : PXM Ps ws' y R T gh := ⟨fun e z => AX.over hF (h.1 e z) hn, fun l R' N z => AX.over hF (h.2 l R' N z) hn⟩
theorem PX.over {wr : List (Nat × Nat)} {wa : List Nat} {Ps : PSI} {ws ws' : va_W} {q g : Nat → Nat} {o oA oB : OS} {T : Nat → Nat} {gh : Int} (hF : FR wr wa Ps ws ws') (h : PX Ps ws q g o oA oB T gh) (hn : ((1, 1) ∉ wr ∧ (1, 2) ∉ wr) ∧ (8, 0) ∉ wr ∧ NPp wr wa) : PX Ps ws' q g o oA oB T gh := ⟨fun e z => HE.over hF (h.1 e z) hn, fun l R N z => by
  obtain ⟨o', h1, h2⟩ := h.2 l R N z
  exact ⟨o', HE.over hF h1 hn, h2⟩⟩
set_option maxHeartbeats 4000000 in
set_option maxRecDepth 100000 in
theorem c_X10_post__3_px (l : Launch) (D : va_G) (cy : Nat → ClassId) (z : Nat → Nat) (sz : Nat) (Ps : PSI) (w0 : va_W) (hT : HT cy GG Ps w0) (p0 : Nat) (gh : Int) (gdT : Nat → Nat) (gdR : Nat → Int32) (h_p0 : (p0, 55) ∈ Ps) (x_TLM_p0_gh : TLM w0 p0 (gh)) (x_BYM_p0_gdT : BYM Ps w0 p0 gdT) (x_HD_p0_gdR : AX 14 34 (HDp gdR) Ps w0 p0) : Met l yX10_post (Cond.code yX10_post cX10_post 3 (some .int) :: gT) ({ frames := 9, cells := 0, slots := 0, locals := 1800 } : Room) (va_Pc [.ref p0] (PRE D cy z w0 sz)) (va_Qi (fun (r : Int32) (u : va_W) => (RI r (-2147483648) 2147483647 ∧ (r = 0 → True) ∧ (¬ r = 0 → True) ∧ (TLM u p0 (0) ∧ (r = PAN gdT gh) ∧ PXM Ps u p0 gdR gdT gh ∧ True) ∧ (r.toInt < 0 → True) ∧ (0 ≤ r.toInt → True)) ∧ HT cy GG Ps u ∧ FR wr_X10_post__3 wa_X10_post__3 Ps w0 u) (BB D cy (va_A w0 sz) (fun (u : va_W) => u)) (va_A w0 sz)) 0 0 (va_A w0 sz) := by
  refine Met.ofP (φ := ∃ o, OV vw_MODEL Ps w0 p0 o ∧ RXT o gdT gh.toNat) (fun a st hv => ?_) (fun hφ => ?_)
  · obtain ⟨-, -, -, -, hD0, -⟩ := hv
    exact md_full hT hD0 x_TLM_p0_gh x_BYM_p0_gdT h_p0
  · obtain ⟨s0, o_p0, hφ⟩ := hφ
    refine Met.monoQ (c_X10_post__3 l D cy z sz Ps w0 hT p0 gdR s0 h_p0 x_HD_p0_gdR o_p0) (fun a st oc t hq => ?_)
    obtain ⟨⟨r, u, e1, ⟨⟨hA9, hB9, hfn, hp⟩, hT1, hF1⟩, hB⟩, hF⟩ := hq
    exact ⟨⟨r, u, e1, ⟨⟨hp.1, fun _ => trivial, fun _ => trivial, ⟨hp.2.2.2.1.1, hfn.2.1.symm.trans (po_ hφ).1, pxm_ hB.2.2 (po_ hφ) hfn.1 hA9 hB9, trivial⟩, fun _ => trivial, fun _ => trivial⟩, hT1, hF1⟩, hB⟩, hF⟩
