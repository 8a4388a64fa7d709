/-! a book's text: how many lines, or the fault and its place -/
section BOOKT
variable (T : Nat → Nat) (n lim : Nat) (R : Nat → Int32) (N : Nat → Nat)
def bAt (S : (Nat × Nat) ⊕ Nat) (p : Nat) : (Nat × Nat) ⊕ Nat := match S with
  | .inl e => .inl e
  | .inr _ => .inr p
/-- behind a person's name: up to where the line must end -/
def bVerb (p : Nat) : (Nat × Nat) ⊕ Nat :=
  if tK T n lim p = 137 then bAt (sOne T n lim 10 (ct R 2) N (tA T n lim p)) (tA T n lim (tA T n lim p))
  else if tK T n lim p = 138 then .inr (tA T n lim p)
  else if tK T n lim p = 139 ∨ tK T n lim p = 140 then bAt (sOne T n lim 0 (ct R 0) N (tA T n lim p)) (tA T n lim (tA T n lim p))
  else .inl (sBad T n lim 1 p)
/-- behind open, carry, day -/
def bOther (K p : Nat) : (Nat × Nat) ⊕ Nat :=
  if K = 143 then (match sNum T n lim 1 60 p with
    | .inl e => .inl e
    | .inr (_, p1) => .inr p1)
  else match sOne T n lim 10 (ct R 2) N p with
    | .inl e => .inl e
    | .inr _ => if K = 142 then bAt (sOne T n lim 6 (ct R 1) N (tA T n lim p)) (tA T n lim (tA T n lim p)) else .inr (tA T n lim p)
def bLine (p l : Nat) : (Nat × Nat) ⊕ Nat :=
  if 141 ≤ tK T n lim p ∧ tK T n lim p ≤ 143 then (if l = 40 then .inl (sBad T n lim 4 p) else bOther T n lim R N (tK T n lim p) (tA T n lim p))
  else match sOne T n lim 16 (ct R 3) N p with
    | .inl e => .inl e
    | .inr _ => if l = 40 then .inl (sBad T n lim 4 p) else bVerb T n lim R N (tA T n lim p)
def sBook : Nat → Nat → Nat → (Nat × Nat) ⊕ Nat
  | 0, _, l => .inr l
  | k + 1, p, l => if tK T n lim p = 0 then .inr l else match bLine T n lim R N p l with
    | .inl e => .inl e
    | .inr p1 => if tK T n lim p1 ≠ 59 then .inl (sBad T n lim 1 p1) else sBook k (tA T n lim p1) (l + 1)
end BOOKT
section BPURE
variable {T : Nat → Nat} {n lim : Nat} {R : Nat → Int32} {N : Nat → Nat}
theorem bAt_p {b m p q p1 : Nat} {M : Nat → Nat} (h : bAt (sOne T n lim b m M p) q = .inr p1) : p1 = q ∧ tK T n lim p = 2 := by
  unfold bAt at h
  cases e : sOne T n lim b m M p with
  | inl z => rw [e] at h; cases h
  | inr k => rw [e] at h; cases h; exact ⟨rfl, sOne_2 e⟩
theorem bVerb_p {p p1 : Nat} (h : bVerb T n lim R N p = .inr p1) : p < p1 := by
  unfold bVerb at h
  by_cases k1 : tK T n lim p = 137
  · rw [if_pos k1] at h
    obtain ⟨e, k2⟩ := bAt_p h
    have a := tA_gt (T := T) (n := n) (lim := lim) (p := p) (by omega) (by omega)
    have b := tA_gt (T := T) (n := n) (lim := lim) (p := tA T n lim p) (by omega) (by omega)
    omega
  · rw [if_neg k1] at h
    by_cases k2 : tK T n lim p = 138
    · rw [if_pos k2] at h
      have a := tA_gt (T := T) (n := n) (lim := lim) (p := p) (by omega) (by omega)
      cases h
      exact a
    · rw [if_neg k2] at h
      by_cases k3 : tK T n lim p = 139 ∨ tK T n lim p = 140
      · rw [if_pos k3] at h
        obtain ⟨e, k4⟩ := bAt_p h
        have a := tA_gt (T := T) (n := n) (lim := lim) (p := p) (by omega) (by omega)
        have b := tA_gt (T := T) (n := n) (lim := lim) (p := tA T n lim p) (by omega) (by omega)
        omega
      · rw [if_neg k3] at h; cases h
theorem bOther_p {K p p1 : Nat} (h : bOther T n lim R N K p = .inr p1) : p < p1 := by
  unfold bOther at h
  by_cases k1 : K = 143
  · rw [if_pos k1] at h
    cases e : sNum T n lim 1 60 p with
    | inl z => rw [e] at h; cases h
    | inr w => obtain ⟨v, p2⟩ := w; rw [e] at h; cases h; exact sNum_p e
  · rw [if_neg k1] at h
    cases e : sOne T n lim 10 (ct R 2) N p with
    | inl z => rw [e] at h; cases h
    | inr k =>
      rw [e] at h
      have a := sOne_p e
      try dsimp only at h
      by_cases k2 : K = 142
      · rw [if_pos k2] at h
        obtain ⟨e2, k4⟩ := bAt_p h
        have b := tA_gt (T := T) (n := n) (lim := lim) (p := tA T n lim p) (by omega) (by omega)
        omega
      · rw [if_neg k2] at h; cases h; exact a
theorem bLine_p {p l p1 : Nat} (h : bLine T n lim R N p l = .inr p1) : p < p1 ∧ tK T n lim p ≠ 0 ∧ tK T n lim p ≠ 1 := by
  unfold bLine at h
  by_cases k1 : 141 ≤ tK T n lim p ∧ tK T n lim p ≤ 143
  · rw [if_pos k1] at h
    by_cases k2 : l = 40
    · rw [if_pos k2] at h; cases h
    · rw [if_neg k2] at h
      have a := tA_gt (T := T) (n := n) (lim := lim) (p := p) (by omega) (by omega)
      have b := bOther_p h
      exact ⟨by omega, by omega, by omega⟩
  · rw [if_neg k1] at h
    cases e : sOne T n lim 16 (ct R 3) N p with
    | inl z => rw [e] at h; cases h
    | inr k =>
      rw [e] at h
      have a := sOne_p e
      have k4 := sOne_2 e
      try dsimp only at h
      by_cases k2 : l = 40
      · rw [if_pos k2] at h; cases h
      · rw [if_neg k2] at h
        have b := bVerb_p h
        exact ⟨by omega, by omega, by omega⟩
end BPURE
/-! the class's readers of books -/
section CBOOK
variable {T : Nat → Nat} {n lim : Nat} {R : Nat → Int32} {N : Nat → Nat} {s0 s1 s2 : OS} {l p : Nat}
def BL (T : Nat → Nat) (n lim : Nat) (s2 : OS) (l : Nat) (r : OS × OS × OS) (S : (Nat × Nat) ⊕ Nat) : Prop := r.2.2 = s2 ∧ (∀ e, S = .inl e → CF r.2.1 e) ∧ ∀ p, S = .inr p → CTK r.2.1 T n lim p ∧ r.1.1 3 = nI l
theorem BL.bad {r : OS × OS × OS} {e : Nat × Nat} (h : r.2.2 = s2) (h2 : CF r.2.1 e) : BL T n lim s2 l r (.inl e) := ⟨h, fun e9 q => (by cases q; exact h2), fun _ q => (by cases q)⟩
theorem BL.ok {r : OS × OS × OS} (h : r.2.2 = s2) (h2 : CTK r.2.1 T n lim p) (h3 : r.1.1 3 = nI l) : BL T n lim s2 l r (.inr p) := ⟨h, fun e9 q => (by cases q), fun _ q => (by cases q; exact ⟨h2, h3⟩)⟩
theorem al3 {x y z : Int32} (h : s0.1 3 = nI l) (hl : l < 40) : (f_X0_addLine__3 x y z s0).1 3 = nI (l + 1) := by
  unfold f_X0_addLine__3
  rw [h, if_neg (show ¬ (40 : Int32) ≤ nI l from nI_ge (b := 40) hl (by decide)), sI_get, nI_1]
theorem ple_ (h : CTK s1 T n lim p) : (tK T n lim p = 59 → CTK (f_X7_passOnly__3 (59 : Int32) s1) T n lim (tA T n lim p)) ∧ (tK T n lim p ≠ 59 → CF (f_X7_passOnly__3 (59 : Int32) s1) (sBad T n lim 1 p)) := by
  have c41 : (s1.1 7 = (59 : Int32)) ↔ tK T n lim p = 59 := ck_eq (v := 59) h.1 (by decide) (by decide)
  unfold f_X7_passOnly__3 f_X7_passOnly__3_13
  refine ⟨fun k => ?_, fun k => ?_⟩
  · rw [if_pos (c41.mpr k)]
    exact ps6_ h (by omega) (by omega)
  · have hb : CF (f_X7_refuse__4 (1 : Int32) s1) (sBad T n lim 1 p) := rf0_ (c := 1) h (by decide) (by decide) (fun _ => rfl)
    rw [if_neg (fun q => k (c41.mp q)), ps6_bad hb]
    exact hb
theorem kindB (h : CTK s1 T n lim p) (hk : 2 ≤ tK T n lim p) : s1.1 7 = nI (tK T n lim p) := (ck_eq h.1 hk (tK_lt h.1.1.2.2.2.2.2.2.1)).mpr rfl
theorem bAt_bl {b M s : Nat} {r : OS × OS × Int32} {o : OS} {S : (Nat × Nat) ⊕ Nat} {q m : Nat} (h : NA T n lim r s2 S q m) (h3 : o.1 3 = nI l) : BL T n lim s2 l (o, r.1, r.2.1) (bAt S q) := by
  unfold bAt
  cases e : S with
  | inl b => exact BL.bad h.1 (h.2.1 b e).1
  | inr k => exact BL.ok h.1 (h.2.2 k e).1 h3
theorem rverb_ (h : CTK s1 T n lim p) (hN : CN s2 R N) (h3 : s0.1 3 = nI l) (hl : l < 40) (x : Int32) : BL T n lim s2 (l + 1) (f_X0_readVerb__1 x s0 s1 s2) (bVerb T n lim R N p) := by
  have kk := kc_lt (n := n) (lim := lim) (p := p) h.1.1.2.2.2.2.2.2.1
  by_cases g : 137 ≤ tK T n lim p ∧ tK T n lim p ≤ 140
  · have e7 := kindB h (by omega)
    have hp := ps6_ h (by omega) (by omega)
    unfold f_X0_readVerb__1 bVerb
    rw [e7, if_neg (show ¬ nI (tK T n lim p) < (137 : Int32) from nI_nlt (b := 137) (by omega) (by omega)), if_pos (show nI (tK T n lim p) ≤ (140 : Int32) from nI_le (b := 140) (by omega) (by decide))]
    have e137 : nI (tK T n lim p) = (137 : Int32) ↔ tK T n lim p = 137 := nI_eq (b := 137) (by omega) (by decide)
    have e138 : nI (tK T n lim p) = (138 : Int32) ↔ tK T n lim p = 138 := nI_eq (b := 138) (by omega) (by decide)
    by_cases a1 : tK T n lim p = 137
    · rw [if_pos (e137.mpr a1), if_pos a1, if22]
      have q : NA T n lim (f_X7_takeName__12 (2 : Int32) (f_X7_pass__6 s1) s2) s2 (sOne T n lim 10 (ct R 2) N (tA T n lim p)) (tA T n lim (tA T n lim p)) (ct R 2) := tk1_ hp hN (s := 2) (b := 10) (M := 6) (Or.inr (Or.inr (Or.inl ⟨rfl, rfl, rfl⟩)))
      exact bAt_bl (b := 0) (M := 0) (s := 0) q (by rw [al3 h3 hl])
    · rw [if_neg (fun z => a1 (e137.mp z)), if_neg a1]
      by_cases a2 : tK T n lim p = 138
      · rw [if_pos (e138.mpr a2), if_pos a2]
        exact BL.ok rfl hp (by rw [al3 h3 hl])
      · rw [if_neg (fun z => a2 (e138.mp z)), if_neg a2, if_pos (show tK T n lim p = 139 ∨ tK T n lim p = 140 by omega), if22]
        have q : NA T n lim (f_X7_takeName__12 (0 : Int32) (f_X7_pass__6 s1) s2) s2 (sOne T n lim 0 (ct R 0) N (tA T n lim p)) (tA T n lim (tA T n lim p)) (ct R 0) := tk1_ hp hN (s := 0) (b := 0) (M := 6) (Or.inl ⟨rfl, rfl, rfl⟩)
        exact bAt_bl (b := 0) (M := 0) (s := 0) q (by rw [al3 h3 hl])
  · have hb : CF (f_X7_refuse__4 (1 : Int32) s1) (sBad T n lim 1 p) := rf0_ (c := 1) h (by decide) (by decide) (fun _ => rfl)
    have nk : ¬ (137 ≤ kc T n lim p ∧ kc T n lim p ≤ 140) := fun q => by
      have z := (kc_eq (T := T) (n := n) (lim := lim) (p := p) (v := kc T n lim p) (by omega)).mp rfl
      omega
    have es : bVerb T n lim R N p = .inl (sBad T n lim 1 p) := by
      unfold bVerb
      rw [if_neg (by omega), if_neg (by omega), if_neg (by omega)]
    rw [es]
    unfold f_X0_readVerb__1
    rw [h.1.2.2.1]
    by_cases z : kc T n lim p < 137
    · rw [if_pos (show nI (kc T n lim p) < (137 : Int32) from nI_lt (b := 137) z (by decide))]
      exact BL.bad rfl hb
    · rw [if_neg (show ¬ nI (kc T n lim p) < (137 : Int32) from nI_nlt (b := 137) (by omega) (by omega)), if_neg (show ¬ nI (kc T n lim p) ≤ (140 : Int32) from nI_ge (a := 140) (by omega) (by omega))]
      exact BL.bad rfl hb
theorem roth_ {K : Nat} (h : CTK s1 T n lim p) (hN : CN s2 R N) (h3 : s0.1 3 = nI l) (hl : l < 40) (k1 : 141 ≤ K) (k2 : K ≤ 143) : BL T n lim s2 (l + 1) (f_X0_readOther__1 (nI K) s0 s1 s2) (bOther T n lim R N K p) := by
  have e142 : nI K = (142 : Int32) ↔ K = 142 := nI_eq (b := 142) (by omega) (by decide)
  have e143 : nI K = (143 : Int32) ↔ K = 143 := nI_eq (b := 143) (by omega) (by decide)
  unfold f_X0_readOther__1 bOther
  by_cases a1 : K = 143
  · rw [if_pos (e143.mpr a1), if_pos a1]
    have q : TN T n lim (f_X7_takeNumber__5 (1 : Int32) (60 : Int32) s1) (sNum T n lim 1 60 p) := tn1_ (a := 1) (b := 60) (by decide) (by decide) h
    generalize f_X7_takeNumber__5 (1 : Int32) (60 : Int32) s1 = r at q ⊢
    cases e : sNum T n lim 1 60 p with
    | inl b => exact BL.bad rfl (q.1 b e)
    | inr w =>
      obtain ⟨v, p1⟩ := w
      exact BL.ok rfl (q.2 v p1 e).1 (by rw [al3 h3 hl])
  · rw [if_neg (fun z => a1 (e143.mp z)), if_neg a1]
    have q : NA T n lim (f_X7_takeName__12 (2 : Int32) s1 s2) s2 (sOne T n lim 10 (ct R 2) N p) (tA T n lim p) (ct R 2) := tk1_ h hN (s := 2) (b := 10) (M := 6) (Or.inr (Or.inr (Or.inl ⟨rfl, rfl, rfl⟩)))
    have c8 := ct8 (s := 2) (b := 10) (M := 6) (Or.inr (Or.inr (Or.inl ⟨rfl, rfl, rfl⟩))) hN
    generalize f_X7_takeName__12 (2 : Int32) s1 s2 = r at q ⊢
    cases e : sOne T n lim 10 (ct R 2) N p with
    | inl b =>
      have z := q.2.1 b e
      rw [if_pos (show r.2.2.toInt < 0 by rw [z.2]; decide)]
      by_cases a2 : K = 142
      · rw [if_pos (e142.mpr a2)]; exact BL.bad q.1 z.1
      · rw [if_neg (fun z => a2 (e142.mp z))]; exact BL.bad q.1 z.1
    | inr k =>
      have z := q.2.2 k e
      rw [if_neg (show ¬ r.2.2.toInt < 0 by rw [z.2.1, nI_toInt (by omega)]; omega)]
      try dsimp only
      by_cases a2 : K = 142
      · rw [if_pos (e142.mpr a2), if_pos a2, if22, q.1]
        have q2 : NA T n lim (f_X7_takeName__12 (1 : Int32) r.1 s2) s2 (sOne T n lim 6 (ct R 1) N (tA T n lim p)) (tA T n lim (tA T n lim p)) (ct R 1) := tk1_ z.1 hN (s := 1) (b := 6) (M := 4) (Or.inr (Or.inl ⟨rfl, rfl, rfl⟩))
        exact bAt_bl (b := 0) (M := 0) (s := 0) q2 (by rw [al3 h3 hl])
      · rw [if_neg (fun z => a2 (e142.mp z)), if_neg a2]
        exact BL.ok q.1 z.1 (by rw [al3 h3 hl])
/-- a book read: the fault, or none -/
def BR (s2 : OS) (r : OS × OS × OS) (S : (Nat × Nat) ⊕ Nat) : Prop := r.2.2 = s2 ∧ (∀ e, S = .inl e → CF r.2.1 e) ∧ ∀ l, S = .inr l → r.2.1.1 10 = 0
theorem BR.bad {r : OS × OS × OS} {e : Nat × Nat} (h : r.2.2 = s2) (h2 : CF r.2.1 e) : BR s2 r (.inl e) := ⟨h, fun e9 q => (by cases q; exact h2), fun _ q => (by cases q)⟩
theorem BR.ok {r : OS × OS × OS} (h : r.2.2 = s2) (h2 : r.2.1.1 10 = 0) : BR s2 r (.inr l) := ⟨h, fun e9 q => (by cases q), fun _ _ => h2⟩
theorem rb14_bad {e : Nat × Nat} {f : Nat} {x : Int32} (h : CF s1 e) (hf : 0 < f) : BR s2 (f_X0_read__1_14 f x s0 s1 s2) (.inl e) := by
  obtain ⟨g, rfl⟩ : ∃ g, f = g + 1 := ⟨f - 1, by omega⟩
  have gb := gs_bad h
  rw [f_X0_read__1_14]
  by_cases z : (40 : Int32) < x
  · rw [if_pos z]; exact BR.bad rfl h
  · rw [if_neg z]
    generalize f_X7_goesOn__3 s1 = y at gb ⊢
    have y1 : y.1 = s1 := by rw [gb]
    have y2 : y.2 = 0 := by rw [gb]
    rw [if_pos y2, y1]
    exact BR.bad rfl h
/-- a line was read: its end, and on -/
theorem nxtB {f : Nat} (ih : ∀ (l : Nat) (s0 s1 : OS) (p : Nat), CTK s1 T n lim p → s0.1 3 = nI l → l ≤ 40 → p ≤ n → n - p + 1 < f → BR s2 (f_X0_read__1_14 f (nI l) s0 s1 s2) (sBook T n lim R N f p l)) (hl : l < 40) (hpn : p ≤ n) (hf : n - p + 1 < f + 1) {r : OS × OS × OS} (k0 : tK T n lim p ≠ 0) (h : BL T n lim s2 (l + 1) r (bLine T n lim R N p l)) : BR s2 (f_X0_read__1_14 f (nI l + 1) r.1 (f_X7_passOnly__3 (59 : Int32) r.2.1) r.2.2) (sBook T n lim R N (f + 1) p l) := by
  rw [sBook, if_neg k0, nI_1, h.1]
  cases e : bLine T n lim R N p l with
  | inl b =>
    have hb := h.2.1 b e
    rw [pon_bad hb]
    exact rb14_bad hb (by omega)
  | inr p1 =>
    have z := h.2.2 p1 e
    have hp := bLine_p e
    have pe := ple_ z.1
    have pin := p_in (T := T) (n := n) (lim := lim) (p := p) hp.2.1 hp.2.2
    try dsimp only
    by_cases k : tK T n lim p1 = 59
    · rw [if_neg (nn k)]
      have g := tA_gt (T := T) (n := n) (lim := lim) (p := p1) (by omega) (by omega)
      have g2 := tok_inside (T := T) (n := n) (lim := lim) (p := p1) (by omega) (by omega)
      exact ih (l + 1) r.1 _ (tA T n lim p1) (pe.1 k) z.2 (by omega) g2.2.2 (by omega)
    · rw [if_pos k]
      exact rb14_bad (pe.2 k) (by omega)
theorem bLine_1 (h : tK T n lim p = 1 ∨ (3 ≤ tK T n lim p ∧ tK T n lim p ≤ 140) ∨ 144 ≤ tK T n lim p) : bLine T n lim R N p l = .inl (sBad T n lim 1 p) := by
  unfold bLine
  rw [if_neg (by omega)]
  unfold sOne
  rw [if_pos (show tK T n lim p ≠ 2 by omega)]
theorem sBook_bad {f : Nat} {e : Nat × Nat} (k0 : tK T n lim p ≠ 0) (h : bLine T n lim R N p l = .inl e) : sBook T n lim R N (f + 1) p l = .inl e := by
  rw [sBook, if_neg k0, h]
theorem rb14_ (hN : CN s2 R N) : ∀ (f l : Nat) (s0 s1 : OS) (p : Nat), CTK s1 T n lim p → s0.1 3 = nI l → l ≤ 40 → p ≤ n → n - p + 1 < f → BR s2 (f_X0_read__1_14 f (nI l) s0 s1 s2) (sBook T n lim R N f p l) := by
  intro f
  induction f with
  | zero => intro l s0 s1 p _ _ _ _ h; omega
  | succ f ih =>
    intro l s0 s1 p h h3 hl hpn hf
    rw [f_X0_read__1_14, if_neg (show ¬ (40 : Int32) < nI l from nI_nlt (a := 40) hl (by decide))]
    by_cases k0 : tK T n lim p = 0
    · have gb := gs_0 h k0
      generalize f_X7_goesOn__3 s1 = g at gb ⊢
      have g1 : g.1 = s1 := by rw [gb]
      have g2 : g.2 = 0 := by rw [gb]
      rw [if_pos g2, g1, sBook, if_pos k0]
      exact BR.ok rfl h.2
    by_cases e : tStop n lim ≤ tB0 T (tStop n lim) p
    · obtain ⟨o', gb, hb, k1⟩ := gs_1 h k0 e
      generalize f_X7_goesOn__3 s1 = g at gb ⊢
      have g1 : g.1 = o' := by rw [gb]
      have g2 : g.2 = 0 := by rw [gb]
      rw [if_pos g2, g1, sBook_bad k0 (bLine_1 (by omega))]
      exact BR.bad rfl hb
    obtain ⟨gb, h7⟩ := gs_2 h e
    generalize f_X7_goesOn__3 s1 = g at gb ⊢
    have g1 : g.1 = s1 := by rw [gb]
    have g2 : g.2 = 1 := by rw [gb]
    have tl := tK_lt (n := n) (lim := lim) (p := p) h.1.1.2.2.2.2.2.2.1
    have ti : (s1.1 7).toInt = (tK T n lim p : Int) := by rw [h7, nI_toInt (by omega)]
    have hb1 : CF (f_X7_refuse__5 (1 : Int32) s1) (sBad T n lim 1 p) := rf_ (c := 1) h (by decide) (by decide) (fun _ => rfl)
    have s40 : s0.1 3 < (40 : Int32) ↔ l < 40 := by
      rw [h3]
      exact ⟨fun z => Nat.lt_of_not_le (fun y => nI_nlt (b := 40) y (by omega) z), fun z => nI_lt (b := 40) z (by decide)⟩
    rw [if_neg (ne1 g2), g1]
    by_cases c1 : tK T n lim p ≤ 1
    · rw [if_pos (show -2147483648 ≤ (s1.1 7).toInt ∧ (s1.1 7).toInt ≤ 1 by omega), sBook_bad k0 (bLine_1 (by omega))]
      unfold f_X0_beginsLine__7
      exact BR.bad rfl hb1
    rw [if_neg (show ¬ (-2147483648 ≤ (s1.1 7).toInt ∧ (s1.1 7).toInt ≤ 1) by omega)]
    by_cases c2 : tK T n lim p = 2
    · rw [if_pos (show 2 ≤ (s1.1 7).toInt ∧ (s1.1 7).toInt ≤ 2 by omega)]
      have q : NA T n lim (f_X7_nameAhead__12 (3 : Int32) s1 s2) s2 (sOne T n lim 16 (ct R 3) N p) p (ct R 3) := na0_ h hN (s := 3) (b := 16) (M := 8) (Or.inr (Or.inr (Or.inr ⟨rfl, rfl, rfl⟩)))
      have c8 := ct8 (s := 3) (b := 16) (M := 8) (Or.inr (Or.inr (Or.inr ⟨rfl, rfl, rfl⟩))) hN
      generalize f_X7_nameAhead__12 (3 : Int32) s1 s2 = r at q ⊢
      have bl : bLine T n lim R N p l = (match sOne T n lim 16 (ct R 3) N p with
        | .inl e => .inl e
        | .inr _ => if l = 40 then .inl (sBad T n lim 4 p) else bVerb T n lim R N (tA T n lim p)) := if_neg (by omega)
      cases e1 : sOne T n lim 16 (ct R 3) N p with
      | inl b =>
        have z := q.2.1 b e1
        rw [e1] at bl
        rw [if_pos (show r.2.2.toInt < 0 by rw [z.2]; decide), sBook_bad k0 bl]
        exact BR.bad q.1 z.1
      | inr k =>
        have z := q.2.2 k e1
        rw [e1] at bl
        have bl : bLine T n lim R N p l = if l = 40 then .inl (sBad T n lim 4 p) else bVerb T n lim R N (tA T n lim p) := bl
        rw [if_neg (show ¬ r.2.2.toInt < 0 by rw [z.2.1, nI_toInt (by omega)]; omega)]
        have hp := ps6_ z.1 (by omega) (by omega)
        by_cases k9 : l = 40
        · have hb4 : CF (f_X7_refuse__4 (4 : Int32) r.1) (sBad T n lim 4 p) := rf0_ (c := 4) z.1 (by decide) (by decide) (fun q => by omega)
          have y0 : f_X0_beginsLine__9 (s1.1 7) s0 r.1 = (s0, f_X7_refuse__4 (4 : Int32) r.1, 0) := by
            unfold f_X0_beginsLine__9
            rw [if_neg (fun y => by have := s40.mp y; omega)]
          generalize f_X0_beginsLine__9 (s1.1 7) s0 r.1 = y at y0 ⊢
          have y1 : y.1 = s0 := by rw [y0]
          have y2 : y.2.1 = f_X7_refuse__4 (4 : Int32) r.1 := by rw [y0]
          have y3 : y.2.2 = 0 := by rw [y0]
          rw [if_pos k9] at bl
          rw [if_pos y3, sBook_bad k0 bl]
          exact BR.bad q.1 (by rw [y2]; exact hb4)
        · have y0 : f_X0_beginsLine__9 (s1.1 7) s0 r.1 = (s0, f_X7_pass__6 r.1, 1) := by
            unfold f_X0_beginsLine__9
            rw [if_pos (s40.mpr (by omega)), if_pos hp.2]
          generalize f_X0_beginsLine__9 (s1.1 7) s0 r.1 = y at y0 ⊢
          have y1 : y.1 = s0 := by rw [y0]
          have y2 : y.2.1 = f_X7_pass__6 r.1 := by rw [y0]
          have y3 : y.2.2 = 1 := by rw [y0]
          rw [if_neg k9] at bl
          rw [if_neg (ne1 y3), y1, y2, q.1]
          exact nxtB ih (by omega) hpn hf k0 (by rw [bl]; exact rverb_ hp hN h3 (by omega) _)
    rw [if_neg (show ¬ (2 ≤ (s1.1 7).toInt ∧ (s1.1 7).toInt ≤ 2) by omega)]
    by_cases c3 : tK T n lim p ≤ 140
    · rw [if_pos (show 3 ≤ (s1.1 7).toInt ∧ (s1.1 7).toInt ≤ 140 by omega), sBook_bad k0 (bLine_1 (by omega))]
      unfold f_X0_beginsLine__7
      exact BR.bad rfl hb1
    rw [if_neg (show ¬ (3 ≤ (s1.1 7).toInt ∧ (s1.1 7).toInt ≤ 140) by omega)]
    by_cases c4 : tK T n lim p ≤ 143
    · rw [if_pos (show 141 ≤ (s1.1 7).toInt ∧ (s1.1 7).toInt ≤ 143 by omega)]
      have bl : bLine T n lim R N p l = if l = 40 then .inl (sBad T n lim 4 p) else bOther T n lim R N (tK T n lim p) (tA T n lim p) := if_pos (by omega)
      by_cases k9 : l = 40
      · have hb4 : CF (f_X7_refuse__5 (4 : Int32) s1) (sBad T n lim 4 p) := rf_ (c := 4) h (by decide) (by decide) (fun q => by omega)
        have y0 : f_X0_beginsLine__11 (s1.1 7) s0 s1 = (s0, f_X7_refuse__5 (4 : Int32) s1, 0) := by
          unfold f_X0_beginsLine__11
          rw [if_neg (fun y => by have := s40.mp y; omega)]
        generalize f_X0_beginsLine__11 (s1.1 7) s0 s1 = y at y0 ⊢
        have y2 : y.2.1 = f_X7_refuse__5 (4 : Int32) s1 := by rw [y0]
        have y3 : y.2.2 = 0 := by rw [y0]
        rw [if_pos k9] at bl
        rw [if_pos y3, sBook_bad k0 bl]
        exact BR.bad rfl (by rw [y2]; exact hb4)
      · have y0 : f_X0_beginsLine__11 (s1.1 7) s0 s1 = (s0, f_X7_pass__5 s1, 1) := by
          unfold f_X0_beginsLine__11
          rw [if_pos (s40.mpr (by omega))]
        generalize f_X0_beginsLine__11 (s1.1 7) s0 s1 = y at y0 ⊢
        have y1 : y.1 = s0 := by rw [y0]
        have y2 : y.2.1 = f_X7_pass__5 s1 := by rw [y0]
        have y3 : y.2.2 = 1 := by rw [y0]
        rw [if_neg k9] at bl
        rw [if_neg (ne1 y3), y1, y2, h7]
        exact nxtB ih (by omega) hpn hf k0 (by rw [bl]; exact roth_ (ps_ h k0 (by omega)) hN h3 (by omega) (by omega) c4)
    rw [if_neg (show ¬ (141 ≤ (s1.1 7).toInt ∧ (s1.1 7).toInt ≤ 143) by omega), sBook_bad k0 (bLine_1 (by omega))]
    unfold f_X0_beginsLine__7
    exact BR.bad rfl hb1
/-- what the class's book reads -/
theorem bread_ (h : CXT s1 T n) (hN : CN s2 R N) : BR s2 (f_X0_read__1 s0 s1 s2) (sBook T n 400 R N 4294967298 0 0) := by
  have ht : CTK (f_X7_startText__3 (400 : Int32) s1) T n 400 0 := start_g (lim := 400) h (by decide)
  have h9 := h.1
  unfold f_X0_read__1
  have w := rb14_ hN 4294967298 0 (sI s0 3 (0 : Int32)) _ 0 ht (by rw [sI_get, nI_0]) (by decide) (Nat.zero_le _) (by omega)
  rw [nI_0] at w
  exact w
end CBOOK
/-! the reference's readers of books -/
section RBOOK
variable {T : Nat → Nat} {n lim : Nat} {R : Nat → Int32} {N : Nat → Nat} {o : OS} {l p : Nat}
def RBq (T : Nat → Nat) (n lim : Nat) (R : Nat → Int32) (N : Nat → Nat) (o : OS) (l p : Nat) : Prop := RT o T n lim p ∧ SNM o R N ∧ o.1 10 = 0 ∧ o.1 42 = nI l
theorem RBq.of {o o' : OS} (h : RBq T n lim R N o l p) (hi : ∀ k, k ≠ 13 → o'.1 k = o.1 k) (hl : o'.2.1 = o.2.1) (h1 : o'.2.2.1 1 = o.2.2.1 1) (h2 : o'.2.2.1 14 = o.2.2.1 14) (h3 : o'.2.2.2 20 = o.2.2.2 20) : RBq T n lim R N o' l p :=
  ⟨h.1.of (fun k hk => hi k (by omega)) (by rw [hl]) h1, h.2.1.of h2 h3, by rw [hi 10 (by decide)]; exact h.2.2.1, by rw [hi 42 (by decide)]; exact h.2.2.2⟩
/-- on, behind what was written -/
theorem RBq.go {o o' : OS} (h : RBq T n lim R N o l p) (h0 : tK T n lim p ≠ 0) (h1 : tK T n lim p ≠ 1) (hi : ∀ k, k ≠ 13 → o'.1 k = o.1 k) (ha : o'.2.2.1 1 = o.2.2.1 1) (h2 : o'.2.2.1 14 = o.2.2.1 14) (h3 : o'.2.2.2 20 = o.2.2.2 20) : RBq T n lim R N (f_X10_go__2 o') l (tA T n lim p) := by
  have nx := next_ (o' := o') h.1 h0 h1 (fun k hk => hi k (by omega)) ha
  exact ⟨nx.1, h.2.1.of (by rw [nx.2.2.2]; exact h2) (by rw [nx.2.2.2]; exact h3), by rw [nx.2.1 10 (by decide) (by decide) (by decide) (by decide) (by decide), hi 10 (by decide)]; exact h.2.2.1, by rw [nx.2.1 42 (by decide) (by decide) (by decide) (by decide) (by decide), hi 42 (by decide)]; exact h.2.2.2⟩
def RBd (T : Nat → Nat) (n lim : Nat) (R : Nat → Int32) (N : Nat → Nat) (l : Nat) (r : OS × Int32) (S : (Nat × Nat) ⊕ Nat) : Prop := (∀ e, S = .inl e → RBad r e) ∧ ∀ p1, S = .inr p1 → r.2 = 1 ∧ RBq T n lim R N r.1 l p1
theorem RBd.bad {r : OS × Int32} {e : Nat × Nat} (h : RBad r e) : RBd T n lim R N l r (.inl e) := ⟨fun e9 q => (by cases q; exact h), fun _ q => (by cases q)⟩
theorem RBd.ok {r : OS × Int32} {p1 : Nat} (h : r.2 = 1) (h2 : RBq T n lim R N r.1 l p1) : RBd T n lim R N l r (.inr p1) := ⟨fun e9 q => (by cases q), fun _ q => (by cases q; exact ⟨h, h2⟩)⟩
theorem rn5_ {a b : Nat} (h : RBq T n lim R N o l p) (ha : a < 2 ^ 31) (hb : b < 2 ^ 31) : (∀ e, sNum T n lim a b p = .inl e → RBad (f_X10_readNumber__7 (nI a) (nI b) o) e) ∧ (∀ v p1, sNum T n lim a b p = .inr (v, p1) → (f_X10_readNumber__7 (nI a) (nI b) o).2 = 1 ∧ RBq T n lim R N (f_X10_readNumber__7 (nI a) (nI b) o).1 l p1) := by
  unfold f_X10_readNumber__7 sNum
  by_cases k3 : tK T n lim p = 3
  · have hv := tok_num h.1.1.2.2.2.2.2 k3
    rw [if_pos ((kind_3 h.1).mpr k3), if_neg (nn k3), h.1.2.2.2.2.2.1 k3, isIn_ ha hb hv]
    by_cases e : a ≤ tNu T n lim p ∧ tNu T n lim p ≤ b
    · rw [if_pos e, if_neg one0, if_neg (fun q : ¬ (a ≤ tNu T n lim p ∧ tNu T n lim p ≤ b) => q e)]
      have nx := h.go (o' := sI o 13 (nI (tNu T n lim p))) (by omega) (by omega) (fun k hk => sI_ne hk) rfl rfl rfl
      refine ⟨fun e9 q => (by cases q), fun v p1 q => ?_⟩
      cases q
      exact ⟨rfl, nx⟩
    · rw [if_neg e, if_pos rfl, if_pos e]
      refine ⟨fun e9 q => ?_, fun v p1 q => (by cases q)⟩
      cases q
      exact bad_R h.1 (by decide)
  · rw [if_neg (fun q => k3 ((kind_3 h.1).mp q)), if_pos k3]
    refine ⟨fun e9 q => ?_, fun v p1 q => (by cases q)⟩
    cases q
    exact bad_R h.1 (by decide)
theorem rnm5_ {s b M : Nat} {x y : Int32} (h : RBq T n lim R N o l p) (hs : SORT s b M) (hx : x = nI b) (hy : y = o.2.2.1 14 s) : RBd T n lim R N l (f_X10_readNamed__3 x y o) (bAt (sOne T n lim b (ct R s) N p) (tA T n lim p)) := by
  subst hx
  subst hy
  have bM := (h.2.1 s b M hs).2.2.1
  unfold f_X10_readNamed__3 bAt sOne
  rw [isName_ h.1]
  by_cases k2 : tK T n lim p = 2
  · have hw : tK T n lim p = 2 ∨ 128 ≤ tK T n lim p := Or.inl k2
    rw [if_pos k2, if_neg one0, if_neg (nn k2), findInN h.1 h.2.1 hw hs]
    have ng := fI_neg (x := sFind N b (tW T n lim p) (ct R s)) (fun j q => by have := sFind_lt _ _ q; omega)
    cases e : sFind N b (tW T n lim p) (ct R s) with
    | none =>
      rw [e] at ng
      rw [if_pos (ng.mpr rfl)]
      have q := bad_R (c := 3) (h.1.of (o' := sI o 13 (fI none)) (fun k hk => sI_ne (by omega)) rfl rfl) (by decide)
      exact RBd.bad ⟨q.1, q.2.1, q.2.2⟩
    | some j =>
      rw [e] at ng
      rw [if_neg (fun q => by have := ng.mp q; cases this)]
      exact RBd.ok rfl (h.go (o' := sI o 13 (fI (some j))) (by omega) (by omega) (fun k hk => sI_ne hk) rfl rfl rfl)
  · rw [if_neg k2, if_pos rfl, if_pos k2]
    exact RBd.bad (bad_R h.1 (by decide))
theorem eta2 {r : OS × Int32} : (if r.2 = 0 then (r.1, r.2) else (r.1, r.2)) = r := by
  by_cases z : r.2 = 0
  · rw [if_pos z]
  · rw [if_neg z]
theorem rpn_ (h : RBq T n lim R N o l p) : RBd T n lim R N l (f_X10_readParcelName__1 o) (bAt (sOne T n lim 10 (ct R 2) N p) (tA T n lim p)) := by
  unfold f_X10_readParcelName__1
  rw [eta2]
  exact rnm5_ (x := (10 : Int32)) (y := o.2.2.1 14 (Int32.toNatClampNeg (2 : Int32))) (s := 2) (b := 10) (M := 6) h (Or.inr (Or.inr (Or.inl ⟨rfl, rfl, rfl⟩))) rfl rfl
theorem rin_ (h : RBq T n lim R N o l p) : RBd T n lim R N l (f_X10_readIdeaName__1 o) (bAt (sOne T n lim 0 (ct R 0) N p) (tA T n lim p)) := by
  unfold f_X10_readIdeaName__1
  rw [eta2]
  exact rnm5_ (x := (0 : Int32)) (y := o.2.2.1 14 (Int32.toNatClampNeg (0 : Int32))) (s := 0) (b := 0) (M := 6) h (Or.inl ⟨rfl, rfl, rfl⟩) rfl rfl
theorem kp_ {x y : Int32} (h : RBq T n lim R N o l p) : RBq T n lim R N (f_X10_keep__7 x y o).1 l p := by
  unfold f_X10_keep__7
  exact h.of (fun _ _ => rfl) rfl (sA_ne (by decide)) (sA_ne (by decide)) rfl
theorem RBd.kp {r : OS × Int32} {S : (Nat × Nat) ⊕ Nat} {x : Int32} (h : RBd T n lim R N l r S) : RBd T n lim R N l (if r.2 = 0 then (r.1, (f_X10_keep__6 x r.2 r.1)) else ((f_X10_keep__7 x r.2 r.1).1, (f_X10_keep__7 x r.2 r.1).2)) S := by
  cases S with
  | inl e =>
    have z := h.1 e rfl
    rw [if_pos z.1]
    exact RBd.bad z
  | inr p1 =>
    have z := h.2 p1 rfl
    rw [if_neg (ne1 z.1)]
    exact RBd.ok z.1 (kp_ z.2)
theorem rend5_ (h : RBq T n lim R N o l p) : (tK T n lim p ≠ 59 → RBad (f_X10_readEnd__2 o) (sBad T n lim 1 p)) ∧ (tK T n lim p = 59 → (f_X10_readEnd__2 o).2 = 1 ∧ RBq T n lim R N (f_X10_readEnd__2 o).1 l (tA T n lim p)) := by
  unfold f_X10_readEnd__2
  rw [isSign_ h.1]
  by_cases e : tK T n lim p = 59
  · rw [if_pos e, if_neg one0]
    exact ⟨fun q => absurd e q, fun _ => ⟨rfl, h.go (o' := o) (by omega) (by omega) (fun _ _ => rfl) rfl rfl rfl⟩⟩
  · rw [if_neg e, if_pos rfl]
    exact ⟨fun _ => bad_R h.1 (by decide), fun q => absurd q e⟩
theorem wd3A {x : Int32} (h : RT o T n lim p) (hn : ¬ (137 ≤ tK T n lim p ∧ tK T n lim p ≤ 140)) : ∀ (f k : Nat), 9 ≤ k → k ≤ 13 → 13 - k < f → f_X10_readDoes__1_3 x f (nI k) o = ((f_X10_bad__1 (1 : Int32) o).1, (f_X10_bad__1 (1 : Int32) o).2) := by
  intro f
  induction f with
  | zero => intro k _ _ h; omega
  | succ f ih =>
    intro k h9 hk hf
    rw [f_X10_readDoes__1_3]
    by_cases e : 13 ≤ k
    · rw [if_pos (show (12 : Int32) < nI k from nI_lt (a := 12) (by omega) (by omega))]
    · rw [if_neg (show ¬ (12 : Int32) < nI k from nI_nlt (b := k) (a := 12) (by omega) (by decide)), isWord_ (k := k) h (by omega), if_neg (show ¬ tK T n lim p = 128 + k by omega), if_pos rfl, nI_1]
      exact ih (k + 1) (by omega) (by omega) (by omega)
theorem wd3B {x : Int32} {j : Nat} (h : RT o T n lim p) (hj : tK T n lim p = 128 + j) (h12 : j ≤ 12) : ∀ (f k : Nat), 9 ≤ k → k ≤ j → j - k < f → ∃ g, f_X10_readDoes__1_3 x f (nI k) o = f_X10_readDoes__1_3 x (g + 1) (nI j) o := by
  intro f
  induction f with
  | zero => intro k _ _ h; omega
  | succ f ih =>
    intro k h9 hk hf
    by_cases e : k = j
    · subst e; exact ⟨f, rfl⟩
    · obtain ⟨g, hg⟩ := ih (k + 1) (by omega) (by omega) (by omega)
      refine ⟨g, ?_⟩
      rw [f_X10_readDoes__1_3, if_neg (show ¬ (12 : Int32) < nI k from nI_nlt (b := k) (a := 12) (by omega) (by decide)), isWord_ (k := k) h (by omega), if_neg (show ¬ tK T n lim p = 128 + k by omega), if_pos rfl, nI_1]
      exact hg
theorem rdoes_ (h : RBq T n lim R N o l p) (x : Int32) : RBd T n lim R N l (f_X10_readDoes__1 x o) (bVerb T n lim R N p) := by
  unfold f_X10_readDoes__1
  by_cases g : 137 ≤ tK T n lim p ∧ tK T n lim p ≤ 140
  · obtain ⟨j, hj⟩ : ∃ j, tK T n lim p = 128 + j := ⟨tK T n lim p - 128, by omega⟩
    obtain ⟨g9, e9⟩ := wd3B (x := x) h.1 hj (by omega) 4294967298 9 (Nat.le_refl _) (by omega) (by omega)
    have e9 : f_X10_readDoes__1_3 x 4294967298 (9 : Int32) o = f_X10_readDoes__1_3 x (g9 + 1) (nI j) o := e9
    rw [e9, f_X10_readDoes__1_3, if_neg (show ¬ (12 : Int32) < nI j from nI_nlt (b := j) (a := 12) (by omega) (by decide)), isWord_ (k := j) h.1 (by omega), if_pos hj, if_neg one0]
    have hg : RBq T n lim R N (f_X10_go__2 (sA o 40 (Int32.toNatClampNeg x) (nI j - 9))) l (tA T n lim p) := h.go (o' := sA o 40 (Int32.toNatClampNeg x) (nI j - 9)) (by omega) (by omega) (fun _ _ => rfl) (sA_ne (by decide)) (sA_ne (by decide)) rfl
    have hv : (f_X10_go__2 (sA o 40 (Int32.toNatClampNeg x) (nI j - 9))).2.2.1 40 (Int32.toNatClampNeg x) = nI j - 9 := by
      have nx := next_ (o' := sA o 40 (Int32.toNatClampNeg x) (nI j - 9)) h.1 (by omega) (by omega) (fun _ _ => rfl) (sA_ne (by decide))
      rw [nx.2.2.2, sA_get, pk_us]
    rw [hv]
    generalize f_X10_go__2 (sA o 40 (Int32.toNatClampNeg x) (nI j - 9)) = s at hg ⊢
    unfold bVerb
    rcases (show j = 9 ∨ j = 10 ∨ j = 11 ∨ j = 12 by omega) with rfl | rfl | rfl | rfl
    · rw [if_pos (show nI 9 - (9 : Int32) = 0 by decide +kernel), if_pos (show tK T n lim p = 137 by omega)]
      exact RBd.kp (rpn_ hg)
    · rw [if_neg (show ¬ nI 10 - (9 : Int32) = 0 by decide +kernel), if_pos (show nI 10 - (9 : Int32) = 1 by decide +kernel), if_neg (show ¬ tK T n lim p = 137 by omega), if_pos (show tK T n lim p = 138 by omega)]
      exact RBd.ok rfl hg
    · rw [if_neg (show ¬ nI 11 - (9 : Int32) = 0 by decide +kernel), if_neg (show ¬ nI 11 - (9 : Int32) = 1 by decide +kernel), if_neg (show ¬ tK T n lim p = 137 by omega), if_neg (show ¬ tK T n lim p = 138 by omega), if_pos (show tK T n lim p = 139 ∨ tK T n lim p = 140 by omega)]
      exact RBd.kp (rin_ hg)
    · rw [if_neg (show ¬ nI 12 - (9 : Int32) = 0 by decide +kernel), if_neg (show ¬ nI 12 - (9 : Int32) = 1 by decide +kernel), if_neg (show ¬ tK T n lim p = 137 by omega), if_neg (show ¬ tK T n lim p = 138 by omega), if_pos (show tK T n lim p = 139 ∨ tK T n lim p = 140 by omega)]
      exact RBd.kp (rin_ hg)
  · have e9 := wd3A (x := x) h.1 g 4294967298 9 (Nat.le_refl _) (by decide) (by decide)
    have e9 : f_X10_readDoes__1_3 x 4294967298 (9 : Int32) o = ((f_X10_bad__1 (1 : Int32) o).1, (f_X10_bad__1 (1 : Int32) o).2) := e9
    rw [e9]
    unfold bVerb
    rw [if_neg (by omega), if_neg (by omega), if_neg (by omega)]
    exact RBd.bad (bad_R (c := 1) h.1 (by decide))
theorem wo11 : f_X10_wordOf__11 (13 : Int32) = f_X10_wordOf__7 (13 : Int32) := by decide +kernel
theorem wo12 : f_X10_wordOf__12 (14 : Int32) = f_X10_wordOf__7 (14 : Int32) := by decide +kernel
theorem wo13 : f_X10_wordOf__13 (15 : Int32) = f_X10_wordOf__7 (15 : Int32) := by decide +kernel
theorem iw11 (h : RT o T n lim p) : f_X10_isWord__6 (13 : Int32) o = if tK T n lim p = 141 then 1 else 0 := by
  have q : f_X10_isWord__4 (13 : Int32) o = if tK T n lim p = 141 then 1 else 0 := isWord_ (k := 13) h (by decide)
  rw [← q]
  unfold f_X10_isWord__6 f_X10_isWord__4
  rw [wo11]
theorem iw12 (h : RT o T n lim p) : f_X10_isWord__7 (14 : Int32) o = if tK T n lim p = 142 then 1 else 0 := by
  have q : f_X10_isWord__4 (14 : Int32) o = if tK T n lim p = 142 then 1 else 0 := isWord_ (k := 14) h (by decide)
  rw [← q]
  unfold f_X10_isWord__7 f_X10_isWord__4
  rw [wo12]
theorem iw13 (h : RT o T n lim p) : f_X10_isWord__8 (15 : Int32) o = if tK T n lim p = 143 then 1 else 0 := by
  have q : f_X10_isWord__4 (15 : Int32) o = if tK T n lim p = 143 then 1 else 0 := isWord_ (k := 15) h (by decide)
  rw [← q]
  unfold f_X10_isWord__8 f_X10_isWord__4
  rw [wo13]
/-- a line: what was told, then its end -/
def bLineE (T : Nat → Nat) (n lim : Nat) (S : (Nat × Nat) ⊕ Nat) : (Nat × Nat) ⊕ Nat := match S with
  | .inl e => .inl e
  | .inr p1 => if tK T n lim p1 ≠ 59 then .inl (sBad T n lim 1 p1) else .inr (tA T n lim p1)
theorem RBd.fin {r : OS × Int32} {S : (Nat × Nat) ⊕ Nat} (h : RBd T n lim R N l r S) : RBd T n lim R N l (if r.2 = 0 then (r.1, (0 : Int32)) else if (f_X10_readEnd__2 r.1).2 = (0 : Int32) then ((f_X10_readEnd__2 r.1).1, (0 : Int32)) else ((f_X10_readEnd__2 r.1).1, (1 : Int32))) (bLineE T n lim S) := by
  unfold bLineE
  cases S with
  | inl e =>
    have z := h.1 e rfl
    rw [if_pos z.1]
    exact RBd.bad ⟨rfl, z.2⟩
  | inr p1 =>
    have z := h.2 p1 rfl
    have q := rend5_ z.2
    rw [if_neg (ne1 z.1)]
    generalize f_X10_readEnd__2 r.1 = y at q ⊢
    try dsimp only
    by_cases k : tK T n lim p1 = 59
    · have w := q.2 k
      rw [if_neg (ne1 w.1), if_neg (nn k)]
      exact RBd.ok rfl w.2
    · have w := q.1 k
      rw [if_pos w.1, if_pos k]
      exact RBd.bad ⟨rfl, w.2⟩
/-- behind keep: its answer is what it was given -/
theorem RBd.finK {r : OS × Int32} {S : (Nat × Nat) ⊕ Nat} {x : Int32} (h : RBd T n lim R N l r S) : RBd T n lim R N l (if r.2 = 0 then (r.1, (0 : Int32)) else if (f_X10_readEnd__2 (f_X10_keep__7 x r.2 r.1).1).2 = (0 : Int32) then ((f_X10_readEnd__2 (f_X10_keep__7 x r.2 r.1).1).1, (0 : Int32)) else ((f_X10_readEnd__2 (f_X10_keep__7 x r.2 r.1).1).1, (1 : Int32))) (bLineE T n lim S) := by
  have q : RBd T n lim R N l ((f_X10_keep__7 x r.2 r.1).1, r.2) S := ⟨fun e z => by
    have w := h.1 e z
    refine ⟨w.1, ?_, ?_⟩
    · unfold f_X10_keep__7; exact w.2.1
    · unfold f_X10_keep__7; exact w.2.2, fun p1 z => ⟨(h.2 p1 z).1, kp_ (h.2 p1 z).2⟩⟩
  have f := q.fin
  cases S with
  | inl e =>
    have z := h.1 e rfl
    rw [if_pos z.1]
    exact RBd.bad ⟨rfl, z.2⟩
  | inr p1 =>
    have z := h.2 p1 rfl
    rw [if_neg (ne1 z.1)]
    have f : RBd T n lim R N l (if r.2 = 0 then ((f_X10_keep__7 x r.2 r.1).1, (0 : Int32)) else if (f_X10_readEnd__2 (f_X10_keep__7 x r.2 r.1).1).2 = (0 : Int32) then ((f_X10_readEnd__2 (f_X10_keep__7 x r.2 r.1).1).1, (0 : Int32)) else ((f_X10_readEnd__2 (f_X10_keep__7 x r.2 r.1).1).1, (1 : Int32))) (bLineE T n lim (.inr p1)) := f
    rw [if_neg (ne1 z.1)] at f
    exact f
theorem RBq.st3 {x y z : Int32} {i j k : Nat} (h : RBq T n lim R N o l p) (h0 : tK T n lim p ≠ 0) (h1 : tK T n lim p ≠ 1) : RBq T n lim R N (f_X10_go__2 (sA (sA (sA o 40 i x) 40 j y) 40 k z)) l (tA T n lim p) :=
  h.go (o' := sA (sA (sA o 40 i x) 40 j y) 40 k z) h0 h1 (fun _ _ => rfl) (by rw [sA_ne (by decide), sA_ne (by decide), sA_ne (by decide)]) (by rw [sA_ne (by decide), sA_ne (by decide), sA_ne (by decide)]) rfl
/-- what the reference's line tells -/
theorem rbl_ (h : RBq T n lim R N o l p) (hl : l ≤ 40) : RBd T n lim R N l (f_X10_readBookLine__1 o) (bLineE T n lim (bLine T n lim R N p l)) := by
  have b1 : RBad (f_X10_bad__1 (1 : Int32) o) (sBad T n lim 1 p) := bad_R (c := 1) h.1 (by decide)
  have b3 : RBad (f_X10_bad__1 (3 : Int32) o) (sBad T n lim 3 p) := bad_R (c := 3) h.1 (by decide)
  have b4 : RBad (f_X10_bad__1 (4 : Int32) o) (sBad T n lim 4 p) := bad_R (c := 4) h.1 (by decide)
  have c40 : o.1 42 = (40 : Int32) ↔ l = 40 := by
    rw [h.2.2.2]
    exact nI_eq (b := 40) (by omega) (by decide)
  unfold f_X10_readBookLine__1
  rw [iw11 h.1, iw12 h.1, iw13 h.1]
  by_cases g : 141 ≤ tK T n lim p ∧ tK T n lim p ≤ 143
  · have bl : bLine T n lim R N p l = if l = 40 then .inl (sBad T n lim 4 p) else bOther T n lim R N (tK T n lim p) (tA T n lim p) := if_pos g
    rw [bl]
    by_cases k9 : l = 40
    · rw [if_pos k9]
      rcases (show tK T n lim p = 141 ∨ tK T n lim p = 142 ∨ tK T n lim p = 143 by omega) with k | k | k
      · rw [if_pos k, if_neg one0, if_pos (c40.mpr k9)]
        exact RBd.bad b4
      · rw [if_neg (show ¬ tK T n lim p = 141 by omega), if_pos rfl, if_pos k, if_neg one0, if_pos (c40.mpr k9)]
        exact RBd.bad b4
      · rw [if_neg (show ¬ tK T n lim p = 141 by omega), if_pos rfl, if_neg (show ¬ tK T n lim p = 142 by omega), if_pos rfl, if_pos k, if_neg one0, if_pos (c40.mpr k9)]
        exact RBd.bad b4
    · rw [if_neg k9]
      rcases (show tK T n lim p = 141 ∨ tK T n lim p = 142 ∨ tK T n lim p = 143 by omega) with k | k | k
      · rw [if_pos k, if_neg one0, if_neg (fun z => k9 (c40.mp z))]
        have q := rpn_ (h.st3 (x := (4 : Int32)) (y := (0 : Int32)) (z := (0 : Int32)) (i := Int32.toNatClampNeg ((3 : Int32) * o.1 42)) (j := Int32.toNatClampNeg ((3 : Int32) * o.1 42 + 1)) (k := Int32.toNatClampNeg ((3 : Int32) * o.1 42 + 2)) (by omega) (by omega))
        generalize f_X10_readParcelName__1 (f_X10_go__2 (sA (sA (sA o 40 (Int32.toNatClampNeg ((3 : Int32) * o.1 42)) (4 : Int32)) 40 (Int32.toNatClampNeg ((3 : Int32) * o.1 42 + 1)) (0 : Int32)) 40 (Int32.toNatClampNeg ((3 : Int32) * o.1 42 + 2)) (0 : Int32))) = r at q ⊢
        have es : bOther T n lim R N (tK T n lim p) (tA T n lim p) = bAt (sOne T n lim 10 (ct R 2) N (tA T n lim p)) (tA T n lim (tA T n lim p)) := by
          unfold bOther bAt
          rw [if_neg (show ¬ tK T n lim p = 143 by omega)]
          cases sOne T n lim 10 (ct R 2) N (tA T n lim p) with
          | inl b => rfl
          | inr v => exact if_neg (show ¬ tK T n lim p = 142 by omega)
        rw [es]
        exact RBd.finK q
      · rw [if_neg (show ¬ tK T n lim p = 141 by omega), if_pos rfl, if_pos k, if_neg one0, if_neg (fun z => k9 (c40.mp z))]
        have q := rpn_ (h.st3 (x := (5 : Int32)) (y := (0 : Int32)) (z := (0 : Int32)) (i := Int32.toNatClampNeg ((3 : Int32) * o.1 42)) (j := Int32.toNatClampNeg ((3 : Int32) * o.1 42 + 1)) (k := Int32.toNatClampNeg ((3 : Int32) * o.1 42 + 2)) (by omega) (by omega))
        generalize f_X10_readParcelName__1 (f_X10_go__2 (sA (sA (sA o 40 (Int32.toNatClampNeg ((3 : Int32) * o.1 42)) (5 : Int32)) 40 (Int32.toNatClampNeg ((3 : Int32) * o.1 42 + 1)) (0 : Int32)) 40 (Int32.toNatClampNeg ((3 : Int32) * o.1 42 + 2)) (0 : Int32))) = r at q ⊢
        cases e : sOne T n lim 10 (ct R 2) N (tA T n lim p) with
        | inl b =>
          have z := q.1 b (by rw [e]; rfl)
          have es : bOther T n lim R N (tK T n lim p) (tA T n lim p) = .inl b := by
            unfold bOther
            rw [if_neg (show ¬ tK T n lim p = 143 by omega), e]
          rw [es, if_pos z.1]
          exact RBd.bad ⟨rfl, z.2⟩
        | inr v =>
          have z := q.2 (tA T n lim (tA T n lim p)) (by rw [e]; rfl)
          have es : bOther T n lim R N (tK T n lim p) (tA T n lim p) = bAt (sOne T n lim 6 (ct R 1) N (tA T n lim (tA T n lim p))) (tA T n lim (tA T n lim (tA T n lim p))) := by
            unfold bOther
            rw [if_neg (show ¬ tK T n lim p = 143 by omega), e]
            exact if_pos k
          have zk : RBq T n lim R N (f_X10_keep__7 ((3 : Int32) * o.1 42 + 1) r.2 r.1).1 l (tA T n lim (tA T n lim p)) := kp_ z.2
          rw [es, if_neg (ne1 z.1)]
          have q2 := rnm5_ (x := (6 : Int32)) (y := (f_X10_keep__7 ((3 : Int32) * o.1 42 + 1) r.2 r.1).1.2.2.1 14 (Int32.toNatClampNeg (1 : Int32))) (s := 1) (b := 6) (M := 4) zk (Or.inr (Or.inl ⟨rfl, rfl, rfl⟩)) rfl rfl
          exact RBd.finK q2
      · rw [if_neg (show ¬ tK T n lim p = 141 by omega), if_pos rfl, if_neg (show ¬ tK T n lim p = 142 by omega), if_pos rfl, if_pos k, if_neg one0, if_neg (fun z => k9 (c40.mp z))]
        have q := rn5_ (a := 1) (b := 60) (h.st3 (x := (6 : Int32)) (y := (0 : Int32)) (z := (0 : Int32)) (i := Int32.toNatClampNeg ((3 : Int32) * o.1 42)) (j := Int32.toNatClampNeg ((3 : Int32) * o.1 42 + 1)) (k := Int32.toNatClampNeg ((3 : Int32) * o.1 42 + 2)) (by omega) (by omega)) (by decide) (by decide)
        have es : bOther T n lim R N (tK T n lim p) (tA T n lim p) = (match sNum T n lim 1 60 (tA T n lim p) with
          | .inl e => .inl e
          | .inr (_, p1) => .inr p1) := if_pos k
        rw [es]
        have q2 : RBd T n lim R N l (f_X10_readNumber__7 (1 : Int32) (60 : Int32) (f_X10_go__2 (sA (sA (sA o 40 (Int32.toNatClampNeg ((3 : Int32) * o.1 42)) (6 : Int32)) 40 (Int32.toNatClampNeg ((3 : Int32) * o.1 42 + 1)) (0 : Int32)) 40 (Int32.toNatClampNeg ((3 : Int32) * o.1 42 + 2)) (0 : Int32)))) (match sNum T n lim 1 60 (tA T n lim p) with
          | .inl e => .inl e
          | .inr (_, p1) => .inr p1) := by
          cases e : sNum T n lim 1 60 (tA T n lim p) with
          | inl b => exact RBd.bad (q.1 b e)
          | inr w =>
            obtain ⟨v, p1⟩ := w
            exact RBd.ok (q.2 v p1 e).1 (q.2 v p1 e).2
        exact RBd.finK q2
  · rw [if_neg (show ¬ tK T n lim p = 141 by omega), if_pos rfl, if_neg (show ¬ tK T n lim p = 142 by omega), if_pos rfl, if_neg (show ¬ tK T n lim p = 143 by omega), if_pos rfl, isName_ h.1]
    have bl : bLine T n lim R N p l = (match sOne T n lim 16 (ct R 3) N p with
      | .inl e => .inl e
      | .inr _ => if l = 40 then .inl (sBad T n lim 4 p) else bVerb T n lim R N (tA T n lim p)) := if_neg g
    by_cases k2 : tK T n lim p = 2
    · have hs : SORT 3 16 8 := Or.inr (Or.inr (Or.inr ⟨rfl, rfl, rfl⟩))
      have hf : f_X10_findIn__9 (16 : Int32) (o.2.2.1 14 (Int32.toNatClampNeg (3 : Int32))) (o.2.1 12) (o.2.2.2 20) = fI (sFind N 16 (tW T n lim p) (ct R 3)) := findInN h.1 h.2.1 (Or.inl k2) hs
      have bM := (h.2.1 3 16 8 hs).2.2.1
      have ng := fI_neg (x := sFind N 16 (tW T n lim p) (ct R 3)) (fun j q => by have := sFind_lt _ _ q; omega)
      have e1 : sOne T n lim 16 (ct R 3) N p = (match sFind N 16 (tW T n lim p) (ct R 3) with
        | none => .inl (sBad T n lim 3 p)
        | some k => .inr k) := if_neg (nn k2)
      rw [if_pos k2, if_neg one0, hf]
      cases e : sFind N 16 (tW T n lim p) (ct R 3) with
      | none =>
        rw [e] at ng e1
        have e1 : sOne T n lim 16 (ct R 3) N p = .inl (sBad T n lim 3 p) := e1
        rw [e1] at bl
        have bl : bLine T n lim R N p l = .inl (sBad T n lim 3 p) := bl
        rw [if_pos (ng.mpr rfl), bl]
        exact RBd.bad b3
      | some v =>
        rw [e] at ng e1
        have e1 : sOne T n lim 16 (ct R 3) N p = .inr v := e1
        rw [e1] at bl
        have bl : bLine T n lim R N p l = if l = 40 then .inl (sBad T n lim 4 p) else bVerb T n lim R N (tA T n lim p) := bl
        rw [if_neg (fun q => by have := ng.mp q; cases this), bl]
        by_cases k9 : l = 40
        · rw [if_pos (c40.mpr k9), if_pos k9]
          exact RBd.bad b4
        · rw [if_neg (fun z => k9 (c40.mp z)), if_neg k9]
          exact RBd.fin (rdoes_ (h.st3 (by omega) (by omega)) _)
    · have e1 : sOne T n lim 16 (ct R 3) N p = .inl (sBad T n lim 1 p) := if_pos k2
      rw [e1] at bl
      have bl : bLine T n lim R N p l = .inl (sBad T n lim 1 p) := bl
      rw [if_neg k2, if_pos rfl, bl]
      exact RBd.bad b1
end RBOOK
