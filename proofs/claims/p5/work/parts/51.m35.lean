/-! the class's post and world, by the spec -/
theorem and1 (x : Int32) : x &&& 1 = 1 ∨ x &&& 1 = 0 := by
  have h : (x &&& 1).toBitVec = BitVec.setWidth 32 (BitVec.ofBool (x.toBitVec.getLsbD 0)) := BitVec.and_one_eq_setWidth_ofBool_getLsbD
  cases e : x.toBitVec.getLsbD 0
  · rw [e] at h; exact Or.inr (Int32.toBitVec_inj.mp h)
  · rw [e] at h; exact Or.inl (Int32.toBitVec_inj.mp h)
def AE (m off : Nat) (f R : Nat → Int32) : Prop := ∀ k, k < m → f k = R (off + k)
theorem AE.up {m off j : Nat} {f R : Nat → Int32} {v : Int32} (h : AE m off f R) (hj : j < off ∨ off + m ≤ j) : AE m off f (upd R j v) := fun k hk => by rw [pk_un (by omega)]; exact h k hk
theorem AE.set {m off i j : Nat} {f R : Nat → Int32} {v : Int32} (h : AE m off f R) (hj : j = off + i) : AE m off (upd f i v) (upd R j v) := fun k hk => by
  subst hj
  by_cases e : k = i
  · rw [e, pk_us, pk_us]
  · rw [pk_un e, pk_un (by omega)]; exact h k hk
theorem ct_up {R : Nat → Int32} {j s : Nat} {v : Int32} (h : s ≠ j) : ct (upd R j v) s = ct R s := by
  show (upd R j v s).toNatClampNeg = _
  rw [pk_un h]
  rfl
def STE (f R : Nat → Int32) : Prop := ∀ k, k < 8 → f k = if k < ct R 3 then R (40 + k) else -1
theorem STE.up {j : Nat} {f R : Nat → Int32} {v : Int32} (h : STE f R) (h3 : j ≠ 3) (hj : j < 40 ∨ 48 ≤ j) : STE f (upd R j v) := fun k hk => by rw [ct_up (by omega), pk_un (by omega)]; exact h k hk
theorem STE.set {j v : Nat} {f R : Nat → Int32} {x : Int32} (h : STE f R) (hv : v < ct R 3) (hj : j = 40 + v) : STE (upd f v x) (upd R j x) := fun k hk => by
  subst hj
  rw [ct_up (by omega)]
  by_cases e : k = v
  · rw [e, pk_us, if_pos hv, pk_us]
  · rw [pk_un e, pk_un (by omega)]; exact h k hk
theorem STE.inc {f R : Nat → Int32} (h : STE f R) (h8 : ct R 3 < 8) : STE f (upd (upd R (40 + ct R 3) (-1)) 3 (nI (ct R 3 + 1))) := fun k hk => by
  have ec : ct (upd (upd R (40 + ct R 3) (-1)) 3 (nI (ct R 3 + 1))) 3 = ct R 3 + 1 := by
    show (upd (upd R (40 + ct R 3) (-1)) 3 (nI (ct R 3 + 1)) 3).toNatClampNeg = _
    rw [pk_us, nI_clamp (by omega)]
  have q := h k hk
  rw [ec, pk_un (show 40 + k ≠ 3 by omega), q]
  by_cases e : k < ct R 3
  · rw [if_pos e, if_pos (by omega), pk_un (by omega)]
  · rw [if_neg e]
    by_cases e2 : k = ct R 3
    · rw [if_pos (by omega), e2, pk_us]
    · rw [if_neg (by omega)]
def HR (R : Nat → Int32) : Prop := ∀ k, k < 36 → ∃ v, v ≤ 99 ∧ R (48 + k) = nI v
theorem HR.up {j : Nat} {R : Nat → Int32} {v : Int32} (h : HR R) (hj : j < 48 ∨ 84 ≤ j) : HR (upd R j v) := fun k hk => by rw [pk_un (by omega)]; exact h k hk
theorem HR.set {j v : Nat} {R : Nat → Int32} (h : HR R) (hv : v ≤ 99) : HR (upd R j (nI v)) := fun k hk => by
  by_cases e : 48 + k = j
  · rw [e, pk_us]; exact ⟨v, hv, rfl⟩
  · rw [pk_un e]; exact h k hk
def F4 (s0 : OS) (R : Nat → Int32) : Prop := s0.1 5 = R 4 ∧ s0.1 6 = R 5 ∧ s0.1 7 = R 84 ∧ s0.1 8 = R 85
theorem F4.up {s0 : OS} {R : Nat → Int32} {j : Nat} {v : Int32} (h : F4 s0 R) (hj : j ≠ 4 ∧ j ≠ 5 ∧ j ≠ 84 ∧ j ≠ 85) : F4 s0 (upd R j v) := by
  unfold F4
  rw [pk_un (by omega), pk_un (by omega), pk_un (by omega), pk_un (by omega)]
  exact h
theorem CN.up {s0 : OS} {R : Nat → Int32} {N : Nat → Nat} {j : Nat} {v : Int32} (h : CN s0 R N) (hj : 4 ≤ j) : CN s0 (upd R j v) N := fun s b M hs => by
  have e1 : upd R j v s = R s := pk_un (by omega)
  rw [e1, ct_up (by omega)]
  exact h s b M hs
theorem CN.of {s0 s0' : OS} {R : Nat → Int32} {N : Nat → Nat} (h : CN s0 R N) (h1 : s0'.2.2.1 1 = s0.2.2.1 1) (h2 : s0'.2.2.2 0 = s0.2.2.2 0) : CN s0' R N := fun s b M hs => by
  rw [h1, h2]
  exact h s b M hs
theorem CN.inc {s0 : OS} {R : Nat → Int32} {N : Nat → Nat} {s b M w : Nat} (h : CN s0 R N) (hs : SORT s b M) (hlt : ct R s < M) (hw : w < 2 ^ 63) : CN (sA (sB s0 0 (8 * s + ct R s) (lN w)) 1 s (nI (ct R s + 1))) (upd R s (nI (ct R s + 1))) (ud N (b + ct R s) w) := fun s9 b9 m9 q => by
  obtain ⟨q1, q2, q3, q4⟩ := h s9 b9 m9 q
  have hA : ∀ j, (sA (sB s0 0 (8 * s + ct R s) (lN w)) 1 s (nI (ct R s + 1))).2.2.1 1 j = upd (s0.2.2.1 1) s (nI (ct R s + 1)) j := fun j => rfl
  have hB : ∀ j, (sA (sB s0 0 (8 * s + ct R s) (lN w)) 1 s (nI (ct R s + 1))).2.2.2 0 j = if j = 8 * s + ct R s then lN w else s0.2.2.2 0 j := fun j => rfl
  by_cases e : s9 = s
  · have eb : b9 = b ∧ m9 = M := by
      rcases hs with ⟨a, c, d⟩ | ⟨a, c, d⟩ | ⟨a, c, d⟩ | ⟨a, c, d⟩ <;> rcases q with ⟨a1, c1, d1⟩ | ⟨a1, c1, d1⟩ | ⟨a1, c1, d1⟩ | ⟨a1, c1, d1⟩ <;> exact ⟨by omega, by omega⟩
    have ec : ct (upd R s (nI (ct R s + 1))) s = ct R s + 1 := by
      show (upd R s (nI (ct R s + 1)) s).toNatClampNeg = _
      rw [pk_us, nI_clamp (by omega)]
    rw [e, eb.1] at q4
    rw [e, hA, pk_us, pk_us, ec, eb.1, eb.2]
    refine ⟨rfl, rfl, by omega, fun k hk => ?_⟩
    rw [hB]
    by_cases ek : k = ct R s
    · rw [ek, if_pos rfl, ud_eq]; exact ⟨rfl, hw⟩
    · rw [if_neg (by omega), ud_ne (by omega)]; exact q4 k (by omega)
  · rw [hA, pk_un e, pk_un e, ct_up e]
    refine ⟨q1, q2, q3, fun k hk => ?_⟩
    have ne : b9 + k ≠ b + ct R s := by
      rcases hs with ⟨rfl, rfl, rfl⟩ | ⟨rfl, rfl, rfl⟩ | ⟨rfl, rfl, rfl⟩ | ⟨rfl, rfl, rfl⟩ <;> rcases q with ⟨rfl, rfl, rfl⟩ | ⟨rfl, rfl, rfl⟩ | ⟨rfl, rfl, rfl⟩ | ⟨rfl, rfl, rfl⟩ <;> omega
    rw [hB, if_neg (by omega), ud_ne ne]
    exact q4 k hk
def CP (s0 s2 : OS) (R : Nat → Int32) (N : Nat → Nat) : Prop := CN s0 R N ∧ AE 6 6 (s0.2.2.1 2) R ∧ AE 6 12 (s0.2.2.1 3) R ∧ AE 8 32 (s0.2.2.1 4) R ∧ F4 s0 R ∧ AE 6 18 (s2.2.2.1 3) R ∧ AE 8 24 (s2.2.2.1 7) R ∧ AE 36 48 (s2.2.2.1 2) R ∧ STE (s2.2.2.1 8) R ∧ HR R
/-- a line's end in the class -/
def CO (T : Nat → Nat) (n lim : Nat) (r0 r1 r2 : OS) (S : PR) : Prop := (∀ e, S = .inl e → CF r1 e) ∧ ∀ p1 R1 N1, S = .inr (p1, R1, N1) → CTK r1 T n lim p1 ∧ CP r0 r2 R1 N1
theorem CO.bad {T : Nat → Nat} {n lim : Nat} {r0 r1 r2 : OS} {e : Nat × Nat} (h : CF r1 e) : CO T n lim r0 r1 r2 (.inl e) := ⟨fun e9 q => (by cases q; exact h), fun _ _ _ q => (by cases q)⟩
theorem CO.ok {T : Nat → Nat} {n lim p1 : Nat} {r0 r1 r2 : OS} {R1 : Nat → Int32} {N1 : Nat → Nat} (h1 : CTK r1 T n lim p1) (h2 : CP r0 r2 R1 N1) : CO T n lim r0 r1 r2 (.inr (p1, R1, N1)) := ⟨fun e9 q => (by cases q), fun _ _ _ q => (by cases q; exact ⟨h1, h2⟩)⟩
theorem if3 {α : Type} {c d : Prop} [Decidable c] [Decidable d] {X Y : α} (hd : ¬ d) : (if c then X else if d then Y else X) = X := by
  by_cases z : c
  · rw [if_pos z]
  · rw [if_neg z, if_neg hd]
theorem if22 {α : Type} {c : Prop} [Decidable c] {X : α} : (if c then X else X) = X := by
  by_cases z : c
  · rw [if_pos z]
  · rw [if_neg z]
theorem nI_m1 {k : Nat} (h : k < 100) : ¬ nI k = -1 := fun q => by
  have z : (nI k).toInt = ((-1 : Int32)).toInt := by rw [q]
  rw [nI_toInt (by omega)] at z
  have z2 : ((-1 : Int32)).toInt = -1 := by decide
  omega
theorem mjmax0 {v : Nat} (h : v < 2 ^ 31) : mjmax (0 : Int32) (nI v) = nI v := by
  unfold mjmax
  by_cases e : v = 0
  · rw [e]; rfl
  · rw [if_pos (show (0 : Int32) < nI v from nI_lt (a := 0) (by omega) h)]
section CLINES
variable {T : Nat → Nat} {n lim p : Nat} {s0 s1 s2 : OS} {R : Nat → Int32} {N : Nat → Nat}
theorem tk10 {x : Int32} (h : s1.1 10 = 0) : f_X7_takeName__12 x s1 s0 = f_X7_takeName__11 x s1 s0 := by
  unfold f_X7_takeName__12 f_X7_takeName__11
  rw [na10 h]
theorem cl_idea (h : CTK s1 T n lim (tA T n lim p)) (hP : CP s0 s2 R N) (hlt : ct R 0 < 6) : CO T n lim (f_X3_readNamed__4 (nI 0) s0 s1 s2).1 (f_X3_readNamed__4 (nI 0) s0 s1 s2).2.1 (f_X3_readNamed__4 (nI 0) s0 s1 s2).2.2 (sIdea T n lim R N p) := by
  have q := tellName_ (s := 0) (b := 0) (M := 6) h hP.1 (by omega)
  rw [Nat.zero_add] at q
  unfold f_X3_readNamed__4 sIdea
  rw [if_neg (show ¬ ct R 0 = 6 by omega)]
  generalize f_X3_tellName__4 (nI 0) s0 s1 = r at q ⊢
  cases e1 : sNew T n lim (ct R 0) R N (tA T n lim p) with
  | inl e =>
    obtain ⟨a1, a2, a3⟩ := q.1 e e1
    rw [if_neg (show ¬ r.2.2 = 0 by rw [a3]; decide), if_pos a3]
    exact CO.bad a2
  | inr w =>
    obtain ⟨p1, N1⟩ := w
    try dsimp only
    obtain ⟨a1, a2, a3, a4, a5⟩ := q.2 p1 N1 e1
    rw [tn10 a2.2, if3 (show ¬ r.2.2 = -1 by rw [a3]; exact nI_m1 (by omega))]
    have t : TN T n lim (f_X7_takeNumber__4 (1 : Int32) (60 : Int32) r.2.1) (sNum T n lim 1 60 p1) := tn0_ (a := 1) (b := 60) (by decide) (by decide) a2
    generalize f_X7_takeNumber__4 (1 : Int32) (60 : Int32) r.2.1 = y at t ⊢
    cases e2 : sNum T n lim 1 60 p1 with
    | inl e => exact CO.bad (t.1 e e2)
    | inr w =>
      obtain ⟨v, p2⟩ := w
      obtain ⟨b1, b2⟩ := t.2 v p2 e2
      try dsimp only
      rw [a1, a3, nI_clamp (by omega), b2, a4]
      obtain ⟨c1, c2, c3, c4, c5, c6, c7, c8, c9, c10⟩ := hP
      have ec : ct (upd R (6 + ct R 0) (nI v)) 0 = ct R 0 := ct_up (by omega)
      have cn := CN.inc (s := 0) (b := 0) (M := 6) (w := tW T n lim (tA T n lim p)) (c1.up (j := 6 + ct R 0) (v := nI v) (by omega)) (by omega) (by rw [ec]; exact hlt) a5
      rw [ec, Nat.zero_add] at cn
      exact CO.ok b1 ⟨cn.of rfl rfl, (c2.set (i := ct R 0) rfl).up (by omega), (c3.up (by omega)).up (by omega), (c4.up (by omega)).up (by omega), (c5.up (by omega)).up (by omega), (c6.up (by omega)).up (by omega), (c7.up (by omega)).up (by omega), (c8.up (by omega)).up (by omega), (c9.up (by omega) (by omega)).up (by omega) (by omega), (c10.up (by omega)).up (by omega)⟩
theorem cl_room (h : CTK s1 T n lim (tA T n lim p)) (hP : CP s0 s2 R N) (hlt : ct R 1 < 4) : CO T n lim (f_X3_readNamed__5 (nI 1) s0 s1 s2).1 (f_X3_readNamed__5 (nI 1) s0 s1 s2).2.1 (f_X3_readNamed__5 (nI 1) s0 s1 s2).2.2 (sRoom T n lim R N p) := by
  have q := tellName_ (s := 1) (b := 6) (M := 4) h hP.1 (by omega)
  unfold f_X3_readNamed__5 sRoom
  rw [if_neg (show ¬ ct R 1 = 4 by omega)]
  generalize f_X3_tellName__4 (nI 1) s0 s1 = r at q ⊢
  rw [if22, if22]
  cases e1 : sNew T n lim (6 + ct R 1) R N (tA T n lim p) with
  | inl e =>
    obtain ⟨a1, a2, a3⟩ := q.1 e e1
    exact CO.bad a2
  | inr w =>
    obtain ⟨p1, N1⟩ := w
    try dsimp only
    obtain ⟨a1, a2, a3, a4, a5⟩ := q.2 p1 N1 e1
    rw [a1, a4]
    obtain ⟨c1, c2, c3, c4, c5, c6, c7, c8, c9, c10⟩ := hP
    exact CO.ok a2 ⟨CN.inc (s := 1) (b := 6) (M := 4) c1 (by omega) hlt a5, c2.up (by omega), c3.up (by omega), c4.up (by omega), c5.up (by omega), c6.up (by omega), c7.up (by omega), c8.up (by omega), c9.up (by omega) (by omega), c10.up (by omega)⟩
theorem cl_parcel (h : CTK s1 T n lim (tA T n lim p)) (hP : CP s0 s2 R N) (hlt : ct R 2 < 6) : CO T n lim (f_X3_readNamed__6 (nI 2) s0 s1 s2).1 (f_X3_readNamed__6 (nI 2) s0 s1 s2).2.1 (f_X3_readNamed__6 (nI 2) s0 s1 s2).2.2 (sParcel T n lim R N p) := by
  have q := tellName_ (s := 2) (b := 10) (M := 6) h hP.1 (by omega)
  unfold f_X3_readNamed__6 sParcel
  rw [if_neg (show ¬ ct R 2 = 6 by omega)]
  generalize f_X3_tellName__4 (nI 2) s0 s1 = r at q ⊢
  rw [if22, if22]
  cases e1 : sNew T n lim (10 + ct R 2) R N (tA T n lim p) with
  | inl e =>
    obtain ⟨a1, a2, a3⟩ := q.1 e e1
    rw [if_neg (show ¬ r.2.2 = 0 by rw [a3]; decide), if_pos a3]
    exact CO.bad a2
  | inr w =>
    obtain ⟨p1, N1⟩ := w
    try dsimp only
    obtain ⟨a1, a2, a3, a4, a5⟩ := q.2 p1 N1 e1
    rw [tk10 a2.2, if3 (show ¬ r.2.2 = -1 by rw [a3]; exact nI_m1 (by omega))]
    obtain ⟨c1, c2, c3, c4, c5, c6, c7, c8, c9, c10⟩ := hP
    have cn0 := CN.inc (s := 2) (b := 10) (M := 6) (w := tW T n lim (tA T n lim p)) c1 (by omega) hlt a5
    have t := tk0_ (s := 1) (b := 6) (M := 4) a2 cn0 (by omega)
    rw [ct_up (show (1 : Nat) ≠ 2 by decide), ← a4, ← a1] at t
    have t : NA T n lim (f_X7_takeName__11 (1 : Int32) r.2.1 r.1) r.1 (sOne T n lim 6 (ct R 1) N1 p1) (tA T n lim p1) (ct R 1) := t
    generalize f_X7_takeName__11 (1 : Int32) r.2.1 r.1 = y at t ⊢
    cases e2 : sOne T n lim 6 (ct R 1) N1 p1 with
    | inl e => exact CO.bad (t.2.1 e e2).1
    | inr v =>
      obtain ⟨b1, b2, b3⟩ := t.2.2 v e2
      have m1 := (c1 1 6 4 (by omega)).2.2.1
      try dsimp only
      rw [t.1, a1, a3, nI_clamp (by omega), b2, a4, mjmax0 (by omega)]
      have ec : ct (upd R (18 + ct R 2) (nI v)) 2 = ct R 2 := ct_up (by omega)
      have cn := CN.inc (s := 2) (b := 10) (M := 6) (w := tW T n lim (tA T n lim p)) (c1.up (j := 18 + ct R 2) (v := nI v) (by omega)) (by omega) (by rw [ec]; exact hlt) a5
      rw [ec] at cn
      exact CO.ok b1 ⟨cn, (c2.up (by omega)).up (by omega), (c3.up (by omega)).up (by omega), (c4.up (by omega)).up (by omega), (c5.up (by omega)).up (by omega), (c6.set (i := ct R 2) rfl).up (by omega), (c7.up (by omega)).up (by omega), (c8.up (by omega)).up (by omega), (c9.up (by omega) (by omega)).up (by omega) (by omega), (c10.up (by omega)).up (by omega)⟩
theorem cl_person (h : CTK s1 T n lim (tA T n lim p)) (hP : CP s0 s2 R N) (hlt : ct R 3 < 8) : CO T n lim (f_X3_readNamed__7 (nI 3) s0 s1 s2).1 (f_X3_readNamed__7 (nI 3) s0 s1 s2).2.1 (f_X3_readNamed__7 (nI 3) s0 s1 s2).2.2 (sPerson T n lim R N p) := by
  have q := tellName_ (s := 3) (b := 16) (M := 8) h hP.1 (by omega)
  unfold f_X3_readNamed__7 sPerson
  rw [if_neg (show ¬ ct R 3 = 8 by omega)]
  generalize f_X3_tellName__4 (nI 3) s0 s1 = r at q ⊢
  cases e1 : sNew T n lim (16 + ct R 3) R N (tA T n lim p) with
  | inl e =>
    obtain ⟨a1, a2, a3⟩ := q.1 e e1
    rw [if_neg (show ¬ r.2.2 = 0 by rw [a3]; decide), if_pos a3]
    exact CO.bad a2
  | inr w =>
    obtain ⟨p1, N1⟩ := w
    try dsimp only
    obtain ⟨a1, a2, a3, a4, a5⟩ := q.2 p1 N1 e1
    rw [tk10 a2.2, if3 (show ¬ r.2.2 = -1 by rw [a3]; exact nI_m1 (by omega))]
    obtain ⟨c1, c2, c3, c4, c5, c6, c7, c8, c9, c10⟩ := hP
    have cn0 := CN.inc (s := 3) (b := 16) (M := 8) (w := tW T n lim (tA T n lim p)) c1 (by omega) hlt a5
    have t := tk0_ (s := 0) (b := 0) (M := 6) a2 cn0 (by omega)
    rw [ct_up (show (0 : Nat) ≠ 3 by decide), ← a4, ← a1] at t
    have t : NA T n lim (f_X7_takeName__11 (0 : Int32) r.2.1 r.1) r.1 (sOne T n lim 0 (ct R 0) N1 p1) (tA T n lim p1) (ct R 0) := t
    generalize f_X7_takeName__11 (0 : Int32) r.2.1 r.1 = y at t ⊢
    cases e2 : sOne T n lim 0 (ct R 0) N1 p1 with
    | inl e =>
      have z := t.2.1 e e2
      rw [if_pos (show (y.2.2).toInt < 0 by rw [z.2]; decide)]
      exact CO.bad z.1
    | inr v =>
      obtain ⟨b1, b2, b3⟩ := t.2.2 v e2
      have m1 := (c1 0 0 6 (by omega)).2.2.1
      try dsimp only
      rw [if_neg (show ¬ (y.2.2).toInt < 0 by rw [b2, nI_toInt (by omega)]; omega)]
      have u : TN T n lim (f_X7_takeNumber__5 (1 : Int32) (9 : Int32) y.1) (sNum T n lim 1 9 (tA T n lim p1)) := tn1_ (a := 1) (b := 9) (by decide) (by decide) b1
      generalize f_X7_takeNumber__5 (1 : Int32) (9 : Int32) y.1 = x at u ⊢
      cases e3 : sNum T n lim 1 9 (tA T n lim p1) with
      | inl e => exact CO.bad (u.1 e e3)
      | inr w =>
        obtain ⟨k, p2⟩ := w
        obtain ⟨d1, d2⟩ := u.2 k p2 e3
        try dsimp only
        rw [t.1, a1, a3, nI_clamp (by omega), b2, a4, d2, mjmax0 (by omega)]
        have ec : ct (upd (upd (upd R (24 + ct R 3) (nI v)) (32 + ct R 3) (nI k)) (40 + ct R 3) (-1)) 3 = ct R 3 := by rw [ct_up (by omega), ct_up (by omega), ct_up (by omega)]
        have ec2 : ct (upd (upd R (24 + ct R 3) (nI v)) (32 + ct R 3) (nI k)) 3 = ct R 3 := by rw [ct_up (by omega), ct_up (by omega)]
        have cn := CN.inc (s := 3) (b := 16) (M := 8) (w := tW T n lim (tA T n lim p)) (((c1.up (j := 24 + ct R 3) (v := nI v) (by omega)).up (j := 32 + ct R 3) (v := nI k) (by omega)).up (j := 40 + ct R 3) (v := -1) (by omega)) (by omega) (by rw [ec]; exact hlt) a5
        rw [ec] at cn
        have se := STE.inc ((c9.up (j := 24 + ct R 3) (v := nI v) (by omega) (by omega)).up (j := 32 + ct R 3) (v := nI k) (by omega) (by omega)) (by rw [ec2]; exact hlt)
        rw [ec2] at se
        exact CO.ok d1 ⟨cn.of rfl rfl, (((c2.up (by omega)).up (by omega)).up (by omega)).up (by omega), (((c3.up (by omega)).up (by omega)).up (by omega)).up (by omega), (((c4.up (by omega)).set (i := ct R 3) rfl).up (by omega)).up (by omega), (((c5.up (by omega)).up (by omega)).up (by omega)).up (by omega), (((c6.up (by omega)).up (by omega)).up (by omega)).up (by omega), (((c7.set (i := ct R 3) rfl).up (by omega)).up (by omega)).up (by omega), (((c8.up (by omega)).up (by omega)).up (by omega)).up (by omega), se, (((c10.up (by omega)).up (by omega)).up (by omega)).up (by omega)⟩
theorem st27_bad {x : Int32} {e : Nat × Nat} (h : CF s1 e) : CF (f_X3_readSits__1_27 x s0 s1 s2).2.1 e := by
  unfold f_X3_readSits__1_27
  rw [ps6_bad h, tk1_bad h]
  (repeat' split) <;> exact h
theorem cl_sits (h : CTK s1 T n lim (tA T n lim p)) (hP : CP s0 s2 R N) : CO T n lim (f_X3_readSits__1 s0 s1 s2).1 (f_X3_readSits__1 s0 s1 s2).2.1 (f_X3_readSits__1 s0 s1 s2).2.2 (sSits T n lim R N p) := by
  have t : NA T n lim (f_X7_nameAhead__13 (3 : Int32) s1 s0) s0 (sOne T n lim 16 (ct R 3) N (tA T n lim p)) (tA T n lim p) (ct R 3) := na1_ (s := 3) (b := 16) (M := 8) h hP.1 (by omega)
  unfold f_X3_readSits__1 sSits
  generalize f_X7_nameAhead__13 (3 : Int32) s1 s0 = r at t ⊢
  obtain ⟨c1, c2, c3, c4, c5, c6, c7, c8, c9, c10⟩ := hP
  have m3 := (c1 3 16 8 (by omega)).2.2.1
  have m2 := (c1 2 10 6 (by omega)).2.2.1
  cases e1 : sOne T n lim 16 (ct R 3) N (tA T n lim p) with
  | inl e =>
    have z := t.2.1 e e1
    rw [if_pos (show (r.2.2).toInt < 0 by rw [z.2]; decide)]
    exact CO.bad (st27_bad z.1)
  | inr v =>
    obtain ⟨b1, b2, b3⟩ := t.2.2 v e1
    have k2 := sOne_2 e1
    try dsimp only
    have es : s2.2.2.1 8 v = R (40 + v) := by rw [c9 v (by omega), if_pos b3]
    rw [if_neg (show ¬ (r.2.2).toInt < 0 by rw [b2, nI_toInt (by omega)]; omega), t.1, b2, nI_clamp (by omega), es]
    by_cases e3 : R (40 + v) = -1
    · rw [if_pos e3, if_neg (show ¬ R (40 + v) ≠ -1 from fun z => z e3)]
      unfold f_X3_readSits__1_27
      have u : NA T n lim (f_X7_takeName__12 (2 : Int32) (f_X7_pass__6 r.1) s0) s0 (sOne T n lim 10 (ct R 2) N (tA T n lim (tA T n lim p))) (tA T n lim (tA T n lim (tA T n lim p))) (ct R 2) := tk1_ (s := 2) (b := 10) (M := 6) (ps6_ b1 (by omega) (by omega)) c1 (by omega)
      generalize f_X7_takeName__12 (2 : Int32) (f_X7_pass__6 r.1) s0 = y at u ⊢
      rw [if22, if_neg (nI_m1 (by omega)), nI_clamp (by omega)]
      cases e4 : sOne T n lim 10 (ct R 2) N (tA T n lim (tA T n lim p)) with
      | inl e => exact CO.bad (u.2.1 e e4).1
      | inr w =>
        obtain ⟨d1, d2, d3⟩ := u.2.2 w e4
        try dsimp only
        rw [u.1, d2]
        exact CO.ok d1 ⟨c1.up (by omega), c2.up (by omega), c3.up (by omega), c4.up (by omega), c5.up (by omega), c6.up (by omega), c7.up (by omega), c8.up (by omega), c9.set b3 rfl, c10.up (by omega)⟩
    · rw [if_neg e3, if_pos (show R (40 + v) ≠ -1 from e3)]
      exact CO.bad (st27_bad (rf0_ (c := 3) b1 (by decide) (by decide) (fun z => by omega)))
theorem cl_has (h : CTK s1 T n lim (tA T n lim p)) (hP : CP s0 s2 R N) : CO T n lim (f_X3_readHas__1 s0 s1 s2).1 (f_X3_readHas__1 s0 s1 s2).2.1 (f_X3_readHas__1 s0 s1 s2).2.2 (sHas T n lim R N p) := by
  have t : NA T n lim (f_X7_takeName__12 (2 : Int32) s1 s0) s0 (sOne T n lim 10 (ct R 2) N (tA T n lim p)) (tA T n lim (tA T n lim p)) (ct R 2) := tk1_ (s := 2) (b := 10) (M := 6) h hP.1 (by omega)
  unfold f_X3_readHas__1 sHas
  generalize f_X7_takeName__12 (2 : Int32) s1 s0 = r at t ⊢
  obtain ⟨c1, c2, c3, c4, c5, c6, c7, c8, c9, c10⟩ := hP
  have m2 := (c1 2 10 6 (by omega)).2.2.1
  have m0 := (c1 0 0 6 (by omega)).2.2.1
  cases e1 : sOne T n lim 10 (ct R 2) N (tA T n lim p) with
  | inl e =>
    have z := t.2.1 e e1
    rw [if_pos (show (r.2.2).toInt < 0 by rw [z.2]; decide)]
    exact CO.bad z.1
  | inr a =>
    obtain ⟨b1, b2, b3⟩ := t.2.2 a e1
    try dsimp only
    rw [if_neg (show ¬ (r.2.2).toInt < 0 by rw [b2, nI_toInt (by omega)]; omega), t.1]
    have u : NA T n lim (f_X7_nameAhead__13 (0 : Int32) r.1 s0) s0 (sOne T n lim 0 (ct R 0) N (tA T n lim (tA T n lim p))) (tA T n lim (tA T n lim p)) (ct R 0) := na1_ (s := 0) (b := 0) (M := 6) b1 c1 (by omega)
    generalize f_X7_nameAhead__13 (0 : Int32) r.1 s0 = y at u ⊢
    cases e2 : sOne T n lim 0 (ct R 0) N (tA T n lim (tA T n lim p)) with
    | inl e =>
      have z := u.2.1 e e2
      rw [if_pos (show (y.2.2).toInt < 0 by rw [z.2]; decide)]
      exact CO.bad z.1
    | inr i =>
      obtain ⟨d1, d2, d3⟩ := u.2.2 i e2
      have k2 := sOne_2 e2
      try dsimp only
      have hx : Int32.toNatClampNeg (nI a * (6 : Int32) + nI i) = 6 * a + i := by
        show Int32.toNatClampNeg (nI a * nI 6 + nI i) = _
        rw [pk_mul, nI_add, nI_clamp (by omega)]
        omega
      have e48 : 48 + (6 * a + i) = 48 + 6 * a + i := by omega
      have hh : s2.2.2.1 2 (6 * a + i) = R (48 + 6 * a + i) := by rw [c8 (6 * a + i) (by omega), e48]
      obtain ⟨w, w9, ew⟩ := c10 (6 * a + i) (by omega)
      rw [e48] at ew
      unfold f_X8_has__1 f_X8_put__1
      rw [if_neg (show ¬ (y.2.2).toInt < 0 by rw [d2, nI_toInt (by omega)]; omega), u.1, b2, d2, hx, hh]
      have cz : R (48 + 6 * a + i) = 0 ↔ w = 0 := by rw [ew]; exact nI_eq (a := w) (b := 0) (by omega) (by decide)
      by_cases e3 : w = 0
      · rw [if_pos (show R (48 + 6 * a + i) ≤ (0 : Int32) by rw [ew, e3]; decide), if_neg (show ¬ R (48 + 6 * a + i) ≠ 0 from fun z => z (cz.mpr e3))]
        have g : TN T n lim (f_X7_takeNumber__5 (1 : Int32) (99 : Int32) (f_X7_pass__6 y.1)) (sNum T n lim 1 99 (tA T n lim (tA T n lim (tA T n lim p)))) := tn1_ (a := 1) (b := 99) (by decide) (by decide) (ps6_ d1 (by omega) (by omega))
        generalize f_X7_takeNumber__5 (1 : Int32) (99 : Int32) (f_X7_pass__6 y.1) = x at g ⊢
        cases e4 : sNum T n lim 1 99 (tA T n lim (tA T n lim (tA T n lim p))) with
        | inl e => exact CO.bad (g.1 e e4)
        | inr z =>
          obtain ⟨v, p1⟩ := z
          obtain ⟨f1, f2⟩ := g.2 v p1 e4
          have v9 : v ≤ 99 := by
            unfold sNum at e4
            by_cases z1 : tK T n lim (tA T n lim (tA T n lim (tA T n lim p))) = 3
            · rw [if_neg (nn z1)] at e4
              by_cases z2 : 1 ≤ tNu T n lim (tA T n lim (tA T n lim (tA T n lim p))) ∧ tNu T n lim (tA T n lim (tA T n lim (tA T n lim p))) ≤ 99
              · rw [if_neg (fun q => q z2)] at e4
                cases e4
                omega
              · rw [if_pos z2] at e4; cases e4
            · rw [if_pos z1] at e4; cases e4
          have hm : mjmax (0 : Int32) (mjmin (99 : Int32) (nI v)) = nI v := by
            have h1 : mjmin (99 : Int32) (nI v) = nI v := by
              unfold mjmin
              by_cases z : v = 99
              · rw [z]; rfl
              · rw [if_pos (show nI v < (99 : Int32) from nI_lt (b := 99) (by omega) (by decide))]
            rw [h1, mjmax0 (by omega)]
          try dsimp only
          rw [f2, hm]
          exact CO.ok f1 ⟨c1.up (by omega), c2.up (by omega), c3.up (by omega), c4.up (by omega), c5.up (by omega), c6.up (by omega), c7.up (by omega), c8.set (by omega), c9.up (by omega) (by omega), c10.set v9⟩
      · rw [if_neg (show ¬ R (48 + 6 * a + i) ≤ (0 : Int32) by rw [ew]; exact nI_ge (a := 0) (by omega) (by omega)), if_pos (show R (48 + 6 * a + i) ≠ 0 from fun z => e3 (cz.mp z))]
        exact CO.bad (rf0_ (c := 3) d1 (by decide) (by decide) (fun z => by omega))
theorem cl_quarrel (h : CTK s1 T n lim (tA T n lim p)) (hP : CP s0 s2 R N) : CO T n lim (f_X3_readQuarrel__1 s0 s1).1 (f_X3_readQuarrel__1 s0 s1).2 s2 (sQuarrel T n lim R N p) := by
  have t : NA T n lim (f_X7_takeName__12 (0 : Int32) s1 s0) s0 (sOne T n lim 0 (ct R 0) N (tA T n lim p)) (tA T n lim (tA T n lim p)) (ct R 0) := tk1_ (s := 0) (b := 0) (M := 6) h hP.1 (by omega)
  unfold f_X3_readQuarrel__1 sQuarrel
  generalize f_X7_takeName__12 (0 : Int32) s1 s0 = r at t ⊢
  obtain ⟨c1, c2, c3, c4, c5, c6, c7, c8, c9, c10⟩ := hP
  have m0 := (c1 0 0 6 (by omega)).2.2.1
  cases e1 : sOne T n lim 0 (ct R 0) N (tA T n lim p) with
  | inl e =>
    have z := t.2.1 e e1
    rw [if_pos (show (r.2.2).toInt < 0 by rw [z.2]; decide)]
    exact CO.bad z.1
  | inr i =>
    obtain ⟨b1, b2, b3⟩ := t.2.2 i e1
    try dsimp only
    rw [if_neg (show ¬ (r.2.2).toInt < 0 by rw [b2, nI_toInt (by omega)]; omega), t.1]
    have u : NA T n lim (f_X7_nameAhead__13 (0 : Int32) r.1 s0) s0 (sOne T n lim 0 (ct R 0) N (tA T n lim (tA T n lim p))) (tA T n lim (tA T n lim p)) (ct R 0) := na1_ (s := 0) (b := 0) (M := 6) b1 c1 (by omega)
    generalize f_X7_nameAhead__13 (0 : Int32) r.1 s0 = y at u ⊢
    cases e2 : sOne T n lim 0 (ct R 0) N (tA T n lim (tA T n lim p)) with
    | inl e =>
      have z := u.2.1 e e2
      rw [if_pos (show (y.2.2).toInt < 0 by rw [z.2]; decide)]
      exact CO.bad z.1
    | inr j =>
      obtain ⟨d1, d2, d3⟩ := u.2.2 j e2
      have k2 := sOne_2 e2
      try dsimp only
      unfold f_X3_quarrel__1
      rw [if_neg (show ¬ (y.2.2).toInt < 0 by rw [d2, nI_toInt (by omega)]; omega), u.1, b2, d2, nI_clamp (show i < 2 ^ 31 by omega), nI_clamp (show j < 2 ^ 31 by omega), c3 i (by omega)]
      have ce := nI_eq (a := i) (b := j) (by omega) (by omega)
      have hb : CF (f_X7_refuse__4 (3 : Int32) y.1) (sBad T n lim 3 (tA T n lim (tA T n lim p))) := rf0_ (c := 3) d1 (by decide) (by decide) (fun z => by omega)
      by_cases e3 : j = i
      · rw [if_pos (ce.mpr e3.symm), if_pos (show j = i ∨ (R (12 + i) >>> (nI j &&& 31)) &&& 1 = 1 from Or.inl e3)]
        exact CO.bad hb
      · rw [if_neg (fun q => e3 (ce.mp q).symm)]
        rcases and1 (R (12 + i) >>> (nI j &&& 31)) with e4 | e4
        · rw [if_pos (show j = i ∨ (R (12 + i) >>> (nI j &&& 31)) &&& 1 = 1 from Or.inr e4), if_neg (show ¬ ((R (12 + i) >>> (nI j &&& 31)) &&& 1 = 0) by rw [e4]; decide), if_neg one0]
          exact CO.bad hb
        · rw [if_neg (show ¬ (j = i ∨ (R (12 + i) >>> (nI j &&& 31)) &&& 1 = 1) from fun q => q.elim e3 (fun z => by rw [e4] at z; exact absurd z (by decide))), if_pos (show ((R (12 + i) >>> (nI j &&& 31)) &&& 1 = 0) from e4), if_pos rfl]
          have f1 := c3.set (i := i) (v := R (12 + i) ||| ((1 : Int32) <<< (nI j &&& 31))) rfl
          have hr : (sA s0 3 i (R (12 + i) ||| ((1 : Int32) <<< (nI j &&& 31)))).2.2.1 3 j = R (12 + j) := by
            rw [sA_get, pk_un e3, c3 j (by omega)]
          rw [hr]
          have f2 := f1.set (i := j) (v := R (12 + j) ||| ((1 : Int32) <<< (nI i &&& 31))) rfl
          exact CO.ok (ps6_ d1 (by omega) (by omega)) ⟨((c1.up (by omega)).up (by omega)).of rfl rfl, (c2.up (by omega)).up (by omega), f2, (c4.up (by omega)).up (by omega), (c5.up (by omega)).up (by omega), (c6.up (by omega)).up (by omega), (c7.up (by omega)).up (by omega), (c8.up (by omega)).up (by omega), (c9.up (by omega) (by omega)).up (by omega) (by omega), (c10.up (by omega)).up (by omega)⟩
end CLINES
