/-! the class's read, by the spec -/
theorem tA_gt {T : Nat → Nat} {n lim p : Nat} (h0 : tK T n lim p ≠ 0) (h1 : tK T n lim p ≠ 1) : p < tA T n lim p := by
  have q := tok_inside h0 h1
  have hb := (tB0_le T (tStop n lim) (tStop n lim - p) p rfl).1
  have e : tB T n lim p = tB0 T (tStop n lim) p := by
    have q1 := q.1
    unfold tB at q1 ⊢
    by_cases e : tStop n lim ≤ tB0 T (tStop n lim) p
    · rw [if_pos e] at q1; omega
    · rw [if_neg e]
  unfold tA
  by_cases e3 : tLt (T (tB T n lim p)) ∨ tDg (T (tB T n lim p))
  · rw [if_pos e3, tE_in q.2.1 e3]
    have z := (tE_le (T := T) (n := n) (n - (tB T n lim p + 1)) (tB T n lim p + 1) rfl).1
    omega
  · rw [if_neg e3]; omega
theorem tK_0 {T : Nat → Nat} {n lim p : Nat} (h : tK T n lim p = 0) : tStop n lim ≤ tB0 T (tStop n lim) p ∧ ¬ lim < n := by
  have k2 := tKw_2 (tW T n lim p)
  unfold tK at h
  by_cases e : tStop n lim ≤ tB0 T (tStop n lim) p
  · rw [if_pos e] at h
    by_cases z : lim < n
    · rw [if_pos z] at h; omega
    · exact ⟨e, z⟩
  · rw [if_neg e] at h
    exfalso
    by_cases e3 : tLt (T (tB T n lim p)) ∨ tDg (T (tB T n lim p))
    · rw [if_pos e3] at h
      by_cases e4 : nLt T (tB T n lim p) (tLen T n lim p) = 0 ∧ tLen T n lim p ≤ 3
      · rw [if_pos e4] at h; omega
      · rw [if_neg e4] at h
        by_cases e5 : nDg T (tB T n lim p) (tLen T n lim p) = 0 ∧ tLen T n lim p ≤ 7
        · rw [if_pos e5] at h; omega
        · rw [if_neg e5] at h; omega
    · rw [if_neg e3] at h
      by_cases e4 : tSg (T (tB T n lim p))
      · rw [if_pos e4] at h; omega
      · rw [if_neg e4] at h; omega
theorem sNew_p {T : Nat → Nat} {n lim p slot p1 : Nat} {R : Nat → Int32} {N N1 : Nat → Nat} (h : sNew T n lim slot R N p = .inr (p1, N1)) : p < p1 := by
  unfold sNew at h
  by_cases e : tK T n lim p = 2
  · rw [if_neg (nn e)] at h
    by_cases e2 : sTaken R N (tW T n lim p)
    · rw [if_pos e2] at h; cases h
    · rw [if_neg e2] at h; cases h; exact tA_gt (by omega) (by omega)
  · rw [if_pos e] at h; cases h
theorem sNum_p {T : Nat → Nat} {n lim p a b v p1 : Nat} (h : sNum T n lim a b p = .inr (v, p1)) : p < p1 := by
  unfold sNum at h
  by_cases e : tK T n lim p = 3
  · rw [if_neg (nn e)] at h
    by_cases e2 : a ≤ tNu T n lim p ∧ tNu T n lim p ≤ b
    · rw [if_neg (fun q => q e2)] at h; cases h; exact tA_gt (by omega) (by omega)
    · rw [if_pos e2] at h; cases h
  · rw [if_pos e] at h; cases h
theorem sOne_p {T : Nat → Nat} {n lim p b m k : Nat} {N : Nat → Nat} (h : sOne T n lim b m N p = .inr k) : p < tA T n lim p := by
  have q := sOne_2 h
  exact tA_gt (by omega) (by omega)
section CREAD
variable {T : Nat → Nat} {n lim p : Nat} {R : Nat → Int32} {N : Nat → Nat}
theorem sIdea_p {p1 : Nat} {R1 : Nat → Int32} {N1 : Nat → Nat} (h9 : p < tA T n lim p) (h : sIdea T n lim R N p = .inr (p1, R1, N1)) : p < p1 := by
  unfold sIdea at h
  by_cases z0 : ct R 0 = 6
  · rw [if_pos z0] at h; cases h
  rw [if_neg z0] at h
  cases e1 : sNew T n lim (ct R 0) R N (tA T n lim p) with
  | inl b => rw [e1] at h; cases h
  | inr w =>
    obtain ⟨p2, N2⟩ := w
    rw [e1] at h
    try dsimp only at h
    have u_e1 := sNew_p e1
    cases e2 : sNum T n lim 1 60 p2 with
    | inl b => rw [e2] at h; cases h
    | inr w =>
      obtain ⟨v, p3⟩ := w
      rw [e2] at h
      try dsimp only at h
      have u_e2 := sNum_p e2
      cases h
      omega
theorem sRoom_p {p1 : Nat} {R1 : Nat → Int32} {N1 : Nat → Nat} (h9 : p < tA T n lim p) (h : sRoom T n lim R N p = .inr (p1, R1, N1)) : p < p1 := by
  unfold sRoom at h
  by_cases z0 : ct R 1 = 4
  · rw [if_pos z0] at h; cases h
  rw [if_neg z0] at h
  cases e1 : sNew T n lim (6 + ct R 1) R N (tA T n lim p) with
  | inl b => rw [e1] at h; cases h
  | inr w =>
    obtain ⟨p2, N2⟩ := w
    rw [e1] at h
    try dsimp only at h
    have u_e1 := sNew_p e1
    cases h
    omega
theorem sParcel_p {p1 : Nat} {R1 : Nat → Int32} {N1 : Nat → Nat} (h9 : p < tA T n lim p) (h : sParcel T n lim R N p = .inr (p1, R1, N1)) : p < p1 := by
  unfold sParcel at h
  by_cases z0 : ct R 2 = 6
  · rw [if_pos z0] at h; cases h
  rw [if_neg z0] at h
  cases e1 : sNew T n lim (10 + ct R 2) R N (tA T n lim p) with
  | inl b => rw [e1] at h; cases h
  | inr w =>
    obtain ⟨p2, N2⟩ := w
    rw [e1] at h
    try dsimp only at h
    have u_e1 := sNew_p e1
    cases e2 : sOne T n lim 6 (ct R 1) N2 p2 with
    | inl b => rw [e2] at h; cases h
    | inr w =>
      rw [e2] at h
      try dsimp only at h
      have u_e2 := sOne_p e2
      cases h
      omega
theorem sPerson_p {p1 : Nat} {R1 : Nat → Int32} {N1 : Nat → Nat} (h9 : p < tA T n lim p) (h : sPerson T n lim R N p = .inr (p1, R1, N1)) : p < p1 := by
  unfold sPerson at h
  by_cases z0 : ct R 3 = 8
  · rw [if_pos z0] at h; cases h
  rw [if_neg z0] at h
  cases e1 : sNew T n lim (16 + ct R 3) R N (tA T n lim p) with
  | inl b => rw [e1] at h; cases h
  | inr w =>
    obtain ⟨p2, N2⟩ := w
    rw [e1] at h
    try dsimp only at h
    have u_e1 := sNew_p e1
    cases e2 : sOne T n lim 0 (ct R 0) N2 p2 with
    | inl b => rw [e2] at h; cases h
    | inr w =>
      rw [e2] at h
      try dsimp only at h
      have u_e2 := sOne_p e2
      cases e3 : sNum T n lim 1 9 (tA T n lim p2) with
      | inl b => rw [e3] at h; cases h
      | inr w =>
        obtain ⟨v, p3⟩ := w
        rw [e3] at h
        try dsimp only at h
        have u_e3 := sNum_p e3
        cases h
        omega
theorem sSits_p {p1 : Nat} {R1 : Nat → Int32} {N1 : Nat → Nat} (h9 : p < tA T n lim p) (h : sSits T n lim R N p = .inr (p1, R1, N1)) : p < p1 := by
  unfold sSits at h
  cases e1 : sOne T n lim 16 (ct R 3) N (tA T n lim p) with
  | inl b => rw [e1] at h; cases h
  | inr w =>
    rw [e1] at h
    try dsimp only at h
    have u_e1 := sOne_p e1
    by_cases z0 : R (40 + w) ≠ -1
    · rw [if_pos z0] at h; cases h
    rw [if_neg z0] at h
    cases e2 : sOne T n lim 10 (ct R 2) N (tA T n lim (tA T n lim p)) with
    | inl b => rw [e2] at h; cases h
    | inr w =>
      rw [e2] at h
      try dsimp only at h
      have u_e2 := sOne_p e2
      cases h
      omega
theorem sHas_p {p1 : Nat} {R1 : Nat → Int32} {N1 : Nat → Nat} (h9 : p < tA T n lim p) (h : sHas T n lim R N p = .inr (p1, R1, N1)) : p < p1 := by
  unfold sHas at h
  cases e1 : sOne T n lim 10 (ct R 2) N (tA T n lim p) with
  | inl b => rw [e1] at h; cases h
  | inr a =>
    rw [e1] at h
    try dsimp only at h
    have u_e1 := sOne_p e1
    cases e2 : sOne T n lim 0 (ct R 0) N (tA T n lim (tA T n lim p)) with
    | inl b => rw [e2] at h; cases h
    | inr i =>
      rw [e2] at h
      try dsimp only at h
      have u_e2 := sOne_p e2
      by_cases z0 : R (48 + 6 * a + i) ≠ 0
      · rw [if_pos z0] at h; cases h
      rw [if_neg z0] at h
      cases e3 : sNum T n lim 1 99 (tA T n lim (tA T n lim (tA T n lim p))) with
      | inl b => rw [e3] at h; cases h
      | inr w =>
        obtain ⟨v, p3⟩ := w
        rw [e3] at h
        try dsimp only at h
        have u_e3 := sNum_p e3
        cases h
        omega
theorem sQuarrel_p {p1 : Nat} {R1 : Nat → Int32} {N1 : Nat → Nat} (h9 : p < tA T n lim p) (h : sQuarrel T n lim R N p = .inr (p1, R1, N1)) : p < p1 := by
  unfold sQuarrel at h
  cases e1 : sOne T n lim 0 (ct R 0) N (tA T n lim p) with
  | inl b => rw [e1] at h; cases h
  | inr i =>
    rw [e1] at h
    try dsimp only at h
    have u_e1 := sOne_p e1
    cases e2 : sOne T n lim 0 (ct R 0) N (tA T n lim (tA T n lim p)) with
    | inl b => rw [e2] at h; cases h
    | inr j =>
      rw [e2] at h
      try dsimp only at h
      have u_e2 := sOne_p e2
      by_cases z0 : j = i ∨ (R (12 + i) >>> (nI j &&& 31)) &&& 1 = 1
      · rw [if_pos z0] at h; cases h
      rw [if_neg z0] at h
      cases h
      omega
theorem sOnce_p {p1 : Nat} {R1 : Nat → Int32} {N1 : Nat → Nat} {k at_ a b : Nat} (h9 : p < tA T n lim p) (h : sOnce T n lim k at_ a b R N p = .inr (p1, R1, N1)) : p < p1 := by
  unfold sOnce at h
  by_cases z0 : R (84 + k) ≠ 0
  · rw [if_pos z0] at h; cases h
  rw [if_neg z0] at h
  cases e1 : sNum T n lim a b (tA T n lim p) with
  | inl b => rw [e1] at h; cases h
  | inr w =>
    obtain ⟨v, p3⟩ := w
    rw [e1] at h
    try dsimp only at h
    have u_e1 := sNum_p e1
    cases h
    omega
theorem sl_128 (k : tK T n lim p = 128) : sLine T n lim R N p = sIdea T n lim R N p := by
  unfold sLine
  rw [if_pos k]
theorem sl_129 (k : tK T n lim p = 129) : sLine T n lim R N p = sRoom T n lim R N p := by
  unfold sLine
  rw [if_neg (show ¬ tK T n lim p = 128 by omega), if_pos k]
theorem sl_130 (k : tK T n lim p = 130) : sLine T n lim R N p = sParcel T n lim R N p := by
  unfold sLine
  rw [if_neg (show ¬ tK T n lim p = 128 by omega), if_neg (show ¬ tK T n lim p = 129 by omega), if_pos k]
theorem sl_131 (k : tK T n lim p = 131) : sLine T n lim R N p = sPerson T n lim R N p := by
  unfold sLine
  rw [if_neg (show ¬ tK T n lim p = 128 by omega), if_neg (show ¬ tK T n lim p = 129 by omega), if_neg (show ¬ tK T n lim p = 130 by omega), if_pos k]
theorem sl_132 (k : tK T n lim p = 132) : sLine T n lim R N p = sSits T n lim R N p := by
  unfold sLine
  rw [if_neg (show ¬ tK T n lim p = 128 by omega), if_neg (show ¬ tK T n lim p = 129 by omega), if_neg (show ¬ tK T n lim p = 130 by omega), if_neg (show ¬ tK T n lim p = 131 by omega), if_pos k]
theorem sl_133 (k : tK T n lim p = 133) : sLine T n lim R N p = sHas T n lim R N p := by
  unfold sLine
  rw [if_neg (show ¬ tK T n lim p = 128 by omega), if_neg (show ¬ tK T n lim p = 129 by omega), if_neg (show ¬ tK T n lim p = 130 by omega), if_neg (show ¬ tK T n lim p = 131 by omega), if_neg (show ¬ tK T n lim p = 132 by omega), if_pos k]
theorem sl_134 (k : tK T n lim p = 134) : sLine T n lim R N p = sQuarrel T n lim R N p := by
  unfold sLine
  rw [if_neg (show ¬ tK T n lim p = 128 by omega), if_neg (show ¬ tK T n lim p = 129 by omega), if_neg (show ¬ tK T n lim p = 130 by omega), if_neg (show ¬ tK T n lim p = 131 by omega), if_neg (show ¬ tK T n lim p = 132 by omega), if_neg (show ¬ tK T n lim p = 133 by omega), if_pos k]
theorem sl_135 (k : tK T n lim p = 135) : sLine T n lim R N p = sOnce T n lim 0 4 0 5 R N p := by
  unfold sLine
  rw [if_neg (show ¬ tK T n lim p = 128 by omega), if_neg (show ¬ tK T n lim p = 129 by omega), if_neg (show ¬ tK T n lim p = 130 by omega), if_neg (show ¬ tK T n lim p = 131 by omega), if_neg (show ¬ tK T n lim p = 132 by omega), if_neg (show ¬ tK T n lim p = 133 by omega), if_neg (show ¬ tK T n lim p = 134 by omega), if_pos k]
theorem sl_136 (k : tK T n lim p = 136) : sLine T n lim R N p = sOnce T n lim 1 5 1 20 R N p := by
  unfold sLine
  rw [if_neg (show ¬ tK T n lim p = 128 by omega), if_neg (show ¬ tK T n lim p = 129 by omega), if_neg (show ¬ tK T n lim p = 130 by omega), if_neg (show ¬ tK T n lim p = 131 by omega), if_neg (show ¬ tK T n lim p = 132 by omega), if_neg (show ¬ tK T n lim p = 133 by omega), if_neg (show ¬ tK T n lim p = 134 by omega), if_neg (show ¬ tK T n lim p = 135 by omega), if_pos k]
theorem sl_no (k : tK T n lim p < 128 ∨ 136 < tK T n lim p) : sLine T n lim R N p = .inl (sBad T n lim 1 p) := by
  unfold sLine
  rw [if_neg (show ¬ tK T n lim p = 128 by omega), if_neg (show ¬ tK T n lim p = 129 by omega), if_neg (show ¬ tK T n lim p = 130 by omega), if_neg (show ¬ tK T n lim p = 131 by omega), if_neg (show ¬ tK T n lim p = 132 by omega), if_neg (show ¬ tK T n lim p = 133 by omega), if_neg (show ¬ tK T n lim p = 134 by omega), if_neg (show ¬ tK T n lim p = 135 by omega), if_neg (show ¬ tK T n lim p = 136 by omega)]
theorem sPost_bad {f l : Nat} {e : Nat × Nat} (k0 : tK T n lim p ≠ 0) (h : sLine T n lim R N p = .inl e) : sPost T n lim (f + 1) R N p l = .inl e := by
  rw [sPost, if_neg k0, h]
variable {s0 s1 s2 : OS}
theorem gs_bad {e : Nat × Nat} (h : CF s1 e) : f_X7_goesOn__3 s1 = (s1, 0) := by
  unfold f_X7_goesOn__3 f_X7_goesOn__3_19
  rw [rf0_bad h, if_neg h.ne]
  (repeat' split) <;> rfl
theorem gs_0 (h : CTK s1 T n lim p) (k0 : tK T n lim p = 0) : f_X7_goesOn__3 s1 = (s1, 0) := by
  obtain ⟨e1, e2⟩ := tK_0 k0
  have h7 : s1.1 7 = 0 := by
    rw [h.1.2.2.1, show kc T n lim p = 0 from if_pos e1]
    rfl
  have h4 : s1.1 4 = 0 := by rw [h.1.1.2.2.2.2.1, if_neg e2]
  unfold f_X7_goesOn__3 f_X7_goesOn__3_19
  rw [if_pos h7, if_pos h4, if_pos h.2, if_pos h7]
theorem gs_1 (h : CTK s1 T n lim p) (k0 : tK T n lim p ≠ 0) (e : tStop n lim ≤ tB0 T (tStop n lim) p) : ∃ o', f_X7_goesOn__3 s1 = (o', 0) ∧ CF o' (sBad T n lim 1 p) ∧ tK T n lim p = 1 := by
  have q := end_01 (T := T) (n := n) (lim := lim) (p := p) e
  have e2 : lim < n := by
    by_cases z : lim < n
    · exact z
    · rw [if_neg z] at q; exact absurd q k0
  rw [if_pos e2] at q
  have h7 : s1.1 7 = 0 := by
    rw [h.1.2.2.1, show kc T n lim p = 0 from if_pos e]
    rfl
  have h4 : s1.1 4 = 1 := by rw [h.1.1.2.2.2.2.1, if_pos e2]
  have hb : CF (f_X7_refuse__4 (1 : Int32) s1) (sBad T n lim 1 p) := rf0_ (c := 1) h (by decide) (by decide) (fun _ => rfl)
  refine ⟨f_X7_refuse__4 (1 : Int32) s1, ?_, hb, q⟩
  unfold f_X7_goesOn__3 f_X7_goesOn__3_19
  rw [if_pos h7, if_neg (ne1 h4), if_neg hb.ne]
theorem gs_2 (h : CTK s1 T n lim p) (e : ¬ tStop n lim ≤ tB0 T (tStop n lim) p) : f_X7_goesOn__3 s1 = (s1, 1) ∧ s1.1 7 = nI (tK T n lim p) := by
  have h7 : s1.1 7 = nI (tK T n lim p) := by rw [h.1.2.2.1, show kc T n lim p = tK T n lim p from if_neg e]
  have kl := tK_lt (n := n) (lim := lim) (p := p) h.1.1.2.2.2.2.2.2.1
  have h0 : ¬ s1.1 7 = 0 := by
    rw [h7]
    intro q
    have z := (nI_eq (a := tK T n lim p) (b := 0) (by omega) (by decide)).mp q
    exact e (tK_0 z).1
  refine ⟨?_, h7⟩
  unfold f_X7_goesOn__3 f_X7_goesOn__3_19
  rw [if_neg h0, if_pos h.2, if_neg h0]
def RO (r : OS × OS × OS × Int32) (S : (Nat × Nat) ⊕ (Nat × (Nat → Int32) × (Nat → Nat))) : Prop := (∀ e, S = .inl e → CF r.2.1 e) ∧ ∀ l R N, S = .inr (l, R, N) → r.2.1.1 10 = 0 ∧ r.2.2.2 = nI l ∧ CP r.1 r.2.2.1 R N
theorem RO.bad {r : OS × OS × OS × Int32} {e : Nat × Nat} (h : CF r.2.1 e) : RO r (.inl e) := ⟨fun e9 q => (by cases q; exact h), fun _ _ _ q => (by cases q)⟩
theorem read_bad {e : Nat × Nat} (h : CF s1 e) {f : Nat} {x : Int32} (hf : 0 < f) : CF (f_X3_read__1_14 f x s0 s1 s2).2.1 e := by
  obtain ⟨g, rfl⟩ : ∃ g, f = g + 1 := ⟨f - 1, by omega⟩
  have gb := gs_bad h
  rw [f_X3_read__1_14]
  by_cases z : (900 : Int32) ≤ x
  · rw [if_pos z]; exact h
  · rw [if_neg z]
    generalize f_X7_goesOn__3 s1 = y at gb ⊢
    have y1 : y.1 = s1 := by rw [gb]
    have y2 : y.2 = 0 := by rw [gb]
    rw [if_pos y2, y1]
    exact h
theorem nxt {f l : Nat} (ih : ∀ (l : Nat) (s0 s1 s2 : OS) (p : Nat) (R : Nat → Int32) (N : Nat → Nat), CTK s1 T n lim p → CP s0 s2 R N → 2 * l ≤ p → p ≤ n → n - p + 1 < f → RO (f_X3_read__1_14 f (nI l) s0 s1 s2) (sPost T n lim f R N p l)) (hl : 2 * l ≤ p) (hf : n - p + 1 < f + 1) (hpn : p < n) (k0 : tK T n lim p ≠ 0) {r0 r1 r2 : OS} {S : PR} (hS : sLine T n lim R N p = S) (hp : ∀ p1 R1 N1, S = .inr (p1, R1, N1) → p < p1) (hc : CO T n lim r0 r1 r2 S) : RO (f_X3_read__1_14 f (nI l + 1) r0 (f_X7_passOnly__3 (59 : Int32) r1) r2) (sPost T n lim (f + 1) R N p l) := by
  rw [sPost, if_neg k0, hS, nI_1]
  unfold f_X7_passOnly__3 f_X7_passOnly__3_13
  cases e : S with
  | inl b =>
    have q := hc.1 b e
    rw [rf0_bad q, if22, ps6_bad q]
    exact RO.bad (read_bad q (by omega))
  | inr w =>
    obtain ⟨p1, R1, N1⟩ := w
    obtain ⟨q1, q2⟩ := hc.2 p1 R1 N1 e
    have hp1 := hp p1 R1 N1 e
    have c : (r1.1 7 = (59 : Int32)) ↔ tK T n lim p1 = 59 := ck_eq (v := 59) q1.1 (by decide) (by decide)
    try dsimp only
    by_cases k : tK T n lim p1 = 59
    · rw [if_pos (c.mpr k), if_neg (nn k)]
      have g := tA_gt (T := T) (n := n) (lim := lim) (p := p1) (by omega) (by omega)
      have g2 := tok_inside (T := T) (n := n) (lim := lim) (p := p1) (by omega) (by omega)
      exact ih (l + 1) r0 _ r2 (tA T n lim p1) R1 N1 (ps6_ q1 (by omega) (by omega)) q2 (by omega) g2.2.2 (by omega)
    · have hb : CF (f_X7_refuse__4 (1 : Int32) r1) (sBad T n lim 1 p1) := rf0_ (c := 1) q1 (by decide) (by decide) (fun _ => rfl)
      rw [if_neg (fun q => k (c.mp q)), if_pos k, ps6_bad hb]
      exact RO.bad (read_bad hb (by omega))
theorem bl1_ {s b M : Nat} {x : Int32} (hs : SORT s b M) (hN : CN s0 R N) (hx : x = nI (128 + s)) : f_X3_beginsLine__13 x s0 s1 = if ct R s < 6 then (s0, f_X7_pass__5 s1, 1) else (s0, f_X7_refuse__5 (4 : Int32) s1, 0) := by
  have q := hN s b M hs
  have e : Int32.toNatClampNeg (x - (128 : Int32)) = s := by
    rw [hx]
    show Int32.toNatClampNeg (nI (128 + s) - nI 128) = s
    rw [pk_sub (by omega), nI_clamp (by omega)]
    omega
  unfold f_X3_beginsLine__13
  rw [e, q.1]
  by_cases z : ct R s < 6
  · rw [if_pos z, if_pos (show nI (ct R s) < (6 : Int32) from nI_lt (b := 6) z (by decide))]
  · rw [if_neg z, if_neg (show ¬ nI (ct R s) < (6 : Int32) from nI_nlt (b := 6) (by omega) (by omega))]
theorem bl2_ {s b M : Nat} {x : Int32} (hs : SORT s b M) (hN : CN s0 R N) (hx : x = nI (128 + s)) : f_X3_beginsLine__14 x s0 s1 = if ct R s < 4 then (s0, f_X7_pass__5 s1, 1) else (s0, f_X7_refuse__5 (4 : Int32) s1, 0) := by
  have q := hN s b M hs
  have e : Int32.toNatClampNeg (x - (128 : Int32)) = s := by
    rw [hx]
    show Int32.toNatClampNeg (nI (128 + s) - nI 128) = s
    rw [pk_sub (by omega), nI_clamp (by omega)]
    omega
  unfold f_X3_beginsLine__14
  rw [e, q.1]
  by_cases z : ct R s < 4
  · rw [if_pos z, if_pos (show nI (ct R s) < (4 : Int32) from nI_lt (b := 4) z (by decide))]
  · rw [if_neg z, if_neg (show ¬ nI (ct R s) < (4 : Int32) from nI_nlt (b := 4) (by omega) (by omega))]
theorem bl3_ {s b M : Nat} {x : Int32} (hs : SORT s b M) (hN : CN s0 R N) (hx : x = nI (128 + s)) : f_X3_beginsLine__16 x s0 s1 = if ct R s < 8 then (s0, f_X7_pass__5 s1, 1) else (s0, f_X7_refuse__5 (4 : Int32) s1, 0) := by
  have q := hN s b M hs
  have e : Int32.toNatClampNeg (x - (128 : Int32)) = s := by
    rw [hx]
    show Int32.toNatClampNeg (nI (128 + s) - nI 128) = s
    rw [pk_sub (by omega), nI_clamp (by omega)]
    omega
  unfold f_X3_beginsLine__16
  rw [e, q.1]
  by_cases z : ct R s < 8
  · rw [if_pos z, if_pos (show nI (ct R s) < (8 : Int32) from nI_lt (b := 8) z (by decide))]
  · rw [if_neg z, if_neg (show ¬ nI (ct R s) < (8 : Int32) from nI_nlt (b := 8) (by omega) (by omega))]
theorem cl_leak (h : CTK s1 T n lim (tA T n lim p)) (hP : CP s0 s2 R N) (hz : R (84 + 0) = 0) : CO T n lim (sI (sI s0 5 (f_X7_takeNumber__4 (0 : Int32) (5 : Int32) s1).2) 7 (1 : Int32)) (f_X7_takeNumber__4 (0 : Int32) (5 : Int32) s1).1 s2 (sOnce T n lim 0 4 0 5 R N p) := by
  have t : TN T n lim (f_X7_takeNumber__4 (0 : Int32) (5 : Int32) s1) (sNum T n lim 0 5 (tA T n lim p)) := tn0_ (a := 0) (b := 5) (by decide) (by decide) h
  unfold sOnce
  rw [if_neg (nn hz)]
  generalize f_X7_takeNumber__4 (0 : Int32) (5 : Int32) s1 = y at t ⊢
  obtain ⟨c1, c2, c3, c4, c5, c6, c7, c8, c9, c10⟩ := hP
  cases e2 : sNum T n lim 0 5 (tA T n lim p) with
  | inl e => exact CO.bad (t.1 e e2)
  | inr w =>
    obtain ⟨v, p2⟩ := w
    obtain ⟨b1, b2⟩ := t.2 v p2 e2
    try dsimp only
    rw [b2]
    refine CO.ok b1 ⟨((c1.up (by omega)).up (by omega)).of rfl rfl, (c2.up (by omega)).up (by omega), (c3.up (by omega)).up (by omega), (c4.up (by omega)).up (by omega), ?_, (c6.up (by omega)).up (by omega), (c7.up (by omega)).up (by omega), (c8.up (by omega)).up (by omega), (c9.up (by omega) (by omega)).up (by omega) (by omega), (c10.up (by omega)).up (by omega)⟩
    obtain ⟨f1, f2, f3, f4⟩ := c5
    exact ⟨by rw [sI_ne (by decide), sI_get, pk_us], by rw [sI_ne (by decide), sI_ne (by decide), pk_un (by decide), pk_un (by decide)]; exact f2, by rw [sI_get, pk_un (by decide), pk_us], by rw [sI_ne (by decide), sI_ne (by decide), pk_un (by decide), pk_un (by decide)]; exact f4⟩
theorem cl_guess (h : CTK s1 T n lim (tA T n lim p)) (hP : CP s0 s2 R N) (hz : R (84 + 1) = 0) : CO T n lim (sI (sI s0 6 (f_X7_takeNumber__4 (1 : Int32) (20 : Int32) s1).2) 8 (1 : Int32)) (f_X7_takeNumber__4 (1 : Int32) (20 : Int32) s1).1 s2 (sOnce T n lim 1 5 1 20 R N p) := by
  have t : TN T n lim (f_X7_takeNumber__4 (1 : Int32) (20 : Int32) s1) (sNum T n lim 1 20 (tA T n lim p)) := tn0_ (a := 1) (b := 20) (by decide) (by decide) h
  unfold sOnce
  rw [if_neg (nn hz)]
  generalize f_X7_takeNumber__4 (1 : Int32) (20 : Int32) s1 = y at t ⊢
  obtain ⟨c1, c2, c3, c4, c5, c6, c7, c8, c9, c10⟩ := hP
  cases e2 : sNum T n lim 1 20 (tA T n lim p) with
  | inl e => exact CO.bad (t.1 e e2)
  | inr w =>
    obtain ⟨v, p2⟩ := w
    obtain ⟨b1, b2⟩ := t.2 v p2 e2
    try dsimp only
    rw [b2]
    refine CO.ok b1 ⟨((c1.up (by omega)).up (by omega)).of rfl rfl, (c2.up (by omega)).up (by omega), (c3.up (by omega)).up (by omega), (c4.up (by omega)).up (by omega), ?_, (c6.up (by omega)).up (by omega), (c7.up (by omega)).up (by omega), (c8.up (by omega)).up (by omega), (c9.up (by omega) (by omega)).up (by omega) (by omega), (c10.up (by omega)).up (by omega)⟩
    obtain ⟨f1, f2, f3, f4⟩ := c5
    exact ⟨by rw [sI_ne (by decide), sI_ne (by decide), pk_un (by decide), pk_un (by decide)]; exact f1, by rw [sI_ne (by decide), sI_get, pk_us], by rw [sI_ne (by decide), sI_ne (by decide), pk_un (by decide), pk_un (by decide)]; exact f3, by rw [sI_get, pk_un (by decide), pk_us]⟩
theorem read_l : ∀ (f l : Nat) (s0 s1 s2 : OS) (p : Nat) (R : Nat → Int32) (N : Nat → Nat), CTK s1 T n lim p → CP s0 s2 R N → 2 * l ≤ p → p ≤ n → n - p + 1 < f → RO (f_X3_read__1_14 f (nI l) s0 s1 s2) (sPost T n lim f R N p l) := by
  intro f
  induction f with
  | zero => intro l s0 s1 s2 p R N _ _ _ _ h; omega
  | succ f ih =>
    intro l s0 s1 s2 p R N h hP hl hpn hf
    have hn9 := h.1.1.1
    rw [f_X3_read__1_14, if_neg (show ¬ (900 : Int32) ≤ nI l from nI_ge (b := 900) (by omega) (by decide))]
    by_cases k0 : tK T n lim p = 0
    · have gb := gs_0 h k0
      generalize f_X7_goesOn__3 s1 = g at gb ⊢
      have g1 : g.1 = s1 := by rw [gb]
      have g2 : g.2 = 0 := by rw [gb]
      rw [if_pos g2, g1, sPost, if_pos k0]
      exact ⟨fun e q => (by cases q), fun l R N q => (by cases q; exact ⟨h.2, rfl, hP⟩)⟩
    by_cases e : tStop n lim ≤ tB0 T (tStop n lim) p
    · obtain ⟨o', gb, hb, k1⟩ := gs_1 h k0 e
      generalize f_X7_goesOn__3 s1 = g at gb ⊢
      have g1 : g.1 = o' := by rw [gb]
      have g2 : g.2 = 0 := by rw [gb]
      rw [if_pos g2, g1, sPost_bad k0 (sl_no (by omega))]
      exact RO.bad hb
    obtain ⟨gb, h7⟩ := gs_2 h e
    generalize f_X7_goesOn__3 s1 = g at gb ⊢
    have g1 : g.1 = s1 := by rw [gb]
    have g2 : g.2 = 1 := by rw [gb]
    have kl := tK_lt (n := n) (lim := lim) (p := p) h.1.1.2.2.2.2.2.2.1
    have hk : (s1.1 7).toInt = (tK T n lim p : Int) := by rw [h7, nI_toInt (by omega)]
    rw [if_neg (ne1 g2), g1]
    have no : ∀ {x : Int32}, (tK T n lim p < 128 ∨ 136 < tK T n lim p) → RO ((f_X3_beginsLine__12 x s0 s1).1, (f_X3_beginsLine__12 x s0 s1).2.1, s2, ((-1) : Int32)) (sPost T n lim (f + 1) R N p l) := fun {x} z => by
      rw [sPost_bad k0 (sl_no z)]
      exact RO.bad (rf_ (c := 1) h (by decide) (by decide) (fun _ => rfl))
    by_cases k128 : tK T n lim p < 128
    · rw [if_pos (show (-2147483648) ≤ (s1.1 7).toInt ∧ (s1.1 7).toInt ≤ 127 by omega)]
      exact no (Or.inl k128)
    rw [if_neg (show ¬ ((-2147483648) ≤ (s1.1 7).toInt ∧ (s1.1 7).toInt ≤ 127) by omega)]
    have k1 : tK T n lim p ≠ 1 := by omega
    have ins := tok_inside k0 k1
    have hpl : p < n := by
      have z := tA_gt k0 k1
      omega
    have h9 := tA_gt k0 k1
    have hps := ps_ h k0 k1
    by_cases k : tK T n lim p = 128
    · rw [if_pos (show 128 ≤ (s1.1 7).toInt ∧ (s1.1 7).toInt ≤ 128 by omega)]
      have m := (hP.1 0 0 6 (by omega)).2.2.1
      have y0 := bl1_ (s := 0) (b := 0) (M := 6) (x := s1.1 7) (s1 := s1) (by omega) hP.1 (by rw [h7, k])
      have hx : s1.1 7 - (128 : Int32) = nI 0 := by rw [h7, k]; decide
      rw [hx]
      generalize f_X3_beginsLine__13 (s1.1 7) s0 s1 = y at y0 ⊢
      by_cases z : ct R 0 < 6
      · rw [if_pos z] at y0
        have y1 : y.1 = s0 := by rw [y0]
        have y2 : y.2.1 = f_X7_pass__5 s1 := by rw [y0]
        have y3 : y.2.2 = 1 := by rw [y0]
        rw [if_neg (ne1 y3), y1, y2]
        exact nxt ih hl hf hpl k0 (sl_128 k) (fun _ _ _ q => sIdea_p h9 q) (cl_idea hps hP z)
      · rw [if_neg z] at y0
        have y2 : y.2.1 = f_X7_refuse__5 (4 : Int32) s1 := by rw [y0]
        have y3 : y.2.2 = 0 := by rw [y0]
        rw [if_pos y3, sPost_bad k0 ((sl_128 k).trans (if_pos (show ct R 0 = 6 by omega)))]
        exact RO.bad (by rw [y2]; exact rf_ (c := 4) h (by decide) (by decide) (fun q => absurd q k1))
    rw [if_neg (show ¬ (128 ≤ (s1.1 7).toInt ∧ (s1.1 7).toInt ≤ 128) by omega)]
    by_cases k : tK T n lim p = 129
    · rw [if_pos (show 129 ≤ (s1.1 7).toInt ∧ (s1.1 7).toInt ≤ 129 by omega)]
      have m := (hP.1 1 6 4 (by omega)).2.2.1
      have y0 := bl2_ (s := 1) (b := 6) (M := 4) (x := s1.1 7) (s1 := s1) (by omega) hP.1 (by rw [h7, k])
      have hx : s1.1 7 - (128 : Int32) = nI 1 := by rw [h7, k]; decide
      rw [hx]
      generalize f_X3_beginsLine__14 (s1.1 7) s0 s1 = y at y0 ⊢
      by_cases z : ct R 1 < 4
      · rw [if_pos z] at y0
        have y1 : y.1 = s0 := by rw [y0]
        have y2 : y.2.1 = f_X7_pass__5 s1 := by rw [y0]
        have y3 : y.2.2 = 1 := by rw [y0]
        rw [if_neg (ne1 y3), y1, y2]
        exact nxt ih hl hf hpl k0 (sl_129 k) (fun _ _ _ q => sRoom_p h9 q) (cl_room hps hP z)
      · rw [if_neg z] at y0
        have y2 : y.2.1 = f_X7_refuse__5 (4 : Int32) s1 := by rw [y0]
        have y3 : y.2.2 = 0 := by rw [y0]
        rw [if_pos y3, sPost_bad k0 ((sl_129 k).trans (if_pos (show ct R 1 = 4 by omega)))]
        exact RO.bad (by rw [y2]; exact rf_ (c := 4) h (by decide) (by decide) (fun q => absurd q k1))
    rw [if_neg (show ¬ (129 ≤ (s1.1 7).toInt ∧ (s1.1 7).toInt ≤ 129) by omega)]
    by_cases k : tK T n lim p = 130
    · rw [if_pos (show 130 ≤ (s1.1 7).toInt ∧ (s1.1 7).toInt ≤ 130 by omega)]
      have m := (hP.1 2 10 6 (by omega)).2.2.1
      have y0 := bl1_ (s := 2) (b := 10) (M := 6) (x := s1.1 7) (s1 := s1) (by omega) hP.1 (by rw [h7, k])
      have hx : s1.1 7 - (128 : Int32) = nI 2 := by rw [h7, k]; decide
      rw [hx]
      generalize f_X3_beginsLine__13 (s1.1 7) s0 s1 = y at y0 ⊢
      by_cases z : ct R 2 < 6
      · rw [if_pos z] at y0
        have y1 : y.1 = s0 := by rw [y0]
        have y2 : y.2.1 = f_X7_pass__5 s1 := by rw [y0]
        have y3 : y.2.2 = 1 := by rw [y0]
        rw [if_neg (ne1 y3), y1, y2]
        exact nxt ih hl hf hpl k0 (sl_130 k) (fun _ _ _ q => sParcel_p h9 q) (cl_parcel hps hP z)
      · rw [if_neg z] at y0
        have y2 : y.2.1 = f_X7_refuse__5 (4 : Int32) s1 := by rw [y0]
        have y3 : y.2.2 = 0 := by rw [y0]
        rw [if_pos y3, sPost_bad k0 ((sl_130 k).trans (if_pos (show ct R 2 = 6 by omega)))]
        exact RO.bad (by rw [y2]; exact rf_ (c := 4) h (by decide) (by decide) (fun q => absurd q k1))
    rw [if_neg (show ¬ (130 ≤ (s1.1 7).toInt ∧ (s1.1 7).toInt ≤ 130) by omega)]
    by_cases k : tK T n lim p = 131
    · rw [if_pos (show 131 ≤ (s1.1 7).toInt ∧ (s1.1 7).toInt ≤ 131 by omega)]
      have m := (hP.1 3 16 8 (by omega)).2.2.1
      have y0 := bl3_ (s := 3) (b := 16) (M := 8) (x := s1.1 7) (s1 := s1) (by omega) hP.1 (by rw [h7, k])
      have hx : s1.1 7 - (128 : Int32) = nI 3 := by rw [h7, k]; decide
      rw [hx]
      generalize f_X3_beginsLine__16 (s1.1 7) s0 s1 = y at y0 ⊢
      by_cases z : ct R 3 < 8
      · rw [if_pos z] at y0
        have y1 : y.1 = s0 := by rw [y0]
        have y2 : y.2.1 = f_X7_pass__5 s1 := by rw [y0]
        have y3 : y.2.2 = 1 := by rw [y0]
        rw [if_neg (ne1 y3), y1, y2]
        exact nxt ih hl hf hpl k0 (sl_131 k) (fun _ _ _ q => sPerson_p h9 q) (cl_person hps hP z)
      · rw [if_neg z] at y0
        have y2 : y.2.1 = f_X7_refuse__5 (4 : Int32) s1 := by rw [y0]
        have y3 : y.2.2 = 0 := by rw [y0]
        rw [if_pos y3, sPost_bad k0 ((sl_131 k).trans (if_pos (show ct R 3 = 8 by omega)))]
        exact RO.bad (by rw [y2]; exact rf_ (c := 4) h (by decide) (by decide) (fun q => absurd q k1))
    rw [if_neg (show ¬ (131 ≤ (s1.1 7).toInt ∧ (s1.1 7).toInt ≤ 131) by omega)]
    by_cases k : tK T n lim p = 132
    · rw [if_pos (show 132 ≤ (s1.1 7).toInt ∧ (s1.1 7).toInt ≤ 132 by omega)]
      exact nxt ih hl hf hpl k0 (sl_132 k) (fun _ _ _ q => sSits_p h9 q) (cl_sits hps hP)
    rw [if_neg (show ¬ (132 ≤ (s1.1 7).toInt ∧ (s1.1 7).toInt ≤ 132) by omega)]
    by_cases k : tK T n lim p = 133
    · rw [if_pos (show 133 ≤ (s1.1 7).toInt ∧ (s1.1 7).toInt ≤ 133 by omega)]
      exact nxt ih hl hf hpl k0 (sl_133 k) (fun _ _ _ q => sHas_p h9 q) (cl_has hps hP)
    rw [if_neg (show ¬ (133 ≤ (s1.1 7).toInt ∧ (s1.1 7).toInt ≤ 133) by omega)]
    by_cases k : tK T n lim p = 134
    · rw [if_pos (show 134 ≤ (s1.1 7).toInt ∧ (s1.1 7).toInt ≤ 134 by omega)]
      exact nxt ih hl hf hpl k0 (sl_134 k) (fun _ _ _ q => sQuarrel_p h9 q) (cl_quarrel hps hP)
    rw [if_neg (show ¬ (134 ≤ (s1.1 7).toInt ∧ (s1.1 7).toInt ≤ 134) by omega)]
    by_cases k : tK T n lim p = 135
    · rw [if_pos (show 135 ≤ (s1.1 7).toInt ∧ (s1.1 7).toInt ≤ 135 by omega)]
      have y0 : f_X3_beginsLine__20 (s1.1 7) s0 s1 = if s0.1 7 = (0 : Int32) then (s0, f_X7_pass__5 s1, 1) else (s0, f_X7_refuse__5 (3 : Int32) s1, 0) := rfl
      rw [show s0.1 7 = R (84 + 0) from hP.2.2.2.2.1.2.2.1] at y0
      generalize f_X3_beginsLine__20 (s1.1 7) s0 s1 = y at y0 ⊢
      by_cases z : R (84 + 0) = 0
      · rw [if_pos z] at y0
        have y1 : y.1 = s0 := by rw [y0]
        have y2 : y.2.1 = f_X7_pass__5 s1 := by rw [y0]
        have y3 : y.2.2 = 1 := by rw [y0]
        rw [if_neg (ne1 y3), y1, y2]
        exact nxt ih hl hf hpl k0 (sl_135 k) (fun _ _ _ q => sOnce_p h9 q) (cl_leak hps hP z)
      · rw [if_neg z] at y0
        have y2 : y.2.1 = f_X7_refuse__5 (3 : Int32) s1 := by rw [y0]
        have y3 : y.2.2 = 0 := by rw [y0]
        rw [if_pos y3, sPost_bad k0 ((sl_135 k).trans (if_pos (show R (84 + 0) ≠ 0 from z)))]
        exact RO.bad (by rw [y2]; exact rf_ (c := 3) h (by decide) (by decide) (fun q => absurd q k1))
    rw [if_neg (show ¬ (135 ≤ (s1.1 7).toInt ∧ (s1.1 7).toInt ≤ 135) by omega)]
    by_cases k : tK T n lim p = 136
    · rw [if_pos (show 136 ≤ (s1.1 7).toInt ∧ (s1.1 7).toInt ≤ 136 by omega)]
      have y0 : f_X3_beginsLine__21 (s1.1 7) s0 s1 = if s0.1 8 = (0 : Int32) then (s0, f_X7_pass__5 s1, 1) else (s0, f_X7_refuse__5 (3 : Int32) s1, 0) := rfl
      rw [show s0.1 8 = R (84 + 1) from hP.2.2.2.2.1.2.2.2] at y0
      generalize f_X3_beginsLine__21 (s1.1 7) s0 s1 = y at y0 ⊢
      by_cases z : R (84 + 1) = 0
      · rw [if_pos z] at y0
        have y1 : y.1 = s0 := by rw [y0]
        have y2 : y.2.1 = f_X7_pass__5 s1 := by rw [y0]
        have y3 : y.2.2 = 1 := by rw [y0]
        rw [if_neg (ne1 y3), y1, y2]
        exact nxt ih hl hf hpl k0 (sl_136 k) (fun _ _ _ q => sOnce_p h9 q) (cl_guess hps hP z)
      · rw [if_neg z] at y0
        have y2 : y.2.1 = f_X7_refuse__5 (3 : Int32) s1 := by rw [y0]
        have y3 : y.2.2 = 0 := by rw [y0]
        rw [if_pos y3, sPost_bad k0 ((sl_136 k).trans (if_pos (show R (84 + 1) ≠ 0 from z)))]
        exact RO.bad (by rw [y2]; exact rf_ (c := 3) h (by decide) (by decide) (fun q => absurd q k1))
    rw [if_neg (show ¬ (136 ≤ (s1.1 7).toInt ∧ (s1.1 7).toInt ≤ 136) by omega)]
    exact no (Or.inr (by omega))
end CREAD
/-- the class's tape holds the text -/
def CXT (o : OS) (T : Nat → Nat) (n : Nat) : Prop := n ≤ 940 ∧ o.1 2 = nI n ∧ (∀ k, k < n → o.2.2.1 0 k = sgb (T k)) ∧ (∀ k, T k < 256) ∧ ∀ k, k < 28 → o.2.2.2 1 k = lN (KW.getD k 0)
theorem start_ {o : OS} {T : Nat → Nat} {n : Nat} (h : CXT o T n) : CTK (f_X7_startText__3 (900 : Int32) o) T n 900 0 := by
  obtain ⟨h1, h2, h3, h4, h5⟩ := h
  have key : ∀ (a y : Int32), y = nI (tStop n 900) → a = (if 900 < n then 1 else 0) → CTK (f_X7_pass__5 (sI (sI (sI (sI (sI o 4 a) 3 y) 6 (0 : Int32)) 10 (0 : Int32)) 11 (0 : Int32))) T n 900 0 := by
    intro a y hy ha
    have hX : CX (sI (sI (sI (sI (sI o 4 a) 3 y) 6 (0 : Int32)) 10 (0 : Int32)) 11 (0 : Int32)) T n 900 := by
      refine ⟨h1, by decide, ?_, ?_, ?_, h3, h4, h5⟩
      · rw [sI_ne (by decide), sI_ne (by decide), sI_ne (by decide), sI_ne (by decide), sI_ne (by decide)]; exact h2
      · rw [sI_ne (by decide), sI_ne (by decide), sI_ne (by decide), sI_get]; exact hy
      · rw [sI_ne (by decide), sI_ne (by decide), sI_ne (by decide), sI_ne (by decide), sI_get]; exact ha
    have z := pass_ (p := 0) hX (by rw [sI_ne (by decide), sI_ne (by decide), sI_get]; rfl) (by decide)
    exact ⟨z.1, by rw [z.2.1 10 (by decide) (by decide) (by decide) (by decide), sI_ne (by decide), sI_get]⟩
  unfold f_X7_startText__3 f_X7_startText__3_14 f_X7_startText__3_33
  rw [h2]
  by_cases e : n ≤ 900
  · rw [if_pos (show nI n ≤ (900 : Int32) from nI_le (b := 900) e (by decide)), if_pos rfl]
    refine key 0 _ ?_ (by rw [if_neg (by omega)])
    rw [sI_ne (by decide), h2, show tStop n 900 = n from if_neg (by omega)]
  · rw [if_neg (show ¬ nI n ≤ (900 : Int32) from nI_ge (a := 900) (by omega) (by omega)), if_neg one0]
    exact key 1 _ (by rw [show tStop n 900 = 900 from if_pos (by omega)]; rfl) (by rw [if_pos (by omega)])
theorem fill0_l {v : Int32} : ∀ (f k : Nat) (g : Nat → Int32), k ≤ 36 → 36 - k < f → (∀ j, j < k → g j = v) → ∀ j, j < 36 → f_J7_fill_53178__9_5 v f (nI k) (36 : Int32) g j = v := by
  intro f
  induction f with
  | zero => intro k g _ h; omega
  | succ f ih =>
    intro k g hk hf hg j hj
    rw [f_J7_fill_53178__9_5]
    by_cases e : 36 ≤ k
    · rw [if_pos (show (36 : Int32) ≤ nI k from nI_le (a := 36) e (by omega))]; exact hg j (by omega)
    · rw [if_neg (show ¬ (36 : Int32) ≤ nI k from nI_ge (b := 36) (by omega) (by decide)), nI_1, nI_clamp (by omega)]
      refine ih (k + 1) _ (by omega) (by omega) (fun i hi => ?_) j hj
      by_cases e2 : i = k
      · rw [e2, pk_us]
      · rw [pk_un e2]; exact hg i (by omega)
theorem fill0_ {v : Int32} {g : Nat → Int32} {j : Nat} (hj : j < 36) : f_J7_fill_53178__9 v g j = v := by
  unfold f_J7_fill_53178__9
  exact fill0_l 4294967298 0 g (by decide) (by decide) (fun i hi => by omega) j hj
theorem fill1_l {v : Int32} : ∀ (f k : Nat) (g : Nat → Int32), k ≤ 6 → 6 - k < f → (∀ j, j < k → g j = v) → ∀ j, j < 6 → f_J7_fill_53178__10_5 v f (nI k) (6 : Int32) g j = v := by
  intro f
  induction f with
  | zero => intro k g _ h; omega
  | succ f ih =>
    intro k g hk hf hg j hj
    rw [f_J7_fill_53178__10_5]
    by_cases e : 6 ≤ k
    · rw [if_pos (show (6 : Int32) ≤ nI k from nI_le (a := 6) e (by omega))]; exact hg j (by omega)
    · rw [if_neg (show ¬ (6 : Int32) ≤ nI k from nI_ge (b := 6) (by omega) (by decide)), nI_1, nI_clamp (by omega)]
      refine ih (k + 1) _ (by omega) (by omega) (fun i hi => ?_) j hj
      by_cases e2 : i = k
      · rw [e2, pk_us]
      · rw [pk_un e2]; exact hg i (by omega)
theorem fill1_ {v : Int32} {g : Nat → Int32} {j : Nat} (hj : j < 6) : f_J7_fill_53178__10 v g j = v := by
  unfold f_J7_fill_53178__10
  exact fill1_l 4294967298 0 g (by decide) (by decide) (fun i hi => by omega) j hj
theorem fill2_l {v : Int32} : ∀ (f k : Nat) (g : Nat → Int32), k ≤ 8 → 8 - k < f → (∀ j, j < k → g j = v) → ∀ j, j < 8 → f_J7_fill_53178__11_5 v f (nI k) (8 : Int32) g j = v := by
  intro f
  induction f with
  | zero => intro k g _ h; omega
  | succ f ih =>
    intro k g hk hf hg j hj
    rw [f_J7_fill_53178__11_5]
    by_cases e : 8 ≤ k
    · rw [if_pos (show (8 : Int32) ≤ nI k from nI_le (a := 8) e (by omega))]; exact hg j (by omega)
    · rw [if_neg (show ¬ (8 : Int32) ≤ nI k from nI_ge (b := 8) (by omega) (by decide)), nI_1, nI_clamp (by omega)]
      refine ih (k + 1) _ (by omega) (by omega) (fun i hi => ?_) j hj
      by_cases e2 : i = k
      · rw [e2, pk_us]
      · rw [pk_un e2]; exact hg i (by omega)
theorem fill2_ {v : Int32} {g : Nat → Int32} {j : Nat} (hj : j < 8) : f_J7_fill_53178__11 v g j = v := by
  unfold f_J7_fill_53178__11
  exact fill2_l 4294967298 0 g (by decide) (by decide) (fun i hi => by omega) j hj
/-- a new post -/
def P0 (s0 : OS) : Prop := (∀ k, k < 4 → s0.2.2.1 1 k = 0) ∧ (∀ k, k < 6 → s0.2.2.1 2 k = 0) ∧ (∀ k, k < 6 → s0.2.2.1 3 k = 0) ∧ (∀ k, k < 8 → s0.2.2.1 4 k = 0) ∧ s0.1 5 = 0 ∧ s0.1 6 = 5 ∧ s0.1 7 = 0 ∧ s0.1 8 = 0
theorem R0_0 {k : Nat} (h : k ≠ 5) : R0 k = 0 := if_neg h
theorem ctR0 {s : Nat} (h : s < 4) : ct R0 s = 0 := by
  show (R0 s).toNatClampNeg = 0
  rw [R0_0 (by omega)]
  rfl
theorem begin_C (s0 s2 : OS) : ∃ A B C D : Nat → Int32, f_X8_begin__1 s2 s0 = (sF (sF (sF (sF (sI s2 1 (0 : Int32)) 2 A) 3 B) 7 C) 8 D, s0) ∧ (∀ k, k < 36 → A k = 0) ∧ (∀ k, k < 6 → B k = 0) ∧ (∀ k, k < 8 → C k = 0) ∧ (∀ k, k < 8 → D k = -1) := by
  unfold f_X8_begin__1
  exact ⟨_, _, _, _, rfl, fun k hk => fill0_ hk, fun k hk => fill1_ hk, fun k hk => fill2_ hk, fun k hk => fill2_ hk⟩
theorem CP.new {s0 s2 : OS} {A B C D : Nat → Int32} (h0 : P0 s0) (hA : ∀ k, k < 36 → A k = 0) (hB : ∀ k, k < 6 → B k = 0) (hC : ∀ k, k < 8 → C k = 0) (hD : ∀ k, k < 8 → D k = -1) : CP s0 (sF (sF (sF (sF s2 2 A) 3 B) 7 C) 8 D) R0 N0 := by
  obtain ⟨a1, a2, a3, a4, a5, a6, a7, a8⟩ := h0
  refine ⟨fun s b M hs => ?_, fun k hk => ?_, fun k hk => ?_, fun k hk => ?_, ⟨?_, ?_, ?_, ?_⟩, fun k hk => ?_, fun k hk => ?_, fun k hk => ?_, fun k hk => ?_, fun k hk => ?_⟩
  · rw [ctR0 (by omega), R0_0 (by omega)]
    exact ⟨a1 s (by omega), rfl, Nat.zero_le _, fun k hk => by omega⟩
  · rw [R0_0 (by omega)]; exact a2 k hk
  · rw [R0_0 (by omega)]; exact a3 k hk
  · rw [R0_0 (by omega)]; exact a4 k hk
  · rw [R0_0 (by decide)]; exact a5
  · exact a6
  · rw [R0_0 (by decide)]; exact a7
  · rw [R0_0 (by decide)]; exact a8
  · rw [R0_0 (by omega)]; exact hB k hk
  · rw [R0_0 (by omega)]; exact hC k hk
  · rw [R0_0 (by omega)]; exact hA k hk
  · rw [ctR0 (by decide), if_neg (by omega)]; exact hD k hk
  · exact ⟨0, by decide, by rw [R0_0 (by omega)]; rfl⟩
theorem read_s {s0 s2 : OS} {t : OS} {T : Nat → Nat} {n : Nat} (h9 : n ≤ 940) (ht : CTK t T n 900 0) (hP : CP s0 s2 R0 N0) : RO (f_X3_read__1_14 4294967298 (0 : Int32) s0 t s2) (sPost T n 900 4294967298 R0 N0 0 0) := by
  have r := read_l 4294967298 0 s0 t s2 0 R0 N0 ht hP (by decide) (Nat.zero_le _) (by omega)
  rw [nI_0] at r
  exact r
/-- what the class's read leaves -/
theorem read_ {s0 s1 s2 : OS} {T : Nat → Nat} {n : Nat} (h : CXT s1 T n) (h0 : P0 s0) : RO (f_X3_read__1 s0 s1 s2) (sPost T n 900 4294967298 R0 N0 0 0) := by
  obtain ⟨A, B, C, D, e, hA, hB, hC, hD⟩ := begin_C s0 s2
  have ht := start_ h
  unfold f_X3_read__1
  rw [e]
  exact read_s h.1 ht (CP.new h0 hA hB hC hD)
