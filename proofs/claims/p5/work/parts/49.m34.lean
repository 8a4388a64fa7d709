/-! the class's readers, by the spec -/
def CF (o : OS) (e : Nat × Nat) : Prop := o.1 10 = nI e.1 ∧ o.1 11 = nI e.2 ∧ 1 ≤ e.1 ∧ e.1 ≤ 4
def CTK (o : OS) (T : Nat → Nat) (n lim p : Nat) : Prop := CT o T n lim p ∧ o.1 10 = 0
theorem CF.ne {o : OS} {e : Nat × Nat} (h : CF o e) : ¬ o.1 10 = 0 := by
  rw [h.1]
  intro q
  have h4 := h.2.2.2
  have h1 := h.2.2.1
  have z := (nI_eq (a := e.1) (b := 0) (by omega) (by decide)).mp q
  omega
theorem tKwF_lt (w : Nat) : ∀ k, tKwF w k < 129 + k := by
  intro k
  induction k with
  | zero => show (2 : Nat) < 129; decide
  | succ k ih =>
    show (if KW.getD k 0 = w then 128 + k else tKwF w k) < 129 + (k + 1)
    by_cases e : KW.getD k 0 = w
    · rw [if_pos e]; omega
    · rw [if_neg e]; omega
theorem tK_lt {T : Nat → Nat} {n lim p : Nat} (hT : ∀ k, T k < 256) : tK T n lim p < 1000 := by
  have h1 := hT (tB T n lim p)
  have h3 : tKw (tW T n lim p) < 157 := tKwF_lt (tW T n lim p) 28
  unfold tK
  (repeat' split) <;> omega
theorem end_01 {T : Nat → Nat} {n lim p : Nat} (e : tStop n lim ≤ tB0 T (tStop n lim) p) : tK T n lim p = if lim < n then 1 else 0 := by
  unfold tK
  rw [if_pos e]
theorem kc_lt {T : Nat → Nat} {n lim p : Nat} (hT : ∀ k, T k < 256) : kc T n lim p < 1000 := by
  have h := tK_lt (n := n) (lim := lim) (p := p) hT
  unfold kc
  split <;> omega
theorem kc_eq {T : Nat → Nat} {n lim p v : Nat} (hv : 2 ≤ v) : kc T n lim p = v ↔ tK T n lim p = v := by
  by_cases e : tStop n lim ≤ tB0 T (tStop n lim) p
  · have q := end_01 (T := T) (n := n) (lim := lim) (p := p) e
    have q2 : kc T n lim p = 0 := if_pos e
    rw [q, q2]
    by_cases z : lim < n
    · rw [if_pos z]; omega
    · rw [if_neg z]
  · have q2 : kc T n lim p = tK T n lim p := if_neg e
    rw [q2]
section CLASS
variable {T : Nat → Nat} {n lim p : Nat} {o : OS}
theorem ck_eq {v : Nat} (h : CT o T n lim p) (hv : 2 ≤ v) (h2 : v < 1000) : o.1 7 = nI v ↔ tK T n lim p = v := by
  have q := kc_lt (n := n) (lim := lim) (p := p) h.1.2.2.2.2.2.2.1
  rw [h.2.2.1, nI_eq (by omega) (by omega)]
  exact kc_eq hv
theorem rf_ {c : Nat} (h : CTK o T n lim p) (h1 : 1 ≤ c) (h4 : c ≤ 4) (hk : tK T n lim p = 1 → c = 1) : CF (f_X7_refuse__5 (nI c) o) (sBad T n lim c p) := by
  unfold f_X7_refuse__5 sBad
  by_cases k : tK T n lim p = 1
  · rw [if_pos k, hk k]
    refine ⟨?_, ?_, by show 1 ≤ 1; omega, by show 1 ≤ 4; omega⟩
    · rw [sI_ne (by decide), sI_get]
    · rw [sI_get, sI_ne (by decide)]; exact h.1.2.1
  · rw [if_neg k]
    refine ⟨?_, ?_, h1, h4⟩
    · rw [sI_ne (by decide), sI_get]
    · rw [sI_get, sI_ne (by decide)]; exact h.1.2.1
theorem rf0_ok {x : Int32} (h : o.1 10 = 0) : f_X7_refuse__4 x o = f_X7_refuse__5 x o := by
  unfold f_X7_refuse__4 f_X7_refuse__5
  rw [if_pos h]
theorem rf0_bad {x : Int32} {e : Nat × Nat} (h : CF o e) : f_X7_refuse__4 x o = o := by
  unfold f_X7_refuse__4
  rw [if_neg h.ne]
theorem rf0_ {c : Nat} (h : CTK o T n lim p) (h1 : 1 ≤ c) (h4 : c ≤ 4) (hk : tK T n lim p = 1 → c = 1) : CF (f_X7_refuse__4 (nI c) o) (sBad T n lim c p) := by
  rw [rf0_ok h.2]
  exact rf_ h h1 h4 hk
theorem ps_ (h : CTK o T n lim p) (h0 : tK T n lim p ≠ 0) (h1 : tK T n lim p ≠ 1) : CTK (f_X7_pass__5 o) T n lim (tA T n lim p) := by
  have q := tok_inside h0 h1
  have h9 := h.1.1.1
  have z := pass_ h.1.1 (h.1.2.2.2.1 q.1) (by omega)
  exact ⟨z.1, by rw [z.2.1 10 (by decide) (by decide) (by decide) (by decide)]; exact h.2⟩
theorem ps6_ (h : CTK o T n lim p) (h0 : tK T n lim p ≠ 0) (h1 : tK T n lim p ≠ 1) : CTK (f_X7_pass__6 o) T n lim (tA T n lim p) := by
  rw [pass6_ok h.2]
  exact ps_ h h0 h1
theorem ps6_bad {e : Nat × Nat} (h : CF o e) : f_X7_pass__6 o = o := pass6_bad h.ne
/-- a number, taken -/
def TN (T : Nat → Nat) (n lim : Nat) (r : OS × Int32) (S : (Nat × Nat) ⊕ (Nat × Nat)) : Prop := (∀ e, S = .inl e → CF r.1 e) ∧ ∀ v p1, S = .inr (v, p1) → CTK r.1 T n lim p1 ∧ r.2 = nI v
theorem TN.bad {r : OS × Int32} {e : Nat × Nat} (h : CF r.1 e) : TN T n lim r (.inl e) := ⟨fun e9 q => (by cases q; exact h), fun _ _ q => (by cases q)⟩
theorem TN.ok {r : OS × Int32} {v p1 : Nat} (h : CTK r.1 T n lim p1) (h2 : r.2 = nI v) : TN T n lim r (.inr (v, p1)) := ⟨fun e9 q => (by cases q), fun _ _ q => (by cases q; exact ⟨h, h2⟩)⟩
theorem tn0_ {a b : Nat} (ha : a < 2 ^ 31) (hb : b < 2 ^ 31) (h : CTK o T n lim p) : TN T n lim (f_X7_takeNumber__4 (nI a) (nI b) o) (sNum T n lim a b p) := by
  have c3 : (o.1 7 = (3 : Int32)) ↔ tK T n lim p = 3 := ck_eq (v := 3) h.1 (by decide) (by decide)
  unfold f_X7_takeNumber__4 f_X7_takeNumber__4_31 f_X7_takeNumber__4_36 sNum
  by_cases k3 : tK T n lim p = 3
  · have hv := tok_num h.1.1.2.2.2.2.2.2.1 k3
    have hn := h.1.2.2.2.2.2 k3
    have hb2 : CF (f_X7_refuse__5 (2 : Int32) o) (sBad T n lim 2 p) := rf_ (c := 2) h (by decide) (by decide) (fun q => by omega)
    rw [if_pos (c3.mpr k3), if_neg (nn k3), hn]
    by_cases e1 : tNu T n lim p < a
    · rw [if_pos (nI_lt e1 ha), if_pos (show ¬ (a ≤ tNu T n lim p ∧ tNu T n lim p ≤ b) by omega), ps6_bad hb2]
      exact TN.bad hb2
    · rw [if_neg (nI_nlt (a := tNu T n lim p) (b := a) (by omega) hv)]
      by_cases e2 : tNu T n lim p ≤ b
      · rw [if_pos (nI_le e2 hb), if_neg (show ¬ ¬ (a ≤ tNu T n lim p ∧ tNu T n lim p ≤ b) from fun q => q (by omega))]
        exact TN.ok (ps6_ h (by omega) (by omega)) rfl
      · rw [if_neg (nI_ge (a := b) (b := tNu T n lim p) (by omega) hv), if_pos (show ¬ (a ≤ tNu T n lim p ∧ tNu T n lim p ≤ b) by omega), ps6_bad hb2]
        exact TN.bad hb2
  · have hb1 : CF (f_X7_refuse__5 (1 : Int32) o) (sBad T n lim 1 p) := rf_ (c := 1) h (by decide) (by decide) (fun _ => rfl)
    rw [if_neg (fun q => k3 (c3.mp q)), if_pos k3, ps6_bad hb1]
    exact TN.bad hb1
theorem tn10 {x y : Int32} (h : o.1 10 = 0) : f_X7_takeNumber__5 x y o = f_X7_takeNumber__4 x y o := by
  unfold f_X7_takeNumber__5 f_X7_takeNumber__5_31 f_X7_takeNumber__5_36 f_X7_takeNumber__4 f_X7_takeNumber__4_31 f_X7_takeNumber__4_36
  rw [rf0_ok h, rf0_ok h]
theorem tn1_ {a b : Nat} (ha : a < 2 ^ 31) (hb : b < 2 ^ 31) (h : CTK o T n lim p) : TN T n lim (f_X7_takeNumber__5 (nI a) (nI b) o) (sNum T n lim a b p) := by
  rw [tn10 h.2]
  exact tn0_ ha hb h
theorem tn1_bad {x y : Int32} {e : Nat × Nat} (h : CF o e) : CF (f_X7_takeNumber__5 x y o).1 e := by
  unfold f_X7_takeNumber__5 f_X7_takeNumber__5_31 f_X7_takeNumber__5_36
  rw [rf0_bad h, rf0_bad h, ps6_bad h]
  (repeat' split) <;> exact h
end CLASS
/-! names of the class -/
def CN (s0 : OS) (R : Nat → Int32) (N : Nat → Nat) : Prop := ∀ s b M, SORT s b M → s0.2.2.1 1 s = nI (ct R s) ∧ R s = nI (ct R s) ∧ ct R s ≤ M ∧ ∀ k, k < ct R s → s0.2.2.2 0 (8 * s + k) = lN (N (b + k)) ∧ N (b + k) < 2 ^ 63
section NAMES
variable {T : Nat → Nat} {n lim p : Nat} {s0 s1 : OS} {R : Nat → Int32} {N : Nat → Nat} {s b M w : Nat}
theorem numberOf_l (hs : SORT s b M) (hN : CN s0 R N) (hw : w < 2 ^ 63) : ∀ (f k : Nat), k ≤ ct R s → ct R s - k < f → (∀ j, j < k → N (b + j) ≠ w) → f_X3_numberOf__5_3 (lN w) (nI s) f (nI k) s0 = fI (sFind N b w (ct R s)) := by
  intro f
  induction f with
  | zero => intro k _ h; omega
  | succ f ih =>
    intro k hk hf hj
    obtain ⟨q1, q2, q3, q4⟩ := hN s b M hs
    have hx : Int32.toNatClampNeg (nI s * (8 : Int32) + nI k) = 8 * s + k := by
      show Int32.toNatClampNeg (nI s * nI 8 + nI k) = _
      rw [pk_mul, nI_add, nI_clamp (by omega)]
      omega
    rw [f_X3_numberOf__5_3, nI_clamp (by omega), q1, hx]
    by_cases e : ct R s ≤ k
    · rw [if_pos (nI_le e (by omega)), sFind_no (ct R s) (fun j q => hj j (by omega))]
      rfl
    · rw [if_neg (nI_ge (by omega) (by omega)), (q4 k (by omega)).1]
      have c : lg_cmp (lN (N (b + k))) (lN w) = 0 ↔ N (b + k) = w := by rw [lc0, pk_lEQ (q4 k (by omega)).2 hw]
      by_cases e2 : N (b + k) = w
      · rw [if_pos (c.mpr e2), sFind_at hj e2 (ct R s) (by omega)]
        rfl
      · rw [if_neg (fun q => e2 (c.mp q)), nI_1]
        refine ih (k + 1) (by omega) (by omega) (fun j q => ?_)
        by_cases e3 : j = k
        · rw [e3]; exact e2
        · exact hj j (by omega)
theorem numberOf_ (hs : SORT s b M) (hN : CN s0 R N) (hw : w < 2 ^ 63) : f_X3_numberOf__5 (lN w) (nI s) s0 = fI (sFind N b w (ct R s)) := by
  have q3 := (hN s b M hs).2.2.1
  unfold f_X3_numberOf__5
  have r := numberOf_l hs hN hw 4294967298 0 (Nat.zero_le _) (by omega) (fun j hj => by omega)
  rw [nI_0] at r
  exact r
theorem fI_m1 {x : Option Nat} (h : ∀ j, x = some j → j < 100) : fI x = -1 ↔ x = none := by
  refine ⟨fun q => (fI_neg h).mp (by rw [q]; decide), fun q => by rw [q]; rfl⟩
theorem sFind_100 (hs : SORT s b M) (hN : CN s0 R N) : ∀ j, sFind N b w (ct R s) = some j → j < 100 := fun j q => by
  have q3 := (hN s b M hs).2.2.1
  have := sFind_lt _ _ q
  omega
theorem isTold_l (hN : CN s0 R N) (hw : w < 2 ^ 63) : ∀ (f k : Nat), k ≤ 4 → 4 - k < f → ((∀ s b M, SORT s b M → k ≤ s → sFind N b w (ct R s) = none) → f_X3_isTold__1_2 (lN w) f (nI k) s0 = 0) ∧ ((∃ s b M, SORT s b M ∧ k ≤ s ∧ sFind N b w (ct R s) ≠ none) → f_X3_isTold__1_2 (lN w) f (nI k) s0 = 1) := by
  intro f
  induction f with
  | zero => intro k _ h; omega
  | succ f ih =>
    intro k hk hf
    rw [f_X3_isTold__1_2]
    by_cases e : 4 ≤ k
    · rw [if_pos (show (4 : Int32) ≤ nI k from nI_le (a := 4) e (by omega))]
      refine ⟨fun _ => rfl, fun ⟨s, b, M, h1, h2, _⟩ => ?_⟩
      omega
    · rw [if_neg (show ¬ (4 : Int32) ≤ nI k from nI_ge (b := 4) (by omega) (by decide))]
      obtain ⟨b, M, hs⟩ : ∃ b M, SORT k b M := by
        rcases (show k = 0 ∨ k = 1 ∨ k = 2 ∨ k = 3 by omega) with rfl | rfl | rfl | rfl
        · exact ⟨0, 6, by omega⟩
        · exact ⟨6, 4, by omega⟩
        · exact ⟨10, 6, by omega⟩
        · exact ⟨16, 8, by omega⟩
      rw [numberOf_ hs hN hw]
      have c := fI_m1 (sFind_100 (w := w) hs hN)
      by_cases e2 : sFind N b w (ct R k) = none
      · rw [if_pos (c.mpr e2), nI_1]
        obtain ⟨i1, i2⟩ := ih (k + 1) (by omega) (by omega)
        refine ⟨fun q => i1 (fun s b M h1 h2 => q s b M h1 (by omega)), fun ⟨s, b9, M9, h1, h2, h3⟩ => i2 ⟨s, b9, M9, h1, ?_, h3⟩⟩
        by_cases e4 : s = k
        · exfalso
          subst e4
          have eb : b9 = b := by omega
          rw [eb] at h3
          exact h3 e2
        · omega
      · rw [if_neg (fun q => e2 (c.mp q))]
        exact ⟨fun q => absurd (q k b M hs (Nat.le_refl _)) e2, fun _ => rfl⟩
theorem isTold_ (hN : CN s0 R N) (hw : w < 2 ^ 63) : f_X3_isTold__1 (lN w) s0 = if sTaken R N w then 1 else 0 := by
  unfold f_X3_isTold__1
  have q := isTold_l hN hw 4294967298 0 (by decide) (by decide)
  rw [nI_0] at q
  by_cases e : sTaken R N w
  · rw [if_pos e]
    refine q.2 ?_
    rcases e with e | e | e | e
    · exact ⟨0, 0, 6, by omega, by omega, e⟩
    · exact ⟨1, 6, 4, by omega, by omega, e⟩
    · exact ⟨2, 10, 6, by omega, by omega, e⟩
    · exact ⟨3, 16, 8, by omega, by omega, e⟩
  · rw [if_neg e]
    refine q.1 (fun s b M hs _ => ?_)
    rcases hs with ⟨rfl, rfl, rfl⟩ | ⟨rfl, rfl, rfl⟩ | ⟨rfl, rfl, rfl⟩ | ⟨rfl, rfl, rfl⟩
    · exact Classical.byContradiction (fun z => e (Or.inl z))
    · exact Classical.byContradiction (fun z => e (Or.inr (Or.inl z)))
    · exact Classical.byContradiction (fun z => e (Or.inr (Or.inr (Or.inl z))))
    · exact Classical.byContradiction (fun z => e (Or.inr (Or.inr (Or.inr z))))
theorem tW63 (h : tK T n lim p = 2 ∨ 128 ≤ tK T n lim p) : tW T n lim p < 2 ^ 63 := by
  obtain ⟨L, l7, l2, -⟩ := tok_word h
  exact LC.w63 l2 l7
/-- a name that is told now -/
theorem tellName_ (h : CTK s1 T n lim p) (hN : CN s0 R N) (hs : SORT s b M) : (∀ e, sNew T n lim (b + ct R s) R N p = .inl e → (f_X3_tellName__4 (nI s) s0 s1).1 = s0 ∧ CF (f_X3_tellName__4 (nI s) s0 s1).2.1 e ∧ (f_X3_tellName__4 (nI s) s0 s1).2.2 = -1) ∧ (∀ p1 N1, sNew T n lim (b + ct R s) R N p = .inr (p1, N1) → (f_X3_tellName__4 (nI s) s0 s1).1 = sA (sB s0 0 (8 * s + ct R s) (lN (tW T n lim p))) 1 s (nI (ct R s + 1)) ∧ CTK (f_X3_tellName__4 (nI s) s0 s1).2.1 T n lim p1 ∧ (f_X3_tellName__4 (nI s) s0 s1).2.2 = nI (ct R s) ∧ N1 = ud N (b + ct R s) (tW T n lim p) ∧ tW T n lim p < 2 ^ 63) := by
  have c2 : (s1.1 7 = (2 : Int32)) ↔ tK T n lim p = 2 := ck_eq (v := 2) h.1 (by decide) (by decide)
  obtain ⟨q1, q2, q3, q4⟩ := hN s b M hs
  unfold f_X3_tellName__4 f_X3_tellName__4_32 sNew
  by_cases k2 : tK T n lim p = 2
  · have hw : tK T n lim p = 2 ∨ 128 ≤ tK T n lim p := Or.inl k2
    rw [if_pos (c2.mpr k2), if_neg (nn k2), h.1.2.2.2.2.1 hw, isTold_ hN (tW63 hw)]
    by_cases e : sTaken R N (tW T n lim p)
    · have hb : CF (f_X7_refuse__4 (3 : Int32) s1) (sBad T n lim 3 p) := rf0_ (c := 3) h (by decide) (by decide) (fun q => by omega)
      rw [if_pos e, if_pos e, if_neg one0, if_neg hb.ne]
      exact ⟨fun e9 q => (by cases q; exact ⟨rfl, hb, rfl⟩), fun _ _ q => (by cases q)⟩
    · have hx : Int32.toNatClampNeg (nI s * (8 : Int32) + nI (ct R s)) = 8 * s + ct R s := by
        show Int32.toNatClampNeg (nI s * nI 8 + nI (ct R s)) = _
        rw [pk_mul, nI_add, nI_clamp (by omega)]
        omega
      rw [if_neg e, if_neg e, if_pos rfl, if_pos h.2, nI_clamp (show s < 2 ^ 31 by omega), q1, hx, nI_1]
      refine ⟨fun e9 q => (by cases q), fun p1 N1 q => ?_⟩
      cases q
      exact ⟨rfl, ps_ h (by omega) (by omega), rfl, rfl, tW63 hw⟩
  · have hb : CF (f_X7_refuse__4 (1 : Int32) s1) (sBad T n lim 1 p) := rf0_ (c := 1) h (by decide) (by decide) (fun _ => rfl)
    rw [if_neg (fun q => k2 (c2.mp q)), if_pos k2, if_neg hb.ne]
    exact ⟨fun e9 q => (by cases q; exact ⟨rfl, hb, rfl⟩), fun _ _ q => (by cases q)⟩
/-- a name that was told, ahead -/
def NA (T : Nat → Nat) (n lim : Nat) (r : OS × OS × Int32) (s0 : OS) (S : (Nat × Nat) ⊕ Nat) (p1 m : Nat) : Prop := r.2.1 = s0 ∧ (∀ e, S = .inl e → CF r.1 e ∧ r.2.2 = -1) ∧ ∀ k, S = .inr k → CTK r.1 T n lim p1 ∧ r.2.2 = nI k ∧ k < m
theorem NA.bad {r : OS × OS × Int32} {e : Nat × Nat} {p1 m : Nat} (h0 : r.2.1 = s0) (h : CF r.1 e) (h2 : r.2.2 = -1) : NA T n lim r s0 (.inl e) p1 m := ⟨h0, fun e9 q => (by cases q; exact ⟨h, h2⟩), fun _ q => (by cases q)⟩
theorem NA.ok {r : OS × OS × Int32} {p1 m k : Nat} (h0 : r.2.1 = s0) (h : CTK r.1 T n lim p1) (h2 : r.2.2 = nI k) (h3 : k < m) : NA T n lim r s0 (.inr k) p1 m := ⟨h0, fun e9 q => (by cases q), fun _ q => (by cases q; exact ⟨h, h2, h3⟩)⟩
theorem na0_ (h : CTK s1 T n lim p) (hN : CN s0 R N) (hs : SORT s b M) : NA T n lim (f_X7_nameAhead__12 (nI s) s1 s0) s0 (sOne T n lim b (ct R s) N p) p (ct R s) := by
  have c2 : (s1.1 7 = (2 : Int32)) ↔ tK T n lim p = 2 := ck_eq (v := 2) h.1 (by decide) (by decide)
  unfold f_X7_nameAhead__12 sOne
  by_cases k2 : tK T n lim p = 2
  · have hw : tK T n lim p = 2 ∨ 128 ≤ tK T n lim p := Or.inl k2
    rw [if_pos (c2.mpr k2), if_neg (nn k2), h.1.2.2.2.2.1 hw, numberOf_ hs hN (tW63 hw)]
    have c := fI_m1 (sFind_100 (w := tW T n lim p) hs hN)
    cases e : sFind N b (tW T n lim p) (ct R s) with
    | none =>
      rw [if_pos (show fI none = ((-1) : Int32) from rfl)]
      exact NA.bad rfl (rf_ (c := 3) h (by decide) (by decide) (fun q => by omega)) rfl
    | some j =>
      rw [e] at c
      rw [if_neg (fun q => by have := c.mp q; cases this)]
      exact NA.ok rfl h rfl (sFind_lt _ _ e)
  · rw [if_neg (fun q => k2 (c2.mp q)), if_pos k2]
    exact NA.bad rfl (rf_ (c := 1) h (by decide) (by decide) (fun _ => rfl)) rfl
theorem na10 {x : Int32} (h : s1.1 10 = 0) : f_X7_nameAhead__13 x s1 s0 = f_X7_nameAhead__12 x s1 s0 := by
  unfold f_X7_nameAhead__13 f_X7_nameAhead__12
  rw [rf0_ok h, rf0_ok h, if_pos h]
theorem na1_ (h : CTK s1 T n lim p) (hN : CN s0 R N) (hs : SORT s b M) : NA T n lim (f_X7_nameAhead__13 (nI s) s1 s0) s0 (sOne T n lim b (ct R s) N p) p (ct R s) := by
  rw [na10 h.2]
  exact na0_ h hN hs
theorem na1_bad {x : Int32} {e : Nat × Nat} (h : CF s1 e) : f_X7_nameAhead__13 x s1 s0 = (s1, s0, -1) := by
  unfold f_X7_nameAhead__13
  rw [rf0_bad h, rf0_bad h, if_neg h.ne]
  (repeat' split) <;> rfl
theorem tk_of {r : OS × OS × Int32} {S : (Nat × Nat) ⊕ Nat} {m : Nat} (hm : m ≤ 8) (q : NA T n lim r s0 S p m) (h2 : ∀ k, S = .inr k → tK T n lim p = 2) : NA T n lim (if (r.2.2).toInt < 0 then (r.1, r.2.1, r.2.2) else (f_X7_pass__6 r.1, r.2.1, r.2.2)) s0 S (tA T n lim p) m := by
  cases e : S with
  | inl z =>
    have w := q.2.1 z e
    rw [if_pos (by rw [w.2]; decide)]
    exact NA.bad q.1 w.1 w.2
  | inr k =>
    have w := q.2.2 k e
    have k2 := h2 k e
    rw [if_neg (by rw [w.2.1, nI_toInt (by omega)]; omega)]
    exact NA.ok q.1 (ps6_ w.1 (by omega) (by omega)) w.2.1 w.2.2
theorem ct8 (hs : SORT s b M) (hN : CN s0 R N) : ct R s ≤ 8 := by
  have q := (hN s b M hs).2.2.1
  omega
theorem tk0_ (h : CTK s1 T n lim p) (hN : CN s0 R N) (hs : SORT s b M) : NA T n lim (f_X7_takeName__11 (nI s) s1 s0) s0 (sOne T n lim b (ct R s) N p) (tA T n lim p) (ct R s) := tk_of (ct8 hs hN) (na0_ h hN hs) (fun k q => sOne_2 q)
theorem tk1_ (h : CTK s1 T n lim p) (hN : CN s0 R N) (hs : SORT s b M) : NA T n lim (f_X7_takeName__12 (nI s) s1 s0) s0 (sOne T n lim b (ct R s) N p) (tA T n lim p) (ct R s) := tk_of (ct8 hs hN) (na1_ h hN hs) (fun k q => sOne_2 q)
theorem tk1_bad {x : Int32} {e : Nat × Nat} (h : CF s1 e) : f_X7_takeName__12 x s1 s0 = (s1, s0, -1) := by
  unfold f_X7_takeName__12
  rw [na1_bad h]
  rfl
end NAMES
