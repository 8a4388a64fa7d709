theorem nn {α : Type} {a b : α} (h : a = b) : ¬ (a ≠ b) := fun q => q h
theorem one0 : ¬ ((1 : Int32) = 0) := by decide
theorem ne1 {x : Int32} (h : x = 1) : ¬ x = 0 := by rw [h]; decide
/-! the reference's readers, by the spec -/
theorem tok_inside {T : Nat → Nat} {n lim p : Nat} (h0 : tK T n lim p ≠ 0) (h1 : tK T n lim p ≠ 1) : tB T n lim p < tStop n lim ∧ tB T n lim p < n ∧ tA T n lim p ≤ n := by
  have e1 : ¬ tStop n lim ≤ tB0 T (tStop n lim) p := fun e => by
    unfold tK at h0 h1
    rw [if_pos e] at h0 h1
    by_cases e2 : lim < n
    · rw [if_pos e2] at h1; exact h1 rfl
    · rw [if_neg e2] at h0; exact h0 rfl
  have eb : tB T n lim p = tB0 T (tStop n lim) p := if_neg e1
  have hs : tStop n lim ≤ n := by
    unfold tStop
    by_cases e2 : lim < n
    · rw [if_pos e2]; omega
    · rw [if_neg e2]; exact Nat.le_refl _
  refine ⟨by omega, by omega, ?_⟩
  unfold tA
  by_cases e3 : tLt (T (tB T n lim p)) ∨ tDg (T (tB T n lim p))
  · rw [if_pos e3]
    exact (tE_le (T := T) (n := n) (n - tB T n lim p) (tB T n lim p) rfl).2.1 (by omega)
  · rw [if_neg e3]; omega
theorem RX.of {o o' : OS} {T : Nat → Nat} {n lim : Nat} (h : RX o T n lim) (h3 : o'.1 3 = o.1 3) (h4 : o'.1 4 = o.1 4) (ha : o'.2.2.1 1 = o.2.2.1 1) : RX o' T n lim :=
  ⟨h.1, h.2.1, by rw [h3]; exact h.2.2.1, by rw [h4]; exact h.2.2.2.1, by rw [ha]; exact h.2.2.2.2.1, h.2.2.2.2.2⟩
/-- a token is as it was where other things are written -/
theorem RT.of {o o' : OS} {T : Nat → Nat} {n lim p : Nat} (h : RT o T n lim p) (hi : ∀ k, k = 3 ∨ k = 4 ∨ k = 5 ∨ k = 6 ∨ k = 7 ∨ k = 8 ∨ k = 9 → o'.1 k = o.1 k) (hl : o'.2.1 12 = o.2.1 12) (ha : o'.2.2.1 1 = o.2.2.1 1) : RT o' T n lim p := by
  obtain ⟨a1, a2, a3, a4, a5, a6, a7⟩ := h
  exact ⟨a1.of (hi 3 (by omega)) (hi 4 (by omega)) ha, by rw [hi 6 (by omega)]; exact a2, by rw [hi 7 (by omega)]; exact a3, by rw [hi 5 (by omega)]; exact a4, by rw [hl]; exact a5, by rw [hi 8 (by omega)]; exact a6, by rw [hi 9 (by omega)]; exact a7⟩
/-- on to the next token -/
theorem next_ {o o' : OS} {T : Nat → Nat} {n lim p : Nat} (h : RT o T n lim p) (h0 : tK T n lim p ≠ 0) (h1 : tK T n lim p ≠ 1) (hi : ∀ k, k = 3 ∨ k = 4 ∨ k = 5 → o'.1 k = o.1 k) (ha : o'.2.2.1 1 = o.2.2.1 1) : RT (f_X10_go__2 o') T n lim (tA T n lim p) ∧ RS o' (f_X10_go__2 o') := by
  have q := tok_inside h0 h1
  exact go_ (h.1.of (hi 3 (by omega)) (hi 4 (by omega)) ha) (by rw [hi 5 (by omega)]; exact h.2.2.2.1 q.1) q.2.2
/-- what has been told: R as the model's places, N the names -/
def RP (o : OS) (R : Nat → Int32) (N : Nat → Nat) : Prop := (∀ k, k < 84 → o.2.2.1 15 k = R k) ∧ o.2.2.1 24 0 = R 84 ∧ o.2.2.1 24 1 = R 85 ∧ (∀ s b m, (s = 0 ∧ b = 0 ∧ m = 6) ∨ (s = 1 ∧ b = 6 ∧ m = 4) ∨ (s = 2 ∧ b = 10 ∧ m = 6) ∨ (s = 3 ∧ b = 16 ∧ m = 8) → R s = nI (ct R s) ∧ ct R s ≤ m ∧ ∀ k, k < ct R s → ∃ L v, L ≤ 7 ∧ LC L (N (b + k)) v ∧ o.2.2.2 21 (b + k) = lN v)
theorem RP.of {o o' : OS} {R : Nat → Int32} {N : Nat → Nat} (h : RP o R N) (h1 : o'.2.2.1 15 = o.2.2.1 15) (h2 : o'.2.2.1 24 = o.2.2.1 24) (h3 : o'.2.2.2 21 = o.2.2.2 21) : RP o' R N :=
  ⟨by rw [h1]; exact h.1, by rw [h2]; exact h.2.1, by rw [h2]; exact h.2.2.1, by rw [h3]; exact h.2.2.2⟩
theorem RP.rs {o o' : OS} {R : Nat → Int32} {N : Nat → Nat} (h : RP o R N) (hr : RS o o') : RP o' R N := h.of (by rw [hr.2.2]) (by rw [hr.2.2]) (by rw [hr.2.2])
def RBad (r : OS × Int32) (b : Nat × Nat) : Prop := r.2 = 0 ∧ r.1.1 10 = nI b.1 ∧ r.1.1 11 = nI b.2
theorem bad_R {T : Nat → Nat} {n lim p c : Nat} {o : OS} (h : RT o T n lim p) (hc : c < 5) : RBad (f_X10_bad__1 (nI c) o) (sBad T n lim c p) := bad_ h hc
theorem isIn_ {a b v : Nat} (ha : a < 2 ^ 31) (hb : b < 2 ^ 31) (hv : v < 2 ^ 31) : f_X10_isIn__14 (nI v) (nI a) (nI b) = if a ≤ v ∧ v ≤ b then 1 else 0 := by
  unfold f_X10_isIn__14
  by_cases h1 : v < a
  · rw [if_pos (nI_lt h1 ha), if_neg (by omega)]
  · rw [if_neg (nI_nlt (by omega) hv)]
    by_cases h2 : b < v
    · rw [if_pos (nI_lt h2 hv), if_neg (by omega)]
    · rw [if_neg (nI_nlt (by omega) hb), if_pos (by omega)]
theorem tF10 {T : Nat → Nat} {b : Nat} (hT : ∀ k, T k < 256) : ∀ k, tF 10 48 T b k + 23 ≤ 256 * 10 ^ k := by
  intro k
  induction k with
  | zero => show (0 : Nat) + 23 ≤ 256 * 1; decide
  | succ k ih =>
    show 10 * tF 10 48 T b k + (T (b + k) - 48) + 23 ≤ 256 * 10 ^ (k + 1)
    have q := hT (b + k)
    have z : 1 ≤ 10 ^ k := Nat.one_le_pow _ _ (by decide)
    have z2 : 10 ^ (k + 1) = 10 * 10 ^ k := by rw [Nat.pow_succ, Nat.mul_comm]
    rw [z2]
    omega
theorem RK_is3 {K : Nat} : RK K = 3 ↔ K = 3 := by
  unfold RK
  by_cases e0 : K = 0
  · rw [if_pos e0]; omega
  · rw [if_neg e0]
    by_cases e1 : K = 1
    · rw [if_pos e1]; omega
    · rw [if_neg e1]
      by_cases e3 : K = 3
      · rw [if_pos e3]; omega
      · rw [if_neg e3]
        by_cases e4 : K = 2 ∨ 128 ≤ K
        · rw [if_pos e4]; omega
        · rw [if_neg e4]; omega
theorem RK_lt (K : Nat) : RK K < 5 := by
  by_cases hw : K = 2 ∨ 128 ≤ K
  · rw [RK_w hw]; decide
  · exact (RK_n2 hw).2
theorem kind_3 {T : Nat → Nat} {n lim p : Nat} {o : OS} (h : RT o T n lim p) : o.1 7 = 3 ↔ tK T n lim p = 3 := by
  rw [h.2.2.1]
  have q := nI_eq (a := RK (tK T n lim p)) (b := 3) (by have := RK_lt (tK T n lim p); omega) (by decide)
  exact ⟨fun z => RK_is3.mp (q.mp z), fun z => q.mpr (RK_is3.mpr z)⟩
/-- a number's token is short -/
theorem tok_num {T : Nat → Nat} {n lim p : Nat} (hT : ∀ k, T k < 256) (h : tK T n lim p = 3) : tNu T n lim p < 2 ^ 31 := by
  have hl : tLen T n lim p ≤ 3 := by
    unfold tK at h
    by_cases e1 : tStop n lim ≤ tB0 T (tStop n lim) p
    · rw [if_pos e1] at h
      by_cases e2 : lim < n
      · rw [if_pos e2] at h; omega
      · rw [if_neg e2] at h; omega
    · rw [if_neg e1] at h
      by_cases e3 : tLt (T (tB T n lim p)) ∨ tDg (T (tB T n lim p))
      · rw [if_pos e3] at h
        by_cases e4 : nLt T (tB T n lim p) (tLen T n lim p) = 0 ∧ tLen T n lim p ≤ 3
        · exact e4.2
        · rw [if_neg e4] at h
          by_cases e5 : nDg T (tB T n lim p) (tLen T n lim p) = 0 ∧ tLen T n lim p ≤ 7
          · rw [if_pos e5] at h
            have q := tKw_2 (tW T n lim p)
            omega
          · rw [if_neg e5] at h; omega
      · rw [if_neg e3] at h
        by_cases e4 : tSg (T (tB T n lim p))
        · rw [if_pos e4] at h; omega
        · rw [if_neg e4] at h; omega
  have q := tF10 (b := tB T n lim p) hT (tLen T n lim p)
  have r : 10 ^ tLen T n lim p ≤ 10 ^ 3 := Nat.pow_le_pow_right (by decide) hl
  unfold tNu
  have s : (10 : Nat) ^ 3 = 1000 := by decide
  omega
theorem readNumber_ {T : Nat → Nat} {n lim p a b : Nat} {o : OS} {R : Nat → Int32} {N : Nat → Nat} (h : RT o T n lim p) (hP : RP o R N) (ha : a < 2 ^ 31) (hb : b < 2 ^ 31) : (∀ e, sNum T n lim a b p = .inl e → RBad (f_X10_readNumber__7 (nI a) (nI b) o) e) ∧ (∀ v p1, sNum T n lim a b p = .inr (v, p1) → (f_X10_readNumber__7 (nI a) (nI b) o).2 = 1 ∧ RT (f_X10_readNumber__7 (nI a) (nI b) o).1 T n lim p1 ∧ RP (f_X10_readNumber__7 (nI a) (nI b) o).1 R N ∧ (f_X10_readNumber__7 (nI a) (nI b) o).1.1 13 = nI v ∧ v < 2 ^ 31 ∧ (f_X10_readNumber__7 (nI a) (nI b) o).1.2.2 = o.2.2) := by
  unfold f_X10_readNumber__7 sNum
  by_cases k3 : tK T n lim p = 3
  · have hv := tok_num h.1.2.2.2.2.2 k3
    rw [if_pos ((kind_3 h).mpr k3), if_neg (nn k3), h.2.2.2.2.2.1 k3, isIn_ ha hb hv]
    by_cases e : a ≤ tNu T n lim p ∧ tNu T n lim p ≤ b
    · rw [if_pos e, if_neg one0, if_neg (fun q : ¬ (a ≤ tNu T n lim p ∧ tNu T n lim p ≤ b) => q e)]
      have nx := next_ (o' := sI o 13 (nI (tNu T n lim p))) h (by omega) (by omega) (fun k hk => sI_ne (by omega)) rfl
      refine ⟨fun e9 q => (by cases q), fun v p1 q => ?_⟩
      cases q
      exact ⟨rfl, nx.1, (hP.of (o' := sI o 13 (nI (tNu T n lim p))) rfl rfl rfl).rs nx.2, by rw [nx.2.1 13 (by decide) (by decide) (by decide) (by decide) (by decide), sI_get], hv, nx.2.2.2⟩
    · rw [if_neg e, if_pos rfl, if_pos e]
      refine ⟨fun e9 q => ?_, fun v p1 q => (by cases q)⟩
      cases q
      exact bad_R h (by decide)
  · rw [if_neg (fun q => k3 ((kind_3 h).mp q)), if_pos k3]
    refine ⟨fun e9 q => ?_, fun v p1 q => (by cases q)⟩
    cases q
    exact bad_R h (by decide)
theorem RK_is4 {K : Nat} : RK K = 4 ↔ K ≠ 0 ∧ K ≠ 1 ∧ K ≠ 3 ∧ ¬ (K = 2 ∨ 128 ≤ K) := by
  unfold RK
  by_cases e0 : K = 0
  · rw [if_pos e0]; omega
  · rw [if_neg e0]
    by_cases e1 : K = 1
    · rw [if_pos e1]; omega
    · rw [if_neg e1]
      by_cases e3 : K = 3
      · rw [if_pos e3]; omega
      · rw [if_neg e3]
        by_cases e4 : K = 2 ∨ 128 ≤ K
        · rw [if_pos e4]; omega
        · rw [if_neg e4]; omega
theorem tok_small {T : Nat → Nat} {n lim p : Nat} (hT : ∀ k, T k < 256) : tK T n lim p < 256 := by
  unfold tK
  by_cases e1 : tStop n lim ≤ tB0 T (tStop n lim) p
  · rw [if_pos e1]
    by_cases e2 : lim < n
    · rw [if_pos e2]; decide
    · rw [if_neg e2]; decide
  · rw [if_neg e1]
    by_cases e3 : tLt (T (tB T n lim p)) ∨ tDg (T (tB T n lim p))
    · rw [if_pos e3]
      by_cases e4 : nLt T (tB T n lim p) (tLen T n lim p) = 0 ∧ tLen T n lim p ≤ 3
      · rw [if_pos e4]; decide
      · rw [if_neg e4]
        by_cases e5 : nDg T (tB T n lim p) (tLen T n lim p) = 0 ∧ tLen T n lim p ≤ 7
        · rw [if_pos e5]
          by_cases q : ∃ j, j < 28 ∧ KW.getD j 0 = tW T n lim p
          · obtain ⟨j, h1, h2⟩ := q
            rw [(tKw_at h1).mpr h2]
            omega
          · rw [tKw_name.mpr (fun j hj z => q ⟨j, hj, z⟩)]
            decide
        · rw [if_neg e5]; decide
    · rw [if_neg e3]
      by_cases e4 : tSg (T (tB T n lim p))
      · rw [if_pos e4]; exact hT _
      · rw [if_neg e4]; decide
theorem isSign_ {T : Nat → Nat} {n lim p : Nat} {o : OS} (h : RT o T n lim p) : f_X10_isSign__1 59 o = if tK T n lim p = 59 then 1 else 0 := by
  unfold f_X10_isSign__1
  rw [h.2.2.1]
  have q := nI_eq (a := RK (tK T n lim p)) (b := 4) (by have := RK_lt (tK T n lim p); omega) (by decide)
  by_cases e : RK (tK T n lim p) = 4
  · have sm := tok_small (n := n) (lim := lim) (p := p) h.1.2.2.2.2.2
    rw [if_pos (show nI _ = (4 : Int32) from q.mpr e), h.2.2.2.2.2.2 e]
    have r := nI_eq (a := tK T n lim p) (b := 59) (by omega) (by decide)
    by_cases e2 : tK T n lim p = 59
    · rw [if_pos (show nI _ = (59 : Int32) from r.mpr e2), if_pos e2]
    · rw [if_neg (fun z : nI _ = (59 : Int32) => e2 (r.mp z)), if_neg e2]
  · rw [if_neg (fun z : nI _ = (4 : Int32) => e (q.mp z)), if_neg (fun z => e (RK_is4.mpr (by rw [z]; decide)))]
theorem readEnd_ {T : Nat → Nat} {n lim p : Nat} {o : OS} {R : Nat → Int32} {N : Nat → Nat} (h : RT o T n lim p) (hP : RP o R N) : (tK T n lim p ≠ 59 → RBad (f_X10_readEnd__2 o) (sBad T n lim 1 p)) ∧ (tK T n lim p = 59 → (f_X10_readEnd__2 o).2 = 1 ∧ RT (f_X10_readEnd__2 o).1 T n lim (tA T n lim p) ∧ RP (f_X10_readEnd__2 o).1 R N) := by
  unfold f_X10_readEnd__2
  rw [isSign_ h]
  by_cases e : tK T n lim p = 59
  · rw [if_pos e, if_neg one0]
    have nx := next_ (o' := o) h (by omega) (by omega) (fun _ _ => rfl) rfl
    exact ⟨fun q => absurd e q, fun _ => ⟨rfl, nx.1, hP.rs nx.2⟩⟩
  · rw [if_neg e, if_pos rfl]
    exact ⟨fun _ => bad_R h (by decide), fun q => absurd q e⟩
theorem sFind_no {N : Nat → Nat} {b w : Nat} : ∀ m, (∀ j, j < m → N (b + j) ≠ w) → sFind N b w m = none := by
  intro m
  induction m with
  | zero => intro _; rfl
  | succ m ih =>
    intro h
    show (match sFind N b w m with | some j => some j | none => if N (b + m) = w then some m else none) = none
    rw [ih (fun j hj => h j (by omega))]
    exact if_neg (h m (by omega))
theorem sFind_at {N : Nat → Nat} {b w k : Nat} (hn : ∀ j, j < k → N (b + j) ≠ w) (hk : N (b + k) = w) : ∀ m, k < m → sFind N b w m = some k := by
  intro m
  induction m with
  | zero => intro h; omega
  | succ m ih =>
    intro h
    show (match sFind N b w m with | some j => some j | none => if N (b + m) = w then some m else none) = some k
    by_cases e : k < m
    · rw [ih e]
    · have e2 : k = m := by omega
      subst e2
      rw [sFind_no k hn]
      exact if_pos hk
/-- the index that findIn gives -/
def fI : Option Nat → Int32
  | none => -1
  | some j => nI j
theorem findIn_l {T : Nat → Nat} {n lim p b m : Nat} {o : OS} {N : Nat → Nat} {A : Nat → Int64} (h : RT o T n lim p) (hw : tK T n lim p = 2 ∨ 128 ≤ tK T n lim p) (hb : b + m ≤ 24) (hA : ∀ k, k < m → ∃ L v, L ≤ 7 ∧ LC L (N (b + k)) v ∧ A (b + k) = lN v) : ∀ (f k : Nat), k ≤ m → m - k < f → (∀ j, j < k → N (b + j) ≠ tW T n lim p) → f_X10_findIn__9_3 (nI b) (nI m) (o.2.1 12) f (nI k) A = fI (sFind N b (tW T n lim p) m) := by
  intro f
  induction f with
  | zero => intro k _ h; omega
  | succ f ih =>
    intro k hk hf hj
    rw [f_X10_findIn__9_3]
    by_cases e : m ≤ k
    · rw [if_pos (nI_le e (by omega)), sFind_no m (fun j q => hj j (by omega))]
      rfl
    · rw [if_neg (nI_ge (by omega) (by omega)), nI_add, nI_clamp (by omega)]
      obtain ⟨L, v, l7, l2, ev⟩ := hA k (by omega)
      obtain ⟨L2, l72, l22, -⟩ := tok_word hw
      rw [ev]
      have c : lg_cmp (lN v) (o.2.1 12) = 0 ↔ N (b + k) = tW T n lim p := by
        rw [lc0, h.2.2.2.2.1 hw, pk_lEQ (LC.v63 l2 l7) (LC.v63 l22 l72)]
        exact (LC.inj _ _ _ _ _ _ l2 l22).symm
      by_cases e2 : N (b + k) = tW T n lim p
      · rw [if_pos (c.mpr e2), sFind_at hj e2 m (by omega)]
        rfl
      · rw [if_neg (fun q => e2 (c.mp q)), nI_1]
        refine ih (k + 1) (by omega) (by omega) (fun j q => ?_)
        by_cases e3 : j = k
        · rw [e3]; exact e2
        · exact hj j (by omega)
theorem findIn_ {T : Nat → Nat} {n lim p b m s M : Nat} {o : OS} {R : Nat → Int32} {N : Nat → Nat} (h : RT o T n lim p) (hP : RP o R N) (hw : tK T n lim p = 2 ∨ 128 ≤ tK T n lim p) (hs : (s = 0 ∧ b = 0 ∧ M = 6) ∨ (s = 1 ∧ b = 6 ∧ M = 4) ∨ (s = 2 ∧ b = 10 ∧ M = 6) ∨ (s = 3 ∧ b = 16 ∧ M = 8)) : f_X10_findIn__9 (nI b) (o.2.2.1 15 s) (o.2.1 12) (o.2.2.2 21) = fI (sFind N b (tW T n lim p) (ct R s)) := by
  obtain ⟨q1, q2, q3⟩ := hP.2.2.2 s b M hs
  unfold f_X10_findIn__9
  rw [hP.1 s (by omega), q1]
  have r := findIn_l (A := o.2.2.2 21) h hw (by omega) q3 4294967298 0 (Nat.zero_le _) (by omega) (fun j hj => by omega)
  rw [nI_0] at r
  exact r
theorem sFind_lt {N : Nat → Nat} {b w : Nat} : ∀ (m j : Nat), sFind N b w m = some j → j < m := by
  intro m
  induction m with
  | zero => intro j h; cases h
  | succ m ih =>
    intro j h
    have h : (match sFind N b w m with | some j => some j | none => if N (b + m) = w then some m else none) = some j := h
    cases e : sFind N b w m with
    | some i => rw [e] at h; cases h; have := ih j e; omega
    | none =>
      rw [e] at h
      by_cases e2 : N (b + m) = w
      · rw [if_pos e2] at h; cases h; omega
      · rw [if_neg e2] at h; cases h
theorem fI_neg {x : Option Nat} (h : ∀ j, x = some j → j < 100) : (fI x).toInt < 0 ↔ x = none := by
  cases x with
  | none => exact ⟨fun _ => rfl, fun _ => by show ((-1 : Int32)).toInt < 0; decide⟩
  | some j =>
    have q := h j rfl
    refine ⟨fun z => ?_, fun z => by cases z⟩
    have z : (nI j).toInt < 0 := z
    rw [nI_toInt (by omega)] at z
    omega
theorem isTaken_ {T : Nat → Nat} {n lim p : Nat} {o : OS} {R : Nat → Int32} {N : Nat → Nat} (h : RT o T n lim p) (hP : RP o R N) (hw : tK T n lim p = 2 ∨ 128 ≤ tK T n lim p) : f_X10_isTaken__1 o = if sTaken R N (tW T n lim p) then 1 else 0 := by
  have f0 : f_X10_findIn__9 (0 : Int32) (o.2.2.1 15 (Int32.toNatClampNeg (0 : Int32))) (o.2.1 12) (o.2.2.2 21) = fI (sFind N 0 (tW T n lim p) (ct R 0)) := findIn_ (s := 0) (b := 0) (M := 6) (m := 0) h hP hw (by omega)
  have f1 : f_X10_findIn__9 (6 : Int32) (o.2.2.1 15 (Int32.toNatClampNeg (1 : Int32))) (o.2.1 12) (o.2.2.2 21) = fI (sFind N 6 (tW T n lim p) (ct R 1)) := findIn_ (s := 1) (b := 6) (M := 4) (m := 0) h hP hw (by omega)
  have f2 : f_X10_findIn__9 (10 : Int32) (o.2.2.1 15 (Int32.toNatClampNeg (2 : Int32))) (o.2.1 12) (o.2.2.2 21) = fI (sFind N 10 (tW T n lim p) (ct R 2)) := findIn_ (s := 2) (b := 10) (M := 6) (m := 0) h hP hw (by omega)
  have f3 : f_X10_findIn__9 (16 : Int32) (o.2.2.1 15 (Int32.toNatClampNeg (3 : Int32))) (o.2.1 12) (o.2.2.2 21) = fI (sFind N 16 (tW T n lim p) (ct R 3)) := findIn_ (s := 3) (b := 16) (M := 8) (m := 0) h hP hw (by omega)
  have b0 := (hP.2.2.2 0 0 6 (by omega)).2.1
  have b1 := (hP.2.2.2 1 6 4 (by omega)).2.1
  have b2 := (hP.2.2.2 2 10 6 (by omega)).2.1
  have b3 := (hP.2.2.2 3 16 8 (by omega)).2.1
  have n0 := fI_neg (x := sFind N 0 (tW T n lim p) (ct R 0)) (fun j q => by have := sFind_lt _ _ q; omega)
  have n1 := fI_neg (x := sFind N 6 (tW T n lim p) (ct R 1)) (fun j q => by have := sFind_lt _ _ q; omega)
  have n2 := fI_neg (x := sFind N 10 (tW T n lim p) (ct R 2)) (fun j q => by have := sFind_lt _ _ q; omega)
  have n3 := fI_neg (x := sFind N 16 (tW T n lim p) (ct R 3)) (fun j q => by have := sFind_lt _ _ q; omega)
  unfold f_X10_isTaken__1
  rw [f0, f1, f2, f3]
  by_cases e0 : sFind N 0 (tW T n lim p) (ct R 0) = none
  · rw [if_pos (n0.mpr e0)]
    by_cases e1 : sFind N 6 (tW T n lim p) (ct R 1) = none
    · rw [if_pos (n1.mpr e1)]
      by_cases e2 : sFind N 10 (tW T n lim p) (ct R 2) = none
      · rw [if_pos (n2.mpr e2)]
        by_cases e3 : sFind N 16 (tW T n lim p) (ct R 3) = none
        · rw [if_pos (n3.mpr e3), if_neg (fun q => q.elim (fun q => q e0) (fun q => q.elim (fun q => q e1) (fun q => q.elim (fun q => q e2) (fun q => q e3))))]
        · rw [if_neg (fun q => e3 (n3.mp q)), if_pos (Or.inr (Or.inr (Or.inr e3)))]
      · rw [if_neg (fun q => e2 (n2.mp q)), if_pos (Or.inr (Or.inr (Or.inl e2)))]
    · rw [if_neg (fun q => e1 (n1.mp q)), if_pos (Or.inr (Or.inl e1))]
  · rw [if_neg (fun q => e0 (n0.mp q)), if_pos (Or.inl e0)]
theorem RP.slot {o o' : OS} {R : Nat → Int32} {N : Nat → Nat} {s b M w : Nat} (hP : RP o R N) (hs : (s = 0 ∧ b = 0 ∧ M = 6) ∨ (s = 1 ∧ b = 6 ∧ M = 4) ∨ (s = 2 ∧ b = 10 ∧ M = 6) ∨ (s = 3 ∧ b = 16 ∧ M = 8)) (hlt : ct R s < M) (h1 : o'.2.2.1 15 = o.2.2.1 15) (h2 : o'.2.2.1 24 = o.2.2.1 24) (h3 : ∀ j, j ≠ b + ct R s → o'.2.2.2 21 j = o.2.2.2 21 j) : RP o' R (ud N (b + ct R s) w) := by
  refine ⟨by rw [h1]; exact hP.1, by rw [h2]; exact hP.2.1, by rw [h2]; exact hP.2.2.1, fun s9 b9 m9 q => ?_⟩
  obtain ⟨q1, q2, q3⟩ := hP.2.2.2 s9 b9 m9 q
  refine ⟨q1, q2, fun k hk => ?_⟩
  have ne : b9 + k ≠ b + ct R s := by
    rcases hs with ⟨rfl, rfl, rfl⟩ | ⟨rfl, rfl, rfl⟩ | ⟨rfl, rfl, rfl⟩ | ⟨rfl, rfl, rfl⟩ <;> rcases q with ⟨rfl, rfl, rfl⟩ | ⟨rfl, rfl, rfl⟩ | ⟨rfl, rfl, rfl⟩ | ⟨rfl, rfl, rfl⟩ <;> omega
  obtain ⟨L, v, l1, l2, l3⟩ := q3 k hk
  exact ⟨L, v, l1, by rw [ud_ne ne]; exact l2, by rw [h3 _ ne]; exact l3⟩
theorem readNew_ {T : Nat → Nat} {n lim p s b M : Nat} {o : OS} {R : Nat → Int32} {N : Nat → Nat} {x : Int32} (h : RT o T n lim p) (hP : RP o R N) (hs : (s = 0 ∧ b = 0 ∧ M = 6) ∨ (s = 1 ∧ b = 6 ∧ M = 4) ∨ (s = 2 ∧ b = 10 ∧ M = 6) ∨ (s = 3 ∧ b = 16 ∧ M = 8)) (hlt : ct R s < M) (hx : x = nI (b + ct R s)) : (∀ e, sNew T n lim (b + ct R s) R N p = .inl e → RBad (f_X10_readNew__4 x o) e) ∧ (∀ p1 N1, sNew T n lim (b + ct R s) R N p = .inr (p1, N1) → (f_X10_readNew__4 x o).2 = 1 ∧ RT (f_X10_readNew__4 x o).1 T n lim p1 ∧ RP (f_X10_readNew__4 x o).1 R N1 ∧ ∃ L v, L ≤ 7 ∧ LC L (N1 (b + ct R s)) v ∧ (f_X10_readNew__4 x o).1.2.2.2 21 (b + ct R s) = lN v) := by
  subst hx
  unfold f_X10_readNew__4 sNew
  rw [isName_ h]
  by_cases k2 : tK T n lim p = 2
  · have hw : tK T n lim p = 2 ∨ 128 ≤ tK T n lim p := Or.inl k2
    rw [if_pos k2, if_neg one0, if_neg (nn k2), isTaken_ h hP hw]
    by_cases e : sTaken R N (tW T n lim p)
    · rw [if_pos e, if_pos e, if_neg one0]
      refine ⟨fun e9 q => ?_, fun p1 N1 q => (by cases q)⟩
      cases q
      exact bad_R h (by decide)
    · rw [if_neg e, if_neg e, if_pos rfl]
      have hc : (nI (b + ct R s)).toNatClampNeg = b + ct R s := nI_clamp (by omega)
      have nx := next_ (o' := sB o 21 (nI (b + ct R s)).toNatClampNeg (o.2.1 12)) h (by omega) (by omega) (fun _ _ => rfl) rfl
      refine ⟨fun e9 q => (by cases q), fun p1 N1 q => ?_⟩
      cases q
      have hA : ∀ j, (sB o 21 (nI (b + ct R s)).toNatClampNeg (o.2.1 12)).2.2.2 21 j = if j = b + ct R s then o.2.1 12 else o.2.2.2 21 j := by
        intro j
        show (if (21 : Nat) = 21 then vp_updL (o.2.2.2 21) (nI (b + ct R s)).toNatClampNeg (o.2.1 12) else o.2.2.2 21) j = _
        rw [if_pos rfl, hc]
        rfl
      refine ⟨rfl, nx.1, RP.rs (RP.slot (o' := sB o 21 (nI (b + ct R s)).toNatClampNeg (o.2.1 12)) hP hs hlt rfl rfl (fun j hj => by rw [hA j, if_neg hj])) nx.2, ?_⟩
      obtain ⟨L, l7, l2, -⟩ := tok_word hw
      refine ⟨L, _, l7, by rw [ud_eq]; exact l2, ?_⟩
      rw [nx.2.2.2, hA, if_pos rfl]
      exact h.2.2.2.2.1 hw
  · rw [if_neg k2, if_pos rfl, if_pos k2]
    refine ⟨fun e9 q => ?_, fun p1 N1 q => (by cases q)⟩
    cases q
    exact bad_R h (by decide)
theorem isOne_ {T : Nat → Nat} {n lim p s b M : Nat} {o : OS} {R : Nat → Int32} {N : Nat → Nat} {x y : Int32} (h : RT o T n lim p) (hP : RP o R N) (hs : (s = 0 ∧ b = 0 ∧ M = 6) ∨ (s = 1 ∧ b = 6 ∧ M = 4) ∨ (s = 2 ∧ b = 10 ∧ M = 6) ∨ (s = 3 ∧ b = 16 ∧ M = 8)) (hx : x = nI b) (hy : y = o.2.2.1 15 s) : (∀ e, sOne T n lim b (ct R s) N p = .inl e → RBad (f_X10_isOne__4 x y o) e) ∧ (∀ k, sOne T n lim b (ct R s) N p = .inr k → (f_X10_isOne__4 x y o).2 = 1 ∧ (f_X10_isOne__4 x y o).1 = sI o 13 (nI k) ∧ k < ct R s) := by
  subst hx
  subst hy
  have bM := (hP.2.2.2 s b M hs).2.1
  unfold f_X10_isOne__4 sOne
  rw [isName_ h]
  by_cases k2 : tK T n lim p = 2
  · have hw : tK T n lim p = 2 ∨ 128 ≤ tK T n lim p := Or.inl k2
    rw [if_pos k2, if_neg one0, if_neg (nn k2), findIn_ (m := 0) h hP hw hs]
    have ng := fI_neg (x := sFind N b (tW T n lim p) (ct R s)) (fun j q => by have := sFind_lt _ _ q; omega)
    cases e : sFind N b (tW T n lim p) (ct R s) with
    | none =>
      rw [e] at ng
      rw [if_pos (ng.mpr rfl)]
      refine ⟨fun e9 q => ?_, fun k q => (by cases q)⟩
      cases q
      have q := bad_R (c := 3) (h.of (o' := sI o 13 (fI none)) (fun k hk => sI_ne (by omega)) rfl rfl) (by decide)
      exact ⟨rfl, q.2.1, q.2.2⟩
    | some j =>
      rw [e] at ng
      rw [if_neg (fun q => by have := ng.mp q; cases this)]
      refine ⟨fun e9 q => (by cases q), fun k q => ?_⟩
      cases q
      exact ⟨rfl, rfl, sFind_lt _ _ e⟩
  · rw [if_neg k2, if_pos rfl, if_pos k2]
    refine ⟨fun e9 q => ?_, fun k q => (by cases q)⟩
    cases q
    exact bad_R h (by decide)
theorem sOne_2 {T : Nat → Nat} {n lim p b m k : Nat} {N : Nat → Nat} (h : sOne T n lim b m N p = .inr k) : tK T n lim p = 2 := by
  unfold sOne at h
  by_cases e : tK T n lim p = 2
  · exact e
  · rw [if_pos e] at h; cases h
theorem readOne_ {T : Nat → Nat} {n lim p s b M : Nat} {o : OS} {R : Nat → Int32} {N : Nat → Nat} {x y : Int32} (h : RT o T n lim p) (hP : RP o R N) (hs : (s = 0 ∧ b = 0 ∧ M = 6) ∨ (s = 1 ∧ b = 6 ∧ M = 4) ∨ (s = 2 ∧ b = 10 ∧ M = 6) ∨ (s = 3 ∧ b = 16 ∧ M = 8)) (hx : x = nI b) (hy : y = o.2.2.1 15 s) : (∀ e, sOne T n lim b (ct R s) N p = .inl e → RBad (f_X10_readOne__3 x y o) e) ∧ (∀ k, sOne T n lim b (ct R s) N p = .inr k → (f_X10_readOne__3 x y o).2 = 1 ∧ RT (f_X10_readOne__3 x y o).1 T n lim (tA T n lim p) ∧ RP (f_X10_readOne__3 x y o).1 R N ∧ (f_X10_readOne__3 x y o).1.1 13 = nI k ∧ k < ct R s ∧ (f_X10_readOne__3 x y o).1.2.2 = o.2.2) := by
  have q := isOne_ h hP hs hx hy
  unfold f_X10_readOne__3
  generalize f_X10_isOne__4 x y o = r at q ⊢
  refine ⟨fun e he => ?_, fun k hk => ?_⟩
  · have z := q.1 e he
    rw [if_pos z.1]
    exact ⟨rfl, z.2⟩
  · obtain ⟨z1, z2, z3⟩ := q.2 k hk
    have k2 := sOne_2 hk
    rw [if_neg (ne1 z1), z2]
    have nx := next_ (o' := sI o 13 (nI k)) h (by omega) (by omega) (fun k hk => sI_ne (by omega)) rfl
    exact ⟨rfl, nx.1, (hP.of (o' := sI o 13 (nI k)) rfl rfl rfl).rs nx.2, by rw [nx.2.1 13 (by decide) (by decide) (by decide) (by decide) (by decide), sI_get], z3, nx.2.2.2⟩
theorem readIdea_ {T : Nat → Nat} {n lim p : Nat} {o : OS} {R : Nat → Int32} {N : Nat → Nat} (h : RT o T n lim p) (hP : RP o R N) : (∀ e, sOne T n lim 0 (ct R 0) N p = .inl e → RBad (f_X10_readIdea__1 o) e) ∧ (∀ k, sOne T n lim 0 (ct R 0) N p = .inr k → (f_X10_readIdea__1 o).2 = 1 ∧ RT (f_X10_readIdea__1 o).1 T n lim (tA T n lim p) ∧ RP (f_X10_readIdea__1 o).1 R N ∧ (f_X10_readIdea__1 o).1.1 13 = nI k ∧ k < ct R 0 ∧ (f_X10_readIdea__1 o).1.2.2 = o.2.2) := by
  have q := readOne_ (x := (0 : Int32)) (y := o.2.2.1 15 (Int32.toNatClampNeg (0 : Int32))) (s := 0) (b := 0) (M := 6) h hP (by omega) rfl rfl
  unfold f_X10_readIdea__1
  generalize f_X10_readOne__3 (0 : Int32) (o.2.2.1 15 (Int32.toNatClampNeg (0 : Int32))) o = r at q ⊢
  have e : (if r.2 = 0 then (r.1, r.2) else (r.1, r.2)) = r := by
    by_cases z : r.2 = 0
    · rw [if_pos z]
    · rw [if_neg z]
  rw [e]
  exact q
theorem readFirst_ {T : Nat → Nat} {n lim p s b M : Nat} {o : OS} {R : Nat → Int32} {N : Nat → Nat} {x y : Int32} (h : RT o T n lim p) (hP : RP o R N) (h0 : tK T n lim p ≠ 0) (h1 : tK T n lim p ≠ 1) (hs : (s = 0 ∧ b = 0 ∧ M = 6) ∨ (s = 1 ∧ b = 6 ∧ M = 4) ∨ (s = 2 ∧ b = 10 ∧ M = 6) ∨ (s = 3 ∧ b = 16 ∧ M = 8)) (hx : x.toNatClampNeg = s) (hy : y = nI M) : (ct R s = M → RBad (f_X10_readFirst__4 x y o) (sBad T n lim 4 p)) ∧ (ct R s ≠ M → (f_X10_readFirst__4 x y o).2 = 1 ∧ RT (f_X10_readFirst__4 x y o).1 T n lim (tA T n lim p) ∧ RP (f_X10_readFirst__4 x y o).1 R N ∧ ct R s < M) := by
  obtain ⟨q1, q2, q3⟩ := hP.2.2.2 s b M hs
  unfold f_X10_readFirst__4
  rw [hx, hP.1 s (by omega), hy, q1]
  have c := nI_eq (a := ct R s) (b := M) (by omega) (by omega)
  by_cases e : ct R s = M
  · rw [if_pos (c.mpr e)]
    exact ⟨fun _ => bad_R h (by decide), fun z => absurd e z⟩
  · rw [if_neg (fun z => e (c.mp z))]
    have nx := next_ (o' := o) h h0 h1 (fun _ _ => rfl) rfl
    exact ⟨fun z => absurd z e, fun _ => ⟨rfl, nx.1, hP.rs nx.2, by omega⟩⟩
/-! the reference's lines, by the spec -/
theorem sA_get {o : OS} {k i : Nat} {v : Int32} : (sA o k i v).2.2.1 k = upd (o.2.2.1 k) i v := if_pos rfl
theorem sA_ne {o : OS} {k i j : Nat} {v : Int32} (h : j ≠ k) : (sA o k i v).2.2.1 j = o.2.2.1 j := if_neg h
abbrev SORT (s b M : Nat) : Prop := (s = 0 ∧ b = 0 ∧ M = 6) ∨ (s = 1 ∧ b = 6 ∧ M = 4) ∨ (s = 2 ∧ b = 10 ∧ M = 6) ∨ (s = 3 ∧ b = 16 ∧ M = 8)
theorem RP.put {o : OS} {R : Nat → Int32} {N : Nat → Nat} {i k : Nat} {v w : Int32} (hP : RP o R N) (h4 : 4 ≤ k) (hk : k < 84) (hi : i = k) (hv : v = w) : RP (sA o 15 i v) (upd R k w) N := by
  subst hi
  subst hv
  refine ⟨fun j hj => ?_, ?_, ?_, fun s b m q => ?_⟩
  · rw [sA_get]
    by_cases e : j = i
    · rw [e, pk_us, pk_us]
    · rw [pk_un e, pk_un e]; exact hP.1 j hj
  · rw [sA_ne (by decide), pk_un (by omega)]; exact hP.2.1
  · rw [sA_ne (by decide), pk_un (by omega)]; exact hP.2.2.1
  · obtain ⟨q1, q2, q3⟩ := hP.2.2.2 s b m q
    have e : upd R i v s = R s := pk_un (by omega)
    have ec : ct (upd R i v) s = ct R s := by
      show (upd R i v s).toNatClampNeg = _
      rw [e]
      rfl
    rw [e, ec]
    exact ⟨q1, q2, q3⟩
theorem RP.inc {o : OS} {R : Nat → Int32} {N : Nat → Nat} {s b M i : Nat} {v : Int32} (hP : RP o R N) (hs : SORT s b M) (hlt : ct R s < M) (hn : ∃ L v, L ≤ 7 ∧ LC L (N (b + ct R s)) v ∧ o.2.2.2 21 (b + ct R s) = lN v) (hi : i = s) (hv : v = nI (ct R s + 1)) : RP (sA o 15 i v) (upd R s (nI (ct R s + 1))) N := by
  subst hi
  subst hv
  have s4 : i < 4 := by omega
  refine ⟨fun j hj => ?_, ?_, ?_, fun s9 b9 m9 q => ?_⟩
  · rw [sA_get]
    by_cases e : j = i
    · rw [e, pk_us, pk_us]
    · rw [pk_un e, pk_un e]; exact hP.1 j hj
  · rw [sA_ne (by decide), pk_un (by omega)]; exact hP.2.1
  · rw [sA_ne (by decide), pk_un (by omega)]; exact hP.2.2.1
  · obtain ⟨q1, q2, q3⟩ := hP.2.2.2 s9 b9 m9 q
    by_cases e : s9 = i
    · have eb : b9 = b ∧ m9 = M := by
        rcases hs with ⟨a, c, d⟩ | ⟨a, c, d⟩ | ⟨a, c, d⟩ | ⟨a, c, d⟩ <;> rcases q with ⟨a1, c1, d1⟩ | ⟨a1, c1, d1⟩ | ⟨a1, c1, d1⟩ | ⟨a1, c1, d1⟩ <;> exact ⟨by omega, by omega⟩
      have e1 : upd R i (nI (ct R i + 1)) i = nI (ct R i + 1) := pk_us
      have ec : ct (upd R i (nI (ct R i + 1))) i = ct R i + 1 := by
        show (upd R i (nI (ct R i + 1)) i).toNatClampNeg = _
        rw [e1, nI_clamp (by omega)]
      rw [e, e1, ec, eb.1, eb.2]
      refine ⟨rfl, by omega, fun k hk => ?_⟩
      by_cases ek : k = ct R i
      · rw [ek]; exact hn
      · rw [e, eb.1] at q3
        exact q3 k (by omega)
    · have e1 : upd R i (nI (ct R i + 1)) s9 = R s9 := pk_un e
      have ec : ct (upd R i (nI (ct R i + 1))) s9 = ct R s9 := by
        show (upd R i (nI (ct R i + 1)) s9).toNatClampNeg = _
        rw [e1]
        rfl
      rw [e1, ec]
      exact ⟨q1, q2, q3⟩
theorem RP.once {o : OS} {R : Nat → Int32} {N : Nat → Nat} {i k : Nat} {v : Int32} (hP : RP o R N) (hk : k < 2) (hi : i = k) (hv : v = 1) : RP (sA o 24 i v) (upd R (84 + k) 1) N := by
  subst hi
  subst hv
  refine ⟨fun j hj => ?_, ?_, ?_, fun s b m q => ?_⟩
  · rw [sA_ne (by decide), pk_un (by omega)]; exact hP.1 j hj
  · rw [sA_get]
    by_cases e : i = 0
    · rw [e, pk_us, pk_us]
    · rw [pk_un (by omega), pk_un (by omega)]; exact hP.2.1
  · rw [sA_get]
    by_cases e : i = 1
    · rw [e, pk_us, pk_us]
    · rw [pk_un (by omega), pk_un (by omega)]; exact hP.2.2.1
  · obtain ⟨q1, q2, q3⟩ := hP.2.2.2 s b m q
    have e : upd R (84 + i) 1 s = R s := pk_un (by omega)
    have ec : ct (upd R (84 + i) 1) s = ct R s := by
      show (upd R (84 + i) 1 s).toNatClampNeg = _
      rw [e]
      rfl
    rw [e, ec]
    exact ⟨q1, q2, q3⟩
theorem RP.cnt {o : OS} {R : Nat → Int32} {N : Nat → Nat} {s b M : Nat} (hP : RP o R N) (hs : SORT s b M) : o.2.2.1 15 s = nI (ct R s) := (hP.1 s (by omega)).trans (hP.2.2.2 s b M hs).1
/-- a line's end: a fault, or the next place with what is told then -/
def PO (T : Nat → Nat) (n lim : Nat) (r : OS × Int32) (S : PR) : Prop := (∀ e, S = .inl e → RBad r e) ∧ ∀ p1 R1 N1, S = .inr (p1, R1, N1) → r.2 = 1 ∧ RT r.1 T n lim p1 ∧ RP r.1 R1 N1
theorem PO.bad {T : Nat → Nat} {n lim : Nat} {r : OS × Int32} {e : Nat × Nat} (h : RBad r e) : PO T n lim r (.inl e) := ⟨fun e9 q => (by cases q; exact h), fun _ _ _ q => (by cases q)⟩
theorem PO.ok {T : Nat → Nat} {n lim p1 : Nat} {r : OS × Int32} {R1 : Nat → Int32} {N1 : Nat → Nat} (h1 : r.2 = 1) (h2 : RT r.1 T n lim p1) (h3 : RP r.1 R1 N1) : PO T n lim r (.inr (p1, R1, N1)) := ⟨fun e9 q => (by cases q), fun _ _ _ q => (by cases q; exact ⟨h1, h2, h3⟩)⟩
section LINES
variable {T : Nat → Nat} {n lim p : Nat} {o : OS} {R : Nat → Int32} {N : Nat → Nat}
theorem readRoom_ (h : RT o T n lim p) (hP : RP o R N) (h0 : tK T n lim p ≠ 0) (h1 : tK T n lim p ≠ 1) : PO T n lim (f_X10_readRoom__1 o) (sRoom T n lim R N p) := by
  have q0 := readFirst_ (x := (1 : Int32)) (y := (4 : Int32)) (s := 1) (b := 6) (M := 4) h hP h0 h1 (by omega) (by decide) rfl
  unfold f_X10_readRoom__1 sRoom
  generalize f_X10_readFirst__4 (1 : Int32) (4 : Int32) o = r0 at q0 ⊢
  by_cases e0 : ct R 1 = 4
  · have z := q0.1 e0
    rw [if_pos z.1, if_pos e0]
    exact PO.bad ⟨(by first | rfl | exact z.1), z.2⟩
  · obtain ⟨a1, a2, a3, a4⟩ := q0.2 e0
    have hr : r0.1.2.2.1 15 (Int32.toNatClampNeg (1 : Int32)) = nI (ct R 1) := RP.cnt (s := 1) (b := 6) (M := 4) a3 (by omega)
    rw [if_neg (ne1 a1), if_neg e0, hr]
    have q1 := readNew_ (x := (6 : Int32) + nI (ct R 1)) (s := 1) (b := 6) (M := 4) a2 a3 (by omega) a4 (nI_add 6 (ct R 1))
    generalize f_X10_readNew__4 ((6 : Int32) + nI (ct R 1)) r0.1 = r1 at q1 ⊢
    cases e1 : sNew T n lim (6 + ct R 1) R N (tA T n lim p) with
    | inl b =>
      have z := q1.1 b e1
      rw [if_pos z.1]
      exact PO.bad ⟨(by first | rfl | exact z.1), z.2⟩
    | inr w =>
      obtain ⟨p1, N1⟩ := w
      try dsimp only
      obtain ⟨b1, b2, b3, b4⟩ := q1.2 p1 N1 e1
      rw [if_neg (ne1 b1)]
      exact PO.ok rfl (b2.of (fun _ _ => rfl) rfl (sA_ne (by decide))) (RP.inc (s := 1) (b := 6) (M := 4) b3 (by omega) a4 b4 rfl (nI_1 _))
theorem put_inc {r : OS} {s b M k i j : Nat} {w v : Int32} (h : RT r T n lim p) (hP : RP r R N) (hs : SORT s b M) (hlt : ct R s < M) (h4 : 4 ≤ k) (hk : k < 84) (hi : i = k) (hj : j = s) (hw : w = v) (hn : ∃ L v, L ≤ 7 ∧ LC L (N (b + ct R s)) v ∧ r.2.2.2 21 (b + ct R s) = lN v) : RT (sA (sA r 15 i w) 15 j ((sA r 15 i w).2.2.1 15 j + 1)) T n lim p ∧ RP (sA (sA r 15 i w) 15 j ((sA r 15 i w).2.2.1 15 j + 1)) (upd (upd R k v) s (nI (ct R s + 1))) N := by
  subst hj
  have hu := RP.put hP h4 hk hi hw
  have s4 : j < 4 := by omega
  have ec : ct (upd R k v) j = ct R j := by
    show (upd R k v j).toNatClampNeg = _
    rw [pk_un (by omega)]
    rfl
  have hc := RP.cnt hu hs
  rw [ec] at hc
  have hq := RP.inc (i := j) (v := (sA r 15 i w).2.2.1 15 j + 1) hu hs (by rw [ec]; exact hlt) (by rw [ec]; exact hn) rfl (by rw [hc, ec, nI_1])
  rw [ec] at hq
  exact ⟨(h.of (o' := sA r 15 i w) (fun _ _ => rfl) rfl (sA_ne (by decide))).of (fun _ _ => rfl) rfl (sA_ne (by decide)), hq⟩
theorem ix_ {c k : Nat} {x : Int32} (hx : x = nI k) (hc : c + k < 2 ^ 31) : Int32.toNatClampNeg (nI c + x) = c + k := by
  rw [hx, nI_add, nI_clamp hc]
theorem readNewIdea_ (h : RT o T n lim p) (hP : RP o R N) (h0 : tK T n lim p ≠ 0) (h1 : tK T n lim p ≠ 1) : PO T n lim (f_X10_readNewIdea__1 o) (sIdea T n lim R N p) := by
  have q0 := readFirst_ (x := (0 : Int32)) (y := (6 : Int32)) (s := 0) (b := 0) (M := 6) h hP h0 h1 (by omega) (by decide) rfl
  unfold f_X10_readNewIdea__1 sIdea
  generalize f_X10_readFirst__4 (0 : Int32) (6 : Int32) o = r0 at q0 ⊢
  by_cases e0 : ct R 0 = 6
  · have z := q0.1 e0
    rw [if_pos z.1, if_pos e0]
    exact PO.bad ⟨(by first | rfl | exact z.1), z.2⟩
  · obtain ⟨a1, a2, a3, a4⟩ := q0.2 e0
    have hr : r0.1.2.2.1 15 (Int32.toNatClampNeg (0 : Int32)) = nI (ct R 0) := RP.cnt (s := 0) (b := 0) (M := 6) a3 (by omega)
    rw [if_neg (ne1 a1), if_neg e0, hr]
    have q1 := readNew_ (x := nI (ct R 0)) (s := 0) (b := 0) (M := 6) a2 a3 (by omega) a4 (by rw [Nat.zero_add])
    generalize f_X10_readNew__4 (nI (ct R 0)) r0.1 = r1 at q1 ⊢
    have e9 : sNew T n lim (0 + ct R 0) R N (tA T n lim p) = sNew T n lim (ct R 0) R N (tA T n lim p) := by rw [Nat.zero_add]
    rw [e9] at q1
    cases e1 : sNew T n lim (ct R 0) R N (tA T n lim p) with
    | inl b =>
      have z := q1.1 b e1
      rw [if_pos z.1]
      exact PO.bad ⟨(by first | rfl | exact z.1), z.2⟩
    | inr w =>
      obtain ⟨p1, N1⟩ := w
      try dsimp only
      obtain ⟨b1, b2, b3, b4⟩ := q1.2 p1 N1 e1
      rw [if_neg (ne1 b1)]
      have q2 : (∀ e, sNum T n lim 1 60 p1 = .inl e → RBad (f_X10_readNumber__7 (1 : Int32) (60 : Int32) r1.1) e) ∧ (∀ v p2, sNum T n lim 1 60 p1 = .inr (v, p2) → (f_X10_readNumber__7 (1 : Int32) (60 : Int32) r1.1).2 = 1 ∧ RT (f_X10_readNumber__7 (1 : Int32) (60 : Int32) r1.1).1 T n lim p2 ∧ RP (f_X10_readNumber__7 (1 : Int32) (60 : Int32) r1.1).1 R N1 ∧ (f_X10_readNumber__7 (1 : Int32) (60 : Int32) r1.1).1.1 13 = nI v ∧ v < 2 ^ 31 ∧ (f_X10_readNumber__7 (1 : Int32) (60 : Int32) r1.1).1.2.2 = r1.1.2.2) := readNumber_ (a := 1) (b := 60) b2 b3 (by decide) (by decide)
      generalize f_X10_readNumber__7 (1 : Int32) (60 : Int32) r1.1 = r2 at q2 ⊢
      cases e2 : sNum T n lim 1 60 p1 with
      | inl b =>
        have z := q2.1 b e2
        rw [if_pos z.1]
        exact PO.bad ⟨(by first | rfl | exact z.1), z.2⟩
      | inr w =>
        obtain ⟨v, p2⟩ := w
        try dsimp only
        obtain ⟨c1, c2, c3, c4, c5, c6⟩ := q2.2 v p2 e2
        rw [if_neg (ne1 c1)]
        unfold f_X10_put__17
        have f := put_inc (s := 0) (b := 0) (M := 6) (k := 6 + ct R 0) (i := Int32.toNatClampNeg ((6 : Int32) + nI (ct R 0))) (j := Int32.toNatClampNeg (0 : Int32)) (w := r2.1.1 13) (v := nI v) c2 c3 (by omega) a4 (by omega) (by omega) (ix_ (c := 6) rfl (by omega)) rfl c4 (by rw [c6]; exact b4)
        exact PO.ok rfl f.1 f.2
theorem readParcel_ (h : RT o T n lim p) (hP : RP o R N) (h0 : tK T n lim p ≠ 0) (h1 : tK T n lim p ≠ 1) : PO T n lim (f_X10_readParcel__1 o) (sParcel T n lim R N p) := by
  have q0 := readFirst_ (x := (2 : Int32)) (y := (6 : Int32)) (s := 2) (b := 10) (M := 6) h hP h0 h1 (by omega) (by decide) rfl
  unfold f_X10_readParcel__1 sParcel
  generalize f_X10_readFirst__4 (2 : Int32) (6 : Int32) o = r0 at q0 ⊢
  by_cases e0 : ct R 2 = 6
  · have z := q0.1 e0
    rw [if_pos z.1, if_pos e0]
    exact PO.bad ⟨(by first | rfl | exact z.1), z.2⟩
  · obtain ⟨a1, a2, a3, a4⟩ := q0.2 e0
    have hr : r0.1.2.2.1 15 (Int32.toNatClampNeg (2 : Int32)) = nI (ct R 2) := RP.cnt (s := 2) (b := 10) (M := 6) a3 (by omega)
    rw [if_neg (ne1 a1), if_neg e0, hr]
    have q1 := readNew_ (x := (10 : Int32) + nI (ct R 2)) (s := 2) (b := 10) (M := 6) a2 a3 (by omega) a4 (nI_add 10 (ct R 2))
    generalize f_X10_readNew__4 ((10 : Int32) + nI (ct R 2)) r0.1 = r1 at q1 ⊢
    cases e1 : sNew T n lim (10 + ct R 2) R N (tA T n lim p) with
    | inl b =>
      have z := q1.1 b e1
      rw [if_pos z.1]
      exact PO.bad ⟨(by first | rfl | exact z.1), z.2⟩
    | inr w =>
      obtain ⟨p1, N1⟩ := w
      try dsimp only
      obtain ⟨b1, b2, b3, b4⟩ := q1.2 p1 N1 e1
      rw [if_neg (ne1 b1)]
      have q2 := readOne_ (x := (6 : Int32)) (y := r1.1.2.2.1 15 (Int32.toNatClampNeg (1 : Int32))) (s := 1) (b := 6) (M := 4) b2 b3 (by omega) rfl rfl
      generalize f_X10_readOne__3 (6 : Int32) (r1.1.2.2.1 15 (Int32.toNatClampNeg (1 : Int32))) r1.1 = r2 at q2 ⊢
      cases e2 : sOne T n lim 6 (ct R 1) N1 p1 with
      | inl b =>
        have z := q2.1 b e2
        rw [if_pos z.1]
        exact PO.bad ⟨(by first | rfl | exact z.1), z.2⟩
      | inr v =>
        try dsimp only
        obtain ⟨c1, c2, c3, c4, c5, c6⟩ := q2.2 v e2
        rw [if_neg (ne1 c1)]
        unfold f_X10_put__17
        have f := put_inc (s := 2) (b := 10) (M := 6) (k := 18 + ct R 2) (i := Int32.toNatClampNeg ((18 : Int32) + nI (ct R 2))) (j := Int32.toNatClampNeg (2 : Int32)) (w := r2.1.1 13) (v := nI v) c2 c3 (by omega) a4 (by omega) (by omega) (ix_ (c := 18) rfl (by omega)) rfl c4 (by rw [c6]; exact b4)
        exact PO.ok rfl f.1 f.2
theorem readOnce_ {k at_ a b : Nat} {x1 x2 x3 x4 : Int32} (h : RT o T n lim p) (hP : RP o R N) (h0 : tK T n lim p ≠ 0) (h1 : tK T n lim p ≠ 1) (hk : k < 2) (h4 : 4 ≤ at_) (ha : at_ < 84) (hA : a < 2 ^ 31) (hB : b < 2 ^ 31) (e1 : x1.toNatClampNeg = k) (e2 : x2.toNatClampNeg = at_) (e3 : x3 = nI a) (e4 : x4 = nI b) : PO T n lim (f_X10_readOnce__2 x1 x2 x3 x4 o) (sOnce T n lim k at_ a b R N p) := by
  have hon : o.2.2.1 24 k = R (84 + k) := by
    rcases (show k = 0 ∨ k = 1 by omega) with rfl | rfl
    · exact hP.2.1
    · exact hP.2.2.1
  unfold f_X10_readOnce__2 sOnce
  rw [e1, hon, e3, e4]
  by_cases e0 : R (84 + k) = 0
  · rw [if_pos e0, if_neg (nn e0)]
    have nx := next_ (o' := sA o 24 k (vp_nar .boolean (1 : Int32))) h h0 h1 (fun _ _ => rfl) (sA_ne (by decide))
    have hP1 := RP.once (i := k) (k := k) (v := vp_nar .boolean (1 : Int32)) hP hk rfl (by decide)
    have q := readNumber_ (a := a) (b := b) nx.1 (hP1.rs nx.2) hA hB
    generalize f_X10_readNumber__7 (nI a) (nI b) (f_X10_go__2 (sA o 24 k (vp_nar .boolean (1 : Int32)))) = r at q ⊢
    cases e9 : sNum T n lim a b (tA T n lim p) with
    | inl z =>
      have w := q.1 z e9
      rw [if_pos w.1]
      unfold f_X10_put__16
      exact PO.bad ⟨w.1, w.2⟩
    | inr w =>
      obtain ⟨v, p1⟩ := w
      try dsimp only
      obtain ⟨c1, c2, c3, c4, c5, c6⟩ := q.2 v p1 e9
      rw [if_neg (ne1 c1)]
      unfold f_X10_put__17
      exact PO.ok c1 (c2.of (fun _ _ => rfl) rfl (sA_ne (by decide))) (RP.put c3 h4 ha e2 c4)
  · rw [if_neg e0, if_pos e0]
    exact PO.bad (bad_R h (by decide))
theorem ct_upd {k s : Nat} {v : Int32} (hk : 4 ≤ k) (hs : s < 4) : ct (upd R k v) s = ct R s := by
  show (upd R k v s).toNatClampNeg = _
  rw [pk_un (by omega)]
  rfl
theorem readPerson_ (h : RT o T n lim p) (hP : RP o R N) (h0 : tK T n lim p ≠ 0) (h1 : tK T n lim p ≠ 1) : PO T n lim (f_X10_readPerson__1 o) (sPerson T n lim R N p) := by
  have q0 := readFirst_ (x := (3 : Int32)) (y := (8 : Int32)) (s := 3) (b := 16) (M := 8) h hP h0 h1 (by omega) (by decide) rfl
  unfold f_X10_readPerson__1 sPerson
  generalize f_X10_readFirst__4 (3 : Int32) (8 : Int32) o = r0 at q0 ⊢
  by_cases e0 : ct R 3 = 8
  · have z := q0.1 e0
    rw [if_pos z.1, if_pos e0]
    exact PO.bad ⟨(by first | rfl | exact z.1), z.2⟩
  · obtain ⟨a1, a2, a3, a4⟩ := q0.2 e0
    have hr : r0.1.2.2.1 15 (Int32.toNatClampNeg (3 : Int32)) = nI (ct R 3) := RP.cnt (s := 3) (b := 16) (M := 8) a3 (by omega)
    rw [if_neg (ne1 a1), if_neg e0, hr]
    have q1 := readNew_ (x := (16 : Int32) + nI (ct R 3)) (s := 3) (b := 16) (M := 8) a2 a3 (by omega) a4 (nI_add 16 (ct R 3))
    generalize f_X10_readNew__4 ((16 : Int32) + nI (ct R 3)) r0.1 = r1 at q1 ⊢
    cases e1 : sNew T n lim (16 + ct R 3) R N (tA T n lim p) with
    | inl b =>
      have z := q1.1 b e1
      rw [if_pos z.1]
      exact PO.bad ⟨(by first | rfl | exact z.1), z.2⟩
    | inr w =>
      obtain ⟨p1, N1⟩ := w
      try dsimp only
      obtain ⟨b1, b2, b3, b4⟩ := q1.2 p1 N1 e1
      rw [if_neg (ne1 b1)]
      have q2 := readIdea_ b2 b3
      generalize f_X10_readIdea__1 r1.1 = r2 at q2 ⊢
      cases e2 : sOne T n lim 0 (ct R 0) N1 p1 with
      | inl b =>
        have z := q2.1 b e2
        rw [if_pos z.1]
        exact PO.bad ⟨(by first | rfl | exact z.1), z.2⟩
      | inr v =>
        try dsimp only
        obtain ⟨c1, c2, c3, c4, c5, c6⟩ := q2.2 v e2
        rw [if_neg (ne1 c1)]
        unfold f_X10_put__17
        have hP3 := RP.put (i := Int32.toNatClampNeg ((24 : Int32) + nI (ct R 3))) (k := 24 + ct R 3) (v := r2.1.1 13) (w := nI v) c3 (by omega) (by omega) (ix_ (c := 24) rfl (by omega)) c4
        have hT3 : RT (sA r2.1 15 (Int32.toNatClampNeg ((24 : Int32) + nI (ct R 3))) (r2.1.1 13)) T n lim (tA T n lim p1) := c2.of (fun _ _ => rfl) rfl (sA_ne (by decide))
        have hl3 : (sA r2.1 15 (Int32.toNatClampNeg ((24 : Int32) + nI (ct R 3))) (r2.1.1 13)).2.2.2 = r2.1.2.2.2 := rfl
        generalize sA r2.1 15 (Int32.toNatClampNeg ((24 : Int32) + nI (ct R 3))) (r2.1.1 13) = o3 at hP3 hT3 hl3 ⊢
        have q4 : (∀ e, sNum T n lim 1 9 (tA T n lim p1) = .inl e → RBad (f_X10_readNumber__7 (1 : Int32) (9 : Int32) o3) e) ∧ (∀ k p2, sNum T n lim 1 9 (tA T n lim p1) = .inr (k, p2) → (f_X10_readNumber__7 (1 : Int32) (9 : Int32) o3).2 = 1 ∧ RT (f_X10_readNumber__7 (1 : Int32) (9 : Int32) o3).1 T n lim p2 ∧ RP (f_X10_readNumber__7 (1 : Int32) (9 : Int32) o3).1 (upd R (24 + ct R 3) (nI v)) N1 ∧ (f_X10_readNumber__7 (1 : Int32) (9 : Int32) o3).1.1 13 = nI k ∧ k < 2 ^ 31 ∧ (f_X10_readNumber__7 (1 : Int32) (9 : Int32) o3).1.2.2 = o3.2.2) := readNumber_ (a := 1) (b := 9) hT3 hP3 (by decide) (by decide)
        show PO T n lim (if (f_X10_readNumber__7 (1 : Int32) (9 : Int32) o3).2 = 0 then _ else _) _
        generalize f_X10_readNumber__7 (1 : Int32) (9 : Int32) o3 = r4 at q4 ⊢
        cases e4 : sNum T n lim 1 9 (tA T n lim p1) with
        | inl b =>
          have z := q4.1 b e4
          rw [if_pos z.1]
          exact PO.bad ⟨(by first | rfl | exact z.1), z.2⟩
        | inr w =>
          obtain ⟨k, p2⟩ := w
          obtain ⟨d1, d2, d3, d4, d5, d6⟩ := q4.2 k p2 e4
          rw [if_neg (ne1 d1)]
          have hP5 := RP.put (i := Int32.toNatClampNeg ((32 : Int32) + nI (ct R 3))) (k := 32 + ct R 3) (v := r4.1.1 13) (w := nI k) d3 (by omega) (by omega) (ix_ (c := 32) rfl (by omega)) d4
          have hT5 : RT (sA r4.1 15 (Int32.toNatClampNeg ((32 : Int32) + nI (ct R 3))) (r4.1.1 13)) T n lim p2 := d2.of (fun _ _ => rfl) rfl (sA_ne (by decide))
          have e5 : ct (upd (upd R (24 + ct R 3) (nI v)) (32 + ct R 3) (nI k)) 3 = ct R 3 := by rw [ct_upd (by omega) (by decide), ct_upd (by omega) (by decide)]
          have f := put_inc (s := 3) (b := 16) (M := 8) (k := 40 + ct R 3) (i := Int32.toNatClampNeg ((40 : Int32) + nI (ct R 3))) (j := Int32.toNatClampNeg (3 : Int32)) (w := (-1)) (v := (-1)) hT5 hP5 (by omega) (by rw [e5]; exact a4) (by omega) (by omega) (ix_ (c := 40) rfl (by omega)) rfl rfl (by
            rw [e5]
            show ∃ L v, L ≤ 7 ∧ LC L (N1 (16 + ct R 3)) v ∧ r4.1.2.2.2 21 (16 + ct R 3) = lN v
            rw [d6, hl3, c6]
            exact b4)
          rw [e5] at f
          exact PO.ok rfl f.1 f.2
theorem readSits_ (h : RT o T n lim p) (hP : RP o R N) (h0 : tK T n lim p ≠ 0) (h1 : tK T n lim p ≠ 1) : PO T n lim (f_X10_readSits__1 o) (sSits T n lim R N p) := by
  have nx := next_ (o' := o) h h0 h1 (fun _ _ => rfl) rfl
  have hP0 := hP.rs nx.2
  unfold f_X10_readSits__1 sSits
  generalize f_X10_go__2 o = g0 at nx hP0 ⊢
  have q1 := isOne_ (x := (16 : Int32)) (y := g0.2.2.1 15 (Int32.toNatClampNeg (3 : Int32))) (s := 3) (b := 16) (M := 8) nx.1 hP0 (by omega) rfl rfl
  generalize f_X10_isOne__4 (16 : Int32) (g0.2.2.1 15 (Int32.toNatClampNeg (3 : Int32))) g0 = r1 at q1 ⊢
  have m3 := (hP.2.2.2 3 16 8 (by omega)).2.1
  cases e1 : sOne T n lim 16 (ct R 3) N (tA T n lim p) with
  | inl b =>
    have z := q1.1 b e1
    rw [if_pos z.1]
    exact PO.bad ⟨(by first | rfl | exact z.1), z.2⟩
  | inr v =>
    try dsimp only
    obtain ⟨b1, b2, b3⟩ := q1.2 v e1
    have k2 := sOne_2 e1
    have ht : r1.1.1 13 = nI v := by rw [b2, sI_get]
    have hA : r1.1.2.2 = g0.2.2 := by rw [b2]; rfl
    have hP1 : RP r1.1 R N := hP0.of (by rw [hA]) (by rw [hA]) (by rw [hA])
    have hT1 : RT r1.1 T n lim (tA T n lim p) := nx.1.of (fun k hk => by rw [b2, sI_ne (by omega)]) (by rw [b2]; rfl) (by rw [hA])
    have hi : Int32.toNatClampNeg ((40 : Int32) + nI v) = 40 + v := ix_ (c := 40) rfl (by omega)
    rw [if_neg (ne1 b1), ht, hi, hP1.1 (40 + v) (by omega)]
    by_cases e2 : R (40 + v) = -1
    · have nx2 := next_ (o' := r1.1) hT1 (by omega) (by omega) (fun _ _ => rfl) rfl
      have hP2 := hP1.rs nx2.2
      show PO T n lim (if R (40 + v) = (-1 : Int32) then _ else _) (if R (40 + v) ≠ -1 then _ else _)
      rw [if_pos e2, if_neg (nn e2)]
      generalize f_X10_go__2 r1.1 = g2 at nx2 hP2 ⊢
      have q3 := readOne_ (x := (10 : Int32)) (y := g2.2.2.1 15 (Int32.toNatClampNeg (2 : Int32))) (s := 2) (b := 10) (M := 6) nx2.1 hP2 (by omega) rfl rfl
      generalize f_X10_readOne__3 (10 : Int32) (g2.2.2.1 15 (Int32.toNatClampNeg (2 : Int32))) g2 = r3 at q3 ⊢
      cases e3 : sOne T n lim 10 (ct R 2) N (tA T n lim (tA T n lim p)) with
      | inl b =>
        have z := q3.1 b e3
        rw [if_pos z.1]
        unfold f_X10_put__16
        exact PO.bad ⟨z.1, z.2⟩
      | inr q =>
        try dsimp only
        obtain ⟨c1, c2, c3, c4, c5, c6⟩ := q3.2 q e3
        rw [if_neg (ne1 c1)]
        unfold f_X10_put__17
        exact PO.ok c1 (c2.of (fun _ _ => rfl) rfl (sA_ne (by decide))) (RP.put c3 (by omega) (by omega) hi c4)
    · show PO T n lim (if R (40 + v) = (-1 : Int32) then _ else _) (if R (40 + v) ≠ -1 then _ else _)
      rw [if_neg e2, if_pos e2]
      exact PO.bad (bad_R hT1 (by decide))
theorem readHas_ (h : RT o T n lim p) (hP : RP o R N) (h0 : tK T n lim p ≠ 0) (h1 : tK T n lim p ≠ 1) : PO T n lim (f_X10_readHas__1 o) (sHas T n lim R N p) := by
  have nx := next_ (o' := o) h h0 h1 (fun _ _ => rfl) rfl
  have hP0 := hP.rs nx.2
  unfold f_X10_readHas__1 sHas
  generalize f_X10_go__2 o = g0 at nx hP0 ⊢
  have q1 := readOne_ (x := (10 : Int32)) (y := g0.2.2.1 15 (Int32.toNatClampNeg (2 : Int32))) (s := 2) (b := 10) (M := 6) nx.1 hP0 (by omega) rfl rfl
  generalize f_X10_readOne__3 (10 : Int32) (g0.2.2.1 15 (Int32.toNatClampNeg (2 : Int32))) g0 = r1 at q1 ⊢
  have m2 := (hP.2.2.2 2 10 6 (by omega)).2.1
  have m0 := (hP.2.2.2 0 0 6 (by omega)).2.1
  cases e1 : sOne T n lim 10 (ct R 2) N (tA T n lim p) with
  | inl b =>
    have z := q1.1 b e1
    rw [if_pos z.1]
    exact PO.bad ⟨(by first | rfl | exact z.1), z.2⟩
  | inr q =>
    try dsimp only
    obtain ⟨b1, b2, b3, b4, b5, b6⟩ := q1.2 q e1
    rw [if_neg (ne1 b1)]
    have q2 := isOne_ (x := (0 : Int32)) (y := r1.1.2.2.1 15 (Int32.toNatClampNeg (0 : Int32))) (s := 0) (b := 0) (M := 6) b2 b3 (by omega) rfl rfl
    generalize f_X10_isOne__4 (0 : Int32) (r1.1.2.2.1 15 (Int32.toNatClampNeg (0 : Int32))) r1.1 = r2 at q2 ⊢
    cases e2 : sOne T n lim 0 (ct R 0) N (tA T n lim (tA T n lim p)) with
    | inl b =>
      have z := q2.1 b e2
      rw [if_pos z.1]
      exact PO.bad ⟨(by first | rfl | exact z.1), z.2⟩
    | inr i =>
      try dsimp only
      obtain ⟨c1, c2, c3⟩ := q2.2 i e2
      have k2 := sOne_2 e2
      have ht : r2.1.1 13 = nI i := by rw [c2, sI_get]
      have hA : r2.1.2.2 = r1.1.2.2 := by rw [c2]; rfl
      have hP2 : RP r2.1 R N := b3.of (by rw [hA]) (by rw [hA]) (by rw [hA])
      have hT2 : RT r2.1 T n lim (tA T n lim (tA T n lim p)) := b2.of (fun k hk => by rw [c2, sI_ne (by omega)]) (by rw [c2]; rfl) (by rw [hA])
      have hx : (48 : Int32) + (6 : Int32) * nI q + nI i = nI (48 + 6 * q + i) := by
        show nI 48 + nI 6 * nI q + nI i = _
        rw [pk_mul, nI_add, nI_add]
      have hi : Int32.toNatClampNeg ((48 : Int32) + (6 : Int32) * nI q + nI i) = 48 + 6 * q + i := by rw [hx, nI_clamp (by omega)]
      rw [if_neg (ne1 c1), b4, ht, hi, hP2.1 (48 + 6 * q + i) (by omega)]
      by_cases e3 : R (48 + 6 * q + i) = 0
      · have nx2 := next_ (o' := r2.1) hT2 (by omega) (by omega) (fun _ _ => rfl) rfl
        have hP3 := hP2.rs nx2.2
        show PO T n lim (if R (48 + 6 * q + i) = (0 : Int32) then _ else _) (if R (48 + 6 * q + i) ≠ 0 then _ else _)
        rw [if_pos e3, if_neg (nn e3)]
        generalize f_X10_go__2 r2.1 = g2 at nx2 hP3 ⊢
        have q4 : (∀ e, sNum T n lim 1 99 (tA T n lim (tA T n lim (tA T n lim p))) = .inl e → RBad (f_X10_readNumber__7 (1 : Int32) (99 : Int32) g2) e) ∧ (∀ k p2, sNum T n lim 1 99 (tA T n lim (tA T n lim (tA T n lim p))) = .inr (k, p2) → (f_X10_readNumber__7 (1 : Int32) (99 : Int32) g2).2 = 1 ∧ RT (f_X10_readNumber__7 (1 : Int32) (99 : Int32) g2).1 T n lim p2 ∧ RP (f_X10_readNumber__7 (1 : Int32) (99 : Int32) g2).1 R N ∧ (f_X10_readNumber__7 (1 : Int32) (99 : Int32) g2).1.1 13 = nI k ∧ k < 2 ^ 31 ∧ (f_X10_readNumber__7 (1 : Int32) (99 : Int32) g2).1.2.2 = g2.2.2) := readNumber_ (a := 1) (b := 99) nx2.1 hP3 (by decide) (by decide)
        generalize f_X10_readNumber__7 (1 : Int32) (99 : Int32) g2 = r4 at q4 ⊢
        cases e4 : sNum T n lim 1 99 (tA T n lim (tA T n lim (tA T n lim p))) with
        | inl b =>
          have z := q4.1 b e4
          rw [if_pos z.1]
          unfold f_X10_put__16
          exact PO.bad ⟨z.1, z.2⟩
        | inr w =>
          obtain ⟨v, p1⟩ := w
          try dsimp only
          obtain ⟨d1, d2, d3, d4, d5, d6⟩ := q4.2 v p1 e4
          rw [if_neg (ne1 d1)]
          unfold f_X10_put__17
          exact PO.ok d1 (d2.of (fun _ _ => rfl) rfl (sA_ne (by decide))) (RP.put d3 (by omega) (by omega) hi d4)
      · show PO T n lim (if R (48 + 6 * q + i) = (0 : Int32) then _ else _) (if R (48 + 6 * q + i) ≠ 0 then _ else _)
        rw [if_neg e3, if_pos e3]
        exact PO.bad (bad_R hT2 (by decide))
theorem has_ {x y : Int32} : f_X10_has__4 x y = if (x >>> (y &&& 31)) &&& 1 = 1 then 1 else 0 := rfl
theorem readQuarrel_ (h : RT o T n lim p) (hP : RP o R N) (h0 : tK T n lim p ≠ 0) (h1 : tK T n lim p ≠ 1) : PO T n lim (f_X10_readQuarrel__1 o) (sQuarrel T n lim R N p) := by
  have nx := next_ (o' := o) h h0 h1 (fun _ _ => rfl) rfl
  have hP0 := hP.rs nx.2
  unfold f_X10_readQuarrel__1 sQuarrel
  generalize f_X10_go__2 o = g0 at nx hP0 ⊢
  have q1 := readIdea_ nx.1 hP0
  generalize f_X10_readIdea__1 g0 = r1 at q1 ⊢
  have m0 := (hP.2.2.2 0 0 6 (by omega)).2.1
  cases e1 : sOne T n lim 0 (ct R 0) N (tA T n lim p) with
  | inl b =>
    have z := q1.1 b e1
    rw [if_pos z.1]
    exact PO.bad ⟨(by first | rfl | exact z.1), z.2⟩
  | inr i =>
    try dsimp only
    obtain ⟨b1, b2, b3, b4, b5, b6⟩ := q1.2 i e1
    rw [if_neg (ne1 b1)]
    have q2 := isOne_ (x := (0 : Int32)) (y := r1.1.2.2.1 15 (Int32.toNatClampNeg (0 : Int32))) (s := 0) (b := 0) (M := 6) b2 b3 (by omega) rfl rfl
    generalize f_X10_isOne__4 (0 : Int32) (r1.1.2.2.1 15 (Int32.toNatClampNeg (0 : Int32))) r1.1 = r2 at q2 ⊢
    cases e2 : sOne T n lim 0 (ct R 0) N (tA T n lim (tA T n lim p)) with
    | inl b =>
      have z := q2.1 b e2
      rw [if_pos z.1]
      exact PO.bad ⟨(by first | rfl | exact z.1), z.2⟩
    | inr j =>
      try dsimp only
      obtain ⟨c1, c2, c3⟩ := q2.2 j e2
      have k2 := sOne_2 e2
      have ht : r2.1.1 13 = nI j := by rw [c2, sI_get]
      have hA : r2.1.2.2 = r1.1.2.2 := by rw [c2]; rfl
      have hP2 : RP r2.1 R N := b3.of (by rw [hA]) (by rw [hA]) (by rw [hA])
      have hT2 : RT r2.1 T n lim (tA T n lim (tA T n lim p)) := b2.of (fun k hk => by rw [c2, sI_ne (by omega)]) (by rw [c2]; rfl) (by rw [hA])
      have hi : Int32.toNatClampNeg ((12 : Int32) + nI i) = 12 + i := ix_ (c := 12) rfl (by omega)
      have hj : Int32.toNatClampNeg ((12 : Int32) + nI j) = 12 + j := ix_ (c := 12) rfl (by omega)
      unfold f_X10_readQuarrel__1_61
      rw [if_neg (ne1 c1), b4, ht, hi, hj, hP2.1 (12 + i) (by omega), has_]
      have ce := nI_eq (a := j) (b := i) (by omega) (by omega)
      by_cases e3 : j = i
      · show PO T n lim (if nI j = nI i then _ else _) (if j = i ∨ _ then _ else _)
        rw [if_pos (ce.mpr e3), if_pos (Or.inl e3)]
        exact PO.bad (bad_R hT2 (by decide))
      · by_cases e4 : (R (12 + i) >>> (nI j &&& 31)) &&& 1 = 1
        · show PO T n lim (if nI j = nI i then _ else _) (if j = i ∨ _ then _ else _)
          rw [if_neg (fun q => e3 (ce.mp q)), if_pos e4, if_neg one0, if_pos (Or.inr e4)]
          exact PO.bad (bad_R hT2 (by decide))
        · show PO T n lim (if nI j = nI i then _ else _) (if j = i ∨ _ then _ else _)
          rw [if_neg (fun q => e3 (ce.mp q)), if_neg e4, if_pos rfl, if_neg (fun q => q.elim e3 e4)]
          have f1 := RP.put (i := 12 + i) (k := 12 + i) (v := R (12 + i) ||| ((1 : Int32) <<< (nI j &&& 31))) (w := R (12 + i) ||| ((1 : Int32) <<< (nI j &&& 31))) hP2 (by omega) (by omega) rfl rfl
          have hr : (sA r2.1 15 (12 + i) (R (12 + i) ||| ((1 : Int32) <<< (nI j &&& 31)))).2.2.1 15 (12 + j) = R (12 + j) := by
            rw [f1.1 (12 + j) (by omega), pk_un (by omega)]
          rw [hr]
          have f2 := RP.put (i := 12 + j) (k := 12 + j) (v := R (12 + j) ||| ((1 : Int32) <<< (nI i &&& 31))) (w := R (12 + j) ||| ((1 : Int32) <<< (nI i &&& 31))) f1 (by omega) (by omega) rfl rfl
          have nx3 := next_ (o' := sA (sA r2.1 15 (12 + i) (R (12 + i) ||| ((1 : Int32) <<< (nI j &&& 31)))) 15 (12 + j) (R (12 + j) ||| ((1 : Int32) <<< (nI i &&& 31)))) hT2 (by omega) (by omega) (fun _ _ => rfl) (by rw [sA_ne (by decide), sA_ne (by decide)])
          exact PO.ok rfl nx3.1 (f2.rs nx3.2)
theorem ifd {r : OS × Int32} : (if r.2 = 0 then (r.1, r.2) else (r.1, r.2)) = r := by
  by_cases z : r.2 = 0
  · rw [if_pos z]
  · rw [if_neg z]
theorem readLine_ (h : RT o T n lim p) (hP : RP o R N) : PO T n lim (f_X10_readLine__1 o) (sLine T n lim R N p) := by
  have w : ∀ k, k < 28 → ∀ x : Int32, x = nI k → f_X10_isWord__4 x o = if tK T n lim p = 128 + k then 1 else 0 := fun k hk x hx => by rw [hx]; exact isWord_ h hk
  unfold f_X10_readLine__1 sLine
  rw [w 0 (by decide) (0 : Int32) rfl, w 1 (by decide) (1 : Int32) rfl, w 2 (by decide) (2 : Int32) rfl, w 3 (by decide) (3 : Int32) rfl, w 4 (by decide) (4 : Int32) rfl, w 5 (by decide) (5 : Int32) rfl, w 6 (by decide) (6 : Int32) rfl, w 7 (by decide) (7 : Int32) rfl, w 8 (by decide) (8 : Int32) rfl, ifd, ifd, ifd, ifd, ifd, ifd, ifd, ifd, ifd]
  have one : ¬ ((1 : Int32) = 0) := by decide
  by_cases k0 : tK T n lim p = 128
  · rw [if_pos k0, if_neg one, if_pos k0]
    exact readNewIdea_ h hP (by omega) (by omega)
  rw [if_neg k0, if_pos rfl, if_neg k0]
  by_cases k1 : tK T n lim p = 129
  · rw [if_pos k1, if_neg one, if_pos k1]
    exact readRoom_ h hP (by omega) (by omega)
  rw [if_neg k1, if_pos rfl, if_neg k1]
  by_cases k2 : tK T n lim p = 130
  · rw [if_pos k2, if_neg one, if_pos k2]
    exact readParcel_ h hP (by omega) (by omega)
  rw [if_neg k2, if_pos rfl, if_neg k2]
  by_cases k3 : tK T n lim p = 131
  · rw [if_pos k3, if_neg one, if_pos k3]
    exact readPerson_ h hP (by omega) (by omega)
  rw [if_neg k3, if_pos rfl, if_neg k3]
  by_cases k4 : tK T n lim p = 132
  · rw [if_pos k4, if_neg one, if_pos k4]
    exact readSits_ h hP (by omega) (by omega)
  rw [if_neg k4, if_pos rfl, if_neg k4]
  by_cases k5 : tK T n lim p = 133
  · rw [if_pos k5, if_neg one, if_pos k5]
    exact readHas_ h hP (by omega) (by omega)
  rw [if_neg k5, if_pos rfl, if_neg k5]
  by_cases k6 : tK T n lim p = 134
  · rw [if_pos k6, if_neg one, if_pos k6]
    exact readQuarrel_ h hP (by omega) (by omega)
  rw [if_neg k6, if_pos rfl, if_neg k6]
  by_cases k7 : tK T n lim p = 135
  · rw [if_pos k7, if_neg one, if_pos k7]
    exact readOnce_ (k := 0) (at_ := 4) (a := 0) (b := 5) h hP (by omega) (by omega) (by decide) (by decide) (by decide) (by decide) (by decide) (by decide) (by decide) rfl rfl
  rw [if_neg k7, if_pos rfl, if_neg k7]
  by_cases k8 : tK T n lim p = 136
  · rw [if_pos k8, if_neg one, if_pos k8]
    exact readOnce_ (k := 1) (at_ := 5) (a := 1) (b := 20) h hP (by omega) (by omega) (by decide) (by decide) (by decide) (by decide) (by decide) (by decide) (by decide) rfl rfl
  rw [if_neg k8, if_pos rfl, if_neg k8]
  exact PO.bad (bad_R h (by decide))
end LINES
/-! the reference's post -/
def sAns : (Nat × Nat) ⊕ (Nat × (Nat → Int32) × (Nat → Nat)) → Int32
  | .inl e => -1 - nI e.2
  | .inr w => nI w.1
def R0 : Nat → Int32 := fun k => if k = 5 then 5 else 0
def N0 : Nat → Nat := fun _ => 0
theorem post_113 {x1 : Int32} {o : OS} : ∀ (f k : Nat), k ≤ 24 → 24 - k < f → (f_X10_post__1_113 f x1 (nI k) o).2 = x1 := by
  intro f
  induction f with
  | zero => intro k _ h; omega
  | succ f ih =>
    intro k hk hf
    rw [f_X10_post__1_113]
    by_cases e : 24 ≤ k
    · rw [if_pos (show (24 : Int32) ≤ nI k from nI_le (a := 24) e (by omega))]
    · rw [if_neg (show ¬ (24 : Int32) ≤ nI k from nI_ge (b := 24) (by omega) (by decide)), nI_1]
      exact ih (k + 1) (by omega) (by omega)
theorem post_87 {x1 : Int32} {o : OS} : ∀ (f k : Nat), k ≤ 84 → 84 - k < f → (f_X10_post__1_87 f x1 (nI k) o).2 = x1 := by
  intro f
  induction f with
  | zero => intro k _ h; omega
  | succ f ih =>
    intro k hk hf
    rw [f_X10_post__1_87]
    by_cases e : 84 ≤ k
    · rw [if_pos (show (84 : Int32) ≤ nI k from nI_le (a := 84) e (by omega))]
      exact post_113 4294967298 0 (by decide) (by decide)
    · rw [if_neg (show ¬ (84 : Int32) ≤ nI k from nI_ge (b := 84) (by omega) (by decide)), nI_1]
      exact ih (k + 1) (by omega) (by omega)
theorem RK_is0 {K : Nat} : RK K = 0 ↔ K = 0 := by
  unfold RK
  by_cases e0 : K = 0
  · rw [if_pos e0]; omega
  · rw [if_neg e0]
    by_cases e1 : K = 1
    · rw [if_pos e1]; omega
    · rw [if_neg e1]
      by_cases e3 : K = 3
      · rw [if_pos e3]; omega
      · rw [if_neg e3]
        by_cases e4 : K = 2 ∨ 128 ≤ K
        · rw [if_pos e4]; omega
        · rw [if_neg e4]; omega
theorem post_51 {T : Nat → Nat} {n lim : Nat} : ∀ (f l : Nat) (o : OS) (p : Nat) (R : Nat → Int32) (N : Nat → Nat), RT o T n lim p → RP o R N → (f_X10_post__1_51 f (nI l) o).2 = sAns (sPost T n lim f R N p l) := by
  intro f
  induction f with
  | zero => intro l o p R N _ _; rfl
  | succ f ih =>
    intro l o p R N h hP
    rw [f_X10_post__1_51, sPost, h.2.2.1]
    have c := nI_eq (a := RK (tK T n lim p)) (b := 0) (by have := RK_lt (tK T n lim p); omega) (by decide)
    by_cases e0 : tK T n lim p = 0
    · rw [if_pos (show nI _ = (0 : Int32) from c.mpr (RK_is0.mpr e0)), if_pos e0]
      exact post_87 4294967298 0 (by decide) (by decide)
    · rw [if_neg (fun q : nI _ = (0 : Int32) => e0 (RK_is0.mp (c.mp q))), if_neg e0]
      have q := readLine_ h hP
      generalize f_X10_readLine__1 o = r at q ⊢
      cases e1 : sLine T n lim R N p with
      | inl b =>
        have z := q.1 b e1
        rw [if_pos z.1]
        show (-1 : Int32) - r.1.1 11 = -1 - nI b.2
        rw [z.2.2]
      | inr w =>
        obtain ⟨p1, R1, N1⟩ := w
        obtain ⟨a1, a2, a3⟩ := q.2 p1 R1 N1 e1
        rw [if_neg (ne1 a1)]
        have q2 := readEnd_ a2 a3
        generalize f_X10_readEnd__2 r.1 = r2 at q2 ⊢
        by_cases e2 : tK T n lim p1 = 59
        · obtain ⟨b1, b2, b3⟩ := q2.2 e2
          rw [if_neg (ne1 b1), nI_1]
          show _ = sAns (if tK T n lim p1 ≠ 59 then _ else _)
          rw [if_neg (nn e2)]
          exact ih (l + 1) r2.1 (tA T n lim p1) R1 N1 b2 b3
        · have z := q2.1 e2
          rw [if_pos z.1]
          show (-1 : Int32) - r2.1.1 11 = sAns (if tK T n lim p1 ≠ 59 then _ else _)
          rw [if_pos e2, z.2.2]
          rfl
theorem post_9 {T : Nat → Nat} {n lim : Nat} : ∀ (f k : Nat) (o : OS), k ≤ 84 → 84 - k < f → RT o T n lim 0 → (∀ j, j < k → o.2.2.1 15 j = 0) → (f_X10_post__1_9 f (nI k) o).2 = sAns (sPost T n lim 4294967298 R0 N0 0 0) := by
  intro f
  induction f with
  | zero => intro k o _ h; omega
  | succ f ih =>
    intro k o hk hf h hz
    rw [f_X10_post__1_9]
    by_cases e : 84 ≤ k
    · rw [if_pos (show (84 : Int32) ≤ nI k from nI_le (a := 84) e (by omega))]
      have hA : ∀ j, (sA (sA (sA o 24 (Int32.toNatClampNeg (0 : Int32)) (vp_nar .boolean (0 : Int32))) 24 (Int32.toNatClampNeg (1 : Int32)) (vp_nar .boolean (0 : Int32))) 15 (Int32.toNatClampNeg (5 : Int32)) (5 : Int32)).2.2.1 15 j = upd (o.2.2.1 15) 5 5 j := fun j => rfl
      refine post_51 4294967298 0 _ 0 R0 N0 (((h.of (fun _ _ => rfl) rfl rfl).of (fun _ _ => rfl) rfl rfl).of (fun _ _ => rfl) rfl rfl) ⟨fun j hj => ?_, ?_, ?_, fun s b m q => ?_⟩
      · rw [hA j]
        by_cases e5 : j = 5
        · rw [e5, pk_us]; rfl
        · rw [pk_un e5, hz j (by omega)]
          exact (if_neg e5).symm
      · rfl
      · rfl
      · have e0 : R0 s = 0 := if_neg (by omega)
        have ec : ct R0 s = 0 := by
          show (R0 s).toNatClampNeg = 0
          rw [e0]
          rfl
        rw [ec, e0]
        exact ⟨rfl, Nat.zero_le _, fun k hk => by omega⟩
    · rw [if_neg (show ¬ (84 : Int32) ≤ nI k from nI_ge (b := 84) (by omega) (by decide)), nI_1, nI_clamp (by omega)]
      refine ih (k + 1) _ (by omega) (by omega) (h.of (fun _ _ => rfl) rfl (sA_ne (by decide))) (fun j hj => ?_)
      rw [sA_get]
      by_cases e5 : j = k
      · rw [e5, pk_us]
      · rw [pk_un e5]; exact hz j (by omega)
/-- the reference's tape holds the text -/
def RXT (o : OS) (T : Nat → Nat) (n : Nat) : Prop := n ≤ 940 ∧ o.1 2 = nI n ∧ (∀ k, k < n → o.2.2.1 1 k = nI (T k)) ∧ ∀ k, T k < 256
theorem begin_ {T : Nat → Nat} {n : Nat} {o : OS} (h : RXT o T n) : RT (f_X10_begin__4 (900 : Int32) o) T n 900 0 := by
  unfold f_X10_begin__4 f_X10_take__1
  have q := go_ (o := sI (sI (sI (sI (sI (sI o 0 (0 : Int32)) 2 (0 : Int32)) 3 ((sI o 0 (0 : Int32)).1 2)) 4 (900 : Int32)) 10 (0 : Int32)) 5 (0 : Int32)) (T := T) (n := n) (lim := 900) (p := 0) ⟨h.1, by decide, ?_, ?_, h.2.2.1, h.2.2.2⟩ sI_get (Nat.zero_le _)
  · by_cases e : (sI o 0 (0 : Int32)).1 2 = 0
    · rw [if_pos e]; exact q.1
    · rw [if_neg e]; exact q.1
  · rw [sI_ne (by decide), sI_ne (by decide), sI_ne (by decide), sI_get, sI_ne (by decide)]
    exact h.2.1
  · rw [sI_ne (by decide), sI_ne (by decide), sI_get]
    rfl
/-- what the reference's post answers -/
theorem post_ {T : Nat → Nat} {n : Nat} {o : OS} (h : RXT o T n) : (f_X10_post__1 o).2 = sAns (sPost T n 900 4294967298 R0 N0 0 0) := by
  unfold f_X10_post__1
  exact post_9 4294967298 0 _ (by decide) (by decide) (begin_ h) (fun j hj => by omega)
