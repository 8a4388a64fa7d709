/-! a sentence's text: how many ones, or the fault and its place (draft, never compiled) -/
abbrev SR : Type := (Nat × Nat) ⊕ (Nat × Nat)
section SAID
variable (T : Nat → Nat) (n lim : Nat) (R : Nat → Int32) (N : Nat → Nat)
def sMore (one : Nat → Nat → SR) : Nat → Nat → Nat → SR
  | 0, c, p => .inr (c, p)
  | f + 1, c, p => if tK T n lim p = 144 ∨ tK T n lim p = 145 then (match one c (tA T n lim p) with
    | .inl e => .inl e
    | .inr (c1, p1) => sMore one f c1 p1) else .inr (c, p)
def sCond (one : Nat → Nat → SR) (c p : Nat) : SR := match one c p with
  | .inl e => .inl e
  | .inr (c1, p1) => sMore T n lim one 21 c1 p1
def sPlain (c p : Nat) (K : Nat) : SR :=
  if K = 150 then (match sOne T n lim 0 (ct R 0) N p with
    | .inl e => .inl e
    | .inr _ => .inr (c, tA T n lim p))
  else if K = 151 then (match sOne T n lim 6 (ct R 1) N p with
    | .inl e => .inl e
    | .inr _ => .inr (c, tA T n lim p))
  else if 152 ≤ K then (if ¬ (tK T n lim p = 60 ∨ tK T n lim p = 61 ∨ tK T n lim p = 62) then .inl (sBad T n lim 1 p) else match sNum T n lim 0 999 (tA T n lim p) with
    | .inl e => .inl e
    | .inr (_, p1) => .inr (c, p1))
  else .inr (c, p)
def sSaid : Nat → Nat → Nat → SR
  | 0, c, p => if ¬ (tK T n lim p = 40 ∨ (146 ≤ tK T n lim p ∧ tK T n lim p ≤ 155)) then .inl (sBad T n lim 1 p) else .inl (sBad T n lim 4 p)
  | d + 1, c, p => if ¬ (tK T n lim p = 40 ∨ (146 ≤ tK T n lim p ∧ tK T n lim p ≤ 155)) then .inl (sBad T n lim 1 p)
    else if 20 ≤ c then .inl (sBad T n lim 4 p)
    else if tK T n lim p = 146 then sSaid d (c + 1) (tA T n lim p)
    else if tK T n lim p = 40 then (match sCond T n lim (sSaid d) (c + 1) (tA T n lim p) with
      | .inl e => .inl e
      | .inr (c1, p1) => if tK T n lim p1 ≠ 41 then .inl (sBad T n lim 1 p1) else .inr (c1, tA T n lim p1))
    else sPlain T n lim R N (c + 1) (tA T n lim p) (tK T n lim p)
def sSent : SR := match sCond T n lim (sSaid T n lim R N 8) 0 0 with
  | .inl e => .inl e
  | .inr (c, p) => if tK T n lim p ≠ 0 then .inl (sBad T n lim 1 p) else .inr (c, p)
end SAID
theorem sSaid_0 {T : Nat → Nat} {n lim : Nat} {R : Nat → Int32} {N : Nat → Nat} {c p : Nat} : sSaid T n lim R N 0 c p = if ¬ (tK T n lim p = 40 ∨ (146 ≤ tK T n lim p ∧ tK T n lim p ≤ 155)) then .inl (sBad T n lim 1 p) else .inl (sBad T n lim 4 p) := by rw [sSaid]
theorem sSaid_s {T : Nat → Nat} {n lim : Nat} {R : Nat → Int32} {N : Nat → Nat} {d c p : Nat} : sSaid T n lim R N (d + 1) c p = if ¬ (tK T n lim p = 40 ∨ (146 ≤ tK T n lim p ∧ tK T n lim p ≤ 155)) then .inl (sBad T n lim 1 p)
    else if 20 ≤ c then .inl (sBad T n lim 4 p)
    else if tK T n lim p = 146 then sSaid T n lim R N d (c + 1) (tA T n lim p)
    else if tK T n lim p = 40 then (match sCond T n lim (sSaid T n lim R N d) (c + 1) (tA T n lim p) with
      | .inl e => .inl e
      | .inr (c1, p1) => if tK T n lim p1 ≠ 41 then .inl (sBad T n lim 1 p1) else .inr (c1, tA T n lim p1))
    else sPlain T n lim R N (c + 1) (tA T n lim p) (tK T n lim p) := by rw [sSaid]
/-! sentences: the count of ones grows, up to 20 -/
section SPURE
variable {T : Nat → Nat} {n lim : Nat} {R : Nat → Int32} {N : Nat → Nat}
def sAft (T : Nat → Nat) (n lim : Nat) (one : Nat → Nat → SR) (k : Nat) (x : SR) : SR := match x with
  | .inl e => .inl e
  | .inr (c1, p1) => sMore T n lim one k c1 p1
theorem sMore_s {one : Nat → Nat → SR} {k c p : Nat} (h : tK T n lim p = 144 ∨ tK T n lim p = 145) : sMore T n lim one (k + 1) c p = sAft T n lim one k (one c (tA T n lim p)) := by
  rw [sMore, if_pos h]
  rfl
theorem sMore_n {one : Nat → Nat → SR} {k c p : Nat} (h : ¬ (tK T n lim p = 144 ∨ tK T n lim p = 145)) : sMore T n lim one (k + 1) c p = .inr (c, p) := by rw [sMore, if_neg h]
theorem sCond_s {one : Nat → Nat → SR} {c p : Nat} : sCond T n lim one c p = sAft T n lim one 21 (one c p) := rfl
theorem sMore_c {one : Nat → Nat → SR} (h1 : ∀ c p c1 p1, one c p = .inr (c1, p1) → c < c1 ∧ c1 ≤ 20) : ∀ f c p c1 p1, c ≤ 20 → sMore T n lim one f c p = .inr (c1, p1) → c ≤ c1 ∧ c1 ≤ 20 := by
  intro f
  induction f with
  | zero => intro c p c1 p1 hc h; rw [sMore] at h; cases h; exact ⟨Nat.le_refl _, hc⟩
  | succ f ih =>
    intro c p c1 p1 hc h
    rw [sMore] at h
    by_cases e : tK T n lim p = 144 ∨ tK T n lim p = 145
    · rw [if_pos e] at h
      cases e1 : one c (tA T n lim p) with
      | inl b => rw [e1] at h; cases h
      | inr w =>
        obtain ⟨c2, p2⟩ := w
        rw [e1] at h
        have q := h1 _ _ _ _ e1
        have r := ih c2 p2 c1 p1 q.2 h
        exact ⟨by omega, r.2⟩
    · rw [if_neg e] at h; cases h; exact ⟨Nat.le_refl _, hc⟩
theorem sCond_c {one : Nat → Nat → SR} (h1 : ∀ c p c1 p1, one c p = .inr (c1, p1) → c < c1 ∧ c1 ≤ 20) {c p c1 p1 : Nat} (h : sCond T n lim one c p = .inr (c1, p1)) : c < c1 ∧ c1 ≤ 20 := by
  unfold sCond at h
  cases e1 : one c p with
  | inl b => rw [e1] at h; cases h
  | inr w =>
    obtain ⟨c2, p2⟩ := w
    rw [e1] at h
    have q := h1 _ _ _ _ e1
    have r := sMore_c h1 21 c2 p2 c1 p1 q.2 h
    exact ⟨by omega, r.2⟩
theorem sPlain_c {c p K c1 p1 : Nat} (h : sPlain T n lim R N c p K = .inr (c1, p1)) : c1 = c := by
  unfold sPlain at h
  by_cases k1 : K = 150
  · rw [if_pos k1] at h
    cases e1 : sOne T n lim 0 (ct R 0) N p with
    | inl b => rw [e1] at h; cases h
    | inr w => rw [e1] at h; cases h; rfl
  · rw [if_neg k1] at h
    by_cases k2 : K = 151
    · rw [if_pos k2] at h
      cases e1 : sOne T n lim 6 (ct R 1) N p with
      | inl b => rw [e1] at h; cases h
      | inr w => rw [e1] at h; cases h; rfl
    · rw [if_neg k2] at h
      by_cases k3 : 152 ≤ K
      · rw [if_pos k3] at h
        by_cases k4 : ¬ (tK T n lim p = 60 ∨ tK T n lim p = 61 ∨ tK T n lim p = 62)
        · rw [if_pos k4] at h; cases h
        · rw [if_neg k4] at h
          cases e1 : sNum T n lim 0 999 (tA T n lim p) with
          | inl b => rw [e1] at h; cases h
          | inr w => rw [e1] at h; cases h; rfl
      · rw [if_neg k3] at h; cases h; rfl
theorem sSaid0 {c p : Nat} : ∃ e, sSaid T n lim R N 0 c p = .inl e := by
  rw [sSaid]
  by_cases k : ¬ (tK T n lim p = 40 ∨ (146 ≤ tK T n lim p ∧ tK T n lim p ≤ 155))
  · rw [if_pos k]; exact ⟨_, rfl⟩
  · rw [if_neg k]; exact ⟨_, rfl⟩
theorem sCond0 {c p : Nat} : ∃ e, sCond T n lim (sSaid T n lim R N 0) c p = .inl e := by
  obtain ⟨e, h⟩ := sSaid0 (T := T) (n := n) (lim := lim) (R := R) (N := N) (c := c) (p := p)
  unfold sCond
  rw [h]
  exact ⟨_, rfl⟩
theorem sSaid_c : ∀ d c p c1 p1, sSaid T n lim R N d c p = .inr (c1, p1) → c < c1 ∧ c1 ≤ 20 := by
  intro d
  induction d with
  | zero =>
    intro c p c1 p1 h
    obtain ⟨e, h2⟩ := sSaid0 (T := T) (n := n) (lim := lim) (R := R) (N := N) (c := c) (p := p)
    rw [h2] at h
    cases h
  | succ d ih =>
    intro c p c1 p1 h
    rw [sSaid] at h
    by_cases k : ¬ (tK T n lim p = 40 ∨ (146 ≤ tK T n lim p ∧ tK T n lim p ≤ 155))
    · rw [if_pos k] at h; cases h
    · rw [if_neg k] at h
      by_cases k2 : 20 ≤ c
      · rw [if_pos k2] at h; cases h
      · rw [if_neg k2] at h
        by_cases k3 : tK T n lim p = 146
        · rw [if_pos k3] at h
          have q := ih _ _ _ _ h
          omega
        · rw [if_neg k3] at h
          by_cases k4 : tK T n lim p = 40
          · rw [if_pos k4] at h
            cases e1 : sCond T n lim (sSaid T n lim R N d) (c + 1) (tA T n lim p) with
            | inl b => rw [e1] at h; cases h
            | inr w =>
              obtain ⟨c2, p2⟩ := w
              have q := sCond_c ih e1
              rw [e1] at h
              try dsimp only at h
              by_cases k5 : tK T n lim p2 = 41
              · rw [if_neg (nn k5)] at h; cases h; omega
              · rw [if_pos k5] at h; cases h
          · rw [if_neg k4] at h
            have q := sPlain_c h
            omega
end SPURE
/-! the reference's readers of sentences -/
section RSENT
variable {T : Nat → Nat} {n lim : Nat} {R : Nat → Int32} {N : Nat → Nat} {o : OS} {c d p : Nat}
/-- names as the model keeps them -/
def SNM (o : OS) (R : Nat → Int32) (N : Nat → Nat) : Prop := ∀ s b M, SORT s b M → o.2.2.1 14 s = R s ∧ R s = nI (ct R s) ∧ ct R s ≤ M ∧ ∀ k, k < ct R s → ∃ L v, L ≤ 7 ∧ LC L (N (b + k)) v ∧ o.2.2.2 20 (b + k) = lN v
theorem SNM.of {o o' : OS} (h : SNM o R N) (h1 : o'.2.2.1 14 = o.2.2.1 14) (h2 : o'.2.2.2 20 = o.2.2.2 20) : SNM o' R N := fun s b M q => by rw [h1, h2]; exact h s b M q
def RQ (T : Nat → Nat) (n lim : Nat) (R : Nat → Int32) (N : Nat → Nat) (o : OS) (d c p : Nat) : Prop := RT o T n lim p ∧ SNM o R N ∧ o.1 46 = nI c ∧ o.1 47 = nI d ∧ o.1 10 = 0
theorem RQ.of {o o' : OS} (h : RQ T n lim R N o d c p) (hi : ∀ k, k ≠ 45 → k ≠ 48 → k ≠ 13 → o'.1 k = o.1 k) (hl : o'.2.1 = o.2.1) (h1 : o'.2.2.1 1 = o.2.2.1 1) (h2 : o'.2.2.1 14 = o.2.2.1 14) (h3 : o'.2.2.2 20 = o.2.2.2 20) : RQ T n lim R N o' d c p :=
  ⟨h.1.of (fun k hk => hi k (by omega) (by omega) (by omega)) (by rw [hl]) h1, h.2.1.of h2 h3, by rw [hi 46 (by decide) (by decide) (by decide)]; exact h.2.2.1, by rw [hi 47 (by decide) (by decide) (by decide)]; exact h.2.2.2.1, by rw [hi 10 (by decide) (by decide) (by decide)]; exact h.2.2.2.2⟩
theorem go_Q {o o' : OS} (h : RT o T n lim p) (hs : SNM o R N) (h0 : tK T n lim p ≠ 0) (h1 : tK T n lim p ≠ 1) (hi : ∀ k, k = 3 ∨ k = 4 ∨ k = 5 → o'.1 k = o.1 k) (e : o'.2.2 = o.2.2) (c6 : o'.1 46 = nI c) (c7 : o'.1 47 = nI d) (c0 : o'.1 10 = 0) : RQ T n lim R N (f_X10_go__2 o') d c (tA T n lim p) := by
  have nx := next_ (o' := o') h h0 h1 hi (by rw [e])
  exact ⟨nx.1, hs.of (by rw [nx.2.2.2, e]) (by rw [nx.2.2.2, e]), by rw [nx.2.1 46 (by decide) (by decide) (by decide) (by decide) (by decide)]; exact c6, by rw [nx.2.1 47 (by decide) (by decide) (by decide) (by decide) (by decide)]; exact c7, by rw [nx.2.1 10 (by decide) (by decide) (by decide) (by decide) (by decide)]; exact c0⟩
theorem sgn_ {v : Nat} (h : RT o T n lim p) (hv : v = 40 ∨ v = 41 ∨ v = 60 ∨ v = 61 ∨ v = 62) : f_X10_isSign__1 (nI v) o = if tK T n lim p = v then 1 else 0 := by
  unfold f_X10_isSign__1
  rw [h.2.2.1]
  have q := nI_eq (a := RK (tK T n lim p)) (b := 4) (by have := RK_lt (tK T n lim p); omega) (by decide)
  by_cases e : RK (tK T n lim p) = 4
  · have sm := tok_small (n := n) (lim := lim) (p := p) h.1.2.2.2.2.2
    rw [if_pos (show nI _ = (4 : Int32) from q.mpr e), h.2.2.2.2.2.2 e]
    have r := nI_eq (a := tK T n lim p) (b := v) (by omega) (by omega)
    by_cases e2 : tK T n lim p = v
    · rw [if_pos (r.mpr e2), if_pos e2]
    · rw [if_neg (fun z => e2 (r.mp z)), if_neg e2]
  · rw [if_neg (fun z : nI _ = (4 : Int32) => e (q.mp z)), if_neg (fun z => e (RK_is4.mpr (by rw [z]; omega)))]
/-- a reader's answer -/
def RSd (T : Nat → Nat) (n lim : Nat) (R : Nat → Int32) (N : Nat → Nat) (d : Nat) (r : OS × Int32) (S : SR) : Prop := (∀ e, S = .inl e → RBad r e) ∧ ∀ c1 p1, S = .inr (c1, p1) → r.2 = 1 ∧ RQ T n lim R N r.1 d c1 p1
theorem RSd.bad {r : OS × Int32} {e : Nat × Nat} (h : RBad r e) : RSd T n lim R N d r (.inl e) := ⟨fun e9 q => (by cases q; exact h), fun _ _ q => (by cases q)⟩
theorem RSd.ok {r : OS × Int32} {c1 p1 : Nat} (h : r.2 = 1) (h2 : RQ T n lim R N r.1 d c1 p1) : RSd T n lim R N d r (.inr (c1, p1)) := ⟨fun e9 q => (by cases q), fun _ _ q => (by cases q; exact ⟨h, h2⟩)⟩
theorem RQ.dn {x : Int32} {c1 p1 : Nat} (h : RQ T n lim R N o (d + 1) c1 p1) (hx : x = nI d) : RQ T n lim R N (sI o 47 x) d c1 p1 :=
  ⟨h.1.of (fun k hk => sI_ne (by omega)) rfl rfl, h.2.1.of rfl rfl, by rw [sI_ne (by decide)]; exact h.2.2.1, by rw [sI_get]; exact hx, by rw [sI_ne (by decide)]; exact h.2.2.2.2⟩
theorem nIsub1 {d : Nat} : nI (d + 1) - (1 : Int32) = nI d := pk_sub (a := d + 1) (b := 1) (by omega)
theorem RSd.dn2 {r : OS × Int32} {S : SR} {x : Int32} (h : RSd T n lim R N (d + 1) r S) (hx : x = nI d) : RSd T n lim R N d (sI r.1 47 x, r.2) S :=
  ⟨fun e q => (by
    have z := h.1 e q
    exact ⟨z.1, (sI_ne (by decide)).trans z.2.1, (sI_ne (by decide)).trans z.2.2⟩), fun c1 p1 q => ⟨(h.2 c1 p1 q).1, (h.2 c1 p1 q).2.dn hx⟩⟩
theorem RSd.dn1 {r : OS × Int32} {S : SR} (h : RSd T n lim R N (d + 1) r S) : RSd T n lim R N d (sI r.1 47 (r.1.1 47 - 1), r.2) S :=
  ⟨fun e q => (by
    have z := h.1 e q
    exact ⟨z.1, (sI_ne (by decide)).trans z.2.1, (sI_ne (by decide)).trans z.2.2⟩), fun c1 p1 q => ⟨(h.2 c1 p1 q).1, (h.2 c1 p1 q).2.dn (by rw [(h.2 c1 p1 q).2.2.2.2.1]; exact nIsub1)⟩⟩
theorem rn_ {a b : Nat} (h : RQ T n lim R N o d c p) (ha : a < 2 ^ 31) (hb : b < 2 ^ 31) : (∀ e, sNum T n lim a b p = .inl e → RBad (f_X10_readNumber__7 (nI a) (nI b) o) e) ∧ (∀ v p1, sNum T n lim a b p = .inr (v, p1) → (f_X10_readNumber__7 (nI a) (nI b) o).2 = 1 ∧ RQ T n lim R N (f_X10_readNumber__7 (nI a) (nI b) o).1 d c p1) := by
  unfold f_X10_readNumber__7 sNum
  by_cases k3 : tK T n lim p = 3
  · have hv := tok_num h.1.1.2.2.2.2.2 k3
    rw [if_pos ((kind_3 h.1).mpr k3), if_neg (nn k3), h.1.2.2.2.2.2.1 k3, isIn_ ha hb hv]
    by_cases e : a ≤ tNu T n lim p ∧ tNu T n lim p ≤ b
    · rw [if_pos e, if_neg one0, if_neg (fun q : ¬ (a ≤ tNu T n lim p ∧ tNu T n lim p ≤ b) => q e)]
      have nx := go_Q (o' := sI o 13 (nI (tNu T n lim p))) (c := c) (d := d) h.1 h.2.1 (by omega) (by omega) (fun k hk => sI_ne (by omega)) rfl (by rw [sI_ne (by decide)]; exact h.2.2.1) (by rw [sI_ne (by decide)]; exact h.2.2.2.1) (by rw [sI_ne (by decide)]; exact h.2.2.2.2)
      refine ⟨fun e9 q => (by cases q), fun v p1 q => ?_⟩
      cases q
      exact ⟨rfl, nx⟩
    · rw [if_neg e, if_pos rfl, if_pos e]
      refine ⟨fun e9 q => ?_, fun v p1 q => (by cases q)⟩
      cases q
      exact bad_R h.1 (by decide)
  · rw [if_neg (fun q => k3 ((kind_3 h.1).mp q)), if_pos k3]
    refine ⟨fun e9 q => ?_, fun v p1 q => (by cases q)⟩
    cases q
    exact bad_R h.1 (by decide)
theorem findInN {s b M : Nat} (h : RT o T n lim p) (hS : SNM o R N) (hw : tK T n lim p = 2 ∨ 128 ≤ tK T n lim p) (hs : SORT s b M) : f_X10_findIn__9 (nI b) (o.2.2.1 14 s) (o.2.1 12) (o.2.2.2 20) = fI (sFind N b (tW T n lim p) (ct R s)) := by
  obtain ⟨q0, q1, q2, q3⟩ := hS s b M hs
  unfold f_X10_findIn__9
  rw [q0, q1]
  have r := findIn_l (A := o.2.2.2 20) h hw (by omega) q3 4294967298 0 (Nat.zero_le _) (by omega) (fun j hj => by omega)
  rw [nI_0] at r
  exact r
theorem rnm_ {s b M : Nat} {x y : Int32} (h : RQ T n lim R N o d c p) (hs : SORT s b M) (hx : x = nI b) (hy : y = o.2.2.1 14 s) : (∀ e, sOne T n lim b (ct R s) N p = .inl e → RBad (f_X10_readNamed__3 x y o) e) ∧ (∀ k, sOne T n lim b (ct R s) N p = .inr k → (f_X10_readNamed__3 x y o).2 = 1 ∧ RQ T n lim R N (f_X10_readNamed__3 x y o).1 d c (tA T n lim p)) := by
  subst hx
  subst hy
  have bM := (h.2.1 s b M hs).2.2.1
  unfold f_X10_readNamed__3 sOne
  rw [isName_ h.1]
  by_cases k2 : tK T n lim p = 2
  · have hw : tK T n lim p = 2 ∨ 128 ≤ tK T n lim p := Or.inl k2
    rw [if_pos k2, if_neg one0, if_neg (nn k2), findInN h.1 h.2.1 hw hs]
    have ng := fI_neg (x := sFind N b (tW T n lim p) (ct R s)) (fun j q => by have := sFind_lt _ _ q; omega)
    cases e : sFind N b (tW T n lim p) (ct R s) with
    | none =>
      rw [e] at ng
      rw [if_pos (ng.mpr rfl)]
      refine ⟨fun e9 q => ?_, fun k q => (by cases q)⟩
      cases q
      have q := bad_R (c := 3) (h.1.of (o' := sI o 13 (fI none)) (fun k hk => sI_ne (by omega)) rfl rfl) (by decide)
      exact ⟨q.1, q.2.1, q.2.2⟩
    | some j =>
      rw [e] at ng
      rw [if_neg (fun q => by have := ng.mp q; cases this)]
      refine ⟨fun e9 q => (by cases q), fun k q => ?_⟩
      cases q
      exact ⟨rfl, go_Q (o' := sI o 13 (fI (some j))) h.1 h.2.1 (by omega) (by omega) (fun k hk => sI_ne (by omega)) rfl (by rw [sI_ne (by decide)]; exact h.2.2.1) (by rw [sI_ne (by decide)]; exact h.2.2.2.1) (by rw [sI_ne (by decide)]; exact h.2.2.2.2)⟩
  · rw [if_neg k2, if_pos rfl, if_pos k2]
    refine ⟨fun e9 q => ?_, fun k q => (by cases q)⟩
    cases q
    exact bad_R h.1 (by decide)
theorem sy_ {x y z w : Int32} (h : RQ T n lim R N o d c p) : RQ T n lim R N (f_X10_saysOne__3 x y z w o).1 d c p := by
  unfold f_X10_saysOne__3
  exact h.of (fun k a b e => sI_ne a) rfl (by
    show (sA (sA (sA (sA o 44 _ x) 44 _ y) 44 _ z) 44 _ w).2.2.1 1 = _
    rw [sA_ne (by decide), sA_ne (by decide), sA_ne (by decide), sA_ne (by decide)]) (by
    show (sA (sA (sA (sA o 44 _ x) 44 _ y) 44 _ z) 44 _ w).2.2.1 14 = _
    rw [sA_ne (by decide), sA_ne (by decide), sA_ne (by decide), sA_ne (by decide)]) rfl
theorem RQ.tp {x : Int32} (h : RQ T n lim R N o d c p) : RQ T n lim R N (sI o 48 x) d c p := h.of (fun k a b e => sI_ne b) rfl rfl rfl rfl
theorem r33_ {x : Int32} (h : RQ T n lim R N o d c p) (g : tK T n lim p = 60 ∨ tK T n lim p = 61 ∨ tK T n lim p = 62) : RSd T n lim R N d (f_X10_readCompare__1_33 x o) (match sNum T n lim 0 999 (tA T n lim p) with
    | .inl e => .inl e
    | .inr (_, p1) => .inr (c, p1)) := by
  have hg : RQ T n lim R N (f_X10_go__2 o) d c (tA T n lim p) := go_Q (o' := o) h.1 h.2.1 (by omega) (by omega) (fun _ _ => rfl) rfl h.2.2.1 h.2.2.2.1 h.2.2.2.2
  have q : (∀ e, sNum T n lim 0 999 (tA T n lim p) = .inl e → RBad (f_X10_readNumber__7 (0 : Int32) (999 : Int32) (f_X10_go__2 o)) e) ∧ (∀ v p1, sNum T n lim 0 999 (tA T n lim p) = .inr (v, p1) → (f_X10_readNumber__7 (0 : Int32) (999 : Int32) (f_X10_go__2 o)).2 = 1 ∧ RQ T n lim R N (f_X10_readNumber__7 (0 : Int32) (999 : Int32) (f_X10_go__2 o)).1 d c p1) := rn_ (a := 0) (b := 999) hg (by decide) (by decide)
  unfold f_X10_readCompare__1_33
  generalize f_X10_readNumber__7 (0 : Int32) (999 : Int32) (f_X10_go__2 o) = r at q ⊢
  cases e : sNum T n lim 0 999 (tA T n lim p) with
  | inl b =>
    have z := q.1 b e
    rw [if_pos z.1]
    exact RSd.bad ⟨rfl, z.2⟩
  | inr w =>
    obtain ⟨v, p1⟩ := w
    have z := q.2 v p1 e
    rw [if_neg (ne1 z.1)]
    exact RSd.ok rfl (sy_ z.2).tp
theorem rcm_ {K : Nat} {x : Int32} (h : RQ T n lim R N o d c p) (hK : 152 ≤ K) : RSd T n lim R N d (f_X10_readCompare__1 x o) (sPlain T n lim R N c p K) := by
  have e60 : f_X10_isSign__1 (60 : Int32) o = if tK T n lim p = 60 then 1 else 0 := sgn_ (v := 60) h.1 (by omega)
  have e61 : f_X10_isSign__1 (61 : Int32) o = if tK T n lim p = 61 then 1 else 0 := sgn_ (v := 61) h.1 (by omega)
  have e62 : f_X10_isSign__1 (62 : Int32) o = if tK T n lim p = 62 then 1 else 0 := sgn_ (v := 62) h.1 (by omega)
  unfold f_X10_readCompare__1 sPlain
  rw [e60, e61, e62, if_neg (show ¬ K = 150 by omega), if_neg (show ¬ K = 151 by omega), if_pos hK]
  by_cases g : tK T n lim p = 60 ∨ tK T n lim p = 61 ∨ tK T n lim p = 62
  · rw [if_neg (show ¬ ¬ (tK T n lim p = 60 ∨ tK T n lim p = 61 ∨ tK T n lim p = 62) from fun q => q g)]
    have q := r33_ (x := x) h g
    generalize f_X10_readCompare__1_33 x o = r at q ⊢
    rcases g with g | g | g
    · rw [if_pos g, if_neg one0]; exact q
    · rw [if_neg (show ¬ tK T n lim p = 60 by omega), if_pos rfl, if_pos g, if_neg one0]; exact q
    · rw [if_neg (show ¬ tK T n lim p = 60 by omega), if_pos rfl, if_neg (show ¬ tK T n lim p = 61 by omega), if_pos rfl, if_pos g, if_neg one0]; exact q
  · rw [if_pos g, if_neg (show ¬ tK T n lim p = 60 by omega), if_pos rfl, if_neg (show ¬ tK T n lim p = 61 by omega), if_pos rfl, if_neg (show ¬ tK T n lim p = 62 by omega), if_pos rfl]
    exact RSd.bad (bad_R (c := 1) h.1 (by decide))
theorem rof_ {K : Nat} (h : RQ T n lim R N o d c p) (hK : K = 150 ∨ K = 151) : RSd T n lim R N d (f_X10_readOf__1 (nI (K - 128)) o) (sPlain T n lim R N c p K) := by
  unfold f_X10_readOf__1 sPlain
  rcases hK with g | g
  · subst g
    rw [if_pos (show nI (150 - 128) = (22 : Int32) from rfl), if_pos rfl]
    have q := rnm_ (x := (0 : Int32)) (y := o.2.2.1 14 (Int32.toNatClampNeg (0 : Int32))) (s := 0) (b := 0) (M := 6) h (Or.inl ⟨rfl, rfl, rfl⟩) rfl rfl
    generalize f_X10_readNamed__3 (0 : Int32) (o.2.2.1 14 (Int32.toNatClampNeg (0 : Int32))) o = r at q ⊢
    cases e : sOne T n lim 0 (ct R 0) N p with
    | inl b =>
      have z := q.1 b e
      rw [if_pos z.1]
      exact RSd.bad ⟨rfl, z.2⟩
    | inr k =>
      have z := q.2 k e
      rw [if_neg (ne1 z.1)]
      exact RSd.ok rfl (sy_ z.2).tp
  · subst g
    rw [if_neg (show ¬ nI (151 - 128) = (22 : Int32) by decide), if_neg (show ¬ (151 : Nat) = 150 by decide), if_pos rfl]
    have q := rnm_ (x := (6 : Int32)) (y := o.2.2.1 14 (Int32.toNatClampNeg (1 : Int32))) (s := 1) (b := 6) (M := 4) h (Or.inr (Or.inl ⟨rfl, rfl, rfl⟩)) rfl rfl
    generalize f_X10_readNamed__3 (6 : Int32) (o.2.2.1 14 (Int32.toNatClampNeg (1 : Int32))) o = r at q ⊢
    cases e : sOne T n lim 6 (ct R 1) N p with
    | inl b =>
      have z := q.1 b e
      rw [if_pos z.1]
      exact RSd.bad ⟨rfl, z.2⟩
    | inr k =>
      have z := q.2 k e
      rw [if_neg (ne1 z.1)]
      exact RSd.ok rfl (sy_ z.2).tp
end RSENT
section
variable {T : Nat → Nat} {n lim : Nat} {R : Nat → Int32} {N : Nat → Nat} {o : OS} {c d p : Nat}
theorem wlA_17 {x1 : Int32} (h : RT o T n lim p) (hn : ¬ (146 ≤ tK T n lim p ∧ tK T n lim p ≤ 155)) : ∀ (f k : Nat), 18 ≤ k → k ≤ 28 → 28 - k < f → f_X10_readSaid__17_10 f x1 (nI k) o = f_X10_readSaid__17_30 x1 (nI 28) o := by
  intro f
  induction f with
  | zero => intro k _ _ h; omega
  | succ f ih =>
    intro k h18 hk hf
    rw [f_X10_readSaid__17_10]
    by_cases e : 28 ≤ k
    · rw [if_pos (show (27 : Int32) < nI k from nI_lt (a := 27) (by omega) (by omega)), show k = 28 by omega]
    · rw [if_neg (show ¬ (27 : Int32) < nI k from nI_nlt (b := k) (a := 27) (by omega) (by decide)), isWord_ (k := k) h (by omega), if_neg (show ¬ tK T n lim p = 128 + k by omega), if_pos rfl, nI_1]
      exact ih (k + 1) (by omega) (by omega) (by omega)
theorem wlB_17 {x1 : Int32} {j : Nat} (h : RT o T n lim p) (hj : tK T n lim p = 128 + j) (h27 : j ≤ 27) : ∀ (f k : Nat), 18 ≤ k → k ≤ j → j - k < f → f_X10_readSaid__17_10 f x1 (nI k) o = f_X10_readSaid__17_30 x1 (nI j) o := by
  intro f
  induction f with
  | zero => intro k _ _ h; omega
  | succ f ih =>
    intro k h18 hk hf
    rw [f_X10_readSaid__17_10, if_neg (show ¬ (27 : Int32) < nI k from nI_nlt (a := 27) (by omega) (by decide)), isWord_ (k := k) h (by omega)]
    by_cases e : k = j
    · rw [if_pos (show tK T n lim p = 128 + k by omega), if_neg one0, e]
    · rw [if_neg (show ¬ tK T n lim p = 128 + k by omega), if_pos rfl, nI_1]
      exact ih (k + 1) (by omega) (by omega) (by omega)
theorem hx_17 (h : RT o T n lim p) : f_X10_readSaid__17 o = if tK T n lim p = 40 then f_X10_readSaid__17_30 (1 : Int32) (nI 28) o else if 146 ≤ tK T n lim p ∧ tK T n lim p ≤ 155 then f_X10_readSaid__17_30 (0 : Int32) (nI (tK T n lim p - 128)) o else f_X10_readSaid__17_30 (0 : Int32) (nI 28) o := by
  have s40 : f_X10_isSign__1 (40 : Int32) o = if tK T n lim p = 40 then 1 else 0 := sgn_ (v := 40) h (by omega)
  unfold f_X10_readSaid__17
  rw [if22, s40]
  by_cases g1 : tK T n lim p = 40
  · rw [if_pos g1, if_pos g1]
    exact wlA_17 h (by omega) 4294967298 18 (by decide) (by decide) (by decide)
  · rw [if_neg g1, if_neg g1]
    by_cases g2 : 146 ≤ tK T n lim p ∧ tK T n lim p ≤ 155
    · rw [if_pos g2]
      exact wlB_17 (j := tK T n lim p - 128) h (by omega) (by omega) 4294967298 18 (by decide) (by omega) (by omega)
    · rw [if_neg g2]
      exact wlA_17 h g2 4294967298 18 (by decide) (by decide) (by decide)
theorem rs_17 (h : RT o T n lim p) : RSd T n lim R N d (f_X10_readSaid__17 o) (sSaid T n lim R N 0 c p) := by
  rw [hx_17 h, sSaid_0]
  have b4 : RBad (f_X10_bad__1 (4 : Int32) o) (sBad T n lim 4 p) := bad_R (c := 4) h (by decide)
  have b1 : RBad (f_X10_bad__1 (1 : Int32) o) (sBad T n lim 1 p) := bad_R (c := 1) h (by decide)
  by_cases g1 : tK T n lim p = 40
  · rw [if_pos g1, if_neg (show ¬ ¬ (tK T n lim p = 40 ∨ (146 ≤ tK T n lim p ∧ tK T n lim p ≤ 155)) from fun q => q (Or.inl g1))]
    unfold f_X10_readSaid__17_30
    rw [if_neg one0, if22]
    exact RSd.bad b4
  · rw [if_neg g1]
    by_cases g2 : 146 ≤ tK T n lim p ∧ tK T n lim p ≤ 155
    · rw [if_pos g2, if_neg (show ¬ ¬ (tK T n lim p = 40 ∨ (146 ≤ tK T n lim p ∧ tK T n lim p ≤ 155)) from fun q => q (Or.inr g2))]
      unfold f_X10_readSaid__17_30
      rw [if_pos rfl, if_pos (show nI (tK T n lim p - 128) ≤ (27 : Int32) from nI_le (b := 27) (by omega) (by decide)), if22]
      exact RSd.bad b4
    · rw [if_neg g2, if_pos (show ¬ (tK T n lim p = 40 ∨ (146 ≤ tK T n lim p ∧ tK T n lim p ≤ 155)) by omega)]
      unfold f_X10_readSaid__17_30
      rw [if_pos rfl, if_neg (show ¬ nI 28 ≤ (27 : Int32) from nI_ge (a := 27) (by decide) (by decide))]
      exact RSd.bad b1
theorem rO_17 (h : RT o T n lim p) : RSd T n lim R N d (f_X10_readOr__17 o) (sCond T n lim (sSaid T n lim R N 0) c p) := by
  have q := rs_17 (R := R) (N := N) (c := c) (d := d) h
  obtain ⟨e, he⟩ := sSaid0 (T := T) (n := n) (lim := lim) (R := R) (N := N) (c := c) (p := p)
  unfold f_X10_readOr__17 f_X10_readAnd__17 sCond
  rw [he]
  exact RSd.bad ⟨rfl, (q.1 e he).2⟩
end
section
variable {T : Nat → Nat} {n lim : Nat} {R : Nat → Int32} {N : Nat → Nat} {o : OS} {c d p : Nat}
theorem wlA_16 {x1 : Int32} (h : RT o T n lim p) (hn : ¬ (146 ≤ tK T n lim p ∧ tK T n lim p ≤ 155)) : ∀ (f k : Nat), 18 ≤ k → k ≤ 28 → 28 - k < f → f_X10_readSaid__16_10 f x1 (nI k) o = f_X10_readSaid__16_30 x1 (nI 28) o := by
  intro f
  induction f with
  | zero => intro k _ _ h; omega
  | succ f ih =>
    intro k h18 hk hf
    rw [f_X10_readSaid__16_10]
    by_cases e : 28 ≤ k
    · rw [if_pos (show (27 : Int32) < nI k from nI_lt (a := 27) (by omega) (by omega)), show k = 28 by omega]
    · rw [if_neg (show ¬ (27 : Int32) < nI k from nI_nlt (b := k) (a := 27) (by omega) (by decide)), isWord_ (k := k) h (by omega), if_neg (show ¬ tK T n lim p = 128 + k by omega), if_pos rfl, nI_1]
      exact ih (k + 1) (by omega) (by omega) (by omega)
theorem wlB_16 {x1 : Int32} {j : Nat} (h : RT o T n lim p) (hj : tK T n lim p = 128 + j) (h27 : j ≤ 27) : ∀ (f k : Nat), 18 ≤ k → k ≤ j → j - k < f → f_X10_readSaid__16_10 f x1 (nI k) o = f_X10_readSaid__16_30 x1 (nI j) o := by
  intro f
  induction f with
  | zero => intro k _ _ h; omega
  | succ f ih =>
    intro k h18 hk hf
    rw [f_X10_readSaid__16_10, if_neg (show ¬ (27 : Int32) < nI k from nI_nlt (a := 27) (by omega) (by decide)), isWord_ (k := k) h (by omega)]
    by_cases e : k = j
    · rw [if_pos (show tK T n lim p = 128 + k by omega), if_neg one0, e]
    · rw [if_neg (show ¬ tK T n lim p = 128 + k by omega), if_pos rfl, nI_1]
      exact ih (k + 1) (by omega) (by omega) (by omega)
theorem hx_16 (h : RT o T n lim p) : f_X10_readSaid__16 o = if tK T n lim p = 40 then f_X10_readSaid__16_30 (1 : Int32) (nI 28) o else if 146 ≤ tK T n lim p ∧ tK T n lim p ≤ 155 then f_X10_readSaid__16_30 (0 : Int32) (nI (tK T n lim p - 128)) o else f_X10_readSaid__16_30 (0 : Int32) (nI 28) o := by
  have s40 : f_X10_isSign__1 (40 : Int32) o = if tK T n lim p = 40 then 1 else 0 := sgn_ (v := 40) h (by omega)
  unfold f_X10_readSaid__16
  rw [if22, s40]
  by_cases g1 : tK T n lim p = 40
  · rw [if_pos g1, if_pos g1]
    exact wlA_16 h (by omega) 4294967298 18 (by decide) (by decide) (by decide)
  · rw [if_neg g1, if_neg g1]
    by_cases g2 : 146 ≤ tK T n lim p ∧ tK T n lim p ≤ 155
    · rw [if_pos g2]
      exact wlB_16 (j := tK T n lim p - 128) h (by omega) (by omega) 4294967298 18 (by decide) (by omega) (by omega)
    · rw [if_neg g2]
      exact wlA_16 h g2 4294967298 18 (by decide) (by decide) (by decide)
theorem rn_16 (hQ : RQ T n lim R N o 8 c p) (hc : c ≤ 20) : RSd T n lim R N 8 (f_X10_readNot__8 o) (sSaid T n lim R N 0 c p) := by
  have q := rs_17 (R := R) (N := N) (c := c) (d := 8) hQ.1
  unfold f_X10_readNot__8
  generalize f_X10_readSaid__17 o = r at q ⊢
  cases e : sSaid T n lim R N 0 c p with
  | inl b =>
    have z := q.1 b e
    try dsimp only
    exact RSd.bad ⟨rfl, z.2⟩
  | inr w =>
    obtain ⟨c1, p1⟩ := w
    obtain ⟨e9, he9⟩ := sSaid0 (T := T) (n := n) (lim := lim) (R := R) (N := N) (c := c) (p := p)
    rw [he9] at e
    cases e
theorem rbk_16 (hQ : RQ T n lim R N o 8 c p) (hc : c ≤ 20) : RSd T n lim R N 8 (f_X10_readBracket__15 o) (match sCond T n lim (sSaid T n lim R N 0) c p with
    | .inl e => .inl e
    | .inr (c1, p1) => if tK T n lim p1 ≠ 41 then .inl (sBad T n lim 1 p1) else .inr (c1, tA T n lim p1)) := by
  have q := rO_17 (R := R) (N := N) (c := c) (d := 8) hQ.1
  unfold f_X10_readBracket__15
  generalize f_X10_readOr__17 o = r at q ⊢
  cases e : sCond T n lim (sSaid T n lim R N 0) c p with
  | inl b =>
    have z := q.1 b e
    try dsimp only
    exact RSd.bad ⟨rfl, z.2⟩
  | inr w =>
    obtain ⟨c1, p1⟩ := w
    obtain ⟨e9, he9⟩ := sCond0 (T := T) (n := n) (lim := lim) (R := R) (N := N) (c := c) (p := p)
    rw [he9] at e
    cases e
theorem rs_16 (hQ : RQ T n lim R N o 7 c p) (hc : c ≤ 20) : RSd T n lim R N 7 (f_X10_readSaid__16 o) (sSaid T n lim R N 1 c p) := by
  have h := hQ.1
  rw [hx_16 h, show sSaid T n lim R N 1 c p = _ from sSaid_s (d := 0)]
  have b4 : RBad (f_X10_bad__1 (4 : Int32) o) (sBad T n lim 4 p) := bad_R (c := 4) h (by decide)
  have b1 : RBad (f_X10_bad__1 (1 : Int32) o) (sBad T n lim 1 p) := bad_R (c := 1) h (by decide)
  have c20 : o.1 46 = (20 : Int32) ↔ 20 ≤ c := by
    rw [hQ.2.2.1]
    have z := nI_eq (a := c) (b := 20) (by omega) (by decide)
    exact ⟨fun y => by have := z.mp y; omega, fun y => z.mpr (by omega)⟩
  have hv : (o.1 47 + 1) - (1 : Int32) = nI 7 := by rw [hQ.2.2.2.1, nI_1]; exact nIsub1
  have go1 : tK T n lim p ≠ 0 → tK T n lim p ≠ 1 → RQ T n lim R N (f_X10_go__2 (sI (sI o 46 (o.1 46 + 1)) 47 (o.1 47 + 1))) 8 (c + 1) (tA T n lim p) := fun z0 z1 => go_Q (o' := sI (sI o 46 (o.1 46 + 1)) 47 (o.1 47 + 1)) h hQ.2.1 z0 z1 (fun k hk => by rw [sI_ne (by omega), sI_ne (by omega)]) rfl (by rw [sI_ne (by decide), sI_get, hQ.2.2.1, nI_1]) (by rw [sI_get, hQ.2.2.2.1, nI_1]) (by rw [sI_ne (by decide), sI_ne (by decide)]; exact hQ.2.2.2.2)
  by_cases g1 : tK T n lim p = 40
  · rw [if_pos g1, if_neg (show ¬ ¬ (tK T n lim p = 40 ∨ (146 ≤ tK T n lim p ∧ tK T n lim p ≤ 155)) from fun q => q (Or.inl g1))]
    unfold f_X10_readSaid__16_30
    rw [if_neg one0]
    by_cases k : 20 ≤ c
    · rw [if_pos (c20.mpr k), if_pos k]
      exact RSd.bad b4
    · rw [if_neg (fun q => k (c20.mp q)), if_neg k, if_neg (show ¬ tK T n lim p = 146 by omega), if_pos g1]
      have q := rbk_16 (go1 (by omega) (by omega)) (by omega)
      generalize f_X10_readBracket__15 (f_X10_go__2 (sI (sI o 46 (o.1 46 + 1)) 47 (o.1 47 + 1))) = r at q ⊢
      try dsimp only
      exact RSd.dn1 q
  · rw [if_neg g1]
    by_cases g2 : 146 ≤ tK T n lim p ∧ tK T n lim p ≤ 155
    · have go2 := go1 (by omega) (by omega)
      rw [if_pos g2, if_neg (show ¬ ¬ (tK T n lim p = 40 ∨ (146 ≤ tK T n lim p ∧ tK T n lim p ≤ 155)) from fun q => q (Or.inr g2))]
      unfold f_X10_readSaid__16_30
      rw [if_pos rfl, if_pos (show nI (tK T n lim p - 128) ≤ (27 : Int32) from nI_le (b := 27) (by omega) (by decide))]
      by_cases k : 20 ≤ c
      · rw [if_pos (c20.mpr k), if_pos k]
        exact RSd.bad b4
      · rw [if_neg (fun q => k (c20.mp q)), if_neg k]
        have e18 : nI (tK T n lim p - 128) = (18 : Int32) ↔ tK T n lim p - 128 = 18 := nI_eq (b := 18) (by omega) (by decide)
        by_cases a1 : tK T n lim p = 146
        · rw [if_pos (e18.mpr (by omega)), if_pos a1]
          have q := rn_16 go2 (by omega)
          generalize f_X10_readNot__8 (f_X10_go__2 (sI (sI o 46 (o.1 46 + 1)) 47 (o.1 47 + 1))) = r at q ⊢
          try dsimp only
          exact RSd.dn1 q
        · rw [if_neg (fun z => by have := e18.mp z; omega), if_neg a1, if_neg g1]
          by_cases a2 : 150 ≤ tK T n lim p
          · rw [if_pos (show (22 : Int32) ≤ nI (tK T n lim p - 128) from nI_le (a := 22) (by omega) (by omega))]
            by_cases a3 : 152 ≤ tK T n lim p
            · rw [if_pos (show (24 : Int32) ≤ nI (tK T n lim p - 128) from nI_le (a := 24) (by omega) (by omega)), if22]
              exact RSd.dn2 (rcm_ go2 a3) hv
            · rw [if_neg (show ¬ (24 : Int32) ≤ nI (tK T n lim p - 128) from nI_ge (b := 24) (by omega) (by decide)), if22]
              exact RSd.dn2 (rof_ go2 (by omega)) hv
          · rw [if_neg (show ¬ (22 : Int32) ≤ nI (tK T n lim p - 128) from nI_ge (b := 22) (by omega) (by decide))]
            unfold sPlain
            rw [if_neg (show ¬ tK T n lim p = 150 by omega), if_neg (show ¬ tK T n lim p = 151 by omega), if_neg (show ¬ 152 ≤ tK T n lim p by omega)]
            exact RSd.ok rfl ((sy_ go2).tp.dn hv)
    · rw [if_neg g2, if_pos (show ¬ (tK T n lim p = 40 ∨ (146 ≤ tK T n lim p ∧ tK T n lim p ≤ 155)) by omega)]
      unfold f_X10_readSaid__16_30
      rw [if_pos rfl, if_neg (show ¬ nI 28 ≤ (27 : Int32) from nI_ge (a := 27) (by decide) (by decide))]
      exact RSd.bad b1
/-- what 'and' joins: bad, or on to where no 'and' stands -/
theorem ra_16 : ∀ (k f : Nat) (x1 : Int32) (o : OS) (c p : Nat), RQ T n lim R N o 7 c p → 21 ≤ c + k → c ≤ 20 → k < f → (∃ e, sMore T n lim (sSaid T n lim R N 1) k c p = .inl e ∧ RBad (f_X10_readAnd__16_14 f x1 o) e) ∨ (∃ c1 p1 k1, (f_X10_readAnd__16_14 f x1 o).2 = 1 ∧ RQ T n lim R N (f_X10_readAnd__16_14 f x1 o).1 7 c1 p1 ∧ c ≤ c1 ∧ c1 ≤ 20 ∧ 21 ≤ c1 + k1 ∧ k1 ≤ k ∧ sMore T n lim (sSaid T n lim R N 1) k c p = sMore T n lim (sSaid T n lim R N 1) k1 c1 p1 ∧ tK T n lim p1 ≠ 145) := by
  intro k
  induction k with
  | zero => intro f x1 o c p _ h1 h2; omega
  | succ k ih =>
    intro f x1 o c p hQ hk hc hf
    obtain ⟨g, rfl⟩ : ∃ g, f = g + 1 := ⟨f - 1, by omega⟩
    rw [f_X10_readAnd__16_14, show f_X10_isWord__4 (17 : Int32) o = if tK T n lim p = 145 then 1 else 0 from isWord_ (k := 17) hQ.1 (by decide)]
    by_cases e : tK T n lim p = 145
    · rw [if_pos e, if_neg one0]
      have go2 : RQ T n lim R N (f_X10_go__2 o) 7 c (tA T n lim p) := go_Q (o' := o) hQ.1 hQ.2.1 (by omega) (by omega) (fun _ _ => rfl) rfl hQ.2.2.1 hQ.2.2.2.1 hQ.2.2.2.2
      have q := rs_16 go2 hc
      generalize f_X10_readSaid__16 (f_X10_go__2 o) = r at q ⊢
      have es : sMore T n lim (sSaid T n lim R N 1) (k + 1) c p = sAft T n lim (sSaid T n lim R N 1) k (sSaid T n lim R N 1 c (tA T n lim p)) := sMore_s (Or.inr e)
      rw [es]
      cases e1 : sSaid T n lim R N 1 c (tA T n lim p) with
      | inl b =>
        have z := q.1 b e1
        rw [if_pos z.1]
        exact Or.inl ⟨b, rfl, rfl, z.2⟩
      | inr w =>
        obtain ⟨c1, p1⟩ := w
        have z := q.2 c1 p1 e1
        have y := sSaid_c _ _ _ _ _ e1
        rw [if_neg (ne1 z.1)]
        rcases ih g (f_X10_saysOne__3 (2 : Int32) x1 (r.1.1 48) (0 : Int32) r.1).2 (f_X10_saysOne__3 (2 : Int32) x1 (r.1.1 48) (0 : Int32) r.1).1 c1 p1 (sy_ z.2) (by omega) y.2 (by omega) with ⟨b, h1, h2⟩ | ⟨c2, p2, k2, h1, h2, h3, h4, h5, h6, h7, h8⟩
        · exact Or.inl ⟨b, h1, h2⟩
        · exact Or.inr ⟨c2, p2, k2, h1, h2, by omega, h4, h5, by omega, h7, h8⟩
    · rw [if_neg e, if_pos rfl]
      exact Or.inr ⟨c, p, k + 1, rfl, hQ.tp, Nat.le_refl _, hc, hk, Nat.le_refl _, rfl, e⟩
/-- an and-list, in front of what may follow -/
theorem rA_16 (hQ : RQ T n lim R N o 7 c p) (hc : c ≤ 20) (k0 : Nat) (hk : 20 ≤ c + k0) (hf : k0 < 4294967298) : (∃ e, sAft T n lim (sSaid T n lim R N 1) k0 (sSaid T n lim R N 1 c p) = .inl e ∧ RBad (f_X10_readAnd__16 o) e) ∨ (∃ c1 p1 k1, (f_X10_readAnd__16 o).2 = 1 ∧ RQ T n lim R N (f_X10_readAnd__16 o).1 7 c1 p1 ∧ c < c1 ∧ c1 ≤ 20 ∧ 21 ≤ c1 + k1 ∧ k1 ≤ k0 ∧ sAft T n lim (sSaid T n lim R N 1) k0 (sSaid T n lim R N 1 c p) = sMore T n lim (sSaid T n lim R N 1) k1 c1 p1 ∧ tK T n lim p1 ≠ 145) := by
  have q := rs_16 hQ hc
  unfold f_X10_readAnd__16
  generalize f_X10_readSaid__16 o = r at q ⊢
  cases e1 : sSaid T n lim R N 1 c p with
  | inl b =>
    have z := q.1 b e1
    rw [if_pos z.1]
    exact Or.inl ⟨b, rfl, rfl, z.2⟩
  | inr w =>
    obtain ⟨c1, p1⟩ := w
    have z := q.2 c1 p1 e1
    have y := sSaid_c _ _ _ _ _ e1
    rw [if_neg (ne1 z.1)]
    rcases ra_16 k0 4294967298 (r.1.1 48) r.1 c1 p1 z.2 (by omega) y.2 hf with ⟨b, h1, h2⟩ | ⟨c2, p2, k2, h1, h2, h3, h4, h5, h6, h7, h8⟩
    · exact Or.inl ⟨b, h1, h2⟩
    · exact Or.inr ⟨c2, p2, k2, h1, h2, by omega, h4, h5, h6, h7, h8⟩
theorem rOl_16 : ∀ (B k : Nat), k ≤ B → ∀ (f : Nat) (x1 : Int32) (o : OS) (c p : Nat), RQ T n lim R N o 7 c p → 21 ≤ c + k → c ≤ 20 → k < f → k < 4294967298 → tK T n lim p ≠ 145 → RSd T n lim R N 7 (f_X10_readOr__16_14 f x1 o) (sMore T n lim (sSaid T n lim R N 1) k c p) := by
  intro B
  induction B with
  | zero => intro k hB f x1 o c p _ h1 h2; omega
  | succ B ih =>
    intro k hB f x1 o c p hQ hk hc hf hf2 hn
    obtain ⟨k0, rfl⟩ : ∃ g, k = g + 1 := ⟨k - 1, by omega⟩
    obtain ⟨g, rfl⟩ : ∃ g, f = g + 1 := ⟨f - 1, by omega⟩
    rw [f_X10_readOr__16_14, show f_X10_isWord__4 (16 : Int32) o = if tK T n lim p = 144 then 1 else 0 from isWord_ (k := 16) hQ.1 (by decide)]
    by_cases e : tK T n lim p = 144
    · rw [if_pos e, if_neg one0]
      have go2 : RQ T n lim R N (f_X10_go__2 o) 7 c (tA T n lim p) := go_Q (o' := o) hQ.1 hQ.2.1 (by omega) (by omega) (fun _ _ => rfl) rfl hQ.2.2.1 hQ.2.2.2.1 hQ.2.2.2.2
      have q := rA_16 go2 hc k0 (by omega) (by omega)
      generalize f_X10_readAnd__16 (f_X10_go__2 o) = r at q ⊢
      have es : sMore T n lim (sSaid T n lim R N 1) (k0 + 1) c p = sAft T n lim (sSaid T n lim R N 1) k0 (sSaid T n lim R N 1 c (tA T n lim p)) := sMore_s (Or.inl e)
      rw [es]
      rcases q with ⟨b, h1, h2⟩ | ⟨c2, p2, k2, h1, h2, h3, h4, h5, h6, h7, h8⟩
      · rw [h1, if_pos h2.1]
        exact RSd.bad ⟨rfl, h2.2⟩
      · rw [h7, if_neg (ne1 h1)]
        exact ih k2 (by omega) g _ _ c2 p2 (sy_ h2) h5 h4 (by omega) (by omega) h8
    · rw [if_neg e, if_pos rfl, sMore_n (show ¬ (tK T n lim p = 144 ∨ tK T n lim p = 145) from fun z => z.elim e hn)]
      exact RSd.ok rfl hQ.tp
theorem rO_16 (hQ : RQ T n lim R N o 7 c p) (hc : c ≤ 20) : RSd T n lim R N 7 (f_X10_readOr__16 o) (sCond T n lim (sSaid T n lim R N 1) c p) := by
  have q := rA_16 hQ hc 21 (by omega) (by decide)
  rw [sCond_s]
  unfold f_X10_readOr__16
  generalize f_X10_readAnd__16 o = r at q ⊢
  rcases q with ⟨b, h1, h2⟩ | ⟨c2, p2, k2, h1, h2, h3, h4, h5, h6, h7, h8⟩
  · rw [h1, if_pos h2.1]
    exact RSd.bad ⟨rfl, h2.2⟩
  · rw [h7, if_neg (ne1 h1)]
    exact rOl_16 k2 k2 (Nat.le_refl _) 4294967298 _ _ c2 p2 h2 h5 h4 (by omega) (by omega) h8
end
section
variable {T : Nat → Nat} {n lim : Nat} {R : Nat → Int32} {N : Nat → Nat} {o : OS} {c d p : Nat}
theorem wlA_15 {x1 : Int32} (h : RT o T n lim p) (hn : ¬ (146 ≤ tK T n lim p ∧ tK T n lim p ≤ 155)) : ∀ (f k : Nat), 18 ≤ k → k ≤ 28 → 28 - k < f → f_X10_readSaid__15_10 f x1 (nI k) o = f_X10_readSaid__15_30 x1 (nI 28) o := by
  intro f
  induction f with
  | zero => intro k _ _ h; omega
  | succ f ih =>
    intro k h18 hk hf
    rw [f_X10_readSaid__15_10]
    by_cases e : 28 ≤ k
    · rw [if_pos (show (27 : Int32) < nI k from nI_lt (a := 27) (by omega) (by omega)), show k = 28 by omega]
    · rw [if_neg (show ¬ (27 : Int32) < nI k from nI_nlt (b := k) (a := 27) (by omega) (by decide)), isWord_ (k := k) h (by omega), if_neg (show ¬ tK T n lim p = 128 + k by omega), if_pos rfl, nI_1]
      exact ih (k + 1) (by omega) (by omega) (by omega)
theorem wlB_15 {x1 : Int32} {j : Nat} (h : RT o T n lim p) (hj : tK T n lim p = 128 + j) (h27 : j ≤ 27) : ∀ (f k : Nat), 18 ≤ k → k ≤ j → j - k < f → f_X10_readSaid__15_10 f x1 (nI k) o = f_X10_readSaid__15_30 x1 (nI j) o := by
  intro f
  induction f with
  | zero => intro k _ _ h; omega
  | succ f ih =>
    intro k h18 hk hf
    rw [f_X10_readSaid__15_10, if_neg (show ¬ (27 : Int32) < nI k from nI_nlt (a := 27) (by omega) (by decide)), isWord_ (k := k) h (by omega)]
    by_cases e : k = j
    · rw [if_pos (show tK T n lim p = 128 + k by omega), if_neg one0, e]
    · rw [if_neg (show ¬ tK T n lim p = 128 + k by omega), if_pos rfl, nI_1]
      exact ih (k + 1) (by omega) (by omega) (by omega)
theorem hx_15 (h : RT o T n lim p) : f_X10_readSaid__15 o = if tK T n lim p = 40 then f_X10_readSaid__15_30 (1 : Int32) (nI 28) o else if 146 ≤ tK T n lim p ∧ tK T n lim p ≤ 155 then f_X10_readSaid__15_30 (0 : Int32) (nI (tK T n lim p - 128)) o else f_X10_readSaid__15_30 (0 : Int32) (nI 28) o := by
  have s40 : f_X10_isSign__1 (40 : Int32) o = if tK T n lim p = 40 then 1 else 0 := sgn_ (v := 40) h (by omega)
  unfold f_X10_readSaid__15
  rw [if22, s40]
  by_cases g1 : tK T n lim p = 40
  · rw [if_pos g1, if_pos g1]
    exact wlA_15 h (by omega) 4294967298 18 (by decide) (by decide) (by decide)
  · rw [if_neg g1, if_neg g1]
    by_cases g2 : 146 ≤ tK T n lim p ∧ tK T n lim p ≤ 155
    · rw [if_pos g2]
      exact wlB_15 (j := tK T n lim p - 128) h (by omega) (by omega) 4294967298 18 (by decide) (by omega) (by omega)
    · rw [if_neg g2]
      exact wlA_15 h g2 4294967298 18 (by decide) (by decide) (by decide)
theorem rn_15 (hQ : RQ T n lim R N o 7 c p) (hc : c ≤ 20) : RSd T n lim R N 7 (f_X10_readNot__9 o) (sSaid T n lim R N 1 c p) := by
  have q := rs_16 hQ hc
  unfold f_X10_readNot__9
  generalize f_X10_readSaid__16 o = r at q ⊢
  cases e : sSaid T n lim R N 1 c p with
  | inl b =>
    have z := q.1 b e
    rw [if_pos z.1]
    exact RSd.bad ⟨rfl, z.2⟩
  | inr w =>
    obtain ⟨c1, p1⟩ := w
    have z := q.2 c1 p1 e
    rw [if_neg (ne1 z.1)]
    exact RSd.ok rfl (sy_ z.2).tp
theorem rbk_15 (hQ : RQ T n lim R N o 7 c p) (hc : c ≤ 20) : RSd T n lim R N 7 (f_X10_readBracket__14 o) (match sCond T n lim (sSaid T n lim R N 1) c p with
    | .inl e => .inl e
    | .inr (c1, p1) => if tK T n lim p1 ≠ 41 then .inl (sBad T n lim 1 p1) else .inr (c1, tA T n lim p1)) := by
  have q := rO_16 hQ hc
  unfold f_X10_readBracket__14
  generalize f_X10_readOr__16 o = r at q ⊢
  cases e : sCond T n lim (sSaid T n lim R N 1) c p with
  | inl b =>
    have z := q.1 b e
    rw [if_pos z.1]
    exact RSd.bad ⟨rfl, z.2⟩
  | inr w =>
    obtain ⟨c1, p1⟩ := w
    have z := q.2 c1 p1 e
    have e41 : f_X10_isSign__1 (41 : Int32) r.1 = if tK T n lim p1 = 41 then 1 else 0 := sgn_ (v := 41) z.2.1 (by omega)
    rw [if_neg (ne1 z.1), e41]
    try dsimp only
    by_cases g : tK T n lim p1 = 41
    · rw [if_pos g, if_neg one0, if_neg (nn g)]
      exact RSd.ok rfl (go_Q (o' := r.1) z.2.1 z.2.2.1 (by omega) (by omega) (fun _ _ => rfl) rfl z.2.2.2.1 z.2.2.2.2.1 z.2.2.2.2.2)
    · rw [if_neg g, if_pos rfl, if_pos g]
      exact RSd.bad (bad_R (c := 1) z.2.1 (by decide))
theorem rs_15 (hQ : RQ T n lim R N o 6 c p) (hc : c ≤ 20) : RSd T n lim R N 6 (f_X10_readSaid__15 o) (sSaid T n lim R N 2 c p) := by
  have h := hQ.1
  rw [hx_15 h, show sSaid T n lim R N 2 c p = _ from sSaid_s (d := 1)]
  have b4 : RBad (f_X10_bad__1 (4 : Int32) o) (sBad T n lim 4 p) := bad_R (c := 4) h (by decide)
  have b1 : RBad (f_X10_bad__1 (1 : Int32) o) (sBad T n lim 1 p) := bad_R (c := 1) h (by decide)
  have c20 : o.1 46 = (20 : Int32) ↔ 20 ≤ c := by
    rw [hQ.2.2.1]
    have z := nI_eq (a := c) (b := 20) (by omega) (by decide)
    exact ⟨fun y => by have := z.mp y; omega, fun y => z.mpr (by omega)⟩
  have hv : (o.1 47 + 1) - (1 : Int32) = nI 6 := by rw [hQ.2.2.2.1, nI_1]; exact nIsub1
  have go1 : tK T n lim p ≠ 0 → tK T n lim p ≠ 1 → RQ T n lim R N (f_X10_go__2 (sI (sI o 46 (o.1 46 + 1)) 47 (o.1 47 + 1))) 7 (c + 1) (tA T n lim p) := fun z0 z1 => go_Q (o' := sI (sI o 46 (o.1 46 + 1)) 47 (o.1 47 + 1)) h hQ.2.1 z0 z1 (fun k hk => by rw [sI_ne (by omega), sI_ne (by omega)]) rfl (by rw [sI_ne (by decide), sI_get, hQ.2.2.1, nI_1]) (by rw [sI_get, hQ.2.2.2.1, nI_1]) (by rw [sI_ne (by decide), sI_ne (by decide)]; exact hQ.2.2.2.2)
  by_cases g1 : tK T n lim p = 40
  · rw [if_pos g1, if_neg (show ¬ ¬ (tK T n lim p = 40 ∨ (146 ≤ tK T n lim p ∧ tK T n lim p ≤ 155)) from fun q => q (Or.inl g1))]
    unfold f_X10_readSaid__15_30
    rw [if_neg one0]
    by_cases k : 20 ≤ c
    · rw [if_pos (c20.mpr k), if_pos k]
      exact RSd.bad b4
    · rw [if_neg (fun q => k (c20.mp q)), if_neg k, if_neg (show ¬ tK T n lim p = 146 by omega), if_pos g1]
      have q := rbk_15 (go1 (by omega) (by omega)) (by omega)
      generalize f_X10_readBracket__14 (f_X10_go__2 (sI (sI o 46 (o.1 46 + 1)) 47 (o.1 47 + 1))) = r at q ⊢
      rw [if22]
      exact RSd.dn1 q
  · rw [if_neg g1]
    by_cases g2 : 146 ≤ tK T n lim p ∧ tK T n lim p ≤ 155
    · have go2 := go1 (by omega) (by omega)
      rw [if_pos g2, if_neg (show ¬ ¬ (tK T n lim p = 40 ∨ (146 ≤ tK T n lim p ∧ tK T n lim p ≤ 155)) from fun q => q (Or.inr g2))]
      unfold f_X10_readSaid__15_30
      rw [if_pos rfl, if_pos (show nI (tK T n lim p - 128) ≤ (27 : Int32) from nI_le (b := 27) (by omega) (by decide))]
      by_cases k : 20 ≤ c
      · rw [if_pos (c20.mpr k), if_pos k]
        exact RSd.bad b4
      · rw [if_neg (fun q => k (c20.mp q)), if_neg k]
        have e18 : nI (tK T n lim p - 128) = (18 : Int32) ↔ tK T n lim p - 128 = 18 := nI_eq (b := 18) (by omega) (by decide)
        by_cases a1 : tK T n lim p = 146
        · rw [if_pos (e18.mpr (by omega)), if_pos a1]
          have q := rn_15 go2 (by omega)
          generalize f_X10_readNot__9 (f_X10_go__2 (sI (sI o 46 (o.1 46 + 1)) 47 (o.1 47 + 1))) = r at q ⊢
          rw [if22]
          exact RSd.dn1 q
        · rw [if_neg (fun z => by have := e18.mp z; omega), if_neg a1, if_neg g1]
          by_cases a2 : 150 ≤ tK T n lim p
          · rw [if_pos (show (22 : Int32) ≤ nI (tK T n lim p - 128) from nI_le (a := 22) (by omega) (by omega))]
            by_cases a3 : 152 ≤ tK T n lim p
            · rw [if_pos (show (24 : Int32) ≤ nI (tK T n lim p - 128) from nI_le (a := 24) (by omega) (by omega)), if22]
              exact RSd.dn2 (rcm_ go2 a3) hv
            · rw [if_neg (show ¬ (24 : Int32) ≤ nI (tK T n lim p - 128) from nI_ge (b := 24) (by omega) (by decide)), if22]
              exact RSd.dn2 (rof_ go2 (by omega)) hv
          · rw [if_neg (show ¬ (22 : Int32) ≤ nI (tK T n lim p - 128) from nI_ge (b := 22) (by omega) (by decide))]
            unfold sPlain
            rw [if_neg (show ¬ tK T n lim p = 150 by omega), if_neg (show ¬ tK T n lim p = 151 by omega), if_neg (show ¬ 152 ≤ tK T n lim p by omega)]
            exact RSd.ok rfl ((sy_ go2).tp.dn hv)
    · rw [if_neg g2, if_pos (show ¬ (tK T n lim p = 40 ∨ (146 ≤ tK T n lim p ∧ tK T n lim p ≤ 155)) by omega)]
      unfold f_X10_readSaid__15_30
      rw [if_pos rfl, if_neg (show ¬ nI 28 ≤ (27 : Int32) from nI_ge (a := 27) (by decide) (by decide))]
      exact RSd.bad b1
/-- what 'and' joins: bad, or on to where no 'and' stands -/
theorem ra_15 : ∀ (k f : Nat) (x1 : Int32) (o : OS) (c p : Nat), RQ T n lim R N o 6 c p → 21 ≤ c + k → c ≤ 20 → k < f → (∃ e, sMore T n lim (sSaid T n lim R N 2) k c p = .inl e ∧ RBad (f_X10_readAnd__15_14 f x1 o) e) ∨ (∃ c1 p1 k1, (f_X10_readAnd__15_14 f x1 o).2 = 1 ∧ RQ T n lim R N (f_X10_readAnd__15_14 f x1 o).1 6 c1 p1 ∧ c ≤ c1 ∧ c1 ≤ 20 ∧ 21 ≤ c1 + k1 ∧ k1 ≤ k ∧ sMore T n lim (sSaid T n lim R N 2) k c p = sMore T n lim (sSaid T n lim R N 2) k1 c1 p1 ∧ tK T n lim p1 ≠ 145) := by
  intro k
  induction k with
  | zero => intro f x1 o c p _ h1 h2; omega
  | succ k ih =>
    intro f x1 o c p hQ hk hc hf
    obtain ⟨g, rfl⟩ : ∃ g, f = g + 1 := ⟨f - 1, by omega⟩
    rw [f_X10_readAnd__15_14, show f_X10_isWord__4 (17 : Int32) o = if tK T n lim p = 145 then 1 else 0 from isWord_ (k := 17) hQ.1 (by decide)]
    by_cases e : tK T n lim p = 145
    · rw [if_pos e, if_neg one0]
      have go2 : RQ T n lim R N (f_X10_go__2 o) 6 c (tA T n lim p) := go_Q (o' := o) hQ.1 hQ.2.1 (by omega) (by omega) (fun _ _ => rfl) rfl hQ.2.2.1 hQ.2.2.2.1 hQ.2.2.2.2
      have q := rs_15 go2 hc
      generalize f_X10_readSaid__15 (f_X10_go__2 o) = r at q ⊢
      have es : sMore T n lim (sSaid T n lim R N 2) (k + 1) c p = sAft T n lim (sSaid T n lim R N 2) k (sSaid T n lim R N 2 c (tA T n lim p)) := sMore_s (Or.inr e)
      rw [es]
      cases e1 : sSaid T n lim R N 2 c (tA T n lim p) with
      | inl b =>
        have z := q.1 b e1
        rw [if_pos z.1]
        exact Or.inl ⟨b, rfl, rfl, z.2⟩
      | inr w =>
        obtain ⟨c1, p1⟩ := w
        have z := q.2 c1 p1 e1
        have y := sSaid_c _ _ _ _ _ e1
        rw [if_neg (ne1 z.1)]
        rcases ih g (f_X10_saysOne__3 (2 : Int32) x1 (r.1.1 48) (0 : Int32) r.1).2 (f_X10_saysOne__3 (2 : Int32) x1 (r.1.1 48) (0 : Int32) r.1).1 c1 p1 (sy_ z.2) (by omega) y.2 (by omega) with ⟨b, h1, h2⟩ | ⟨c2, p2, k2, h1, h2, h3, h4, h5, h6, h7, h8⟩
        · exact Or.inl ⟨b, h1, h2⟩
        · exact Or.inr ⟨c2, p2, k2, h1, h2, by omega, h4, h5, by omega, h7, h8⟩
    · rw [if_neg e, if_pos rfl]
      exact Or.inr ⟨c, p, k + 1, rfl, hQ.tp, Nat.le_refl _, hc, hk, Nat.le_refl _, rfl, e⟩
/-- an and-list, in front of what may follow -/
theorem rA_15 (hQ : RQ T n lim R N o 6 c p) (hc : c ≤ 20) (k0 : Nat) (hk : 20 ≤ c + k0) (hf : k0 < 4294967298) : (∃ e, sAft T n lim (sSaid T n lim R N 2) k0 (sSaid T n lim R N 2 c p) = .inl e ∧ RBad (f_X10_readAnd__15 o) e) ∨ (∃ c1 p1 k1, (f_X10_readAnd__15 o).2 = 1 ∧ RQ T n lim R N (f_X10_readAnd__15 o).1 6 c1 p1 ∧ c < c1 ∧ c1 ≤ 20 ∧ 21 ≤ c1 + k1 ∧ k1 ≤ k0 ∧ sAft T n lim (sSaid T n lim R N 2) k0 (sSaid T n lim R N 2 c p) = sMore T n lim (sSaid T n lim R N 2) k1 c1 p1 ∧ tK T n lim p1 ≠ 145) := by
  have q := rs_15 hQ hc
  unfold f_X10_readAnd__15
  generalize f_X10_readSaid__15 o = r at q ⊢
  cases e1 : sSaid T n lim R N 2 c p with
  | inl b =>
    have z := q.1 b e1
    rw [if_pos z.1]
    exact Or.inl ⟨b, rfl, rfl, z.2⟩
  | inr w =>
    obtain ⟨c1, p1⟩ := w
    have z := q.2 c1 p1 e1
    have y := sSaid_c _ _ _ _ _ e1
    rw [if_neg (ne1 z.1)]
    rcases ra_15 k0 4294967298 (r.1.1 48) r.1 c1 p1 z.2 (by omega) y.2 hf with ⟨b, h1, h2⟩ | ⟨c2, p2, k2, h1, h2, h3, h4, h5, h6, h7, h8⟩
    · exact Or.inl ⟨b, h1, h2⟩
    · exact Or.inr ⟨c2, p2, k2, h1, h2, by omega, h4, h5, h6, h7, h8⟩
theorem rOl_15 : ∀ (B k : Nat), k ≤ B → ∀ (f : Nat) (x1 : Int32) (o : OS) (c p : Nat), RQ T n lim R N o 6 c p → 21 ≤ c + k → c ≤ 20 → k < f → k < 4294967298 → tK T n lim p ≠ 145 → RSd T n lim R N 6 (f_X10_readOr__15_14 f x1 o) (sMore T n lim (sSaid T n lim R N 2) k c p) := by
  intro B
  induction B with
  | zero => intro k hB f x1 o c p _ h1 h2; omega
  | succ B ih =>
    intro k hB f x1 o c p hQ hk hc hf hf2 hn
    obtain ⟨k0, rfl⟩ : ∃ g, k = g + 1 := ⟨k - 1, by omega⟩
    obtain ⟨g, rfl⟩ : ∃ g, f = g + 1 := ⟨f - 1, by omega⟩
    rw [f_X10_readOr__15_14, show f_X10_isWord__4 (16 : Int32) o = if tK T n lim p = 144 then 1 else 0 from isWord_ (k := 16) hQ.1 (by decide)]
    by_cases e : tK T n lim p = 144
    · rw [if_pos e, if_neg one0]
      have go2 : RQ T n lim R N (f_X10_go__2 o) 6 c (tA T n lim p) := go_Q (o' := o) hQ.1 hQ.2.1 (by omega) (by omega) (fun _ _ => rfl) rfl hQ.2.2.1 hQ.2.2.2.1 hQ.2.2.2.2
      have q := rA_15 go2 hc k0 (by omega) (by omega)
      generalize f_X10_readAnd__15 (f_X10_go__2 o) = r at q ⊢
      have es : sMore T n lim (sSaid T n lim R N 2) (k0 + 1) c p = sAft T n lim (sSaid T n lim R N 2) k0 (sSaid T n lim R N 2 c (tA T n lim p)) := sMore_s (Or.inl e)
      rw [es]
      rcases q with ⟨b, h1, h2⟩ | ⟨c2, p2, k2, h1, h2, h3, h4, h5, h6, h7, h8⟩
      · rw [h1, if_pos h2.1]
        exact RSd.bad ⟨rfl, h2.2⟩
      · rw [h7, if_neg (ne1 h1)]
        exact ih k2 (by omega) g _ _ c2 p2 (sy_ h2) h5 h4 (by omega) (by omega) h8
    · rw [if_neg e, if_pos rfl, sMore_n (show ¬ (tK T n lim p = 144 ∨ tK T n lim p = 145) from fun z => z.elim e hn)]
      exact RSd.ok rfl hQ.tp
theorem rO_15 (hQ : RQ T n lim R N o 6 c p) (hc : c ≤ 20) : RSd T n lim R N 6 (f_X10_readOr__15 o) (sCond T n lim (sSaid T n lim R N 2) c p) := by
  have q := rA_15 hQ hc 21 (by omega) (by decide)
  rw [sCond_s]
  unfold f_X10_readOr__15
  generalize f_X10_readAnd__15 o = r at q ⊢
  rcases q with ⟨b, h1, h2⟩ | ⟨c2, p2, k2, h1, h2, h3, h4, h5, h6, h7, h8⟩
  · rw [h1, if_pos h2.1]
    exact RSd.bad ⟨rfl, h2.2⟩
  · rw [h7, if_neg (ne1 h1)]
    exact rOl_15 k2 k2 (Nat.le_refl _) 4294967298 _ _ c2 p2 h2 h5 h4 (by omega) (by omega) h8
end
section
variable {T : Nat → Nat} {n lim : Nat} {R : Nat → Int32} {N : Nat → Nat} {o : OS} {c d p : Nat}
theorem wlA_14 {x1 : Int32} (h : RT o T n lim p) (hn : ¬ (146 ≤ tK T n lim p ∧ tK T n lim p ≤ 155)) : ∀ (f k : Nat), 18 ≤ k → k ≤ 28 → 28 - k < f → f_X10_readSaid__14_10 f x1 (nI k) o = f_X10_readSaid__14_30 x1 (nI 28) o := by
  intro f
  induction f with
  | zero => intro k _ _ h; omega
  | succ f ih =>
    intro k h18 hk hf
    rw [f_X10_readSaid__14_10]
    by_cases e : 28 ≤ k
    · rw [if_pos (show (27 : Int32) < nI k from nI_lt (a := 27) (by omega) (by omega)), show k = 28 by omega]
    · rw [if_neg (show ¬ (27 : Int32) < nI k from nI_nlt (b := k) (a := 27) (by omega) (by decide)), isWord_ (k := k) h (by omega), if_neg (show ¬ tK T n lim p = 128 + k by omega), if_pos rfl, nI_1]
      exact ih (k + 1) (by omega) (by omega) (by omega)
theorem wlB_14 {x1 : Int32} {j : Nat} (h : RT o T n lim p) (hj : tK T n lim p = 128 + j) (h27 : j ≤ 27) : ∀ (f k : Nat), 18 ≤ k → k ≤ j → j - k < f → f_X10_readSaid__14_10 f x1 (nI k) o = f_X10_readSaid__14_30 x1 (nI j) o := by
  intro f
  induction f with
  | zero => intro k _ _ h; omega
  | succ f ih =>
    intro k h18 hk hf
    rw [f_X10_readSaid__14_10, if_neg (show ¬ (27 : Int32) < nI k from nI_nlt (a := 27) (by omega) (by decide)), isWord_ (k := k) h (by omega)]
    by_cases e : k = j
    · rw [if_pos (show tK T n lim p = 128 + k by omega), if_neg one0, e]
    · rw [if_neg (show ¬ tK T n lim p = 128 + k by omega), if_pos rfl, nI_1]
      exact ih (k + 1) (by omega) (by omega) (by omega)
theorem hx_14 (h : RT o T n lim p) : f_X10_readSaid__14 o = if tK T n lim p = 40 then f_X10_readSaid__14_30 (1 : Int32) (nI 28) o else if 146 ≤ tK T n lim p ∧ tK T n lim p ≤ 155 then f_X10_readSaid__14_30 (0 : Int32) (nI (tK T n lim p - 128)) o else f_X10_readSaid__14_30 (0 : Int32) (nI 28) o := by
  have s40 : f_X10_isSign__1 (40 : Int32) o = if tK T n lim p = 40 then 1 else 0 := sgn_ (v := 40) h (by omega)
  unfold f_X10_readSaid__14
  rw [if22, s40]
  by_cases g1 : tK T n lim p = 40
  · rw [if_pos g1, if_pos g1]
    exact wlA_14 h (by omega) 4294967298 18 (by decide) (by decide) (by decide)
  · rw [if_neg g1, if_neg g1]
    by_cases g2 : 146 ≤ tK T n lim p ∧ tK T n lim p ≤ 155
    · rw [if_pos g2]
      exact wlB_14 (j := tK T n lim p - 128) h (by omega) (by omega) 4294967298 18 (by decide) (by omega) (by omega)
    · rw [if_neg g2]
      exact wlA_14 h g2 4294967298 18 (by decide) (by decide) (by decide)
theorem rn_14 (hQ : RQ T n lim R N o 6 c p) (hc : c ≤ 20) : RSd T n lim R N 6 (f_X10_readNot__10 o) (sSaid T n lim R N 2 c p) := by
  have q := rs_15 hQ hc
  unfold f_X10_readNot__10
  generalize f_X10_readSaid__15 o = r at q ⊢
  cases e : sSaid T n lim R N 2 c p with
  | inl b =>
    have z := q.1 b e
    rw [if_pos z.1]
    exact RSd.bad ⟨rfl, z.2⟩
  | inr w =>
    obtain ⟨c1, p1⟩ := w
    have z := q.2 c1 p1 e
    rw [if_neg (ne1 z.1)]
    exact RSd.ok rfl (sy_ z.2).tp
theorem rbk_14 (hQ : RQ T n lim R N o 6 c p) (hc : c ≤ 20) : RSd T n lim R N 6 (f_X10_readBracket__13 o) (match sCond T n lim (sSaid T n lim R N 2) c p with
    | .inl e => .inl e
    | .inr (c1, p1) => if tK T n lim p1 ≠ 41 then .inl (sBad T n lim 1 p1) else .inr (c1, tA T n lim p1)) := by
  have q := rO_15 hQ hc
  unfold f_X10_readBracket__13
  generalize f_X10_readOr__15 o = r at q ⊢
  cases e : sCond T n lim (sSaid T n lim R N 2) c p with
  | inl b =>
    have z := q.1 b e
    rw [if_pos z.1]
    exact RSd.bad ⟨rfl, z.2⟩
  | inr w =>
    obtain ⟨c1, p1⟩ := w
    have z := q.2 c1 p1 e
    have e41 : f_X10_isSign__1 (41 : Int32) r.1 = if tK T n lim p1 = 41 then 1 else 0 := sgn_ (v := 41) z.2.1 (by omega)
    rw [if_neg (ne1 z.1), e41]
    try dsimp only
    by_cases g : tK T n lim p1 = 41
    · rw [if_pos g, if_neg one0, if_neg (nn g)]
      exact RSd.ok rfl (go_Q (o' := r.1) z.2.1 z.2.2.1 (by omega) (by omega) (fun _ _ => rfl) rfl z.2.2.2.1 z.2.2.2.2.1 z.2.2.2.2.2)
    · rw [if_neg g, if_pos rfl, if_pos g]
      exact RSd.bad (bad_R (c := 1) z.2.1 (by decide))
theorem rs_14 (hQ : RQ T n lim R N o 5 c p) (hc : c ≤ 20) : RSd T n lim R N 5 (f_X10_readSaid__14 o) (sSaid T n lim R N 3 c p) := by
  have h := hQ.1
  rw [hx_14 h, show sSaid T n lim R N 3 c p = _ from sSaid_s (d := 2)]
  have b4 : RBad (f_X10_bad__1 (4 : Int32) o) (sBad T n lim 4 p) := bad_R (c := 4) h (by decide)
  have b1 : RBad (f_X10_bad__1 (1 : Int32) o) (sBad T n lim 1 p) := bad_R (c := 1) h (by decide)
  have c20 : o.1 46 = (20 : Int32) ↔ 20 ≤ c := by
    rw [hQ.2.2.1]
    have z := nI_eq (a := c) (b := 20) (by omega) (by decide)
    exact ⟨fun y => by have := z.mp y; omega, fun y => z.mpr (by omega)⟩
  have hv : (o.1 47 + 1) - (1 : Int32) = nI 5 := by rw [hQ.2.2.2.1, nI_1]; exact nIsub1
  have go1 : tK T n lim p ≠ 0 → tK T n lim p ≠ 1 → RQ T n lim R N (f_X10_go__2 (sI (sI o 46 (o.1 46 + 1)) 47 (o.1 47 + 1))) 6 (c + 1) (tA T n lim p) := fun z0 z1 => go_Q (o' := sI (sI o 46 (o.1 46 + 1)) 47 (o.1 47 + 1)) h hQ.2.1 z0 z1 (fun k hk => by rw [sI_ne (by omega), sI_ne (by omega)]) rfl (by rw [sI_ne (by decide), sI_get, hQ.2.2.1, nI_1]) (by rw [sI_get, hQ.2.2.2.1, nI_1]) (by rw [sI_ne (by decide), sI_ne (by decide)]; exact hQ.2.2.2.2)
  by_cases g1 : tK T n lim p = 40
  · rw [if_pos g1, if_neg (show ¬ ¬ (tK T n lim p = 40 ∨ (146 ≤ tK T n lim p ∧ tK T n lim p ≤ 155)) from fun q => q (Or.inl g1))]
    unfold f_X10_readSaid__14_30
    rw [if_neg one0]
    by_cases k : 20 ≤ c
    · rw [if_pos (c20.mpr k), if_pos k]
      exact RSd.bad b4
    · rw [if_neg (fun q => k (c20.mp q)), if_neg k, if_neg (show ¬ tK T n lim p = 146 by omega), if_pos g1]
      have q := rbk_14 (go1 (by omega) (by omega)) (by omega)
      generalize f_X10_readBracket__13 (f_X10_go__2 (sI (sI o 46 (o.1 46 + 1)) 47 (o.1 47 + 1))) = r at q ⊢
      rw [if22]
      exact RSd.dn1 q
  · rw [if_neg g1]
    by_cases g2 : 146 ≤ tK T n lim p ∧ tK T n lim p ≤ 155
    · have go2 := go1 (by omega) (by omega)
      rw [if_pos g2, if_neg (show ¬ ¬ (tK T n lim p = 40 ∨ (146 ≤ tK T n lim p ∧ tK T n lim p ≤ 155)) from fun q => q (Or.inr g2))]
      unfold f_X10_readSaid__14_30
      rw [if_pos rfl, if_pos (show nI (tK T n lim p - 128) ≤ (27 : Int32) from nI_le (b := 27) (by omega) (by decide))]
      by_cases k : 20 ≤ c
      · rw [if_pos (c20.mpr k), if_pos k]
        exact RSd.bad b4
      · rw [if_neg (fun q => k (c20.mp q)), if_neg k]
        have e18 : nI (tK T n lim p - 128) = (18 : Int32) ↔ tK T n lim p - 128 = 18 := nI_eq (b := 18) (by omega) (by decide)
        by_cases a1 : tK T n lim p = 146
        · rw [if_pos (e18.mpr (by omega)), if_pos a1]
          have q := rn_14 go2 (by omega)
          generalize f_X10_readNot__10 (f_X10_go__2 (sI (sI o 46 (o.1 46 + 1)) 47 (o.1 47 + 1))) = r at q ⊢
          rw [if22]
          exact RSd.dn1 q
        · rw [if_neg (fun z => by have := e18.mp z; omega), if_neg a1, if_neg g1]
          by_cases a2 : 150 ≤ tK T n lim p
          · rw [if_pos (show (22 : Int32) ≤ nI (tK T n lim p - 128) from nI_le (a := 22) (by omega) (by omega))]
            by_cases a3 : 152 ≤ tK T n lim p
            · rw [if_pos (show (24 : Int32) ≤ nI (tK T n lim p - 128) from nI_le (a := 24) (by omega) (by omega)), if22]
              exact RSd.dn2 (rcm_ go2 a3) hv
            · rw [if_neg (show ¬ (24 : Int32) ≤ nI (tK T n lim p - 128) from nI_ge (b := 24) (by omega) (by decide)), if22]
              exact RSd.dn2 (rof_ go2 (by omega)) hv
          · rw [if_neg (show ¬ (22 : Int32) ≤ nI (tK T n lim p - 128) from nI_ge (b := 22) (by omega) (by decide))]
            unfold sPlain
            rw [if_neg (show ¬ tK T n lim p = 150 by omega), if_neg (show ¬ tK T n lim p = 151 by omega), if_neg (show ¬ 152 ≤ tK T n lim p by omega)]
            exact RSd.ok rfl ((sy_ go2).tp.dn hv)
    · rw [if_neg g2, if_pos (show ¬ (tK T n lim p = 40 ∨ (146 ≤ tK T n lim p ∧ tK T n lim p ≤ 155)) by omega)]
      unfold f_X10_readSaid__14_30
      rw [if_pos rfl, if_neg (show ¬ nI 28 ≤ (27 : Int32) from nI_ge (a := 27) (by decide) (by decide))]
      exact RSd.bad b1
/-- what 'and' joins: bad, or on to where no 'and' stands -/
theorem ra_14 : ∀ (k f : Nat) (x1 : Int32) (o : OS) (c p : Nat), RQ T n lim R N o 5 c p → 21 ≤ c + k → c ≤ 20 → k < f → (∃ e, sMore T n lim (sSaid T n lim R N 3) k c p = .inl e ∧ RBad (f_X10_readAnd__14_14 f x1 o) e) ∨ (∃ c1 p1 k1, (f_X10_readAnd__14_14 f x1 o).2 = 1 ∧ RQ T n lim R N (f_X10_readAnd__14_14 f x1 o).1 5 c1 p1 ∧ c ≤ c1 ∧ c1 ≤ 20 ∧ 21 ≤ c1 + k1 ∧ k1 ≤ k ∧ sMore T n lim (sSaid T n lim R N 3) k c p = sMore T n lim (sSaid T n lim R N 3) k1 c1 p1 ∧ tK T n lim p1 ≠ 145) := by
  intro k
  induction k with
  | zero => intro f x1 o c p _ h1 h2; omega
  | succ k ih =>
    intro f x1 o c p hQ hk hc hf
    obtain ⟨g, rfl⟩ : ∃ g, f = g + 1 := ⟨f - 1, by omega⟩
    rw [f_X10_readAnd__14_14, show f_X10_isWord__4 (17 : Int32) o = if tK T n lim p = 145 then 1 else 0 from isWord_ (k := 17) hQ.1 (by decide)]
    by_cases e : tK T n lim p = 145
    · rw [if_pos e, if_neg one0]
      have go2 : RQ T n lim R N (f_X10_go__2 o) 5 c (tA T n lim p) := go_Q (o' := o) hQ.1 hQ.2.1 (by omega) (by omega) (fun _ _ => rfl) rfl hQ.2.2.1 hQ.2.2.2.1 hQ.2.2.2.2
      have q := rs_14 go2 hc
      generalize f_X10_readSaid__14 (f_X10_go__2 o) = r at q ⊢
      have es : sMore T n lim (sSaid T n lim R N 3) (k + 1) c p = sAft T n lim (sSaid T n lim R N 3) k (sSaid T n lim R N 3 c (tA T n lim p)) := sMore_s (Or.inr e)
      rw [es]
      cases e1 : sSaid T n lim R N 3 c (tA T n lim p) with
      | inl b =>
        have z := q.1 b e1
        rw [if_pos z.1]
        exact Or.inl ⟨b, rfl, rfl, z.2⟩
      | inr w =>
        obtain ⟨c1, p1⟩ := w
        have z := q.2 c1 p1 e1
        have y := sSaid_c _ _ _ _ _ e1
        rw [if_neg (ne1 z.1)]
        rcases ih g (f_X10_saysOne__3 (2 : Int32) x1 (r.1.1 48) (0 : Int32) r.1).2 (f_X10_saysOne__3 (2 : Int32) x1 (r.1.1 48) (0 : Int32) r.1).1 c1 p1 (sy_ z.2) (by omega) y.2 (by omega) with ⟨b, h1, h2⟩ | ⟨c2, p2, k2, h1, h2, h3, h4, h5, h6, h7, h8⟩
        · exact Or.inl ⟨b, h1, h2⟩
        · exact Or.inr ⟨c2, p2, k2, h1, h2, by omega, h4, h5, by omega, h7, h8⟩
    · rw [if_neg e, if_pos rfl]
      exact Or.inr ⟨c, p, k + 1, rfl, hQ.tp, Nat.le_refl _, hc, hk, Nat.le_refl _, rfl, e⟩
/-- an and-list, in front of what may follow -/
theorem rA_14 (hQ : RQ T n lim R N o 5 c p) (hc : c ≤ 20) (k0 : Nat) (hk : 20 ≤ c + k0) (hf : k0 < 4294967298) : (∃ e, sAft T n lim (sSaid T n lim R N 3) k0 (sSaid T n lim R N 3 c p) = .inl e ∧ RBad (f_X10_readAnd__14 o) e) ∨ (∃ c1 p1 k1, (f_X10_readAnd__14 o).2 = 1 ∧ RQ T n lim R N (f_X10_readAnd__14 o).1 5 c1 p1 ∧ c < c1 ∧ c1 ≤ 20 ∧ 21 ≤ c1 + k1 ∧ k1 ≤ k0 ∧ sAft T n lim (sSaid T n lim R N 3) k0 (sSaid T n lim R N 3 c p) = sMore T n lim (sSaid T n lim R N 3) k1 c1 p1 ∧ tK T n lim p1 ≠ 145) := by
  have q := rs_14 hQ hc
  unfold f_X10_readAnd__14
  generalize f_X10_readSaid__14 o = r at q ⊢
  cases e1 : sSaid T n lim R N 3 c p with
  | inl b =>
    have z := q.1 b e1
    rw [if_pos z.1]
    exact Or.inl ⟨b, rfl, rfl, z.2⟩
  | inr w =>
    obtain ⟨c1, p1⟩ := w
    have z := q.2 c1 p1 e1
    have y := sSaid_c _ _ _ _ _ e1
    rw [if_neg (ne1 z.1)]
    rcases ra_14 k0 4294967298 (r.1.1 48) r.1 c1 p1 z.2 (by omega) y.2 hf with ⟨b, h1, h2⟩ | ⟨c2, p2, k2, h1, h2, h3, h4, h5, h6, h7, h8⟩
    · exact Or.inl ⟨b, h1, h2⟩
    · exact Or.inr ⟨c2, p2, k2, h1, h2, by omega, h4, h5, h6, h7, h8⟩
theorem rOl_14 : ∀ (B k : Nat), k ≤ B → ∀ (f : Nat) (x1 : Int32) (o : OS) (c p : Nat), RQ T n lim R N o 5 c p → 21 ≤ c + k → c ≤ 20 → k < f → k < 4294967298 → tK T n lim p ≠ 145 → RSd T n lim R N 5 (f_X10_readOr__14_14 f x1 o) (sMore T n lim (sSaid T n lim R N 3) k c p) := by
  intro B
  induction B with
  | zero => intro k hB f x1 o c p _ h1 h2; omega
  | succ B ih =>
    intro k hB f x1 o c p hQ hk hc hf hf2 hn
    obtain ⟨k0, rfl⟩ : ∃ g, k = g + 1 := ⟨k - 1, by omega⟩
    obtain ⟨g, rfl⟩ : ∃ g, f = g + 1 := ⟨f - 1, by omega⟩
    rw [f_X10_readOr__14_14, show f_X10_isWord__4 (16 : Int32) o = if tK T n lim p = 144 then 1 else 0 from isWord_ (k := 16) hQ.1 (by decide)]
    by_cases e : tK T n lim p = 144
    · rw [if_pos e, if_neg one0]
      have go2 : RQ T n lim R N (f_X10_go__2 o) 5 c (tA T n lim p) := go_Q (o' := o) hQ.1 hQ.2.1 (by omega) (by omega) (fun _ _ => rfl) rfl hQ.2.2.1 hQ.2.2.2.1 hQ.2.2.2.2
      have q := rA_14 go2 hc k0 (by omega) (by omega)
      generalize f_X10_readAnd__14 (f_X10_go__2 o) = r at q ⊢
      have es : sMore T n lim (sSaid T n lim R N 3) (k0 + 1) c p = sAft T n lim (sSaid T n lim R N 3) k0 (sSaid T n lim R N 3 c (tA T n lim p)) := sMore_s (Or.inl e)
      rw [es]
      rcases q with ⟨b, h1, h2⟩ | ⟨c2, p2, k2, h1, h2, h3, h4, h5, h6, h7, h8⟩
      · rw [h1, if_pos h2.1]
        exact RSd.bad ⟨rfl, h2.2⟩
      · rw [h7, if_neg (ne1 h1)]
        exact ih k2 (by omega) g _ _ c2 p2 (sy_ h2) h5 h4 (by omega) (by omega) h8
    · rw [if_neg e, if_pos rfl, sMore_n (show ¬ (tK T n lim p = 144 ∨ tK T n lim p = 145) from fun z => z.elim e hn)]
      exact RSd.ok rfl hQ.tp
theorem rO_14 (hQ : RQ T n lim R N o 5 c p) (hc : c ≤ 20) : RSd T n lim R N 5 (f_X10_readOr__14 o) (sCond T n lim (sSaid T n lim R N 3) c p) := by
  have q := rA_14 hQ hc 21 (by omega) (by decide)
  rw [sCond_s]
  unfold f_X10_readOr__14
  generalize f_X10_readAnd__14 o = r at q ⊢
  rcases q with ⟨b, h1, h2⟩ | ⟨c2, p2, k2, h1, h2, h3, h4, h5, h6, h7, h8⟩
  · rw [h1, if_pos h2.1]
    exact RSd.bad ⟨rfl, h2.2⟩
  · rw [h7, if_neg (ne1 h1)]
    exact rOl_14 k2 k2 (Nat.le_refl _) 4294967298 _ _ c2 p2 h2 h5 h4 (by omega) (by omega) h8
end
section
variable {T : Nat → Nat} {n lim : Nat} {R : Nat → Int32} {N : Nat → Nat} {o : OS} {c d p : Nat}
theorem wlA_13 {x1 : Int32} (h : RT o T n lim p) (hn : ¬ (146 ≤ tK T n lim p ∧ tK T n lim p ≤ 155)) : ∀ (f k : Nat), 18 ≤ k → k ≤ 28 → 28 - k < f → f_X10_readSaid__13_10 f x1 (nI k) o = f_X10_readSaid__13_30 x1 (nI 28) o := by
  intro f
  induction f with
  | zero => intro k _ _ h; omega
  | succ f ih =>
    intro k h18 hk hf
    rw [f_X10_readSaid__13_10]
    by_cases e : 28 ≤ k
    · rw [if_pos (show (27 : Int32) < nI k from nI_lt (a := 27) (by omega) (by omega)), show k = 28 by omega]
    · rw [if_neg (show ¬ (27 : Int32) < nI k from nI_nlt (b := k) (a := 27) (by omega) (by decide)), isWord_ (k := k) h (by omega), if_neg (show ¬ tK T n lim p = 128 + k by omega), if_pos rfl, nI_1]
      exact ih (k + 1) (by omega) (by omega) (by omega)
theorem wlB_13 {x1 : Int32} {j : Nat} (h : RT o T n lim p) (hj : tK T n lim p = 128 + j) (h27 : j ≤ 27) : ∀ (f k : Nat), 18 ≤ k → k ≤ j → j - k < f → f_X10_readSaid__13_10 f x1 (nI k) o = f_X10_readSaid__13_30 x1 (nI j) o := by
  intro f
  induction f with
  | zero => intro k _ _ h; omega
  | succ f ih =>
    intro k h18 hk hf
    rw [f_X10_readSaid__13_10, if_neg (show ¬ (27 : Int32) < nI k from nI_nlt (a := 27) (by omega) (by decide)), isWord_ (k := k) h (by omega)]
    by_cases e : k = j
    · rw [if_pos (show tK T n lim p = 128 + k by omega), if_neg one0, e]
    · rw [if_neg (show ¬ tK T n lim p = 128 + k by omega), if_pos rfl, nI_1]
      exact ih (k + 1) (by omega) (by omega) (by omega)
theorem hx_13 (h : RT o T n lim p) : f_X10_readSaid__13 o = if tK T n lim p = 40 then f_X10_readSaid__13_30 (1 : Int32) (nI 28) o else if 146 ≤ tK T n lim p ∧ tK T n lim p ≤ 155 then f_X10_readSaid__13_30 (0 : Int32) (nI (tK T n lim p - 128)) o else f_X10_readSaid__13_30 (0 : Int32) (nI 28) o := by
  have s40 : f_X10_isSign__1 (40 : Int32) o = if tK T n lim p = 40 then 1 else 0 := sgn_ (v := 40) h (by omega)
  unfold f_X10_readSaid__13
  rw [if22, s40]
  by_cases g1 : tK T n lim p = 40
  · rw [if_pos g1, if_pos g1]
    exact wlA_13 h (by omega) 4294967298 18 (by decide) (by decide) (by decide)
  · rw [if_neg g1, if_neg g1]
    by_cases g2 : 146 ≤ tK T n lim p ∧ tK T n lim p ≤ 155
    · rw [if_pos g2]
      exact wlB_13 (j := tK T n lim p - 128) h (by omega) (by omega) 4294967298 18 (by decide) (by omega) (by omega)
    · rw [if_neg g2]
      exact wlA_13 h g2 4294967298 18 (by decide) (by decide) (by decide)
theorem rn_13 (hQ : RQ T n lim R N o 5 c p) (hc : c ≤ 20) : RSd T n lim R N 5 (f_X10_readNot__11 o) (sSaid T n lim R N 3 c p) := by
  have q := rs_14 hQ hc
  unfold f_X10_readNot__11
  generalize f_X10_readSaid__14 o = r at q ⊢
  cases e : sSaid T n lim R N 3 c p with
  | inl b =>
    have z := q.1 b e
    rw [if_pos z.1]
    exact RSd.bad ⟨rfl, z.2⟩
  | inr w =>
    obtain ⟨c1, p1⟩ := w
    have z := q.2 c1 p1 e
    rw [if_neg (ne1 z.1)]
    exact RSd.ok rfl (sy_ z.2).tp
theorem rbk_13 (hQ : RQ T n lim R N o 5 c p) (hc : c ≤ 20) : RSd T n lim R N 5 (f_X10_readBracket__12 o) (match sCond T n lim (sSaid T n lim R N 3) c p with
    | .inl e => .inl e
    | .inr (c1, p1) => if tK T n lim p1 ≠ 41 then .inl (sBad T n lim 1 p1) else .inr (c1, tA T n lim p1)) := by
  have q := rO_14 hQ hc
  unfold f_X10_readBracket__12
  generalize f_X10_readOr__14 o = r at q ⊢
  cases e : sCond T n lim (sSaid T n lim R N 3) c p with
  | inl b =>
    have z := q.1 b e
    rw [if_pos z.1]
    exact RSd.bad ⟨rfl, z.2⟩
  | inr w =>
    obtain ⟨c1, p1⟩ := w
    have z := q.2 c1 p1 e
    have e41 : f_X10_isSign__1 (41 : Int32) r.1 = if tK T n lim p1 = 41 then 1 else 0 := sgn_ (v := 41) z.2.1 (by omega)
    rw [if_neg (ne1 z.1), e41]
    try dsimp only
    by_cases g : tK T n lim p1 = 41
    · rw [if_pos g, if_neg one0, if_neg (nn g)]
      exact RSd.ok rfl (go_Q (o' := r.1) z.2.1 z.2.2.1 (by omega) (by omega) (fun _ _ => rfl) rfl z.2.2.2.1 z.2.2.2.2.1 z.2.2.2.2.2)
    · rw [if_neg g, if_pos rfl, if_pos g]
      exact RSd.bad (bad_R (c := 1) z.2.1 (by decide))
theorem rs_13 (hQ : RQ T n lim R N o 4 c p) (hc : c ≤ 20) : RSd T n lim R N 4 (f_X10_readSaid__13 o) (sSaid T n lim R N 4 c p) := by
  have h := hQ.1
  rw [hx_13 h, show sSaid T n lim R N 4 c p = _ from sSaid_s (d := 3)]
  have b4 : RBad (f_X10_bad__1 (4 : Int32) o) (sBad T n lim 4 p) := bad_R (c := 4) h (by decide)
  have b1 : RBad (f_X10_bad__1 (1 : Int32) o) (sBad T n lim 1 p) := bad_R (c := 1) h (by decide)
  have c20 : o.1 46 = (20 : Int32) ↔ 20 ≤ c := by
    rw [hQ.2.2.1]
    have z := nI_eq (a := c) (b := 20) (by omega) (by decide)
    exact ⟨fun y => by have := z.mp y; omega, fun y => z.mpr (by omega)⟩
  have hv : (o.1 47 + 1) - (1 : Int32) = nI 4 := by rw [hQ.2.2.2.1, nI_1]; exact nIsub1
  have go1 : tK T n lim p ≠ 0 → tK T n lim p ≠ 1 → RQ T n lim R N (f_X10_go__2 (sI (sI o 46 (o.1 46 + 1)) 47 (o.1 47 + 1))) 5 (c + 1) (tA T n lim p) := fun z0 z1 => go_Q (o' := sI (sI o 46 (o.1 46 + 1)) 47 (o.1 47 + 1)) h hQ.2.1 z0 z1 (fun k hk => by rw [sI_ne (by omega), sI_ne (by omega)]) rfl (by rw [sI_ne (by decide), sI_get, hQ.2.2.1, nI_1]) (by rw [sI_get, hQ.2.2.2.1, nI_1]) (by rw [sI_ne (by decide), sI_ne (by decide)]; exact hQ.2.2.2.2)
  by_cases g1 : tK T n lim p = 40
  · rw [if_pos g1, if_neg (show ¬ ¬ (tK T n lim p = 40 ∨ (146 ≤ tK T n lim p ∧ tK T n lim p ≤ 155)) from fun q => q (Or.inl g1))]
    unfold f_X10_readSaid__13_30
    rw [if_neg one0]
    by_cases k : 20 ≤ c
    · rw [if_pos (c20.mpr k), if_pos k]
      exact RSd.bad b4
    · rw [if_neg (fun q => k (c20.mp q)), if_neg k, if_neg (show ¬ tK T n lim p = 146 by omega), if_pos g1]
      have q := rbk_13 (go1 (by omega) (by omega)) (by omega)
      generalize f_X10_readBracket__12 (f_X10_go__2 (sI (sI o 46 (o.1 46 + 1)) 47 (o.1 47 + 1))) = r at q ⊢
      rw [if22]
      exact RSd.dn1 q
  · rw [if_neg g1]
    by_cases g2 : 146 ≤ tK T n lim p ∧ tK T n lim p ≤ 155
    · have go2 := go1 (by omega) (by omega)
      rw [if_pos g2, if_neg (show ¬ ¬ (tK T n lim p = 40 ∨ (146 ≤ tK T n lim p ∧ tK T n lim p ≤ 155)) from fun q => q (Or.inr g2))]
      unfold f_X10_readSaid__13_30
      rw [if_pos rfl, if_pos (show nI (tK T n lim p - 128) ≤ (27 : Int32) from nI_le (b := 27) (by omega) (by decide))]
      by_cases k : 20 ≤ c
      · rw [if_pos (c20.mpr k), if_pos k]
        exact RSd.bad b4
      · rw [if_neg (fun q => k (c20.mp q)), if_neg k]
        have e18 : nI (tK T n lim p - 128) = (18 : Int32) ↔ tK T n lim p - 128 = 18 := nI_eq (b := 18) (by omega) (by decide)
        by_cases a1 : tK T n lim p = 146
        · rw [if_pos (e18.mpr (by omega)), if_pos a1]
          have q := rn_13 go2 (by omega)
          generalize f_X10_readNot__11 (f_X10_go__2 (sI (sI o 46 (o.1 46 + 1)) 47 (o.1 47 + 1))) = r at q ⊢
          rw [if22]
          exact RSd.dn1 q
        · rw [if_neg (fun z => by have := e18.mp z; omega), if_neg a1, if_neg g1]
          by_cases a2 : 150 ≤ tK T n lim p
          · rw [if_pos (show (22 : Int32) ≤ nI (tK T n lim p - 128) from nI_le (a := 22) (by omega) (by omega))]
            by_cases a3 : 152 ≤ tK T n lim p
            · rw [if_pos (show (24 : Int32) ≤ nI (tK T n lim p - 128) from nI_le (a := 24) (by omega) (by omega)), if22]
              exact RSd.dn2 (rcm_ go2 a3) hv
            · rw [if_neg (show ¬ (24 : Int32) ≤ nI (tK T n lim p - 128) from nI_ge (b := 24) (by omega) (by decide)), if22]
              exact RSd.dn2 (rof_ go2 (by omega)) hv
          · rw [if_neg (show ¬ (22 : Int32) ≤ nI (tK T n lim p - 128) from nI_ge (b := 22) (by omega) (by decide))]
            unfold sPlain
            rw [if_neg (show ¬ tK T n lim p = 150 by omega), if_neg (show ¬ tK T n lim p = 151 by omega), if_neg (show ¬ 152 ≤ tK T n lim p by omega)]
            exact RSd.ok rfl ((sy_ go2).tp.dn hv)
    · rw [if_neg g2, if_pos (show ¬ (tK T n lim p = 40 ∨ (146 ≤ tK T n lim p ∧ tK T n lim p ≤ 155)) by omega)]
      unfold f_X10_readSaid__13_30
      rw [if_pos rfl, if_neg (show ¬ nI 28 ≤ (27 : Int32) from nI_ge (a := 27) (by decide) (by decide))]
      exact RSd.bad b1
/-- what 'and' joins: bad, or on to where no 'and' stands -/
theorem ra_13 : ∀ (k f : Nat) (x1 : Int32) (o : OS) (c p : Nat), RQ T n lim R N o 4 c p → 21 ≤ c + k → c ≤ 20 → k < f → (∃ e, sMore T n lim (sSaid T n lim R N 4) k c p = .inl e ∧ RBad (f_X10_readAnd__13_14 f x1 o) e) ∨ (∃ c1 p1 k1, (f_X10_readAnd__13_14 f x1 o).2 = 1 ∧ RQ T n lim R N (f_X10_readAnd__13_14 f x1 o).1 4 c1 p1 ∧ c ≤ c1 ∧ c1 ≤ 20 ∧ 21 ≤ c1 + k1 ∧ k1 ≤ k ∧ sMore T n lim (sSaid T n lim R N 4) k c p = sMore T n lim (sSaid T n lim R N 4) k1 c1 p1 ∧ tK T n lim p1 ≠ 145) := by
  intro k
  induction k with
  | zero => intro f x1 o c p _ h1 h2; omega
  | succ k ih =>
    intro f x1 o c p hQ hk hc hf
    obtain ⟨g, rfl⟩ : ∃ g, f = g + 1 := ⟨f - 1, by omega⟩
    rw [f_X10_readAnd__13_14, show f_X10_isWord__4 (17 : Int32) o = if tK T n lim p = 145 then 1 else 0 from isWord_ (k := 17) hQ.1 (by decide)]
    by_cases e : tK T n lim p = 145
    · rw [if_pos e, if_neg one0]
      have go2 : RQ T n lim R N (f_X10_go__2 o) 4 c (tA T n lim p) := go_Q (o' := o) hQ.1 hQ.2.1 (by omega) (by omega) (fun _ _ => rfl) rfl hQ.2.2.1 hQ.2.2.2.1 hQ.2.2.2.2
      have q := rs_13 go2 hc
      generalize f_X10_readSaid__13 (f_X10_go__2 o) = r at q ⊢
      have es : sMore T n lim (sSaid T n lim R N 4) (k + 1) c p = sAft T n lim (sSaid T n lim R N 4) k (sSaid T n lim R N 4 c (tA T n lim p)) := sMore_s (Or.inr e)
      rw [es]
      cases e1 : sSaid T n lim R N 4 c (tA T n lim p) with
      | inl b =>
        have z := q.1 b e1
        rw [if_pos z.1]
        exact Or.inl ⟨b, rfl, rfl, z.2⟩
      | inr w =>
        obtain ⟨c1, p1⟩ := w
        have z := q.2 c1 p1 e1
        have y := sSaid_c _ _ _ _ _ e1
        rw [if_neg (ne1 z.1)]
        rcases ih g (f_X10_saysOne__3 (2 : Int32) x1 (r.1.1 48) (0 : Int32) r.1).2 (f_X10_saysOne__3 (2 : Int32) x1 (r.1.1 48) (0 : Int32) r.1).1 c1 p1 (sy_ z.2) (by omega) y.2 (by omega) with ⟨b, h1, h2⟩ | ⟨c2, p2, k2, h1, h2, h3, h4, h5, h6, h7, h8⟩
        · exact Or.inl ⟨b, h1, h2⟩
        · exact Or.inr ⟨c2, p2, k2, h1, h2, by omega, h4, h5, by omega, h7, h8⟩
    · rw [if_neg e, if_pos rfl]
      exact Or.inr ⟨c, p, k + 1, rfl, hQ.tp, Nat.le_refl _, hc, hk, Nat.le_refl _, rfl, e⟩
/-- an and-list, in front of what may follow -/
theorem rA_13 (hQ : RQ T n lim R N o 4 c p) (hc : c ≤ 20) (k0 : Nat) (hk : 20 ≤ c + k0) (hf : k0 < 4294967298) : (∃ e, sAft T n lim (sSaid T n lim R N 4) k0 (sSaid T n lim R N 4 c p) = .inl e ∧ RBad (f_X10_readAnd__13 o) e) ∨ (∃ c1 p1 k1, (f_X10_readAnd__13 o).2 = 1 ∧ RQ T n lim R N (f_X10_readAnd__13 o).1 4 c1 p1 ∧ c < c1 ∧ c1 ≤ 20 ∧ 21 ≤ c1 + k1 ∧ k1 ≤ k0 ∧ sAft T n lim (sSaid T n lim R N 4) k0 (sSaid T n lim R N 4 c p) = sMore T n lim (sSaid T n lim R N 4) k1 c1 p1 ∧ tK T n lim p1 ≠ 145) := by
  have q := rs_13 hQ hc
  unfold f_X10_readAnd__13
  generalize f_X10_readSaid__13 o = r at q ⊢
  cases e1 : sSaid T n lim R N 4 c p with
  | inl b =>
    have z := q.1 b e1
    rw [if_pos z.1]
    exact Or.inl ⟨b, rfl, rfl, z.2⟩
  | inr w =>
    obtain ⟨c1, p1⟩ := w
    have z := q.2 c1 p1 e1
    have y := sSaid_c _ _ _ _ _ e1
    rw [if_neg (ne1 z.1)]
    rcases ra_13 k0 4294967298 (r.1.1 48) r.1 c1 p1 z.2 (by omega) y.2 hf with ⟨b, h1, h2⟩ | ⟨c2, p2, k2, h1, h2, h3, h4, h5, h6, h7, h8⟩
    · exact Or.inl ⟨b, h1, h2⟩
    · exact Or.inr ⟨c2, p2, k2, h1, h2, by omega, h4, h5, h6, h7, h8⟩
theorem rOl_13 : ∀ (B k : Nat), k ≤ B → ∀ (f : Nat) (x1 : Int32) (o : OS) (c p : Nat), RQ T n lim R N o 4 c p → 21 ≤ c + k → c ≤ 20 → k < f → k < 4294967298 → tK T n lim p ≠ 145 → RSd T n lim R N 4 (f_X10_readOr__13_14 f x1 o) (sMore T n lim (sSaid T n lim R N 4) k c p) := by
  intro B
  induction B with
  | zero => intro k hB f x1 o c p _ h1 h2; omega
  | succ B ih =>
    intro k hB f x1 o c p hQ hk hc hf hf2 hn
    obtain ⟨k0, rfl⟩ : ∃ g, k = g + 1 := ⟨k - 1, by omega⟩
    obtain ⟨g, rfl⟩ : ∃ g, f = g + 1 := ⟨f - 1, by omega⟩
    rw [f_X10_readOr__13_14, show f_X10_isWord__4 (16 : Int32) o = if tK T n lim p = 144 then 1 else 0 from isWord_ (k := 16) hQ.1 (by decide)]
    by_cases e : tK T n lim p = 144
    · rw [if_pos e, if_neg one0]
      have go2 : RQ T n lim R N (f_X10_go__2 o) 4 c (tA T n lim p) := go_Q (o' := o) hQ.1 hQ.2.1 (by omega) (by omega) (fun _ _ => rfl) rfl hQ.2.2.1 hQ.2.2.2.1 hQ.2.2.2.2
      have q := rA_13 go2 hc k0 (by omega) (by omega)
      generalize f_X10_readAnd__13 (f_X10_go__2 o) = r at q ⊢
      have es : sMore T n lim (sSaid T n lim R N 4) (k0 + 1) c p = sAft T n lim (sSaid T n lim R N 4) k0 (sSaid T n lim R N 4 c (tA T n lim p)) := sMore_s (Or.inl e)
      rw [es]
      rcases q with ⟨b, h1, h2⟩ | ⟨c2, p2, k2, h1, h2, h3, h4, h5, h6, h7, h8⟩
      · rw [h1, if_pos h2.1]
        exact RSd.bad ⟨rfl, h2.2⟩
      · rw [h7, if_neg (ne1 h1)]
        exact ih k2 (by omega) g _ _ c2 p2 (sy_ h2) h5 h4 (by omega) (by omega) h8
    · rw [if_neg e, if_pos rfl, sMore_n (show ¬ (tK T n lim p = 144 ∨ tK T n lim p = 145) from fun z => z.elim e hn)]
      exact RSd.ok rfl hQ.tp
theorem rO_13 (hQ : RQ T n lim R N o 4 c p) (hc : c ≤ 20) : RSd T n lim R N 4 (f_X10_readOr__13 o) (sCond T n lim (sSaid T n lim R N 4) c p) := by
  have q := rA_13 hQ hc 21 (by omega) (by decide)
  rw [sCond_s]
  unfold f_X10_readOr__13
  generalize f_X10_readAnd__13 o = r at q ⊢
  rcases q with ⟨b, h1, h2⟩ | ⟨c2, p2, k2, h1, h2, h3, h4, h5, h6, h7, h8⟩
  · rw [h1, if_pos h2.1]
    exact RSd.bad ⟨rfl, h2.2⟩
  · rw [h7, if_neg (ne1 h1)]
    exact rOl_13 k2 k2 (Nat.le_refl _) 4294967298 _ _ c2 p2 h2 h5 h4 (by omega) (by omega) h8
end
section
variable {T : Nat → Nat} {n lim : Nat} {R : Nat → Int32} {N : Nat → Nat} {o : OS} {c d p : Nat}
theorem wlA_12 {x1 : Int32} (h : RT o T n lim p) (hn : ¬ (146 ≤ tK T n lim p ∧ tK T n lim p ≤ 155)) : ∀ (f k : Nat), 18 ≤ k → k ≤ 28 → 28 - k < f → f_X10_readSaid__12_10 f x1 (nI k) o = f_X10_readSaid__12_30 x1 (nI 28) o := by
  intro f
  induction f with
  | zero => intro k _ _ h; omega
  | succ f ih =>
    intro k h18 hk hf
    rw [f_X10_readSaid__12_10]
    by_cases e : 28 ≤ k
    · rw [if_pos (show (27 : Int32) < nI k from nI_lt (a := 27) (by omega) (by omega)), show k = 28 by omega]
    · rw [if_neg (show ¬ (27 : Int32) < nI k from nI_nlt (b := k) (a := 27) (by omega) (by decide)), isWord_ (k := k) h (by omega), if_neg (show ¬ tK T n lim p = 128 + k by omega), if_pos rfl, nI_1]
      exact ih (k + 1) (by omega) (by omega) (by omega)
theorem wlB_12 {x1 : Int32} {j : Nat} (h : RT o T n lim p) (hj : tK T n lim p = 128 + j) (h27 : j ≤ 27) : ∀ (f k : Nat), 18 ≤ k → k ≤ j → j - k < f → f_X10_readSaid__12_10 f x1 (nI k) o = f_X10_readSaid__12_30 x1 (nI j) o := by
  intro f
  induction f with
  | zero => intro k _ _ h; omega
  | succ f ih =>
    intro k h18 hk hf
    rw [f_X10_readSaid__12_10, if_neg (show ¬ (27 : Int32) < nI k from nI_nlt (a := 27) (by omega) (by decide)), isWord_ (k := k) h (by omega)]
    by_cases e : k = j
    · rw [if_pos (show tK T n lim p = 128 + k by omega), if_neg one0, e]
    · rw [if_neg (show ¬ tK T n lim p = 128 + k by omega), if_pos rfl, nI_1]
      exact ih (k + 1) (by omega) (by omega) (by omega)
theorem hx_12 (h : RT o T n lim p) : f_X10_readSaid__12 o = if tK T n lim p = 40 then f_X10_readSaid__12_30 (1 : Int32) (nI 28) o else if 146 ≤ tK T n lim p ∧ tK T n lim p ≤ 155 then f_X10_readSaid__12_30 (0 : Int32) (nI (tK T n lim p - 128)) o else f_X10_readSaid__12_30 (0 : Int32) (nI 28) o := by
  have s40 : f_X10_isSign__1 (40 : Int32) o = if tK T n lim p = 40 then 1 else 0 := sgn_ (v := 40) h (by omega)
  unfold f_X10_readSaid__12
  rw [if22, s40]
  by_cases g1 : tK T n lim p = 40
  · rw [if_pos g1, if_pos g1]
    exact wlA_12 h (by omega) 4294967298 18 (by decide) (by decide) (by decide)
  · rw [if_neg g1, if_neg g1]
    by_cases g2 : 146 ≤ tK T n lim p ∧ tK T n lim p ≤ 155
    · rw [if_pos g2]
      exact wlB_12 (j := tK T n lim p - 128) h (by omega) (by omega) 4294967298 18 (by decide) (by omega) (by omega)
    · rw [if_neg g2]
      exact wlA_12 h g2 4294967298 18 (by decide) (by decide) (by decide)
theorem rn_12 (hQ : RQ T n lim R N o 4 c p) (hc : c ≤ 20) : RSd T n lim R N 4 (f_X10_readNot__12 o) (sSaid T n lim R N 4 c p) := by
  have q := rs_13 hQ hc
  unfold f_X10_readNot__12
  generalize f_X10_readSaid__13 o = r at q ⊢
  cases e : sSaid T n lim R N 4 c p with
  | inl b =>
    have z := q.1 b e
    rw [if_pos z.1]
    exact RSd.bad ⟨rfl, z.2⟩
  | inr w =>
    obtain ⟨c1, p1⟩ := w
    have z := q.2 c1 p1 e
    rw [if_neg (ne1 z.1)]
    exact RSd.ok rfl (sy_ z.2).tp
theorem rbk_12 (hQ : RQ T n lim R N o 4 c p) (hc : c ≤ 20) : RSd T n lim R N 4 (f_X10_readBracket__11 o) (match sCond T n lim (sSaid T n lim R N 4) c p with
    | .inl e => .inl e
    | .inr (c1, p1) => if tK T n lim p1 ≠ 41 then .inl (sBad T n lim 1 p1) else .inr (c1, tA T n lim p1)) := by
  have q := rO_13 hQ hc
  unfold f_X10_readBracket__11
  generalize f_X10_readOr__13 o = r at q ⊢
  cases e : sCond T n lim (sSaid T n lim R N 4) c p with
  | inl b =>
    have z := q.1 b e
    rw [if_pos z.1]
    exact RSd.bad ⟨rfl, z.2⟩
  | inr w =>
    obtain ⟨c1, p1⟩ := w
    have z := q.2 c1 p1 e
    have e41 : f_X10_isSign__1 (41 : Int32) r.1 = if tK T n lim p1 = 41 then 1 else 0 := sgn_ (v := 41) z.2.1 (by omega)
    rw [if_neg (ne1 z.1), e41]
    try dsimp only
    by_cases g : tK T n lim p1 = 41
    · rw [if_pos g, if_neg one0, if_neg (nn g)]
      exact RSd.ok rfl (go_Q (o' := r.1) z.2.1 z.2.2.1 (by omega) (by omega) (fun _ _ => rfl) rfl z.2.2.2.1 z.2.2.2.2.1 z.2.2.2.2.2)
    · rw [if_neg g, if_pos rfl, if_pos g]
      exact RSd.bad (bad_R (c := 1) z.2.1 (by decide))
theorem rs_12 (hQ : RQ T n lim R N o 3 c p) (hc : c ≤ 20) : RSd T n lim R N 3 (f_X10_readSaid__12 o) (sSaid T n lim R N 5 c p) := by
  have h := hQ.1
  rw [hx_12 h, show sSaid T n lim R N 5 c p = _ from sSaid_s (d := 4)]
  have b4 : RBad (f_X10_bad__1 (4 : Int32) o) (sBad T n lim 4 p) := bad_R (c := 4) h (by decide)
  have b1 : RBad (f_X10_bad__1 (1 : Int32) o) (sBad T n lim 1 p) := bad_R (c := 1) h (by decide)
  have c20 : o.1 46 = (20 : Int32) ↔ 20 ≤ c := by
    rw [hQ.2.2.1]
    have z := nI_eq (a := c) (b := 20) (by omega) (by decide)
    exact ⟨fun y => by have := z.mp y; omega, fun y => z.mpr (by omega)⟩
  have hv : (o.1 47 + 1) - (1 : Int32) = nI 3 := by rw [hQ.2.2.2.1, nI_1]; exact nIsub1
  have go1 : tK T n lim p ≠ 0 → tK T n lim p ≠ 1 → RQ T n lim R N (f_X10_go__2 (sI (sI o 46 (o.1 46 + 1)) 47 (o.1 47 + 1))) 4 (c + 1) (tA T n lim p) := fun z0 z1 => go_Q (o' := sI (sI o 46 (o.1 46 + 1)) 47 (o.1 47 + 1)) h hQ.2.1 z0 z1 (fun k hk => by rw [sI_ne (by omega), sI_ne (by omega)]) rfl (by rw [sI_ne (by decide), sI_get, hQ.2.2.1, nI_1]) (by rw [sI_get, hQ.2.2.2.1, nI_1]) (by rw [sI_ne (by decide), sI_ne (by decide)]; exact hQ.2.2.2.2)
  by_cases g1 : tK T n lim p = 40
  · rw [if_pos g1, if_neg (show ¬ ¬ (tK T n lim p = 40 ∨ (146 ≤ tK T n lim p ∧ tK T n lim p ≤ 155)) from fun q => q (Or.inl g1))]
    unfold f_X10_readSaid__12_30
    rw [if_neg one0]
    by_cases k : 20 ≤ c
    · rw [if_pos (c20.mpr k), if_pos k]
      exact RSd.bad b4
    · rw [if_neg (fun q => k (c20.mp q)), if_neg k, if_neg (show ¬ tK T n lim p = 146 by omega), if_pos g1]
      have q := rbk_12 (go1 (by omega) (by omega)) (by omega)
      generalize f_X10_readBracket__11 (f_X10_go__2 (sI (sI o 46 (o.1 46 + 1)) 47 (o.1 47 + 1))) = r at q ⊢
      rw [if22]
      exact RSd.dn1 q
  · rw [if_neg g1]
    by_cases g2 : 146 ≤ tK T n lim p ∧ tK T n lim p ≤ 155
    · have go2 := go1 (by omega) (by omega)
      rw [if_pos g2, if_neg (show ¬ ¬ (tK T n lim p = 40 ∨ (146 ≤ tK T n lim p ∧ tK T n lim p ≤ 155)) from fun q => q (Or.inr g2))]
      unfold f_X10_readSaid__12_30
      rw [if_pos rfl, if_pos (show nI (tK T n lim p - 128) ≤ (27 : Int32) from nI_le (b := 27) (by omega) (by decide))]
      by_cases k : 20 ≤ c
      · rw [if_pos (c20.mpr k), if_pos k]
        exact RSd.bad b4
      · rw [if_neg (fun q => k (c20.mp q)), if_neg k]
        have e18 : nI (tK T n lim p - 128) = (18 : Int32) ↔ tK T n lim p - 128 = 18 := nI_eq (b := 18) (by omega) (by decide)
        by_cases a1 : tK T n lim p = 146
        · rw [if_pos (e18.mpr (by omega)), if_pos a1]
          have q := rn_12 go2 (by omega)
          generalize f_X10_readNot__12 (f_X10_go__2 (sI (sI o 46 (o.1 46 + 1)) 47 (o.1 47 + 1))) = r at q ⊢
          rw [if22]
          exact RSd.dn1 q
        · rw [if_neg (fun z => by have := e18.mp z; omega), if_neg a1, if_neg g1]
          by_cases a2 : 150 ≤ tK T n lim p
          · rw [if_pos (show (22 : Int32) ≤ nI (tK T n lim p - 128) from nI_le (a := 22) (by omega) (by omega))]
            by_cases a3 : 152 ≤ tK T n lim p
            · rw [if_pos (show (24 : Int32) ≤ nI (tK T n lim p - 128) from nI_le (a := 24) (by omega) (by omega)), if22]
              exact RSd.dn2 (rcm_ go2 a3) hv
            · rw [if_neg (show ¬ (24 : Int32) ≤ nI (tK T n lim p - 128) from nI_ge (b := 24) (by omega) (by decide)), if22]
              exact RSd.dn2 (rof_ go2 (by omega)) hv
          · rw [if_neg (show ¬ (22 : Int32) ≤ nI (tK T n lim p - 128) from nI_ge (b := 22) (by omega) (by decide))]
            unfold sPlain
            rw [if_neg (show ¬ tK T n lim p = 150 by omega), if_neg (show ¬ tK T n lim p = 151 by omega), if_neg (show ¬ 152 ≤ tK T n lim p by omega)]
            exact RSd.ok rfl ((sy_ go2).tp.dn hv)
    · rw [if_neg g2, if_pos (show ¬ (tK T n lim p = 40 ∨ (146 ≤ tK T n lim p ∧ tK T n lim p ≤ 155)) by omega)]
      unfold f_X10_readSaid__12_30
      rw [if_pos rfl, if_neg (show ¬ nI 28 ≤ (27 : Int32) from nI_ge (a := 27) (by decide) (by decide))]
      exact RSd.bad b1
/-- what 'and' joins: bad, or on to where no 'and' stands -/
theorem ra_12 : ∀ (k f : Nat) (x1 : Int32) (o : OS) (c p : Nat), RQ T n lim R N o 3 c p → 21 ≤ c + k → c ≤ 20 → k < f → (∃ e, sMore T n lim (sSaid T n lim R N 5) k c p = .inl e ∧ RBad (f_X10_readAnd__12_14 f x1 o) e) ∨ (∃ c1 p1 k1, (f_X10_readAnd__12_14 f x1 o).2 = 1 ∧ RQ T n lim R N (f_X10_readAnd__12_14 f x1 o).1 3 c1 p1 ∧ c ≤ c1 ∧ c1 ≤ 20 ∧ 21 ≤ c1 + k1 ∧ k1 ≤ k ∧ sMore T n lim (sSaid T n lim R N 5) k c p = sMore T n lim (sSaid T n lim R N 5) k1 c1 p1 ∧ tK T n lim p1 ≠ 145) := by
  intro k
  induction k with
  | zero => intro f x1 o c p _ h1 h2; omega
  | succ k ih =>
    intro f x1 o c p hQ hk hc hf
    obtain ⟨g, rfl⟩ : ∃ g, f = g + 1 := ⟨f - 1, by omega⟩
    rw [f_X10_readAnd__12_14, show f_X10_isWord__4 (17 : Int32) o = if tK T n lim p = 145 then 1 else 0 from isWord_ (k := 17) hQ.1 (by decide)]
    by_cases e : tK T n lim p = 145
    · rw [if_pos e, if_neg one0]
      have go2 : RQ T n lim R N (f_X10_go__2 o) 3 c (tA T n lim p) := go_Q (o' := o) hQ.1 hQ.2.1 (by omega) (by omega) (fun _ _ => rfl) rfl hQ.2.2.1 hQ.2.2.2.1 hQ.2.2.2.2
      have q := rs_12 go2 hc
      generalize f_X10_readSaid__12 (f_X10_go__2 o) = r at q ⊢
      have es : sMore T n lim (sSaid T n lim R N 5) (k + 1) c p = sAft T n lim (sSaid T n lim R N 5) k (sSaid T n lim R N 5 c (tA T n lim p)) := sMore_s (Or.inr e)
      rw [es]
      cases e1 : sSaid T n lim R N 5 c (tA T n lim p) with
      | inl b =>
        have z := q.1 b e1
        rw [if_pos z.1]
        exact Or.inl ⟨b, rfl, rfl, z.2⟩
      | inr w =>
        obtain ⟨c1, p1⟩ := w
        have z := q.2 c1 p1 e1
        have y := sSaid_c _ _ _ _ _ e1
        rw [if_neg (ne1 z.1)]
        rcases ih g (f_X10_saysOne__3 (2 : Int32) x1 (r.1.1 48) (0 : Int32) r.1).2 (f_X10_saysOne__3 (2 : Int32) x1 (r.1.1 48) (0 : Int32) r.1).1 c1 p1 (sy_ z.2) (by omega) y.2 (by omega) with ⟨b, h1, h2⟩ | ⟨c2, p2, k2, h1, h2, h3, h4, h5, h6, h7, h8⟩
        · exact Or.inl ⟨b, h1, h2⟩
        · exact Or.inr ⟨c2, p2, k2, h1, h2, by omega, h4, h5, by omega, h7, h8⟩
    · rw [if_neg e, if_pos rfl]
      exact Or.inr ⟨c, p, k + 1, rfl, hQ.tp, Nat.le_refl _, hc, hk, Nat.le_refl _, rfl, e⟩
/-- an and-list, in front of what may follow -/
theorem rA_12 (hQ : RQ T n lim R N o 3 c p) (hc : c ≤ 20) (k0 : Nat) (hk : 20 ≤ c + k0) (hf : k0 < 4294967298) : (∃ e, sAft T n lim (sSaid T n lim R N 5) k0 (sSaid T n lim R N 5 c p) = .inl e ∧ RBad (f_X10_readAnd__12 o) e) ∨ (∃ c1 p1 k1, (f_X10_readAnd__12 o).2 = 1 ∧ RQ T n lim R N (f_X10_readAnd__12 o).1 3 c1 p1 ∧ c < c1 ∧ c1 ≤ 20 ∧ 21 ≤ c1 + k1 ∧ k1 ≤ k0 ∧ sAft T n lim (sSaid T n lim R N 5) k0 (sSaid T n lim R N 5 c p) = sMore T n lim (sSaid T n lim R N 5) k1 c1 p1 ∧ tK T n lim p1 ≠ 145) := by
  have q := rs_12 hQ hc
  unfold f_X10_readAnd__12
  generalize f_X10_readSaid__12 o = r at q ⊢
  cases e1 : sSaid T n lim R N 5 c p with
  | inl b =>
    have z := q.1 b e1
    rw [if_pos z.1]
    exact Or.inl ⟨b, rfl, rfl, z.2⟩
  | inr w =>
    obtain ⟨c1, p1⟩ := w
    have z := q.2 c1 p1 e1
    have y := sSaid_c _ _ _ _ _ e1
    rw [if_neg (ne1 z.1)]
    rcases ra_12 k0 4294967298 (r.1.1 48) r.1 c1 p1 z.2 (by omega) y.2 hf with ⟨b, h1, h2⟩ | ⟨c2, p2, k2, h1, h2, h3, h4, h5, h6, h7, h8⟩
    · exact Or.inl ⟨b, h1, h2⟩
    · exact Or.inr ⟨c2, p2, k2, h1, h2, by omega, h4, h5, h6, h7, h8⟩
theorem rOl_12 : ∀ (B k : Nat), k ≤ B → ∀ (f : Nat) (x1 : Int32) (o : OS) (c p : Nat), RQ T n lim R N o 3 c p → 21 ≤ c + k → c ≤ 20 → k < f → k < 4294967298 → tK T n lim p ≠ 145 → RSd T n lim R N 3 (f_X10_readOr__12_14 f x1 o) (sMore T n lim (sSaid T n lim R N 5) k c p) := by
  intro B
  induction B with
  | zero => intro k hB f x1 o c p _ h1 h2; omega
  | succ B ih =>
    intro k hB f x1 o c p hQ hk hc hf hf2 hn
    obtain ⟨k0, rfl⟩ : ∃ g, k = g + 1 := ⟨k - 1, by omega⟩
    obtain ⟨g, rfl⟩ : ∃ g, f = g + 1 := ⟨f - 1, by omega⟩
    rw [f_X10_readOr__12_14, show f_X10_isWord__4 (16 : Int32) o = if tK T n lim p = 144 then 1 else 0 from isWord_ (k := 16) hQ.1 (by decide)]
    by_cases e : tK T n lim p = 144
    · rw [if_pos e, if_neg one0]
      have go2 : RQ T n lim R N (f_X10_go__2 o) 3 c (tA T n lim p) := go_Q (o' := o) hQ.1 hQ.2.1 (by omega) (by omega) (fun _ _ => rfl) rfl hQ.2.2.1 hQ.2.2.2.1 hQ.2.2.2.2
      have q := rA_12 go2 hc k0 (by omega) (by omega)
      generalize f_X10_readAnd__12 (f_X10_go__2 o) = r at q ⊢
      have es : sMore T n lim (sSaid T n lim R N 5) (k0 + 1) c p = sAft T n lim (sSaid T n lim R N 5) k0 (sSaid T n lim R N 5 c (tA T n lim p)) := sMore_s (Or.inl e)
      rw [es]
      rcases q with ⟨b, h1, h2⟩ | ⟨c2, p2, k2, h1, h2, h3, h4, h5, h6, h7, h8⟩
      · rw [h1, if_pos h2.1]
        exact RSd.bad ⟨rfl, h2.2⟩
      · rw [h7, if_neg (ne1 h1)]
        exact ih k2 (by omega) g _ _ c2 p2 (sy_ h2) h5 h4 (by omega) (by omega) h8
    · rw [if_neg e, if_pos rfl, sMore_n (show ¬ (tK T n lim p = 144 ∨ tK T n lim p = 145) from fun z => z.elim e hn)]
      exact RSd.ok rfl hQ.tp
theorem rO_12 (hQ : RQ T n lim R N o 3 c p) (hc : c ≤ 20) : RSd T n lim R N 3 (f_X10_readOr__12 o) (sCond T n lim (sSaid T n lim R N 5) c p) := by
  have q := rA_12 hQ hc 21 (by omega) (by decide)
  rw [sCond_s]
  unfold f_X10_readOr__12
  generalize f_X10_readAnd__12 o = r at q ⊢
  rcases q with ⟨b, h1, h2⟩ | ⟨c2, p2, k2, h1, h2, h3, h4, h5, h6, h7, h8⟩
  · rw [h1, if_pos h2.1]
    exact RSd.bad ⟨rfl, h2.2⟩
  · rw [h7, if_neg (ne1 h1)]
    exact rOl_12 k2 k2 (Nat.le_refl _) 4294967298 _ _ c2 p2 h2 h5 h4 (by omega) (by omega) h8
end
section
variable {T : Nat → Nat} {n lim : Nat} {R : Nat → Int32} {N : Nat → Nat} {o : OS} {c d p : Nat}
theorem wlA_11 {x1 : Int32} (h : RT o T n lim p) (hn : ¬ (146 ≤ tK T n lim p ∧ tK T n lim p ≤ 155)) : ∀ (f k : Nat), 18 ≤ k → k ≤ 28 → 28 - k < f → f_X10_readSaid__11_10 f x1 (nI k) o = f_X10_readSaid__11_30 x1 (nI 28) o := by
  intro f
  induction f with
  | zero => intro k _ _ h; omega
  | succ f ih =>
    intro k h18 hk hf
    rw [f_X10_readSaid__11_10]
    by_cases e : 28 ≤ k
    · rw [if_pos (show (27 : Int32) < nI k from nI_lt (a := 27) (by omega) (by omega)), show k = 28 by omega]
    · rw [if_neg (show ¬ (27 : Int32) < nI k from nI_nlt (b := k) (a := 27) (by omega) (by decide)), isWord_ (k := k) h (by omega), if_neg (show ¬ tK T n lim p = 128 + k by omega), if_pos rfl, nI_1]
      exact ih (k + 1) (by omega) (by omega) (by omega)
theorem wlB_11 {x1 : Int32} {j : Nat} (h : RT o T n lim p) (hj : tK T n lim p = 128 + j) (h27 : j ≤ 27) : ∀ (f k : Nat), 18 ≤ k → k ≤ j → j - k < f → f_X10_readSaid__11_10 f x1 (nI k) o = f_X10_readSaid__11_30 x1 (nI j) o := by
  intro f
  induction f with
  | zero => intro k _ _ h; omega
  | succ f ih =>
    intro k h18 hk hf
    rw [f_X10_readSaid__11_10, if_neg (show ¬ (27 : Int32) < nI k from nI_nlt (a := 27) (by omega) (by decide)), isWord_ (k := k) h (by omega)]
    by_cases e : k = j
    · rw [if_pos (show tK T n lim p = 128 + k by omega), if_neg one0, e]
    · rw [if_neg (show ¬ tK T n lim p = 128 + k by omega), if_pos rfl, nI_1]
      exact ih (k + 1) (by omega) (by omega) (by omega)
theorem hx_11 (h : RT o T n lim p) : f_X10_readSaid__11 o = if tK T n lim p = 40 then f_X10_readSaid__11_30 (1 : Int32) (nI 28) o else if 146 ≤ tK T n lim p ∧ tK T n lim p ≤ 155 then f_X10_readSaid__11_30 (0 : Int32) (nI (tK T n lim p - 128)) o else f_X10_readSaid__11_30 (0 : Int32) (nI 28) o := by
  have s40 : f_X10_isSign__1 (40 : Int32) o = if tK T n lim p = 40 then 1 else 0 := sgn_ (v := 40) h (by omega)
  unfold f_X10_readSaid__11
  rw [if22, s40]
  by_cases g1 : tK T n lim p = 40
  · rw [if_pos g1, if_pos g1]
    exact wlA_11 h (by omega) 4294967298 18 (by decide) (by decide) (by decide)
  · rw [if_neg g1, if_neg g1]
    by_cases g2 : 146 ≤ tK T n lim p ∧ tK T n lim p ≤ 155
    · rw [if_pos g2]
      exact wlB_11 (j := tK T n lim p - 128) h (by omega) (by omega) 4294967298 18 (by decide) (by omega) (by omega)
    · rw [if_neg g2]
      exact wlA_11 h g2 4294967298 18 (by decide) (by decide) (by decide)
theorem rn_11 (hQ : RQ T n lim R N o 3 c p) (hc : c ≤ 20) : RSd T n lim R N 3 (f_X10_readNot__13 o) (sSaid T n lim R N 5 c p) := by
  have q := rs_12 hQ hc
  unfold f_X10_readNot__13
  generalize f_X10_readSaid__12 o = r at q ⊢
  cases e : sSaid T n lim R N 5 c p with
  | inl b =>
    have z := q.1 b e
    rw [if_pos z.1]
    exact RSd.bad ⟨rfl, z.2⟩
  | inr w =>
    obtain ⟨c1, p1⟩ := w
    have z := q.2 c1 p1 e
    rw [if_neg (ne1 z.1)]
    exact RSd.ok rfl (sy_ z.2).tp
theorem rbk_11 (hQ : RQ T n lim R N o 3 c p) (hc : c ≤ 20) : RSd T n lim R N 3 (f_X10_readBracket__10 o) (match sCond T n lim (sSaid T n lim R N 5) c p with
    | .inl e => .inl e
    | .inr (c1, p1) => if tK T n lim p1 ≠ 41 then .inl (sBad T n lim 1 p1) else .inr (c1, tA T n lim p1)) := by
  have q := rO_12 hQ hc
  unfold f_X10_readBracket__10
  generalize f_X10_readOr__12 o = r at q ⊢
  cases e : sCond T n lim (sSaid T n lim R N 5) c p with
  | inl b =>
    have z := q.1 b e
    rw [if_pos z.1]
    exact RSd.bad ⟨rfl, z.2⟩
  | inr w =>
    obtain ⟨c1, p1⟩ := w
    have z := q.2 c1 p1 e
    have e41 : f_X10_isSign__1 (41 : Int32) r.1 = if tK T n lim p1 = 41 then 1 else 0 := sgn_ (v := 41) z.2.1 (by omega)
    rw [if_neg (ne1 z.1), e41]
    try dsimp only
    by_cases g : tK T n lim p1 = 41
    · rw [if_pos g, if_neg one0, if_neg (nn g)]
      exact RSd.ok rfl (go_Q (o' := r.1) z.2.1 z.2.2.1 (by omega) (by omega) (fun _ _ => rfl) rfl z.2.2.2.1 z.2.2.2.2.1 z.2.2.2.2.2)
    · rw [if_neg g, if_pos rfl, if_pos g]
      exact RSd.bad (bad_R (c := 1) z.2.1 (by decide))
theorem rs_11 (hQ : RQ T n lim R N o 2 c p) (hc : c ≤ 20) : RSd T n lim R N 2 (f_X10_readSaid__11 o) (sSaid T n lim R N 6 c p) := by
  have h := hQ.1
  rw [hx_11 h, show sSaid T n lim R N 6 c p = _ from sSaid_s (d := 5)]
  have b4 : RBad (f_X10_bad__1 (4 : Int32) o) (sBad T n lim 4 p) := bad_R (c := 4) h (by decide)
  have b1 : RBad (f_X10_bad__1 (1 : Int32) o) (sBad T n lim 1 p) := bad_R (c := 1) h (by decide)
  have c20 : o.1 46 = (20 : Int32) ↔ 20 ≤ c := by
    rw [hQ.2.2.1]
    have z := nI_eq (a := c) (b := 20) (by omega) (by decide)
    exact ⟨fun y => by have := z.mp y; omega, fun y => z.mpr (by omega)⟩
  have hv : (o.1 47 + 1) - (1 : Int32) = nI 2 := by rw [hQ.2.2.2.1, nI_1]; exact nIsub1
  have go1 : tK T n lim p ≠ 0 → tK T n lim p ≠ 1 → RQ T n lim R N (f_X10_go__2 (sI (sI o 46 (o.1 46 + 1)) 47 (o.1 47 + 1))) 3 (c + 1) (tA T n lim p) := fun z0 z1 => go_Q (o' := sI (sI o 46 (o.1 46 + 1)) 47 (o.1 47 + 1)) h hQ.2.1 z0 z1 (fun k hk => by rw [sI_ne (by omega), sI_ne (by omega)]) rfl (by rw [sI_ne (by decide), sI_get, hQ.2.2.1, nI_1]) (by rw [sI_get, hQ.2.2.2.1, nI_1]) (by rw [sI_ne (by decide), sI_ne (by decide)]; exact hQ.2.2.2.2)
  by_cases g1 : tK T n lim p = 40
  · rw [if_pos g1, if_neg (show ¬ ¬ (tK T n lim p = 40 ∨ (146 ≤ tK T n lim p ∧ tK T n lim p ≤ 155)) from fun q => q (Or.inl g1))]
    unfold f_X10_readSaid__11_30
    rw [if_neg one0]
    by_cases k : 20 ≤ c
    · rw [if_pos (c20.mpr k), if_pos k]
      exact RSd.bad b4
    · rw [if_neg (fun q => k (c20.mp q)), if_neg k, if_neg (show ¬ tK T n lim p = 146 by omega), if_pos g1]
      have q := rbk_11 (go1 (by omega) (by omega)) (by omega)
      generalize f_X10_readBracket__10 (f_X10_go__2 (sI (sI o 46 (o.1 46 + 1)) 47 (o.1 47 + 1))) = r at q ⊢
      rw [if22]
      exact RSd.dn1 q
  · rw [if_neg g1]
    by_cases g2 : 146 ≤ tK T n lim p ∧ tK T n lim p ≤ 155
    · have go2 := go1 (by omega) (by omega)
      rw [if_pos g2, if_neg (show ¬ ¬ (tK T n lim p = 40 ∨ (146 ≤ tK T n lim p ∧ tK T n lim p ≤ 155)) from fun q => q (Or.inr g2))]
      unfold f_X10_readSaid__11_30
      rw [if_pos rfl, if_pos (show nI (tK T n lim p - 128) ≤ (27 : Int32) from nI_le (b := 27) (by omega) (by decide))]
      by_cases k : 20 ≤ c
      · rw [if_pos (c20.mpr k), if_pos k]
        exact RSd.bad b4
      · rw [if_neg (fun q => k (c20.mp q)), if_neg k]
        have e18 : nI (tK T n lim p - 128) = (18 : Int32) ↔ tK T n lim p - 128 = 18 := nI_eq (b := 18) (by omega) (by decide)
        by_cases a1 : tK T n lim p = 146
        · rw [if_pos (e18.mpr (by omega)), if_pos a1]
          have q := rn_11 go2 (by omega)
          generalize f_X10_readNot__13 (f_X10_go__2 (sI (sI o 46 (o.1 46 + 1)) 47 (o.1 47 + 1))) = r at q ⊢
          rw [if22]
          exact RSd.dn1 q
        · rw [if_neg (fun z => by have := e18.mp z; omega), if_neg a1, if_neg g1]
          by_cases a2 : 150 ≤ tK T n lim p
          · rw [if_pos (show (22 : Int32) ≤ nI (tK T n lim p - 128) from nI_le (a := 22) (by omega) (by omega))]
            by_cases a3 : 152 ≤ tK T n lim p
            · rw [if_pos (show (24 : Int32) ≤ nI (tK T n lim p - 128) from nI_le (a := 24) (by omega) (by omega)), if22]
              exact RSd.dn2 (rcm_ go2 a3) hv
            · rw [if_neg (show ¬ (24 : Int32) ≤ nI (tK T n lim p - 128) from nI_ge (b := 24) (by omega) (by decide)), if22]
              exact RSd.dn2 (rof_ go2 (by omega)) hv
          · rw [if_neg (show ¬ (22 : Int32) ≤ nI (tK T n lim p - 128) from nI_ge (b := 22) (by omega) (by decide))]
            unfold sPlain
            rw [if_neg (show ¬ tK T n lim p = 150 by omega), if_neg (show ¬ tK T n lim p = 151 by omega), if_neg (show ¬ 152 ≤ tK T n lim p by omega)]
            exact RSd.ok rfl ((sy_ go2).tp.dn hv)
    · rw [if_neg g2, if_pos (show ¬ (tK T n lim p = 40 ∨ (146 ≤ tK T n lim p ∧ tK T n lim p ≤ 155)) by omega)]
      unfold f_X10_readSaid__11_30
      rw [if_pos rfl, if_neg (show ¬ nI 28 ≤ (27 : Int32) from nI_ge (a := 27) (by decide) (by decide))]
      exact RSd.bad b1
/-- what 'and' joins: bad, or on to where no 'and' stands -/
theorem ra_11 : ∀ (k f : Nat) (x1 : Int32) (o : OS) (c p : Nat), RQ T n lim R N o 2 c p → 21 ≤ c + k → c ≤ 20 → k < f → (∃ e, sMore T n lim (sSaid T n lim R N 6) k c p = .inl e ∧ RBad (f_X10_readAnd__11_14 f x1 o) e) ∨ (∃ c1 p1 k1, (f_X10_readAnd__11_14 f x1 o).2 = 1 ∧ RQ T n lim R N (f_X10_readAnd__11_14 f x1 o).1 2 c1 p1 ∧ c ≤ c1 ∧ c1 ≤ 20 ∧ 21 ≤ c1 + k1 ∧ k1 ≤ k ∧ sMore T n lim (sSaid T n lim R N 6) k c p = sMore T n lim (sSaid T n lim R N 6) k1 c1 p1 ∧ tK T n lim p1 ≠ 145) := by
  intro k
  induction k with
  | zero => intro f x1 o c p _ h1 h2; omega
  | succ k ih =>
    intro f x1 o c p hQ hk hc hf
    obtain ⟨g, rfl⟩ : ∃ g, f = g + 1 := ⟨f - 1, by omega⟩
    rw [f_X10_readAnd__11_14, show f_X10_isWord__4 (17 : Int32) o = if tK T n lim p = 145 then 1 else 0 from isWord_ (k := 17) hQ.1 (by decide)]
    by_cases e : tK T n lim p = 145
    · rw [if_pos e, if_neg one0]
      have go2 : RQ T n lim R N (f_X10_go__2 o) 2 c (tA T n lim p) := go_Q (o' := o) hQ.1 hQ.2.1 (by omega) (by omega) (fun _ _ => rfl) rfl hQ.2.2.1 hQ.2.2.2.1 hQ.2.2.2.2
      have q := rs_11 go2 hc
      generalize f_X10_readSaid__11 (f_X10_go__2 o) = r at q ⊢
      have es : sMore T n lim (sSaid T n lim R N 6) (k + 1) c p = sAft T n lim (sSaid T n lim R N 6) k (sSaid T n lim R N 6 c (tA T n lim p)) := sMore_s (Or.inr e)
      rw [es]
      cases e1 : sSaid T n lim R N 6 c (tA T n lim p) with
      | inl b =>
        have z := q.1 b e1
        rw [if_pos z.1]
        exact Or.inl ⟨b, rfl, rfl, z.2⟩
      | inr w =>
        obtain ⟨c1, p1⟩ := w
        have z := q.2 c1 p1 e1
        have y := sSaid_c _ _ _ _ _ e1
        rw [if_neg (ne1 z.1)]
        rcases ih g (f_X10_saysOne__3 (2 : Int32) x1 (r.1.1 48) (0 : Int32) r.1).2 (f_X10_saysOne__3 (2 : Int32) x1 (r.1.1 48) (0 : Int32) r.1).1 c1 p1 (sy_ z.2) (by omega) y.2 (by omega) with ⟨b, h1, h2⟩ | ⟨c2, p2, k2, h1, h2, h3, h4, h5, h6, h7, h8⟩
        · exact Or.inl ⟨b, h1, h2⟩
        · exact Or.inr ⟨c2, p2, k2, h1, h2, by omega, h4, h5, by omega, h7, h8⟩
    · rw [if_neg e, if_pos rfl]
      exact Or.inr ⟨c, p, k + 1, rfl, hQ.tp, Nat.le_refl _, hc, hk, Nat.le_refl _, rfl, e⟩
/-- an and-list, in front of what may follow -/
theorem rA_11 (hQ : RQ T n lim R N o 2 c p) (hc : c ≤ 20) (k0 : Nat) (hk : 20 ≤ c + k0) (hf : k0 < 4294967298) : (∃ e, sAft T n lim (sSaid T n lim R N 6) k0 (sSaid T n lim R N 6 c p) = .inl e ∧ RBad (f_X10_readAnd__11 o) e) ∨ (∃ c1 p1 k1, (f_X10_readAnd__11 o).2 = 1 ∧ RQ T n lim R N (f_X10_readAnd__11 o).1 2 c1 p1 ∧ c < c1 ∧ c1 ≤ 20 ∧ 21 ≤ c1 + k1 ∧ k1 ≤ k0 ∧ sAft T n lim (sSaid T n lim R N 6) k0 (sSaid T n lim R N 6 c p) = sMore T n lim (sSaid T n lim R N 6) k1 c1 p1 ∧ tK T n lim p1 ≠ 145) := by
  have q := rs_11 hQ hc
  unfold f_X10_readAnd__11
  generalize f_X10_readSaid__11 o = r at q ⊢
  cases e1 : sSaid T n lim R N 6 c p with
  | inl b =>
    have z := q.1 b e1
    rw [if_pos z.1]
    exact Or.inl ⟨b, rfl, rfl, z.2⟩
  | inr w =>
    obtain ⟨c1, p1⟩ := w
    have z := q.2 c1 p1 e1
    have y := sSaid_c _ _ _ _ _ e1
    rw [if_neg (ne1 z.1)]
    rcases ra_11 k0 4294967298 (r.1.1 48) r.1 c1 p1 z.2 (by omega) y.2 hf with ⟨b, h1, h2⟩ | ⟨c2, p2, k2, h1, h2, h3, h4, h5, h6, h7, h8⟩
    · exact Or.inl ⟨b, h1, h2⟩
    · exact Or.inr ⟨c2, p2, k2, h1, h2, by omega, h4, h5, h6, h7, h8⟩
theorem rOl_11 : ∀ (B k : Nat), k ≤ B → ∀ (f : Nat) (x1 : Int32) (o : OS) (c p : Nat), RQ T n lim R N o 2 c p → 21 ≤ c + k → c ≤ 20 → k < f → k < 4294967298 → tK T n lim p ≠ 145 → RSd T n lim R N 2 (f_X10_readOr__11_14 f x1 o) (sMore T n lim (sSaid T n lim R N 6) k c p) := by
  intro B
  induction B with
  | zero => intro k hB f x1 o c p _ h1 h2; omega
  | succ B ih =>
    intro k hB f x1 o c p hQ hk hc hf hf2 hn
    obtain ⟨k0, rfl⟩ : ∃ g, k = g + 1 := ⟨k - 1, by omega⟩
    obtain ⟨g, rfl⟩ : ∃ g, f = g + 1 := ⟨f - 1, by omega⟩
    rw [f_X10_readOr__11_14, show f_X10_isWord__4 (16 : Int32) o = if tK T n lim p = 144 then 1 else 0 from isWord_ (k := 16) hQ.1 (by decide)]
    by_cases e : tK T n lim p = 144
    · rw [if_pos e, if_neg one0]
      have go2 : RQ T n lim R N (f_X10_go__2 o) 2 c (tA T n lim p) := go_Q (o' := o) hQ.1 hQ.2.1 (by omega) (by omega) (fun _ _ => rfl) rfl hQ.2.2.1 hQ.2.2.2.1 hQ.2.2.2.2
      have q := rA_11 go2 hc k0 (by omega) (by omega)
      generalize f_X10_readAnd__11 (f_X10_go__2 o) = r at q ⊢
      have es : sMore T n lim (sSaid T n lim R N 6) (k0 + 1) c p = sAft T n lim (sSaid T n lim R N 6) k0 (sSaid T n lim R N 6 c (tA T n lim p)) := sMore_s (Or.inl e)
      rw [es]
      rcases q with ⟨b, h1, h2⟩ | ⟨c2, p2, k2, h1, h2, h3, h4, h5, h6, h7, h8⟩
      · rw [h1, if_pos h2.1]
        exact RSd.bad ⟨rfl, h2.2⟩
      · rw [h7, if_neg (ne1 h1)]
        exact ih k2 (by omega) g _ _ c2 p2 (sy_ h2) h5 h4 (by omega) (by omega) h8
    · rw [if_neg e, if_pos rfl, sMore_n (show ¬ (tK T n lim p = 144 ∨ tK T n lim p = 145) from fun z => z.elim e hn)]
      exact RSd.ok rfl hQ.tp
theorem rO_11 (hQ : RQ T n lim R N o 2 c p) (hc : c ≤ 20) : RSd T n lim R N 2 (f_X10_readOr__11 o) (sCond T n lim (sSaid T n lim R N 6) c p) := by
  have q := rA_11 hQ hc 21 (by omega) (by decide)
  rw [sCond_s]
  unfold f_X10_readOr__11
  generalize f_X10_readAnd__11 o = r at q ⊢
  rcases q with ⟨b, h1, h2⟩ | ⟨c2, p2, k2, h1, h2, h3, h4, h5, h6, h7, h8⟩
  · rw [h1, if_pos h2.1]
    exact RSd.bad ⟨rfl, h2.2⟩
  · rw [h7, if_neg (ne1 h1)]
    exact rOl_11 k2 k2 (Nat.le_refl _) 4294967298 _ _ c2 p2 h2 h5 h4 (by omega) (by omega) h8
end
section
variable {T : Nat → Nat} {n lim : Nat} {R : Nat → Int32} {N : Nat → Nat} {o : OS} {c d p : Nat}
theorem wlA_10 {x1 : Int32} (h : RT o T n lim p) (hn : ¬ (146 ≤ tK T n lim p ∧ tK T n lim p ≤ 155)) : ∀ (f k : Nat), 18 ≤ k → k ≤ 28 → 28 - k < f → f_X10_readSaid__10_10 f x1 (nI k) o = f_X10_readSaid__10_30 x1 (nI 28) o := by
  intro f
  induction f with
  | zero => intro k _ _ h; omega
  | succ f ih =>
    intro k h18 hk hf
    rw [f_X10_readSaid__10_10]
    by_cases e : 28 ≤ k
    · rw [if_pos (show (27 : Int32) < nI k from nI_lt (a := 27) (by omega) (by omega)), show k = 28 by omega]
    · rw [if_neg (show ¬ (27 : Int32) < nI k from nI_nlt (b := k) (a := 27) (by omega) (by decide)), isWord_ (k := k) h (by omega), if_neg (show ¬ tK T n lim p = 128 + k by omega), if_pos rfl, nI_1]
      exact ih (k + 1) (by omega) (by omega) (by omega)
theorem wlB_10 {x1 : Int32} {j : Nat} (h : RT o T n lim p) (hj : tK T n lim p = 128 + j) (h27 : j ≤ 27) : ∀ (f k : Nat), 18 ≤ k → k ≤ j → j - k < f → f_X10_readSaid__10_10 f x1 (nI k) o = f_X10_readSaid__10_30 x1 (nI j) o := by
  intro f
  induction f with
  | zero => intro k _ _ h; omega
  | succ f ih =>
    intro k h18 hk hf
    rw [f_X10_readSaid__10_10, if_neg (show ¬ (27 : Int32) < nI k from nI_nlt (a := 27) (by omega) (by decide)), isWord_ (k := k) h (by omega)]
    by_cases e : k = j
    · rw [if_pos (show tK T n lim p = 128 + k by omega), if_neg one0, e]
    · rw [if_neg (show ¬ tK T n lim p = 128 + k by omega), if_pos rfl, nI_1]
      exact ih (k + 1) (by omega) (by omega) (by omega)
theorem hx_10 (h : RT o T n lim p) : f_X10_readSaid__10 o = if tK T n lim p = 40 then f_X10_readSaid__10_30 (1 : Int32) (nI 28) o else if 146 ≤ tK T n lim p ∧ tK T n lim p ≤ 155 then f_X10_readSaid__10_30 (0 : Int32) (nI (tK T n lim p - 128)) o else f_X10_readSaid__10_30 (0 : Int32) (nI 28) o := by
  have s40 : f_X10_isSign__1 (40 : Int32) o = if tK T n lim p = 40 then 1 else 0 := sgn_ (v := 40) h (by omega)
  unfold f_X10_readSaid__10
  rw [if22, s40]
  by_cases g1 : tK T n lim p = 40
  · rw [if_pos g1, if_pos g1]
    exact wlA_10 h (by omega) 4294967298 18 (by decide) (by decide) (by decide)
  · rw [if_neg g1, if_neg g1]
    by_cases g2 : 146 ≤ tK T n lim p ∧ tK T n lim p ≤ 155
    · rw [if_pos g2]
      exact wlB_10 (j := tK T n lim p - 128) h (by omega) (by omega) 4294967298 18 (by decide) (by omega) (by omega)
    · rw [if_neg g2]
      exact wlA_10 h g2 4294967298 18 (by decide) (by decide) (by decide)
theorem rn_10 (hQ : RQ T n lim R N o 2 c p) (hc : c ≤ 20) : RSd T n lim R N 2 (f_X10_readNot__14 o) (sSaid T n lim R N 6 c p) := by
  have q := rs_11 hQ hc
  unfold f_X10_readNot__14
  generalize f_X10_readSaid__11 o = r at q ⊢
  cases e : sSaid T n lim R N 6 c p with
  | inl b =>
    have z := q.1 b e
    rw [if_pos z.1]
    exact RSd.bad ⟨rfl, z.2⟩
  | inr w =>
    obtain ⟨c1, p1⟩ := w
    have z := q.2 c1 p1 e
    rw [if_neg (ne1 z.1)]
    exact RSd.ok rfl (sy_ z.2).tp
theorem rbk_10 (hQ : RQ T n lim R N o 2 c p) (hc : c ≤ 20) : RSd T n lim R N 2 (f_X10_readBracket__9 o) (match sCond T n lim (sSaid T n lim R N 6) c p with
    | .inl e => .inl e
    | .inr (c1, p1) => if tK T n lim p1 ≠ 41 then .inl (sBad T n lim 1 p1) else .inr (c1, tA T n lim p1)) := by
  have q := rO_11 hQ hc
  unfold f_X10_readBracket__9
  generalize f_X10_readOr__11 o = r at q ⊢
  cases e : sCond T n lim (sSaid T n lim R N 6) c p with
  | inl b =>
    have z := q.1 b e
    rw [if_pos z.1]
    exact RSd.bad ⟨rfl, z.2⟩
  | inr w =>
    obtain ⟨c1, p1⟩ := w
    have z := q.2 c1 p1 e
    have e41 : f_X10_isSign__1 (41 : Int32) r.1 = if tK T n lim p1 = 41 then 1 else 0 := sgn_ (v := 41) z.2.1 (by omega)
    rw [if_neg (ne1 z.1), e41]
    try dsimp only
    by_cases g : tK T n lim p1 = 41
    · rw [if_pos g, if_neg one0, if_neg (nn g)]
      exact RSd.ok rfl (go_Q (o' := r.1) z.2.1 z.2.2.1 (by omega) (by omega) (fun _ _ => rfl) rfl z.2.2.2.1 z.2.2.2.2.1 z.2.2.2.2.2)
    · rw [if_neg g, if_pos rfl, if_pos g]
      exact RSd.bad (bad_R (c := 1) z.2.1 (by decide))
theorem rs_10 (hQ : RQ T n lim R N o 1 c p) (hc : c ≤ 20) : RSd T n lim R N 1 (f_X10_readSaid__10 o) (sSaid T n lim R N 7 c p) := by
  have h := hQ.1
  rw [hx_10 h, show sSaid T n lim R N 7 c p = _ from sSaid_s (d := 6)]
  have b4 : RBad (f_X10_bad__1 (4 : Int32) o) (sBad T n lim 4 p) := bad_R (c := 4) h (by decide)
  have b1 : RBad (f_X10_bad__1 (1 : Int32) o) (sBad T n lim 1 p) := bad_R (c := 1) h (by decide)
  have c20 : o.1 46 = (20 : Int32) ↔ 20 ≤ c := by
    rw [hQ.2.2.1]
    have z := nI_eq (a := c) (b := 20) (by omega) (by decide)
    exact ⟨fun y => by have := z.mp y; omega, fun y => z.mpr (by omega)⟩
  have hv : (o.1 47 + 1) - (1 : Int32) = nI 1 := by rw [hQ.2.2.2.1, nI_1]; exact nIsub1
  have go1 : tK T n lim p ≠ 0 → tK T n lim p ≠ 1 → RQ T n lim R N (f_X10_go__2 (sI (sI o 46 (o.1 46 + 1)) 47 (o.1 47 + 1))) 2 (c + 1) (tA T n lim p) := fun z0 z1 => go_Q (o' := sI (sI o 46 (o.1 46 + 1)) 47 (o.1 47 + 1)) h hQ.2.1 z0 z1 (fun k hk => by rw [sI_ne (by omega), sI_ne (by omega)]) rfl (by rw [sI_ne (by decide), sI_get, hQ.2.2.1, nI_1]) (by rw [sI_get, hQ.2.2.2.1, nI_1]) (by rw [sI_ne (by decide), sI_ne (by decide)]; exact hQ.2.2.2.2)
  by_cases g1 : tK T n lim p = 40
  · rw [if_pos g1, if_neg (show ¬ ¬ (tK T n lim p = 40 ∨ (146 ≤ tK T n lim p ∧ tK T n lim p ≤ 155)) from fun q => q (Or.inl g1))]
    unfold f_X10_readSaid__10_30
    rw [if_neg one0]
    by_cases k : 20 ≤ c
    · rw [if_pos (c20.mpr k), if_pos k]
      exact RSd.bad b4
    · rw [if_neg (fun q => k (c20.mp q)), if_neg k, if_neg (show ¬ tK T n lim p = 146 by omega), if_pos g1]
      have q := rbk_10 (go1 (by omega) (by omega)) (by omega)
      generalize f_X10_readBracket__9 (f_X10_go__2 (sI (sI o 46 (o.1 46 + 1)) 47 (o.1 47 + 1))) = r at q ⊢
      rw [if22]
      exact RSd.dn1 q
  · rw [if_neg g1]
    by_cases g2 : 146 ≤ tK T n lim p ∧ tK T n lim p ≤ 155
    · have go2 := go1 (by omega) (by omega)
      rw [if_pos g2, if_neg (show ¬ ¬ (tK T n lim p = 40 ∨ (146 ≤ tK T n lim p ∧ tK T n lim p ≤ 155)) from fun q => q (Or.inr g2))]
      unfold f_X10_readSaid__10_30
      rw [if_pos rfl, if_pos (show nI (tK T n lim p - 128) ≤ (27 : Int32) from nI_le (b := 27) (by omega) (by decide))]
      by_cases k : 20 ≤ c
      · rw [if_pos (c20.mpr k), if_pos k]
        exact RSd.bad b4
      · rw [if_neg (fun q => k (c20.mp q)), if_neg k]
        have e18 : nI (tK T n lim p - 128) = (18 : Int32) ↔ tK T n lim p - 128 = 18 := nI_eq (b := 18) (by omega) (by decide)
        by_cases a1 : tK T n lim p = 146
        · rw [if_pos (e18.mpr (by omega)), if_pos a1]
          have q := rn_10 go2 (by omega)
          generalize f_X10_readNot__14 (f_X10_go__2 (sI (sI o 46 (o.1 46 + 1)) 47 (o.1 47 + 1))) = r at q ⊢
          rw [if22]
          exact RSd.dn1 q
        · rw [if_neg (fun z => by have := e18.mp z; omega), if_neg a1, if_neg g1]
          by_cases a2 : 150 ≤ tK T n lim p
          · rw [if_pos (show (22 : Int32) ≤ nI (tK T n lim p - 128) from nI_le (a := 22) (by omega) (by omega))]
            by_cases a3 : 152 ≤ tK T n lim p
            · rw [if_pos (show (24 : Int32) ≤ nI (tK T n lim p - 128) from nI_le (a := 24) (by omega) (by omega)), if22]
              exact RSd.dn2 (rcm_ go2 a3) hv
            · rw [if_neg (show ¬ (24 : Int32) ≤ nI (tK T n lim p - 128) from nI_ge (b := 24) (by omega) (by decide)), if22]
              exact RSd.dn2 (rof_ go2 (by omega)) hv
          · rw [if_neg (show ¬ (22 : Int32) ≤ nI (tK T n lim p - 128) from nI_ge (b := 22) (by omega) (by decide))]
            unfold sPlain
            rw [if_neg (show ¬ tK T n lim p = 150 by omega), if_neg (show ¬ tK T n lim p = 151 by omega), if_neg (show ¬ 152 ≤ tK T n lim p by omega)]
            exact RSd.ok rfl ((sy_ go2).tp.dn hv)
    · rw [if_neg g2, if_pos (show ¬ (tK T n lim p = 40 ∨ (146 ≤ tK T n lim p ∧ tK T n lim p ≤ 155)) by omega)]
      unfold f_X10_readSaid__10_30
      rw [if_pos rfl, if_neg (show ¬ nI 28 ≤ (27 : Int32) from nI_ge (a := 27) (by decide) (by decide))]
      exact RSd.bad b1
/-- what 'and' joins: bad, or on to where no 'and' stands -/
theorem ra_10 : ∀ (k f : Nat) (x1 : Int32) (o : OS) (c p : Nat), RQ T n lim R N o 1 c p → 21 ≤ c + k → c ≤ 20 → k < f → (∃ e, sMore T n lim (sSaid T n lim R N 7) k c p = .inl e ∧ RBad (f_X10_readAnd__10_14 f x1 o) e) ∨ (∃ c1 p1 k1, (f_X10_readAnd__10_14 f x1 o).2 = 1 ∧ RQ T n lim R N (f_X10_readAnd__10_14 f x1 o).1 1 c1 p1 ∧ c ≤ c1 ∧ c1 ≤ 20 ∧ 21 ≤ c1 + k1 ∧ k1 ≤ k ∧ sMore T n lim (sSaid T n lim R N 7) k c p = sMore T n lim (sSaid T n lim R N 7) k1 c1 p1 ∧ tK T n lim p1 ≠ 145) := by
  intro k
  induction k with
  | zero => intro f x1 o c p _ h1 h2; omega
  | succ k ih =>
    intro f x1 o c p hQ hk hc hf
    obtain ⟨g, rfl⟩ : ∃ g, f = g + 1 := ⟨f - 1, by omega⟩
    rw [f_X10_readAnd__10_14, show f_X10_isWord__4 (17 : Int32) o = if tK T n lim p = 145 then 1 else 0 from isWord_ (k := 17) hQ.1 (by decide)]
    by_cases e : tK T n lim p = 145
    · rw [if_pos e, if_neg one0]
      have go2 : RQ T n lim R N (f_X10_go__2 o) 1 c (tA T n lim p) := go_Q (o' := o) hQ.1 hQ.2.1 (by omega) (by omega) (fun _ _ => rfl) rfl hQ.2.2.1 hQ.2.2.2.1 hQ.2.2.2.2
      have q := rs_10 go2 hc
      generalize f_X10_readSaid__10 (f_X10_go__2 o) = r at q ⊢
      have es : sMore T n lim (sSaid T n lim R N 7) (k + 1) c p = sAft T n lim (sSaid T n lim R N 7) k (sSaid T n lim R N 7 c (tA T n lim p)) := sMore_s (Or.inr e)
      rw [es]
      cases e1 : sSaid T n lim R N 7 c (tA T n lim p) with
      | inl b =>
        have z := q.1 b e1
        rw [if_pos z.1]
        exact Or.inl ⟨b, rfl, rfl, z.2⟩
      | inr w =>
        obtain ⟨c1, p1⟩ := w
        have z := q.2 c1 p1 e1
        have y := sSaid_c _ _ _ _ _ e1
        rw [if_neg (ne1 z.1)]
        rcases ih g (f_X10_saysOne__3 (2 : Int32) x1 (r.1.1 48) (0 : Int32) r.1).2 (f_X10_saysOne__3 (2 : Int32) x1 (r.1.1 48) (0 : Int32) r.1).1 c1 p1 (sy_ z.2) (by omega) y.2 (by omega) with ⟨b, h1, h2⟩ | ⟨c2, p2, k2, h1, h2, h3, h4, h5, h6, h7, h8⟩
        · exact Or.inl ⟨b, h1, h2⟩
        · exact Or.inr ⟨c2, p2, k2, h1, h2, by omega, h4, h5, by omega, h7, h8⟩
    · rw [if_neg e, if_pos rfl]
      exact Or.inr ⟨c, p, k + 1, rfl, hQ.tp, Nat.le_refl _, hc, hk, Nat.le_refl _, rfl, e⟩
/-- an and-list, in front of what may follow -/
theorem rA_10 (hQ : RQ T n lim R N o 1 c p) (hc : c ≤ 20) (k0 : Nat) (hk : 20 ≤ c + k0) (hf : k0 < 4294967298) : (∃ e, sAft T n lim (sSaid T n lim R N 7) k0 (sSaid T n lim R N 7 c p) = .inl e ∧ RBad (f_X10_readAnd__10 o) e) ∨ (∃ c1 p1 k1, (f_X10_readAnd__10 o).2 = 1 ∧ RQ T n lim R N (f_X10_readAnd__10 o).1 1 c1 p1 ∧ c < c1 ∧ c1 ≤ 20 ∧ 21 ≤ c1 + k1 ∧ k1 ≤ k0 ∧ sAft T n lim (sSaid T n lim R N 7) k0 (sSaid T n lim R N 7 c p) = sMore T n lim (sSaid T n lim R N 7) k1 c1 p1 ∧ tK T n lim p1 ≠ 145) := by
  have q := rs_10 hQ hc
  unfold f_X10_readAnd__10
  generalize f_X10_readSaid__10 o = r at q ⊢
  cases e1 : sSaid T n lim R N 7 c p with
  | inl b =>
    have z := q.1 b e1
    rw [if_pos z.1]
    exact Or.inl ⟨b, rfl, rfl, z.2⟩
  | inr w =>
    obtain ⟨c1, p1⟩ := w
    have z := q.2 c1 p1 e1
    have y := sSaid_c _ _ _ _ _ e1
    rw [if_neg (ne1 z.1)]
    rcases ra_10 k0 4294967298 (r.1.1 48) r.1 c1 p1 z.2 (by omega) y.2 hf with ⟨b, h1, h2⟩ | ⟨c2, p2, k2, h1, h2, h3, h4, h5, h6, h7, h8⟩
    · exact Or.inl ⟨b, h1, h2⟩
    · exact Or.inr ⟨c2, p2, k2, h1, h2, by omega, h4, h5, h6, h7, h8⟩
theorem rOl_10 : ∀ (B k : Nat), k ≤ B → ∀ (f : Nat) (x1 : Int32) (o : OS) (c p : Nat), RQ T n lim R N o 1 c p → 21 ≤ c + k → c ≤ 20 → k < f → k < 4294967298 → tK T n lim p ≠ 145 → RSd T n lim R N 1 (f_X10_readOr__10_14 f x1 o) (sMore T n lim (sSaid T n lim R N 7) k c p) := by
  intro B
  induction B with
  | zero => intro k hB f x1 o c p _ h1 h2; omega
  | succ B ih =>
    intro k hB f x1 o c p hQ hk hc hf hf2 hn
    obtain ⟨k0, rfl⟩ : ∃ g, k = g + 1 := ⟨k - 1, by omega⟩
    obtain ⟨g, rfl⟩ : ∃ g, f = g + 1 := ⟨f - 1, by omega⟩
    rw [f_X10_readOr__10_14, show f_X10_isWord__4 (16 : Int32) o = if tK T n lim p = 144 then 1 else 0 from isWord_ (k := 16) hQ.1 (by decide)]
    by_cases e : tK T n lim p = 144
    · rw [if_pos e, if_neg one0]
      have go2 : RQ T n lim R N (f_X10_go__2 o) 1 c (tA T n lim p) := go_Q (o' := o) hQ.1 hQ.2.1 (by omega) (by omega) (fun _ _ => rfl) rfl hQ.2.2.1 hQ.2.2.2.1 hQ.2.2.2.2
      have q := rA_10 go2 hc k0 (by omega) (by omega)
      generalize f_X10_readAnd__10 (f_X10_go__2 o) = r at q ⊢
      have es : sMore T n lim (sSaid T n lim R N 7) (k0 + 1) c p = sAft T n lim (sSaid T n lim R N 7) k0 (sSaid T n lim R N 7 c (tA T n lim p)) := sMore_s (Or.inl e)
      rw [es]
      rcases q with ⟨b, h1, h2⟩ | ⟨c2, p2, k2, h1, h2, h3, h4, h5, h6, h7, h8⟩
      · rw [h1, if_pos h2.1]
        exact RSd.bad ⟨rfl, h2.2⟩
      · rw [h7, if_neg (ne1 h1)]
        exact ih k2 (by omega) g _ _ c2 p2 (sy_ h2) h5 h4 (by omega) (by omega) h8
    · rw [if_neg e, if_pos rfl, sMore_n (show ¬ (tK T n lim p = 144 ∨ tK T n lim p = 145) from fun z => z.elim e hn)]
      exact RSd.ok rfl hQ.tp
theorem rO_10 (hQ : RQ T n lim R N o 1 c p) (hc : c ≤ 20) : RSd T n lim R N 1 (f_X10_readOr__10 o) (sCond T n lim (sSaid T n lim R N 7) c p) := by
  have q := rA_10 hQ hc 21 (by omega) (by decide)
  rw [sCond_s]
  unfold f_X10_readOr__10
  generalize f_X10_readAnd__10 o = r at q ⊢
  rcases q with ⟨b, h1, h2⟩ | ⟨c2, p2, k2, h1, h2, h3, h4, h5, h6, h7, h8⟩
  · rw [h1, if_pos h2.1]
    exact RSd.bad ⟨rfl, h2.2⟩
  · rw [h7, if_neg (ne1 h1)]
    exact rOl_10 k2 k2 (Nat.le_refl _) 4294967298 _ _ c2 p2 h2 h5 h4 (by omega) (by omega) h8
end
section
variable {T : Nat → Nat} {n lim : Nat} {R : Nat → Int32} {N : Nat → Nat} {o : OS} {c d p : Nat}
theorem wlA_9 {x1 : Int32} (h : RT o T n lim p) (hn : ¬ (146 ≤ tK T n lim p ∧ tK T n lim p ≤ 155)) : ∀ (f k : Nat), 18 ≤ k → k ≤ 28 → 28 - k < f → f_X10_readSaid__9_10 f x1 (nI k) o = f_X10_readSaid__9_30 x1 (nI 28) o := by
  intro f
  induction f with
  | zero => intro k _ _ h; omega
  | succ f ih =>
    intro k h18 hk hf
    rw [f_X10_readSaid__9_10]
    by_cases e : 28 ≤ k
    · rw [if_pos (show (27 : Int32) < nI k from nI_lt (a := 27) (by omega) (by omega)), show k = 28 by omega]
    · rw [if_neg (show ¬ (27 : Int32) < nI k from nI_nlt (b := k) (a := 27) (by omega) (by decide)), isWord_ (k := k) h (by omega), if_neg (show ¬ tK T n lim p = 128 + k by omega), if_pos rfl, nI_1]
      exact ih (k + 1) (by omega) (by omega) (by omega)
theorem wlB_9 {x1 : Int32} {j : Nat} (h : RT o T n lim p) (hj : tK T n lim p = 128 + j) (h27 : j ≤ 27) : ∀ (f k : Nat), 18 ≤ k → k ≤ j → j - k < f → f_X10_readSaid__9_10 f x1 (nI k) o = f_X10_readSaid__9_30 x1 (nI j) o := by
  intro f
  induction f with
  | zero => intro k _ _ h; omega
  | succ f ih =>
    intro k h18 hk hf
    rw [f_X10_readSaid__9_10, if_neg (show ¬ (27 : Int32) < nI k from nI_nlt (a := 27) (by omega) (by decide)), isWord_ (k := k) h (by omega)]
    by_cases e : k = j
    · rw [if_pos (show tK T n lim p = 128 + k by omega), if_neg one0, e]
    · rw [if_neg (show ¬ tK T n lim p = 128 + k by omega), if_pos rfl, nI_1]
      exact ih (k + 1) (by omega) (by omega) (by omega)
theorem hx_9 (h : RT o T n lim p) : f_X10_readSaid__9 o = if tK T n lim p = 40 then f_X10_readSaid__9_30 (1 : Int32) (nI 28) o else if 146 ≤ tK T n lim p ∧ tK T n lim p ≤ 155 then f_X10_readSaid__9_30 (0 : Int32) (nI (tK T n lim p - 128)) o else f_X10_readSaid__9_30 (0 : Int32) (nI 28) o := by
  have s40 : f_X10_isSign__1 (40 : Int32) o = if tK T n lim p = 40 then 1 else 0 := sgn_ (v := 40) h (by omega)
  unfold f_X10_readSaid__9
  rw [if22, s40]
  by_cases g1 : tK T n lim p = 40
  · rw [if_pos g1, if_pos g1]
    exact wlA_9 h (by omega) 4294967298 18 (by decide) (by decide) (by decide)
  · rw [if_neg g1, if_neg g1]
    by_cases g2 : 146 ≤ tK T n lim p ∧ tK T n lim p ≤ 155
    · rw [if_pos g2]
      exact wlB_9 (j := tK T n lim p - 128) h (by omega) (by omega) 4294967298 18 (by decide) (by omega) (by omega)
    · rw [if_neg g2]
      exact wlA_9 h g2 4294967298 18 (by decide) (by decide) (by decide)
theorem rn_9 (hQ : RQ T n lim R N o 1 c p) (hc : c ≤ 20) : RSd T n lim R N 1 (f_X10_readNot__15 o) (sSaid T n lim R N 7 c p) := by
  have q := rs_10 hQ hc
  unfold f_X10_readNot__15
  generalize f_X10_readSaid__10 o = r at q ⊢
  cases e : sSaid T n lim R N 7 c p with
  | inl b =>
    have z := q.1 b e
    rw [if_pos z.1]
    exact RSd.bad ⟨rfl, z.2⟩
  | inr w =>
    obtain ⟨c1, p1⟩ := w
    have z := q.2 c1 p1 e
    rw [if_neg (ne1 z.1)]
    exact RSd.ok rfl (sy_ z.2).tp
theorem rbk_9 (hQ : RQ T n lim R N o 1 c p) (hc : c ≤ 20) : RSd T n lim R N 1 (f_X10_readBracket__8 o) (match sCond T n lim (sSaid T n lim R N 7) c p with
    | .inl e => .inl e
    | .inr (c1, p1) => if tK T n lim p1 ≠ 41 then .inl (sBad T n lim 1 p1) else .inr (c1, tA T n lim p1)) := by
  have q := rO_10 hQ hc
  unfold f_X10_readBracket__8
  generalize f_X10_readOr__10 o = r at q ⊢
  cases e : sCond T n lim (sSaid T n lim R N 7) c p with
  | inl b =>
    have z := q.1 b e
    rw [if_pos z.1]
    exact RSd.bad ⟨rfl, z.2⟩
  | inr w =>
    obtain ⟨c1, p1⟩ := w
    have z := q.2 c1 p1 e
    have e41 : f_X10_isSign__1 (41 : Int32) r.1 = if tK T n lim p1 = 41 then 1 else 0 := sgn_ (v := 41) z.2.1 (by omega)
    rw [if_neg (ne1 z.1), e41]
    try dsimp only
    by_cases g : tK T n lim p1 = 41
    · rw [if_pos g, if_neg one0, if_neg (nn g)]
      exact RSd.ok rfl (go_Q (o' := r.1) z.2.1 z.2.2.1 (by omega) (by omega) (fun _ _ => rfl) rfl z.2.2.2.1 z.2.2.2.2.1 z.2.2.2.2.2)
    · rw [if_neg g, if_pos rfl, if_pos g]
      exact RSd.bad (bad_R (c := 1) z.2.1 (by decide))
theorem rs_9 (hQ : RQ T n lim R N o 0 c p) (hc : c ≤ 20) : RSd T n lim R N 0 (f_X10_readSaid__9 o) (sSaid T n lim R N 8 c p) := by
  have h := hQ.1
  rw [hx_9 h, show sSaid T n lim R N 8 c p = _ from sSaid_s (d := 7)]
  have b4 : RBad (f_X10_bad__1 (4 : Int32) o) (sBad T n lim 4 p) := bad_R (c := 4) h (by decide)
  have b1 : RBad (f_X10_bad__1 (1 : Int32) o) (sBad T n lim 1 p) := bad_R (c := 1) h (by decide)
  have c20 : o.1 46 = (20 : Int32) ↔ 20 ≤ c := by
    rw [hQ.2.2.1]
    have z := nI_eq (a := c) (b := 20) (by omega) (by decide)
    exact ⟨fun y => by have := z.mp y; omega, fun y => z.mpr (by omega)⟩
  have hv : (o.1 47 + 1) - (1 : Int32) = nI 0 := by rw [hQ.2.2.2.1, nI_1]; exact nIsub1
  have go1 : tK T n lim p ≠ 0 → tK T n lim p ≠ 1 → RQ T n lim R N (f_X10_go__2 (sI (sI o 46 (o.1 46 + 1)) 47 (o.1 47 + 1))) 1 (c + 1) (tA T n lim p) := fun z0 z1 => go_Q (o' := sI (sI o 46 (o.1 46 + 1)) 47 (o.1 47 + 1)) h hQ.2.1 z0 z1 (fun k hk => by rw [sI_ne (by omega), sI_ne (by omega)]) rfl (by rw [sI_ne (by decide), sI_get, hQ.2.2.1, nI_1]) (by rw [sI_get, hQ.2.2.2.1, nI_1]) (by rw [sI_ne (by decide), sI_ne (by decide)]; exact hQ.2.2.2.2)
  by_cases g1 : tK T n lim p = 40
  · rw [if_pos g1, if_neg (show ¬ ¬ (tK T n lim p = 40 ∨ (146 ≤ tK T n lim p ∧ tK T n lim p ≤ 155)) from fun q => q (Or.inl g1))]
    unfold f_X10_readSaid__9_30
    rw [if_neg one0]
    by_cases k : 20 ≤ c
    · rw [if_pos (c20.mpr k), if_pos k]
      exact RSd.bad b4
    · rw [if_neg (fun q => k (c20.mp q)), if_neg k, if_neg (show ¬ tK T n lim p = 146 by omega), if_pos g1]
      have q := rbk_9 (go1 (by omega) (by omega)) (by omega)
      generalize f_X10_readBracket__8 (f_X10_go__2 (sI (sI o 46 (o.1 46 + 1)) 47 (o.1 47 + 1))) = r at q ⊢
      rw [if22]
      exact RSd.dn1 q
  · rw [if_neg g1]
    by_cases g2 : 146 ≤ tK T n lim p ∧ tK T n lim p ≤ 155
    · have go2 := go1 (by omega) (by omega)
      rw [if_pos g2, if_neg (show ¬ ¬ (tK T n lim p = 40 ∨ (146 ≤ tK T n lim p ∧ tK T n lim p ≤ 155)) from fun q => q (Or.inr g2))]
      unfold f_X10_readSaid__9_30
      rw [if_pos rfl, if_pos (show nI (tK T n lim p - 128) ≤ (27 : Int32) from nI_le (b := 27) (by omega) (by decide))]
      by_cases k : 20 ≤ c
      · rw [if_pos (c20.mpr k), if_pos k]
        exact RSd.bad b4
      · rw [if_neg (fun q => k (c20.mp q)), if_neg k]
        have e18 : nI (tK T n lim p - 128) = (18 : Int32) ↔ tK T n lim p - 128 = 18 := nI_eq (b := 18) (by omega) (by decide)
        by_cases a1 : tK T n lim p = 146
        · rw [if_pos (e18.mpr (by omega)), if_pos a1]
          have q := rn_9 go2 (by omega)
          generalize f_X10_readNot__15 (f_X10_go__2 (sI (sI o 46 (o.1 46 + 1)) 47 (o.1 47 + 1))) = r at q ⊢
          rw [if22]
          exact RSd.dn1 q
        · rw [if_neg (fun z => by have := e18.mp z; omega), if_neg a1, if_neg g1]
          by_cases a2 : 150 ≤ tK T n lim p
          · rw [if_pos (show (22 : Int32) ≤ nI (tK T n lim p - 128) from nI_le (a := 22) (by omega) (by omega))]
            by_cases a3 : 152 ≤ tK T n lim p
            · rw [if_pos (show (24 : Int32) ≤ nI (tK T n lim p - 128) from nI_le (a := 24) (by omega) (by omega)), if22]
              exact RSd.dn2 (rcm_ go2 a3) hv
            · rw [if_neg (show ¬ (24 : Int32) ≤ nI (tK T n lim p - 128) from nI_ge (b := 24) (by omega) (by decide)), if22]
              exact RSd.dn2 (rof_ go2 (by omega)) hv
          · rw [if_neg (show ¬ (22 : Int32) ≤ nI (tK T n lim p - 128) from nI_ge (b := 22) (by omega) (by decide))]
            unfold sPlain
            rw [if_neg (show ¬ tK T n lim p = 150 by omega), if_neg (show ¬ tK T n lim p = 151 by omega), if_neg (show ¬ 152 ≤ tK T n lim p by omega)]
            exact RSd.ok rfl ((sy_ go2).tp.dn hv)
    · rw [if_neg g2, if_pos (show ¬ (tK T n lim p = 40 ∨ (146 ≤ tK T n lim p ∧ tK T n lim p ≤ 155)) by omega)]
      unfold f_X10_readSaid__9_30
      rw [if_pos rfl, if_neg (show ¬ nI 28 ≤ (27 : Int32) from nI_ge (a := 27) (by decide) (by decide))]
      exact RSd.bad b1
/-- what 'and' joins: bad, or on to where no 'and' stands -/
theorem ra_9 : ∀ (k f : Nat) (x1 : Int32) (o : OS) (c p : Nat), RQ T n lim R N o 0 c p → 21 ≤ c + k → c ≤ 20 → k < f → (∃ e, sMore T n lim (sSaid T n lim R N 8) k c p = .inl e ∧ RBad (f_X10_readAnd__9_14 f x1 o) e) ∨ (∃ c1 p1 k1, (f_X10_readAnd__9_14 f x1 o).2 = 1 ∧ RQ T n lim R N (f_X10_readAnd__9_14 f x1 o).1 0 c1 p1 ∧ c ≤ c1 ∧ c1 ≤ 20 ∧ 21 ≤ c1 + k1 ∧ k1 ≤ k ∧ sMore T n lim (sSaid T n lim R N 8) k c p = sMore T n lim (sSaid T n lim R N 8) k1 c1 p1 ∧ tK T n lim p1 ≠ 145) := by
  intro k
  induction k with
  | zero => intro f x1 o c p _ h1 h2; omega
  | succ k ih =>
    intro f x1 o c p hQ hk hc hf
    obtain ⟨g, rfl⟩ : ∃ g, f = g + 1 := ⟨f - 1, by omega⟩
    rw [f_X10_readAnd__9_14, show f_X10_isWord__4 (17 : Int32) o = if tK T n lim p = 145 then 1 else 0 from isWord_ (k := 17) hQ.1 (by decide)]
    by_cases e : tK T n lim p = 145
    · rw [if_pos e, if_neg one0]
      have go2 : RQ T n lim R N (f_X10_go__2 o) 0 c (tA T n lim p) := go_Q (o' := o) hQ.1 hQ.2.1 (by omega) (by omega) (fun _ _ => rfl) rfl hQ.2.2.1 hQ.2.2.2.1 hQ.2.2.2.2
      have q := rs_9 go2 hc
      generalize f_X10_readSaid__9 (f_X10_go__2 o) = r at q ⊢
      have es : sMore T n lim (sSaid T n lim R N 8) (k + 1) c p = sAft T n lim (sSaid T n lim R N 8) k (sSaid T n lim R N 8 c (tA T n lim p)) := sMore_s (Or.inr e)
      rw [es]
      cases e1 : sSaid T n lim R N 8 c (tA T n lim p) with
      | inl b =>
        have z := q.1 b e1
        rw [if_pos z.1]
        exact Or.inl ⟨b, rfl, rfl, z.2⟩
      | inr w =>
        obtain ⟨c1, p1⟩ := w
        have z := q.2 c1 p1 e1
        have y := sSaid_c _ _ _ _ _ e1
        rw [if_neg (ne1 z.1)]
        rcases ih g (f_X10_saysOne__3 (2 : Int32) x1 (r.1.1 48) (0 : Int32) r.1).2 (f_X10_saysOne__3 (2 : Int32) x1 (r.1.1 48) (0 : Int32) r.1).1 c1 p1 (sy_ z.2) (by omega) y.2 (by omega) with ⟨b, h1, h2⟩ | ⟨c2, p2, k2, h1, h2, h3, h4, h5, h6, h7, h8⟩
        · exact Or.inl ⟨b, h1, h2⟩
        · exact Or.inr ⟨c2, p2, k2, h1, h2, by omega, h4, h5, by omega, h7, h8⟩
    · rw [if_neg e, if_pos rfl]
      exact Or.inr ⟨c, p, k + 1, rfl, hQ.tp, Nat.le_refl _, hc, hk, Nat.le_refl _, rfl, e⟩
/-- an and-list, in front of what may follow -/
theorem rA_9 (hQ : RQ T n lim R N o 0 c p) (hc : c ≤ 20) (k0 : Nat) (hk : 20 ≤ c + k0) (hf : k0 < 4294967298) : (∃ e, sAft T n lim (sSaid T n lim R N 8) k0 (sSaid T n lim R N 8 c p) = .inl e ∧ RBad (f_X10_readAnd__9 o) e) ∨ (∃ c1 p1 k1, (f_X10_readAnd__9 o).2 = 1 ∧ RQ T n lim R N (f_X10_readAnd__9 o).1 0 c1 p1 ∧ c < c1 ∧ c1 ≤ 20 ∧ 21 ≤ c1 + k1 ∧ k1 ≤ k0 ∧ sAft T n lim (sSaid T n lim R N 8) k0 (sSaid T n lim R N 8 c p) = sMore T n lim (sSaid T n lim R N 8) k1 c1 p1 ∧ tK T n lim p1 ≠ 145) := by
  have q := rs_9 hQ hc
  unfold f_X10_readAnd__9
  generalize f_X10_readSaid__9 o = r at q ⊢
  cases e1 : sSaid T n lim R N 8 c p with
  | inl b =>
    have z := q.1 b e1
    rw [if_pos z.1]
    exact Or.inl ⟨b, rfl, rfl, z.2⟩
  | inr w =>
    obtain ⟨c1, p1⟩ := w
    have z := q.2 c1 p1 e1
    have y := sSaid_c _ _ _ _ _ e1
    rw [if_neg (ne1 z.1)]
    rcases ra_9 k0 4294967298 (r.1.1 48) r.1 c1 p1 z.2 (by omega) y.2 hf with ⟨b, h1, h2⟩ | ⟨c2, p2, k2, h1, h2, h3, h4, h5, h6, h7, h8⟩
    · exact Or.inl ⟨b, h1, h2⟩
    · exact Or.inr ⟨c2, p2, k2, h1, h2, by omega, h4, h5, h6, h7, h8⟩
theorem rOl_9 : ∀ (B k : Nat), k ≤ B → ∀ (f : Nat) (x1 : Int32) (o : OS) (c p : Nat), RQ T n lim R N o 0 c p → 21 ≤ c + k → c ≤ 20 → k < f → k < 4294967298 → tK T n lim p ≠ 145 → RSd T n lim R N 0 (f_X10_readOr__9_14 f x1 o) (sMore T n lim (sSaid T n lim R N 8) k c p) := by
  intro B
  induction B with
  | zero => intro k hB f x1 o c p _ h1 h2; omega
  | succ B ih =>
    intro k hB f x1 o c p hQ hk hc hf hf2 hn
    obtain ⟨k0, rfl⟩ : ∃ g, k = g + 1 := ⟨k - 1, by omega⟩
    obtain ⟨g, rfl⟩ : ∃ g, f = g + 1 := ⟨f - 1, by omega⟩
    rw [f_X10_readOr__9_14, show f_X10_isWord__4 (16 : Int32) o = if tK T n lim p = 144 then 1 else 0 from isWord_ (k := 16) hQ.1 (by decide)]
    by_cases e : tK T n lim p = 144
    · rw [if_pos e, if_neg one0]
      have go2 : RQ T n lim R N (f_X10_go__2 o) 0 c (tA T n lim p) := go_Q (o' := o) hQ.1 hQ.2.1 (by omega) (by omega) (fun _ _ => rfl) rfl hQ.2.2.1 hQ.2.2.2.1 hQ.2.2.2.2
      have q := rA_9 go2 hc k0 (by omega) (by omega)
      generalize f_X10_readAnd__9 (f_X10_go__2 o) = r at q ⊢
      have es : sMore T n lim (sSaid T n lim R N 8) (k0 + 1) c p = sAft T n lim (sSaid T n lim R N 8) k0 (sSaid T n lim R N 8 c (tA T n lim p)) := sMore_s (Or.inl e)
      rw [es]
      rcases q with ⟨b, h1, h2⟩ | ⟨c2, p2, k2, h1, h2, h3, h4, h5, h6, h7, h8⟩
      · rw [h1, if_pos h2.1]
        exact RSd.bad ⟨rfl, h2.2⟩
      · rw [h7, if_neg (ne1 h1)]
        exact ih k2 (by omega) g _ _ c2 p2 (sy_ h2) h5 h4 (by omega) (by omega) h8
    · rw [if_neg e, if_pos rfl, sMore_n (show ¬ (tK T n lim p = 144 ∨ tK T n lim p = 145) from fun z => z.elim e hn)]
      exact RSd.ok rfl hQ.tp
theorem rO_9 (hQ : RQ T n lim R N o 0 c p) (hc : c ≤ 20) : RSd T n lim R N 0 (f_X10_readOr__9 o) (sCond T n lim (sSaid T n lim R N 8) c p) := by
  have q := rA_9 hQ hc 21 (by omega) (by decide)
  rw [sCond_s]
  unfold f_X10_readOr__9
  generalize f_X10_readAnd__9 o = r at q ⊢
  rcases q with ⟨b, h1, h2⟩ | ⟨c2, p2, k2, h1, h2, h3, h4, h5, h6, h7, h8⟩
  · rw [h1, if_pos h2.1]
    exact RSd.bad ⟨rfl, h2.2⟩
  · rw [h7, if_neg (ne1 h1)]
    exact rOl_9 k2 k2 (Nat.le_refl _) 4294967298 _ _ c2 p2 h2 h5 h4 (by omega) (by omega) h8
end
/-! the reference's sentence -/
def sSaysA : SR → Int32
  | .inl e => -1 - nI e.2
  | .inr w => nI w.1
theorem begin_g {T : Nat → Nat} {n lim : Nat} {o : OS} (h : RXT o T n) (hl : lim ≤ 940) : RT (f_X10_begin__4 (nI lim) o) T n lim 0 ∧ (∀ k, k ≠ 0 → k ≠ 2 → k ≠ 3 → k ≠ 4 → k ≠ 5 → k ≠ 6 → k ≠ 7 → k ≠ 8 → k ≠ 9 → k ≠ 10 → (f_X10_begin__4 (nI lim) o).1 k = o.1 k) ∧ (f_X10_begin__4 (nI lim) o).2.2 = o.2.2 ∧ (f_X10_begin__4 (nI lim) o).1 10 = 0 := by
  unfold f_X10_begin__4 f_X10_take__1
  have q := go_ (o := sI (sI (sI (sI (sI (sI o 0 (0 : Int32)) 2 (0 : Int32)) 3 ((sI o 0 (0 : Int32)).1 2)) 4 (nI lim)) 10 (0 : Int32)) 5 (0 : Int32)) (T := T) (n := n) (lim := lim) (p := 0) ⟨h.1, hl, ?_, ?_, h.2.2.1, h.2.2.2⟩ sI_get (Nat.zero_le _)
  · have w : RT (f_X10_go__2 (sI (sI (sI (sI (sI (sI o 0 (0 : Int32)) 2 (0 : Int32)) 3 ((sI o 0 (0 : Int32)).1 2)) 4 (nI lim)) 10 (0 : Int32)) 5 (0 : Int32))) T n lim 0 ∧ (∀ k, k ≠ 0 → k ≠ 2 → k ≠ 3 → k ≠ 4 → k ≠ 5 → k ≠ 6 → k ≠ 7 → k ≠ 8 → k ≠ 9 → k ≠ 10 → (f_X10_go__2 (sI (sI (sI (sI (sI (sI o 0 (0 : Int32)) 2 (0 : Int32)) 3 ((sI o 0 (0 : Int32)).1 2)) 4 (nI lim)) 10 (0 : Int32)) 5 (0 : Int32))).1 k = o.1 k) ∧ (f_X10_go__2 (sI (sI (sI (sI (sI (sI o 0 (0 : Int32)) 2 (0 : Int32)) 3 ((sI o 0 (0 : Int32)).1 2)) 4 (nI lim)) 10 (0 : Int32)) 5 (0 : Int32))).2.2 = o.2.2 ∧ (f_X10_go__2 (sI (sI (sI (sI (sI (sI o 0 (0 : Int32)) 2 (0 : Int32)) 3 ((sI o 0 (0 : Int32)).1 2)) 4 (nI lim)) 10 (0 : Int32)) 5 (0 : Int32))).1 10 = 0 :=
      ⟨q.1, fun k a b c d e f g h i j => by rw [q.2.1 k e f g h i, sI_ne e, sI_ne j, sI_ne d, sI_ne c, sI_ne b, sI_ne a], q.2.2.2, by rw [q.2.1 10 (by decide) (by decide) (by decide) (by decide) (by decide), sI_ne (by decide), sI_get]⟩
    by_cases e : (sI o 0 (0 : Int32)).1 2 = 0
    · rw [if_pos e]; exact w
    · rw [if_neg e]; exact w
  · rw [sI_ne (by decide), sI_ne (by decide), sI_ne (by decide), sI_get, sI_ne (by decide)]
    exact h.2.1
  · rw [sI_ne (by decide), sI_ne (by decide), sI_get]
theorem sen79_ : ∀ (f k : Nat) (o : OS), k ≤ 240 → 240 - k < f → (f_X10_sentence__3_79 f (nI k) o).2 = o.1 46 := by
  intro f
  induction f with
  | zero => intro k o _ h; omega
  | succ f ih =>
    intro k o hk hf
    rw [f_X10_sentence__3_79]
    by_cases e : 240 ≤ k
    · rw [if_pos (show (240 : Int32) ≤ nI k from nI_le (a := 240) e (by omega))]
    · rw [if_neg (show ¬ (240 : Int32) ≤ nI k from nI_ge (b := 240) (by omega) (by decide)), nI_1]
      rw [ih (k + 1) _ (by omega) (by omega)]
      rfl
/-- what the reference's sentence answers -/
theorem rsent_ {T : Nat → Nat} {n : Nat} {o : OS} {R : Nat → Int32} {N : Nat → Nat} (h : RXT o T n) (hS : SNM o R N) : (f_X10_sentence__3 o).2 = sSaysA (sSent T n 200 R N) := by
  have b : RT (f_X10_begin__4 (200 : Int32) o) T n 200 0 ∧ (∀ k, k ≠ 0 → k ≠ 2 → k ≠ 3 → k ≠ 4 → k ≠ 5 → k ≠ 6 → k ≠ 7 → k ≠ 8 → k ≠ 9 → k ≠ 10 → (f_X10_begin__4 (200 : Int32) o).1 k = o.1 k) ∧ (f_X10_begin__4 (200 : Int32) o).2.2 = o.2.2 ∧ (f_X10_begin__4 (200 : Int32) o).1 10 = 0 := begin_g (lim := 200) h (by decide)
  unfold f_X10_sentence__3
  generalize f_X10_begin__4 (200 : Int32) o = s at b ⊢
  obtain ⟨b1, b2, b3, b4⟩ := b
  have hQ : RQ T n 200 R N (sI (sI (sI s 45 (0 : Int32)) 46 (0 : Int32)) 47 (0 : Int32)) 0 0 0 := by
    have r1 : RT (sI s 45 (0 : Int32)) T n 200 0 := b1.of (fun k hk => sI_ne (by omega)) rfl rfl
    have r2 : RT (sI (sI s 45 (0 : Int32)) 46 (0 : Int32)) T n 200 0 := r1.of (fun k hk => sI_ne (by omega)) rfl rfl
    have r3 : RT (sI (sI (sI s 45 (0 : Int32)) 46 (0 : Int32)) 47 (0 : Int32)) T n 200 0 := r2.of (fun k hk => sI_ne (by omega)) rfl rfl
    refine ⟨r3, hS.of ?_ ?_, ?_, ?_, ?_⟩
    · show s.2.2.1 14 = _
      rw [b3]
    · show s.2.2.2 20 = _
      rw [b3]
    · rw [sI_ne (by decide), sI_get]; rfl
    · rw [sI_get]; rfl
    · rw [sI_ne (by decide), sI_ne (by decide), sI_ne (by decide)]; exact b4
  have q := rO_9 hQ (by decide)
  unfold sSent
  generalize f_X10_readOr__9 (sI (sI (sI s 45 (0 : Int32)) 46 (0 : Int32)) 47 (0 : Int32)) = r at q ⊢
  cases e : sCond T n 200 (sSaid T n 200 R N 8) 0 0 with
  | inl b =>
    have z := q.1 b e
    rw [if_pos z.1]
    show (-1 : Int32) - r.1.1 11 = -1 - nI b.2
    rw [z.2.2]
  | inr w =>
    obtain ⟨c1, p1⟩ := w
    have z := q.2 c1 p1 e
    rw [if_neg (ne1 z.1), z.2.1.2.2.1]
    have cz := nI_eq (a := RK (tK T n 200 p1)) (b := 0) (by have := RK_lt (tK T n 200 p1); omega) (by decide)
    try dsimp only
    by_cases e0 : tK T n 200 p1 = 0
    · rw [if_pos (show nI _ = (0 : Int32) from cz.mpr (RK_is0.mpr e0)), if_neg (nn e0)]
      have y := sen79_ 4294967298 0 (sA (sA r.1 14 (Int32.toNatClampNeg (172 : Int32)) (1 : Int32)) 14 (Int32.toNatClampNeg (173 : Int32)) ((sA r.1 14 (Int32.toNatClampNeg (172 : Int32)) (1 : Int32)).1 48)) (by decide) (by decide)
      rw [nI_0] at y
      rw [y]
      exact z.2.2.2.1
    · rw [if_neg (fun q : nI _ = (0 : Int32) => e0 (RK_is0.mp (cz.mp q))), if_pos e0]
      have hb := bad_R (c := 1) z.2.1 (by decide)
      show (-1 : Int32) - (f_X10_bad__1 (1 : Int32) r.1).1.1 11 = -1 - nI (sBad T n 200 1 p1).2
      rw [show (f_X10_bad__1 (1 : Int32) r.1).1.1 11 = nI (sBad T n 200 1 p1).2 from hb.2.2]
/-! the class's readers of sentences -/
section CSENT
variable {T : Nat → Nat} {n lim : Nat} {R : Nat → Int32} {N : Nat → Nat} {s0 s1 s2 : OS} {c p : Nat}
def SO (T : Nat → Nat) (n lim : Nat) (s2 : OS) (r : OS × OS × OS) (S : SR) : Prop := r.2.2 = s2 ∧ (∀ e, S = .inl e → CF r.2.1 e) ∧ ∀ c p, S = .inr (c, p) → CTK r.2.1 T n lim p ∧ r.1.1 4 = nI c
theorem SO.bad {r : OS × OS × OS} {e : Nat × Nat} (h : r.2.2 = s2) (h2 : CF r.2.1 e) : SO T n lim s2 r (.inl e) := ⟨h, fun e9 q => (by cases q; exact h2), fun _ _ q => (by cases q)⟩
theorem SO.ok {r : OS × OS × OS} (h : r.2.2 = s2) (h2 : CTK r.2.1 T n lim p) (h3 : r.1.1 4 = nI c) : SO T n lim s2 r (.inr (c, p)) := ⟨h, fun e9 q => (by cases q), fun _ _ q => (by cases q; exact ⟨h2, h3⟩)⟩
theorem SO.eta {r : OS × OS × OS} {S : SR} (h : SO T n lim s2 r S) : SO T n lim s2 (r.1, r.2.1, r.2.2) S := h
theorem as4 {x y z : Int32} : (f_X5_addStep__1 x y z s0).1 4 = s0.1 4 := by
  unfold f_X5_addStep__1
  by_cases e : (40 : Int32) ≤ s0.1 3
  · rw [if_pos e]
  · rw [if_neg e, sI_ne (by decide)]
theorem SO.st {r : OS × OS × OS} {S : SR} {x y z : Int32} (h : SO T n lim s2 r S) : SO T n lim s2 (f_X5_addStep__1 x y z r.1, r.2.1, r.2.2) S := ⟨h.1, h.2.1, fun c p e => ⟨(h.2.2 c p e).1, (by rw [as4]; exact (h.2.2 c p e).2)⟩⟩
theorem see_ {v : Nat} (h : CTK s1 T n lim p) (hv : 2 ≤ v) (h2 : v < 1000) : f_X7_sees__1 (nI v) s1 = if tK T n lim p = v then 1 else 0 := by
  have q := ck_eq (v := v) h.1 hv h2
  unfold f_X7_sees__1
  rw [if_pos h.2]
  by_cases e : tK T n lim p = v
  · rw [if_pos (q.mpr e), if_pos e]
  · rw [if_neg (fun z => e (q.mp z)), if_neg e]
theorem see_bad {x : Int32} {e : Nat × Nat} (h : CF s1 e) : f_X7_sees__1 x s1 = 0 := by
  unfold f_X7_sees__1
  rw [if_neg h.ne]
theorem see2_ (h : CTK s1 T n lim p) (A B : OS × OS × OS) : (if f_X7_sees__1 (144 : Int32) s1 = 0 then (if f_X7_sees__1 (145 : Int32) s1 = 0 then A else B) else B) = if tK T n lim p = 144 ∨ tK T n lim p = 145 then B else A := by
  have e4 : f_X7_sees__1 (144 : Int32) s1 = if tK T n lim p = 144 then 1 else 0 := see_ (v := 144) h (by decide) (by decide)
  have e5 : f_X7_sees__1 (145 : Int32) s1 = if tK T n lim p = 145 then 1 else 0 := see_ (v := 145) h (by decide) (by decide)
  rw [e4, e5]
  by_cases g4 : tK T n lim p = 144
  · rw [if_pos g4, if_neg one0, if_pos (Or.inl g4)]
  · rw [if_neg g4, if_pos rfl]
    by_cases g5 : tK T n lim p = 145
    · rw [if_pos g5, if_neg one0, if_pos (Or.inr g5)]
    · rw [if_neg g5, if_pos rfl, if_neg (fun z => z.elim g4 g5)]
theorem see2_bad {e : Nat × Nat} (h : CF s1 e) (A B : OS × OS × OS) : (if f_X7_sees__1 (144 : Int32) s1 = 0 then (if f_X7_sees__1 (145 : Int32) s1 = 0 then A else B) else B) = A := by
  rw [if_pos (see_bad h), if_pos (see_bad h)]
theorem pon_bad {x : Int32} {e : Nat × Nat} (h : CF s1 e) : f_X7_passOnly__3 x s1 = s1 := by
  unfold f_X7_passOnly__3 f_X7_passOnly__3_13
  rw [rf0_bad h, if22, ps6_bad h]
theorem pon_ (h : CTK s1 T n lim p) : (tK T n lim p = 41 → CTK (f_X7_passOnly__3 (41 : Int32) s1) T n lim (tA T n lim p)) ∧ (tK T n lim p ≠ 41 → CF (f_X7_passOnly__3 (41 : Int32) s1) (sBad T n lim 1 p)) := by
  have c41 : (s1.1 7 = (41 : Int32)) ↔ tK T n lim p = 41 := ck_eq (v := 41) h.1 (by decide) (by decide)
  unfold f_X7_passOnly__3 f_X7_passOnly__3_13
  refine ⟨fun k => ?_, fun k => ?_⟩
  · rw [if_pos (c41.mpr k)]
    exact ps6_ h (by omega) (by omega)
  · have hb : CF (f_X7_refuse__4 (1 : Int32) s1) (sBad T n lim 1 p) := rf0_ (c := 1) h (by decide) (by decide) (fun _ => rfl)
    rw [if_neg (fun q => k (c41.mp q)), ps6_bad hb]
    exact hb
theorem r83_ {x y : Int32} (h : CTK s1 T n lim p) (h4 : s0.1 4 = nI c) (g : tK T n lim p = 60 ∨ tK T n lim p = 61 ∨ tK T n lim p = 62) : SO T n lim s2 (f_X5_readPlain__1_83 x y s0 s1 s2) (match sNum T n lim 0 999 (tA T n lim p) with
    | .inl e => .inl e
    | .inr (_, p1) => .inr (c, p1)) := by
  have q : TN T n lim (f_X7_takeNumber__5 (0 : Int32) (999 : Int32) (f_X7_pass__6 s1)) (sNum T n lim 0 999 (tA T n lim p)) := tn1_ (a := 0) (b := 999) (by decide) (by decide) (ps6_ h (by omega) (by omega))
  unfold f_X5_readPlain__1_83
  generalize f_X7_takeNumber__5 (0 : Int32) (999 : Int32) (f_X7_pass__6 s1) = r at q ⊢
  cases e : sNum T n lim 0 999 (tA T n lim p) with
  | inl b => exact SO.bad rfl (q.1 b e)
  | inr w =>
    obtain ⟨v, p1⟩ := w
    exact SO.ok rfl (q.2 v p1 e).1 (by rw [as4]; exact h4)
theorem r83_bad {x y : Int32} {e : Nat × Nat} (h : CF s1 e) : SO T n lim s2 (f_X5_readPlain__1_83 x y s0 s1 s2) (.inl e) := by
  unfold f_X5_readPlain__1_83
  rw [ps6_bad h]
  exact SO.bad rfl (tn1_bad h)
theorem rp_ {K : Nat} (h : CTK s1 T n lim p) (hN : CN s2 R N) (h4 : s0.1 4 = nI c) (k1 : 147 ≤ K) (k2 : K ≤ 155) : SO T n lim s2 (f_X5_readPlain__1 (nI K) s0 s1 s2) (sPlain T n lim R N c p K) := by
  have e150 : nI K = (150 : Int32) ↔ K = 150 := nI_eq (b := 150) (by omega) (by decide)
  have e151 : nI K = (151 : Int32) ↔ K = 151 := nI_eq (b := 151) (by omega) (by decide)
  unfold f_X5_readPlain__1 sPlain
  by_cases a : K = 150
  · have q : NA T n lim (f_X7_takeName__12 (0 : Int32) s1 s2) s2 (sOne T n lim 0 (ct R 0) N p) (tA T n lim p) (ct R 0) := tk1_ h hN (s := 0) (b := 0) (M := 6) (Or.inl ⟨rfl, rfl, rfl⟩)
    rw [if_pos (e150.mpr a), if_pos a, if22]
    generalize f_X7_takeName__12 (0 : Int32) s1 s2 = r at q ⊢
    cases e : sOne T n lim 0 (ct R 0) N p with
    | inl b => exact SO.bad q.1 (q.2.1 b e).1
    | inr k => exact SO.ok q.1 (q.2.2 k e).1 (by rw [as4]; exact h4)
  · rw [if_neg (fun z => a (e150.mp z)), if_neg a]
    by_cases b : K = 151
    · have q : NA T n lim (f_X7_takeName__12 (1 : Int32) s1 s2) s2 (sOne T n lim 6 (ct R 1) N p) (tA T n lim p) (ct R 1) := tk1_ h hN (s := 1) (b := 6) (M := 4) (Or.inr (Or.inl ⟨rfl, rfl, rfl⟩))
      rw [if_pos (e151.mpr b), if_pos b, if22]
      generalize f_X7_takeName__12 (1 : Int32) s1 s2 = r at q ⊢
      cases e : sOne T n lim 6 (ct R 1) N p with
      | inl b => exact SO.bad q.1 (q.2.1 b e).1
      | inr k => exact SO.ok q.1 (q.2.2 k e).1 (by rw [as4]; exact h4)
    · rw [if_neg (fun z => b (e151.mp z)), if_neg b]
      by_cases d : 152 ≤ K
      · rw [if_neg (show ¬ nI K < (152 : Int32) from nI_nlt (b := 152) (by omega) (by omega)), if_pos d]
        have c60 : (s1.1 7 = (60 : Int32)) ↔ tK T n lim p = 60 := ck_eq (v := 60) h.1 (by decide) (by decide)
        have c61 : (s1.1 7 = (61 : Int32)) ↔ tK T n lim p = 61 := ck_eq (v := 61) h.1 (by decide) (by decide)
        have c62 : (s1.1 7 = (62 : Int32)) ↔ tK T n lim p = 62 := ck_eq (v := 62) h.1 (by decide) (by decide)
        by_cases g : tK T n lim p = 60 ∨ tK T n lim p = 61 ∨ tK T n lim p = 62
        · rw [if_neg (show ¬ ¬ (tK T n lim p = 60 ∨ tK T n lim p = 61 ∨ tK T n lim p = 62) from fun q => q g)]
          have q := r83_ (x := nI K) (y := s1.1 7) (s0 := s0) (s2 := s2) h h4 g
          rcases g with g | g | g
          · rw [if_pos (c60.mpr g)]; exact q
          · rw [if_neg (fun z => by have := c60.mp z; omega), if_pos (c61.mpr g)]; exact q
          · rw [if_neg (fun z => by have := c60.mp z; omega), if_neg (fun z => by have := c61.mp z; omega), if_pos (c62.mpr g)]; exact q
        · rw [if_pos g, if_neg (fun z => by have := c60.mp z; omega), if_neg (fun z => by have := c61.mp z; omega), if_neg (fun z => by have := c62.mp z; omega)]
          have hb : CF (f_X7_refuse__4 (1 : Int32) s1) (sBad T n lim 1 p) := rf0_ (c := 1) h (by decide) (by decide) (fun _ => rfl)
          exact r83_bad hb
      · rw [if_pos (show nI K < (152 : Int32) from nI_lt (b := 152) (by omega) (by decide)), if_neg d]
        exact SO.ok rfl h (by rw [as4]; exact h4)
end CSENT
section
variable {T : Nat → Nat} {n lim : Nat} {R : Nat → Int32} {N : Nat → Nat} {s0 s1 s2 : OS} {c p : Nat}
theorem hc_17 (x : Int32) (h : CTK s1 T n lim p) : f_X5_readOne__17 x s0 s1 s2 = if tK T n lim p = 40 ∨ (146 ≤ tK T n lim p ∧ tK T n lim p ≤ 155) then f_X5_readOne__17_37 x (nI (tK T n lim p)) s0 s1 s2 else f_X5_readOne__17_29 x (s1.1 7) s0 s1 s2 := by
  have c40 : (s1.1 7 = (40 : Int32)) ↔ tK T n lim p = 40 := ck_eq (v := 40) h.1 (by decide) (by decide)
  have kl := tK_lt (n := n) (lim := lim) (p := p) h.1.1.2.2.2.2.2.2.1
  unfold f_X5_readOne__17
  by_cases g : tK T n lim p = 40 ∨ (146 ≤ tK T n lim p ∧ tK T n lim p ≤ 155)
  · rw [if_pos g]
    have e7 : s1.1 7 = nI (tK T n lim p) := (ck_eq h.1 (by omega) kl).mpr rfl
    rcases g with g | g
    · rw [if_pos (c40.mpr g), e7]
    · rw [if_neg (fun q => by have := c40.mp q; omega), e7, if_neg (show ¬ nI (tK T n lim p) < (146 : Int32) from nI_nlt (b := 146) (by omega) (by omega)), if_pos (show nI (tK T n lim p) ≤ (155 : Int32) from nI_le (b := 155) (by omega) (by decide))]
  · rw [if_neg g, if_neg (fun q => by have := c40.mp q; omega)]
    have kk := kc_lt (n := n) (lim := lim) (p := p) h.1.1.2.2.2.2.2.2.1
    have nk : ¬ (146 ≤ kc T n lim p ∧ kc T n lim p ≤ 155) := fun q => by
      have z := (kc_eq (T := T) (n := n) (lim := lim) (p := p) (v := kc T n lim p) (by omega)).mp rfl
      omega
    generalize e7 : s1.1 7 = y
    rw [h.1.2.2.1] at e7
    subst e7
    by_cases z : kc T n lim p < 146
    · rw [if_pos (show nI (kc T n lim p) < (146 : Int32) from nI_lt (b := 146) z (by decide))]
    · rw [if_neg (show ¬ nI (kc T n lim p) < (146 : Int32) from nI_nlt (b := 146) (by omega) (by omega)), if_neg (show ¬ nI (kc T n lim p) ≤ (155 : Int32) from nI_ge (a := 155) (by omega) (by omega))]
theorem rb_17 {f : Nat} {x x4 x5 : Int32} {e : Nat × Nat} (hf : 0 < f) (h : CF s1 e) : SO T n lim s2 (f_X5_readCond__17_13 x f x4 x5 s0 s1 s2) (.inl e) := by
  obtain ⟨g, rfl⟩ : ∃ g, f = g + 1 := ⟨f - 1, by omega⟩
  rw [f_X5_readCond__17_13, see2_bad h, if22]
  unfold f_X5_readCond__17_106
  by_cases z : x4 = 0
  · rw [if_pos z]; exact SO.bad rfl h
  · rw [if_neg z]; exact SO.bad rfl h
theorem ro_17 (h : CTK s1 T n lim p) (x : Int32) : SO T n lim s2 (f_X5_readOne__17 x s0 s1 s2) (sSaid T n lim R N 0 c p) := by
  rw [hc_17 x h, sSaid_0]
  by_cases g : tK T n lim p = 40 ∨ (146 ≤ tK T n lim p ∧ tK T n lim p ≤ 155)
  · rw [if_pos g, if_neg (show ¬ ¬ (tK T n lim p = 40 ∨ (146 ≤ tK T n lim p ∧ tK T n lim p ≤ 155)) from fun q => q g)]
    unfold f_X5_readOne__17_37 f_X5_readOne__17_52 f_X5_readOne__17_57
    rw [if22]
    exact SO.bad rfl (rf0_ (c := 4) h (by decide) (by decide) (fun q => by omega))
  · rw [if_neg g, if_pos g]
    unfold f_X5_readOne__17_29 f_X5_readOne__17_57
    exact SO.bad rfl (rf0_ (c := 1) h (by decide) (by decide) (fun _ => rfl))
theorem rc_17 (h : CTK s1 T n lim p) (x : Int32) : SO T n lim s2 (f_X5_readCond__17 x s0 s1 s2) (sCond T n lim (sSaid T n lim R N 0) c p) := by
  have q := ro_17 (R := R) (N := N) (c := c) (s0 := s0) (s2 := s2) h x
  obtain ⟨e, he⟩ := sSaid0 (T := T) (n := n) (lim := lim) (R := R) (N := N) (c := c) (p := p)
  unfold f_X5_readCond__17 sCond
  rw [he]
  generalize f_X5_readOne__17 x s0 s1 s2 = r at q ⊢
  rw [q.1]
  exact rb_17 (by decide) (q.2.1 e he)
end
section
variable {T : Nat → Nat} {n lim : Nat} {R : Nat → Int32} {N : Nat → Nat} {s0 s1 s2 : OS} {c p : Nat}
theorem hc_16 (x : Int32) (h : CTK s1 T n lim p) : f_X5_readOne__16 x s0 s1 s2 = if tK T n lim p = 40 ∨ (146 ≤ tK T n lim p ∧ tK T n lim p ≤ 155) then f_X5_readOne__16_37 x (nI (tK T n lim p)) s0 s1 s2 else f_X5_readOne__16_29 x (s1.1 7) s0 s1 s2 := by
  have c40 : (s1.1 7 = (40 : Int32)) ↔ tK T n lim p = 40 := ck_eq (v := 40) h.1 (by decide) (by decide)
  have kl := tK_lt (n := n) (lim := lim) (p := p) h.1.1.2.2.2.2.2.2.1
  unfold f_X5_readOne__16
  by_cases g : tK T n lim p = 40 ∨ (146 ≤ tK T n lim p ∧ tK T n lim p ≤ 155)
  · rw [if_pos g]
    have e7 : s1.1 7 = nI (tK T n lim p) := (ck_eq h.1 (by omega) kl).mpr rfl
    rcases g with g | g
    · rw [if_pos (c40.mpr g), e7]
    · rw [if_neg (fun q => by have := c40.mp q; omega), e7, if_neg (show ¬ nI (tK T n lim p) < (146 : Int32) from nI_nlt (b := 146) (by omega) (by omega)), if_pos (show nI (tK T n lim p) ≤ (155 : Int32) from nI_le (b := 155) (by omega) (by decide))]
  · rw [if_neg g, if_neg (fun q => by have := c40.mp q; omega)]
    have kk := kc_lt (n := n) (lim := lim) (p := p) h.1.1.2.2.2.2.2.2.1
    have nk : ¬ (146 ≤ kc T n lim p ∧ kc T n lim p ≤ 155) := fun q => by
      have z := (kc_eq (T := T) (n := n) (lim := lim) (p := p) (v := kc T n lim p) (by omega)).mp rfl
      omega
    generalize e7 : s1.1 7 = y
    rw [h.1.2.2.1] at e7
    subst e7
    by_cases z : kc T n lim p < 146
    · rw [if_pos (show nI (kc T n lim p) < (146 : Int32) from nI_lt (b := 146) z (by decide))]
    · rw [if_neg (show ¬ nI (kc T n lim p) < (146 : Int32) from nI_nlt (b := 146) (by omega) (by omega)), if_neg (show ¬ nI (kc T n lim p) ≤ (155 : Int32) from nI_ge (a := 155) (by omega) (by omega))]
theorem rb_16 {f : Nat} {x x4 x5 : Int32} {e : Nat × Nat} (hf : 0 < f) (h : CF s1 e) : SO T n lim s2 (f_X5_readCond__16_13 x f x4 x5 s0 s1 s2) (.inl e) := by
  obtain ⟨g, rfl⟩ : ∃ g, f = g + 1 := ⟨f - 1, by omega⟩
  rw [f_X5_readCond__16_13, see2_bad h, if22]
  unfold f_X5_readCond__16_106
  by_cases z : x4 = 0
  · rw [if_pos z]; exact SO.bad rfl h
  · rw [if_neg z]; exact SO.bad rfl h
theorem ro_16 (h : CTK s1 T n lim p) (hN : CN s2 R N) (h4 : s0.1 4 = nI c) (hc : c ≤ 20) (x : Int32) : SO T n lim s2 (f_X5_readOne__16 x s0 s1 s2) (sSaid T n lim R N 1 c p) := by
  rw [hc_16 x h, show sSaid T n lim R N 1 c p = _ from sSaid_s (d := 0)]
  by_cases g : tK T n lim p = 40 ∨ (146 ≤ tK T n lim p ∧ tK T n lim p ≤ 155)
  · rw [if_pos g, if_neg (show ¬ ¬ (tK T n lim p = 40 ∨ (146 ≤ tK T n lim p ∧ tK T n lim p ≤ 155)) from fun q => q g)]
    unfold f_X5_readOne__16_37
    by_cases k : 20 ≤ c
    · rw [if_pos (show (20 : Int32) ≤ s0.1 4 by rw [h4]; exact nI_le (a := 20) k (by omega)), if_pos k]
      have hb : CF (f_X7_refuse__4 (4 : Int32) s1) (sBad T n lim 4 p) := rf0_ (c := 4) h (by decide) (by decide) (fun q => by omega)
      unfold f_X5_readOne__16_52 f_X5_readOne__16_57
      rw [if_neg hb.ne]
      exact SO.bad rfl hb
    · rw [if_neg (show ¬ (20 : Int32) ≤ s0.1 4 by rw [h4]; exact nI_ge (b := 20) (by omega) (by decide)), if_neg k]
      unfold f_X5_readOne__16_57
      rw [if_pos h.2]
      have hp : CTK (f_X7_pass__5 s1) T n lim (tA T n lim p) := ps_ h (by omega) (by omega)
      have h5 : (sI s0 4 (s0.1 4 + 1)).1 4 = nI (c + 1) := by rw [sI_get, h4, nI_1]
      have e146 : nI (tK T n lim p) = (146 : Int32) ↔ tK T n lim p = 146 := nI_eq (b := 146) (by omega) (by decide)
      have e40 : nI (tK T n lim p) = (40 : Int32) ↔ tK T n lim p = 40 := nI_eq (b := 40) (by omega) (by decide)
      by_cases a1 : tK T n lim p = 146
      · rw [if_pos (e146.mpr a1), if_pos a1]
        exact SO.st (ro_17 hp (x + 1))
      · rw [if_neg (fun z => a1 (e146.mp z)), if_neg a1]
        by_cases a2 : tK T n lim p = 40
        · rw [if_pos (e40.mpr a2), if_pos a2]
          have q := rc_17 (R := R) (N := N) (c := c + 1) (s0 := sI s0 4 (s0.1 4 + 1)) (s2 := s2) hp (x + 1)
          generalize f_X5_readCond__17 (x + 1) (sI s0 4 (s0.1 4 + 1)) (f_X7_pass__5 s1) s2 = r at q ⊢
          obtain ⟨e9, he9⟩ := sCond0 (T := T) (n := n) (lim := lim) (R := R) (N := N) (c := c + 1) (p := tA T n lim p)
          rw [he9]
          exact SO.bad q.1 (q.2.1 e9 he9)
        · rw [if_neg (fun z => a2 (e40.mp z)), if_neg a2]
          exact SO.eta (rp_ hp hN h5 (by omega) (by omega))
  · rw [if_neg g, if_pos g]
    have hb : CF (f_X7_refuse__4 (1 : Int32) s1) (sBad T n lim 1 p) := rf0_ (c := 1) h (by decide) (by decide) (fun _ => rfl)
    unfold f_X5_readOne__16_29 f_X5_readOne__16_57
    rw [if_neg hb.ne]
    exact SO.bad rfl hb
theorem rlc_16 (hN : CN s2 R N) (x : Int32) : ∀ (k f : Nat) (c p m : Nat) (x4 : Int32) (s0 s1 : OS), CTK s1 T n lim p → s0.1 4 = nI c → c ≤ 20 → 21 ≤ c + k → m + 1 ≤ c → k < f → SO T n lim s2 (f_X5_readCond__16_13 x f x4 (nI m) s0 s1 s2) (sMore T n lim (sSaid T n lim R N 1) k c p) := by
  intro k
  induction k with
  | zero => intro f c p m x4 s0 s1 _ _ _ _ _; omega
  | succ k ih =>
    intro f c p m x4 s0 s1 h h4 hc hk hm hf
    obtain ⟨g, rfl⟩ : ∃ g, f = g + 1 := ⟨f - 1, by omega⟩
    rw [f_X5_readCond__16_13, if_neg (show ¬ (20 : Int32) ≤ nI m from nI_ge (b := 20) (by omega) (by decide)), see2_ h]
    by_cases a : tK T n lim p = 144 ∨ tK T n lim p = 145
    · rw [if_pos a, sMore_s a]
      have t : ∀ (y4 x6 : Int32) (t0 : OS), t0.1 4 = nI c → SO T n lim s2 (f_X5_readCond__16_72 (f_X5_readCond__16_13 x g) x y4 (nI m) x6 t0 (f_X7_pass__6 s1) s2) (sAft T n lim (sSaid T n lim R N 1) k (sSaid T n lim R N 1 c (tA T n lim p))) := by
        intro y4 x6 t0 ht
        have q := ro_16 (ps6_ h (by omega) (by omega)) hN ht hc x
        unfold f_X5_readCond__16_72
        generalize f_X5_readOne__16 x t0 (f_X7_pass__6 s1) s2 = r at q ⊢
        rw [q.1]
        cases e : sSaid T n lim R N 1 c (tA T n lim p) with
        | inl b =>
          have hb := q.2.1 b e
          by_cases z : x6 = 0
          · rw [if_pos z]; exact rb_16 (by omega) hb
          · rw [if_neg z]; exact rb_16 (by omega) hb
        | inr w =>
          obtain ⟨c1, p1⟩ := w
          have z := q.2.2 c1 p1 e
          have y := sSaid_c _ _ _ _ _ e
          rw [nI_1]
          by_cases z9 : x6 = 0
          · rw [if_pos z9]; exact ih g c1 p1 (m + 1) _ _ _ z.1 (by rw [as4]; exact z.2) y.2 (by omega) (by omega) (by omega)
          · rw [if_neg z9]; exact ih g c1 p1 (m + 1) _ _ _ z.1 z.2 y.2 (by omega) (by omega) (by omega)
      unfold f_X5_readCond__16_40
      by_cases z1 : f_X7_sees__1 (144 : Int32) s1 = 0
      · rw [if_pos z1]; exact t _ _ _ h4
      · rw [if_neg z1]
        by_cases z2 : x4 = 0
        · rw [if_pos z2]; exact t _ _ _ h4
        · rw [if_neg z2]; exact t _ _ _ (by rw [as4]; exact h4)
    · rw [if_neg a, sMore_n a]
      unfold f_X5_readCond__16_106
      by_cases z2 : x4 = 0
      · rw [if_pos z2]; exact SO.ok rfl h h4
      · rw [if_neg z2]; exact SO.ok rfl h (by rw [as4]; exact h4)
theorem rc_16 (h : CTK s1 T n lim p) (hN : CN s2 R N) (h4 : s0.1 4 = nI c) (hc : c ≤ 20) (x : Int32) : SO T n lim s2 (f_X5_readCond__16 x s0 s1 s2) (sCond T n lim (sSaid T n lim R N 1) c p) := by
  have q := ro_16 h hN h4 hc x
  unfold f_X5_readCond__16 sCond
  generalize f_X5_readOne__16 x s0 s1 s2 = r at q ⊢
  rw [q.1]
  cases e : sSaid T n lim R N 1 c p with
  | inl b => exact rb_16 (by decide) (q.2.1 b e)
  | inr w =>
    obtain ⟨c1, p1⟩ := w
    have z := q.2.2 c1 p1 e
    have y := sSaid_c _ _ _ _ _ e
    have w := rlc_16 hN x 21 4294967298 c1 p1 0 0 r.1 r.2.1 z.1 z.2 y.2 (by omega) (by omega) (by decide)
    rw [nI_0] at w
    exact w
end
section
variable {T : Nat → Nat} {n lim : Nat} {R : Nat → Int32} {N : Nat → Nat} {s0 s1 s2 : OS} {c p : Nat}
theorem hc_15 (x : Int32) (h : CTK s1 T n lim p) : f_X5_readOne__15 x s0 s1 s2 = if tK T n lim p = 40 ∨ (146 ≤ tK T n lim p ∧ tK T n lim p ≤ 155) then f_X5_readOne__15_37 x (nI (tK T n lim p)) s0 s1 s2 else f_X5_readOne__15_29 x (s1.1 7) s0 s1 s2 := by
  have c40 : (s1.1 7 = (40 : Int32)) ↔ tK T n lim p = 40 := ck_eq (v := 40) h.1 (by decide) (by decide)
  have kl := tK_lt (n := n) (lim := lim) (p := p) h.1.1.2.2.2.2.2.2.1
  unfold f_X5_readOne__15
  by_cases g : tK T n lim p = 40 ∨ (146 ≤ tK T n lim p ∧ tK T n lim p ≤ 155)
  · rw [if_pos g]
    have e7 : s1.1 7 = nI (tK T n lim p) := (ck_eq h.1 (by omega) kl).mpr rfl
    rcases g with g | g
    · rw [if_pos (c40.mpr g), e7]
    · rw [if_neg (fun q => by have := c40.mp q; omega), e7, if_neg (show ¬ nI (tK T n lim p) < (146 : Int32) from nI_nlt (b := 146) (by omega) (by omega)), if_pos (show nI (tK T n lim p) ≤ (155 : Int32) from nI_le (b := 155) (by omega) (by decide))]
  · rw [if_neg g, if_neg (fun q => by have := c40.mp q; omega)]
    have kk := kc_lt (n := n) (lim := lim) (p := p) h.1.1.2.2.2.2.2.2.1
    have nk : ¬ (146 ≤ kc T n lim p ∧ kc T n lim p ≤ 155) := fun q => by
      have z := (kc_eq (T := T) (n := n) (lim := lim) (p := p) (v := kc T n lim p) (by omega)).mp rfl
      omega
    generalize e7 : s1.1 7 = y
    rw [h.1.2.2.1] at e7
    subst e7
    by_cases z : kc T n lim p < 146
    · rw [if_pos (show nI (kc T n lim p) < (146 : Int32) from nI_lt (b := 146) z (by decide))]
    · rw [if_neg (show ¬ nI (kc T n lim p) < (146 : Int32) from nI_nlt (b := 146) (by omega) (by omega)), if_neg (show ¬ nI (kc T n lim p) ≤ (155 : Int32) from nI_ge (a := 155) (by omega) (by omega))]
theorem rb_15 {f : Nat} {x x4 x5 : Int32} {e : Nat × Nat} (hf : 0 < f) (h : CF s1 e) : SO T n lim s2 (f_X5_readCond__15_13 x f x4 x5 s0 s1 s2) (.inl e) := by
  obtain ⟨g, rfl⟩ : ∃ g, f = g + 1 := ⟨f - 1, by omega⟩
  rw [f_X5_readCond__15_13, see2_bad h, if22]
  unfold f_X5_readCond__15_106
  by_cases z : x4 = 0
  · rw [if_pos z]; exact SO.bad rfl h
  · rw [if_neg z]; exact SO.bad rfl h
theorem ro_15 (h : CTK s1 T n lim p) (hN : CN s2 R N) (h4 : s0.1 4 = nI c) (hc : c ≤ 20) (x : Int32) : SO T n lim s2 (f_X5_readOne__15 x s0 s1 s2) (sSaid T n lim R N 2 c p) := by
  rw [hc_15 x h, show sSaid T n lim R N 2 c p = _ from sSaid_s (d := 1)]
  by_cases g : tK T n lim p = 40 ∨ (146 ≤ tK T n lim p ∧ tK T n lim p ≤ 155)
  · rw [if_pos g, if_neg (show ¬ ¬ (tK T n lim p = 40 ∨ (146 ≤ tK T n lim p ∧ tK T n lim p ≤ 155)) from fun q => q g)]
    unfold f_X5_readOne__15_37
    by_cases k : 20 ≤ c
    · rw [if_pos (show (20 : Int32) ≤ s0.1 4 by rw [h4]; exact nI_le (a := 20) k (by omega)), if_pos k]
      have hb : CF (f_X7_refuse__4 (4 : Int32) s1) (sBad T n lim 4 p) := rf0_ (c := 4) h (by decide) (by decide) (fun q => by omega)
      unfold f_X5_readOne__15_52 f_X5_readOne__15_57
      rw [if_neg hb.ne]
      exact SO.bad rfl hb
    · rw [if_neg (show ¬ (20 : Int32) ≤ s0.1 4 by rw [h4]; exact nI_ge (b := 20) (by omega) (by decide)), if_neg k]
      unfold f_X5_readOne__15_57
      rw [if_pos h.2]
      have hp : CTK (f_X7_pass__5 s1) T n lim (tA T n lim p) := ps_ h (by omega) (by omega)
      have h5 : (sI s0 4 (s0.1 4 + 1)).1 4 = nI (c + 1) := by rw [sI_get, h4, nI_1]
      have e146 : nI (tK T n lim p) = (146 : Int32) ↔ tK T n lim p = 146 := nI_eq (b := 146) (by omega) (by decide)
      have e40 : nI (tK T n lim p) = (40 : Int32) ↔ tK T n lim p = 40 := nI_eq (b := 40) (by omega) (by decide)
      by_cases a1 : tK T n lim p = 146
      · rw [if_pos (e146.mpr a1), if_pos a1]
        exact SO.st (ro_16 hp hN h5 (by omega) (x + 1))
      · rw [if_neg (fun z => a1 (e146.mp z)), if_neg a1]
        by_cases a2 : tK T n lim p = 40
        · rw [if_pos (e40.mpr a2), if_pos a2]
          have q := rc_16 hp hN h5 (by omega) (x + 1)
          generalize f_X5_readCond__16 (x + 1) (sI s0 4 (s0.1 4 + 1)) (f_X7_pass__5 s1) s2 = r at q ⊢
          cases e : sCond T n lim (sSaid T n lim R N 1) (c + 1) (tA T n lim p) with
          | inl b =>
            have hb := q.2.1 b e
            rw [pon_bad hb]
            exact SO.bad q.1 hb
          | inr w =>
            obtain ⟨c1, p1⟩ := w
            have z := q.2.2 c1 p1 e
            have y := pon_ z.1
            try dsimp only
            by_cases k9 : tK T n lim p1 = 41
            · rw [if_neg (nn k9)]; exact SO.ok q.1 (y.1 k9) z.2
            · rw [if_pos k9]; exact SO.bad q.1 (y.2 k9)
        · rw [if_neg (fun z => a2 (e40.mp z)), if_neg a2]
          exact SO.eta (rp_ hp hN h5 (by omega) (by omega))
  · rw [if_neg g, if_pos g]
    have hb : CF (f_X7_refuse__4 (1 : Int32) s1) (sBad T n lim 1 p) := rf0_ (c := 1) h (by decide) (by decide) (fun _ => rfl)
    unfold f_X5_readOne__15_29 f_X5_readOne__15_57
    rw [if_neg hb.ne]
    exact SO.bad rfl hb
theorem rlc_15 (hN : CN s2 R N) (x : Int32) : ∀ (k f : Nat) (c p m : Nat) (x4 : Int32) (s0 s1 : OS), CTK s1 T n lim p → s0.1 4 = nI c → c ≤ 20 → 21 ≤ c + k → m + 1 ≤ c → k < f → SO T n lim s2 (f_X5_readCond__15_13 x f x4 (nI m) s0 s1 s2) (sMore T n lim (sSaid T n lim R N 2) k c p) := by
  intro k
  induction k with
  | zero => intro f c p m x4 s0 s1 _ _ _ _ _; omega
  | succ k ih =>
    intro f c p m x4 s0 s1 h h4 hc hk hm hf
    obtain ⟨g, rfl⟩ : ∃ g, f = g + 1 := ⟨f - 1, by omega⟩
    rw [f_X5_readCond__15_13, if_neg (show ¬ (20 : Int32) ≤ nI m from nI_ge (b := 20) (by omega) (by decide)), see2_ h]
    by_cases a : tK T n lim p = 144 ∨ tK T n lim p = 145
    · rw [if_pos a, sMore_s a]
      have t : ∀ (y4 x6 : Int32) (t0 : OS), t0.1 4 = nI c → SO T n lim s2 (f_X5_readCond__15_72 (f_X5_readCond__15_13 x g) x y4 (nI m) x6 t0 (f_X7_pass__6 s1) s2) (sAft T n lim (sSaid T n lim R N 2) k (sSaid T n lim R N 2 c (tA T n lim p))) := by
        intro y4 x6 t0 ht
        have q := ro_15 (ps6_ h (by omega) (by omega)) hN ht hc x
        unfold f_X5_readCond__15_72
        generalize f_X5_readOne__15 x t0 (f_X7_pass__6 s1) s2 = r at q ⊢
        rw [q.1]
        cases e : sSaid T n lim R N 2 c (tA T n lim p) with
        | inl b =>
          have hb := q.2.1 b e
          by_cases z : x6 = 0
          · rw [if_pos z]; exact rb_15 (by omega) hb
          · rw [if_neg z]; exact rb_15 (by omega) hb
        | inr w =>
          obtain ⟨c1, p1⟩ := w
          have z := q.2.2 c1 p1 e
          have y := sSaid_c _ _ _ _ _ e
          rw [nI_1]
          by_cases z9 : x6 = 0
          · rw [if_pos z9]; exact ih g c1 p1 (m + 1) _ _ _ z.1 (by rw [as4]; exact z.2) y.2 (by omega) (by omega) (by omega)
          · rw [if_neg z9]; exact ih g c1 p1 (m + 1) _ _ _ z.1 z.2 y.2 (by omega) (by omega) (by omega)
      unfold f_X5_readCond__15_40
      by_cases z1 : f_X7_sees__1 (144 : Int32) s1 = 0
      · rw [if_pos z1]; exact t _ _ _ h4
      · rw [if_neg z1]
        by_cases z2 : x4 = 0
        · rw [if_pos z2]; exact t _ _ _ h4
        · rw [if_neg z2]; exact t _ _ _ (by rw [as4]; exact h4)
    · rw [if_neg a, sMore_n a]
      unfold f_X5_readCond__15_106
      by_cases z2 : x4 = 0
      · rw [if_pos z2]; exact SO.ok rfl h h4
      · rw [if_neg z2]; exact SO.ok rfl h (by rw [as4]; exact h4)
theorem rc_15 (h : CTK s1 T n lim p) (hN : CN s2 R N) (h4 : s0.1 4 = nI c) (hc : c ≤ 20) (x : Int32) : SO T n lim s2 (f_X5_readCond__15 x s0 s1 s2) (sCond T n lim (sSaid T n lim R N 2) c p) := by
  have q := ro_15 h hN h4 hc x
  unfold f_X5_readCond__15 sCond
  generalize f_X5_readOne__15 x s0 s1 s2 = r at q ⊢
  rw [q.1]
  cases e : sSaid T n lim R N 2 c p with
  | inl b => exact rb_15 (by decide) (q.2.1 b e)
  | inr w =>
    obtain ⟨c1, p1⟩ := w
    have z := q.2.2 c1 p1 e
    have y := sSaid_c _ _ _ _ _ e
    have w := rlc_15 hN x 21 4294967298 c1 p1 0 0 r.1 r.2.1 z.1 z.2 y.2 (by omega) (by omega) (by decide)
    rw [nI_0] at w
    exact w
end
section
variable {T : Nat → Nat} {n lim : Nat} {R : Nat → Int32} {N : Nat → Nat} {s0 s1 s2 : OS} {c p : Nat}
theorem hc_14 (x : Int32) (h : CTK s1 T n lim p) : f_X5_readOne__14 x s0 s1 s2 = if tK T n lim p = 40 ∨ (146 ≤ tK T n lim p ∧ tK T n lim p ≤ 155) then f_X5_readOne__14_37 x (nI (tK T n lim p)) s0 s1 s2 else f_X5_readOne__14_29 x (s1.1 7) s0 s1 s2 := by
  have c40 : (s1.1 7 = (40 : Int32)) ↔ tK T n lim p = 40 := ck_eq (v := 40) h.1 (by decide) (by decide)
  have kl := tK_lt (n := n) (lim := lim) (p := p) h.1.1.2.2.2.2.2.2.1
  unfold f_X5_readOne__14
  by_cases g : tK T n lim p = 40 ∨ (146 ≤ tK T n lim p ∧ tK T n lim p ≤ 155)
  · rw [if_pos g]
    have e7 : s1.1 7 = nI (tK T n lim p) := (ck_eq h.1 (by omega) kl).mpr rfl
    rcases g with g | g
    · rw [if_pos (c40.mpr g), e7]
    · rw [if_neg (fun q => by have := c40.mp q; omega), e7, if_neg (show ¬ nI (tK T n lim p) < (146 : Int32) from nI_nlt (b := 146) (by omega) (by omega)), if_pos (show nI (tK T n lim p) ≤ (155 : Int32) from nI_le (b := 155) (by omega) (by decide))]
  · rw [if_neg g, if_neg (fun q => by have := c40.mp q; omega)]
    have kk := kc_lt (n := n) (lim := lim) (p := p) h.1.1.2.2.2.2.2.2.1
    have nk : ¬ (146 ≤ kc T n lim p ∧ kc T n lim p ≤ 155) := fun q => by
      have z := (kc_eq (T := T) (n := n) (lim := lim) (p := p) (v := kc T n lim p) (by omega)).mp rfl
      omega
    generalize e7 : s1.1 7 = y
    rw [h.1.2.2.1] at e7
    subst e7
    by_cases z : kc T n lim p < 146
    · rw [if_pos (show nI (kc T n lim p) < (146 : Int32) from nI_lt (b := 146) z (by decide))]
    · rw [if_neg (show ¬ nI (kc T n lim p) < (146 : Int32) from nI_nlt (b := 146) (by omega) (by omega)), if_neg (show ¬ nI (kc T n lim p) ≤ (155 : Int32) from nI_ge (a := 155) (by omega) (by omega))]
theorem rb_14 {f : Nat} {x x4 x5 : Int32} {e : Nat × Nat} (hf : 0 < f) (h : CF s1 e) : SO T n lim s2 (f_X5_readCond__14_13 x f x4 x5 s0 s1 s2) (.inl e) := by
  obtain ⟨g, rfl⟩ : ∃ g, f = g + 1 := ⟨f - 1, by omega⟩
  rw [f_X5_readCond__14_13, see2_bad h, if22]
  unfold f_X5_readCond__14_106
  by_cases z : x4 = 0
  · rw [if_pos z]; exact SO.bad rfl h
  · rw [if_neg z]; exact SO.bad rfl h
theorem ro_14 (h : CTK s1 T n lim p) (hN : CN s2 R N) (h4 : s0.1 4 = nI c) (hc : c ≤ 20) (x : Int32) : SO T n lim s2 (f_X5_readOne__14 x s0 s1 s2) (sSaid T n lim R N 3 c p) := by
  rw [hc_14 x h, show sSaid T n lim R N 3 c p = _ from sSaid_s (d := 2)]
  by_cases g : tK T n lim p = 40 ∨ (146 ≤ tK T n lim p ∧ tK T n lim p ≤ 155)
  · rw [if_pos g, if_neg (show ¬ ¬ (tK T n lim p = 40 ∨ (146 ≤ tK T n lim p ∧ tK T n lim p ≤ 155)) from fun q => q g)]
    unfold f_X5_readOne__14_37
    by_cases k : 20 ≤ c
    · rw [if_pos (show (20 : Int32) ≤ s0.1 4 by rw [h4]; exact nI_le (a := 20) k (by omega)), if_pos k]
      have hb : CF (f_X7_refuse__4 (4 : Int32) s1) (sBad T n lim 4 p) := rf0_ (c := 4) h (by decide) (by decide) (fun q => by omega)
      unfold f_X5_readOne__14_52 f_X5_readOne__14_57
      rw [if_neg hb.ne]
      exact SO.bad rfl hb
    · rw [if_neg (show ¬ (20 : Int32) ≤ s0.1 4 by rw [h4]; exact nI_ge (b := 20) (by omega) (by decide)), if_neg k]
      unfold f_X5_readOne__14_57
      rw [if_pos h.2]
      have hp : CTK (f_X7_pass__5 s1) T n lim (tA T n lim p) := ps_ h (by omega) (by omega)
      have h5 : (sI s0 4 (s0.1 4 + 1)).1 4 = nI (c + 1) := by rw [sI_get, h4, nI_1]
      have e146 : nI (tK T n lim p) = (146 : Int32) ↔ tK T n lim p = 146 := nI_eq (b := 146) (by omega) (by decide)
      have e40 : nI (tK T n lim p) = (40 : Int32) ↔ tK T n lim p = 40 := nI_eq (b := 40) (by omega) (by decide)
      by_cases a1 : tK T n lim p = 146
      · rw [if_pos (e146.mpr a1), if_pos a1]
        exact SO.st (ro_15 hp hN h5 (by omega) (x + 1))
      · rw [if_neg (fun z => a1 (e146.mp z)), if_neg a1]
        by_cases a2 : tK T n lim p = 40
        · rw [if_pos (e40.mpr a2), if_pos a2]
          have q := rc_15 hp hN h5 (by omega) (x + 1)
          generalize f_X5_readCond__15 (x + 1) (sI s0 4 (s0.1 4 + 1)) (f_X7_pass__5 s1) s2 = r at q ⊢
          cases e : sCond T n lim (sSaid T n lim R N 2) (c + 1) (tA T n lim p) with
          | inl b =>
            have hb := q.2.1 b e
            rw [pon_bad hb]
            exact SO.bad q.1 hb
          | inr w =>
            obtain ⟨c1, p1⟩ := w
            have z := q.2.2 c1 p1 e
            have y := pon_ z.1
            try dsimp only
            by_cases k9 : tK T n lim p1 = 41
            · rw [if_neg (nn k9)]; exact SO.ok q.1 (y.1 k9) z.2
            · rw [if_pos k9]; exact SO.bad q.1 (y.2 k9)
        · rw [if_neg (fun z => a2 (e40.mp z)), if_neg a2]
          exact SO.eta (rp_ hp hN h5 (by omega) (by omega))
  · rw [if_neg g, if_pos g]
    have hb : CF (f_X7_refuse__4 (1 : Int32) s1) (sBad T n lim 1 p) := rf0_ (c := 1) h (by decide) (by decide) (fun _ => rfl)
    unfold f_X5_readOne__14_29 f_X5_readOne__14_57
    rw [if_neg hb.ne]
    exact SO.bad rfl hb
theorem rlc_14 (hN : CN s2 R N) (x : Int32) : ∀ (k f : Nat) (c p m : Nat) (x4 : Int32) (s0 s1 : OS), CTK s1 T n lim p → s0.1 4 = nI c → c ≤ 20 → 21 ≤ c + k → m + 1 ≤ c → k < f → SO T n lim s2 (f_X5_readCond__14_13 x f x4 (nI m) s0 s1 s2) (sMore T n lim (sSaid T n lim R N 3) k c p) := by
  intro k
  induction k with
  | zero => intro f c p m x4 s0 s1 _ _ _ _ _; omega
  | succ k ih =>
    intro f c p m x4 s0 s1 h h4 hc hk hm hf
    obtain ⟨g, rfl⟩ : ∃ g, f = g + 1 := ⟨f - 1, by omega⟩
    rw [f_X5_readCond__14_13, if_neg (show ¬ (20 : Int32) ≤ nI m from nI_ge (b := 20) (by omega) (by decide)), see2_ h]
    by_cases a : tK T n lim p = 144 ∨ tK T n lim p = 145
    · rw [if_pos a, sMore_s a]
      have t : ∀ (y4 x6 : Int32) (t0 : OS), t0.1 4 = nI c → SO T n lim s2 (f_X5_readCond__14_72 (f_X5_readCond__14_13 x g) x y4 (nI m) x6 t0 (f_X7_pass__6 s1) s2) (sAft T n lim (sSaid T n lim R N 3) k (sSaid T n lim R N 3 c (tA T n lim p))) := by
        intro y4 x6 t0 ht
        have q := ro_14 (ps6_ h (by omega) (by omega)) hN ht hc x
        unfold f_X5_readCond__14_72
        generalize f_X5_readOne__14 x t0 (f_X7_pass__6 s1) s2 = r at q ⊢
        rw [q.1]
        cases e : sSaid T n lim R N 3 c (tA T n lim p) with
        | inl b =>
          have hb := q.2.1 b e
          by_cases z : x6 = 0
          · rw [if_pos z]; exact rb_14 (by omega) hb
          · rw [if_neg z]; exact rb_14 (by omega) hb
        | inr w =>
          obtain ⟨c1, p1⟩ := w
          have z := q.2.2 c1 p1 e
          have y := sSaid_c _ _ _ _ _ e
          rw [nI_1]
          by_cases z9 : x6 = 0
          · rw [if_pos z9]; exact ih g c1 p1 (m + 1) _ _ _ z.1 (by rw [as4]; exact z.2) y.2 (by omega) (by omega) (by omega)
          · rw [if_neg z9]; exact ih g c1 p1 (m + 1) _ _ _ z.1 z.2 y.2 (by omega) (by omega) (by omega)
      unfold f_X5_readCond__14_40
      by_cases z1 : f_X7_sees__1 (144 : Int32) s1 = 0
      · rw [if_pos z1]; exact t _ _ _ h4
      · rw [if_neg z1]
        by_cases z2 : x4 = 0
        · rw [if_pos z2]; exact t _ _ _ h4
        · rw [if_neg z2]; exact t _ _ _ (by rw [as4]; exact h4)
    · rw [if_neg a, sMore_n a]
      unfold f_X5_readCond__14_106
      by_cases z2 : x4 = 0
      · rw [if_pos z2]; exact SO.ok rfl h h4
      · rw [if_neg z2]; exact SO.ok rfl h (by rw [as4]; exact h4)
theorem rc_14 (h : CTK s1 T n lim p) (hN : CN s2 R N) (h4 : s0.1 4 = nI c) (hc : c ≤ 20) (x : Int32) : SO T n lim s2 (f_X5_readCond__14 x s0 s1 s2) (sCond T n lim (sSaid T n lim R N 3) c p) := by
  have q := ro_14 h hN h4 hc x
  unfold f_X5_readCond__14 sCond
  generalize f_X5_readOne__14 x s0 s1 s2 = r at q ⊢
  rw [q.1]
  cases e : sSaid T n lim R N 3 c p with
  | inl b => exact rb_14 (by decide) (q.2.1 b e)
  | inr w =>
    obtain ⟨c1, p1⟩ := w
    have z := q.2.2 c1 p1 e
    have y := sSaid_c _ _ _ _ _ e
    have w := rlc_14 hN x 21 4294967298 c1 p1 0 0 r.1 r.2.1 z.1 z.2 y.2 (by omega) (by omega) (by decide)
    rw [nI_0] at w
    exact w
end
section
variable {T : Nat → Nat} {n lim : Nat} {R : Nat → Int32} {N : Nat → Nat} {s0 s1 s2 : OS} {c p : Nat}
theorem hc_13 (x : Int32) (h : CTK s1 T n lim p) : f_X5_readOne__13 x s0 s1 s2 = if tK T n lim p = 40 ∨ (146 ≤ tK T n lim p ∧ tK T n lim p ≤ 155) then f_X5_readOne__13_37 x (nI (tK T n lim p)) s0 s1 s2 else f_X5_readOne__13_29 x (s1.1 7) s0 s1 s2 := by
  have c40 : (s1.1 7 = (40 : Int32)) ↔ tK T n lim p = 40 := ck_eq (v := 40) h.1 (by decide) (by decide)
  have kl := tK_lt (n := n) (lim := lim) (p := p) h.1.1.2.2.2.2.2.2.1
  unfold f_X5_readOne__13
  by_cases g : tK T n lim p = 40 ∨ (146 ≤ tK T n lim p ∧ tK T n lim p ≤ 155)
  · rw [if_pos g]
    have e7 : s1.1 7 = nI (tK T n lim p) := (ck_eq h.1 (by omega) kl).mpr rfl
    rcases g with g | g
    · rw [if_pos (c40.mpr g), e7]
    · rw [if_neg (fun q => by have := c40.mp q; omega), e7, if_neg (show ¬ nI (tK T n lim p) < (146 : Int32) from nI_nlt (b := 146) (by omega) (by omega)), if_pos (show nI (tK T n lim p) ≤ (155 : Int32) from nI_le (b := 155) (by omega) (by decide))]
  · rw [if_neg g, if_neg (fun q => by have := c40.mp q; omega)]
    have kk := kc_lt (n := n) (lim := lim) (p := p) h.1.1.2.2.2.2.2.2.1
    have nk : ¬ (146 ≤ kc T n lim p ∧ kc T n lim p ≤ 155) := fun q => by
      have z := (kc_eq (T := T) (n := n) (lim := lim) (p := p) (v := kc T n lim p) (by omega)).mp rfl
      omega
    generalize e7 : s1.1 7 = y
    rw [h.1.2.2.1] at e7
    subst e7
    by_cases z : kc T n lim p < 146
    · rw [if_pos (show nI (kc T n lim p) < (146 : Int32) from nI_lt (b := 146) z (by decide))]
    · rw [if_neg (show ¬ nI (kc T n lim p) < (146 : Int32) from nI_nlt (b := 146) (by omega) (by omega)), if_neg (show ¬ nI (kc T n lim p) ≤ (155 : Int32) from nI_ge (a := 155) (by omega) (by omega))]
theorem rb_13 {f : Nat} {x x4 x5 : Int32} {e : Nat × Nat} (hf : 0 < f) (h : CF s1 e) : SO T n lim s2 (f_X5_readCond__13_13 x f x4 x5 s0 s1 s2) (.inl e) := by
  obtain ⟨g, rfl⟩ : ∃ g, f = g + 1 := ⟨f - 1, by omega⟩
  rw [f_X5_readCond__13_13, see2_bad h, if22]
  unfold f_X5_readCond__13_106
  by_cases z : x4 = 0
  · rw [if_pos z]; exact SO.bad rfl h
  · rw [if_neg z]; exact SO.bad rfl h
theorem ro_13 (h : CTK s1 T n lim p) (hN : CN s2 R N) (h4 : s0.1 4 = nI c) (hc : c ≤ 20) (x : Int32) : SO T n lim s2 (f_X5_readOne__13 x s0 s1 s2) (sSaid T n lim R N 4 c p) := by
  rw [hc_13 x h, show sSaid T n lim R N 4 c p = _ from sSaid_s (d := 3)]
  by_cases g : tK T n lim p = 40 ∨ (146 ≤ tK T n lim p ∧ tK T n lim p ≤ 155)
  · rw [if_pos g, if_neg (show ¬ ¬ (tK T n lim p = 40 ∨ (146 ≤ tK T n lim p ∧ tK T n lim p ≤ 155)) from fun q => q g)]
    unfold f_X5_readOne__13_37
    by_cases k : 20 ≤ c
    · rw [if_pos (show (20 : Int32) ≤ s0.1 4 by rw [h4]; exact nI_le (a := 20) k (by omega)), if_pos k]
      have hb : CF (f_X7_refuse__4 (4 : Int32) s1) (sBad T n lim 4 p) := rf0_ (c := 4) h (by decide) (by decide) (fun q => by omega)
      unfold f_X5_readOne__13_52 f_X5_readOne__13_57
      rw [if_neg hb.ne]
      exact SO.bad rfl hb
    · rw [if_neg (show ¬ (20 : Int32) ≤ s0.1 4 by rw [h4]; exact nI_ge (b := 20) (by omega) (by decide)), if_neg k]
      unfold f_X5_readOne__13_57
      rw [if_pos h.2]
      have hp : CTK (f_X7_pass__5 s1) T n lim (tA T n lim p) := ps_ h (by omega) (by omega)
      have h5 : (sI s0 4 (s0.1 4 + 1)).1 4 = nI (c + 1) := by rw [sI_get, h4, nI_1]
      have e146 : nI (tK T n lim p) = (146 : Int32) ↔ tK T n lim p = 146 := nI_eq (b := 146) (by omega) (by decide)
      have e40 : nI (tK T n lim p) = (40 : Int32) ↔ tK T n lim p = 40 := nI_eq (b := 40) (by omega) (by decide)
      by_cases a1 : tK T n lim p = 146
      · rw [if_pos (e146.mpr a1), if_pos a1]
        exact SO.st (ro_14 hp hN h5 (by omega) (x + 1))
      · rw [if_neg (fun z => a1 (e146.mp z)), if_neg a1]
        by_cases a2 : tK T n lim p = 40
        · rw [if_pos (e40.mpr a2), if_pos a2]
          have q := rc_14 hp hN h5 (by omega) (x + 1)
          generalize f_X5_readCond__14 (x + 1) (sI s0 4 (s0.1 4 + 1)) (f_X7_pass__5 s1) s2 = r at q ⊢
          cases e : sCond T n lim (sSaid T n lim R N 3) (c + 1) (tA T n lim p) with
          | inl b =>
            have hb := q.2.1 b e
            rw [pon_bad hb]
            exact SO.bad q.1 hb
          | inr w =>
            obtain ⟨c1, p1⟩ := w
            have z := q.2.2 c1 p1 e
            have y := pon_ z.1
            try dsimp only
            by_cases k9 : tK T n lim p1 = 41
            · rw [if_neg (nn k9)]; exact SO.ok q.1 (y.1 k9) z.2
            · rw [if_pos k9]; exact SO.bad q.1 (y.2 k9)
        · rw [if_neg (fun z => a2 (e40.mp z)), if_neg a2]
          exact SO.eta (rp_ hp hN h5 (by omega) (by omega))
  · rw [if_neg g, if_pos g]
    have hb : CF (f_X7_refuse__4 (1 : Int32) s1) (sBad T n lim 1 p) := rf0_ (c := 1) h (by decide) (by decide) (fun _ => rfl)
    unfold f_X5_readOne__13_29 f_X5_readOne__13_57
    rw [if_neg hb.ne]
    exact SO.bad rfl hb
theorem rlc_13 (hN : CN s2 R N) (x : Int32) : ∀ (k f : Nat) (c p m : Nat) (x4 : Int32) (s0 s1 : OS), CTK s1 T n lim p → s0.1 4 = nI c → c ≤ 20 → 21 ≤ c + k → m + 1 ≤ c → k < f → SO T n lim s2 (f_X5_readCond__13_13 x f x4 (nI m) s0 s1 s2) (sMore T n lim (sSaid T n lim R N 4) k c p) := by
  intro k
  induction k with
  | zero => intro f c p m x4 s0 s1 _ _ _ _ _; omega
  | succ k ih =>
    intro f c p m x4 s0 s1 h h4 hc hk hm hf
    obtain ⟨g, rfl⟩ : ∃ g, f = g + 1 := ⟨f - 1, by omega⟩
    rw [f_X5_readCond__13_13, if_neg (show ¬ (20 : Int32) ≤ nI m from nI_ge (b := 20) (by omega) (by decide)), see2_ h]
    by_cases a : tK T n lim p = 144 ∨ tK T n lim p = 145
    · rw [if_pos a, sMore_s a]
      have t : ∀ (y4 x6 : Int32) (t0 : OS), t0.1 4 = nI c → SO T n lim s2 (f_X5_readCond__13_72 (f_X5_readCond__13_13 x g) x y4 (nI m) x6 t0 (f_X7_pass__6 s1) s2) (sAft T n lim (sSaid T n lim R N 4) k (sSaid T n lim R N 4 c (tA T n lim p))) := by
        intro y4 x6 t0 ht
        have q := ro_13 (ps6_ h (by omega) (by omega)) hN ht hc x
        unfold f_X5_readCond__13_72
        generalize f_X5_readOne__13 x t0 (f_X7_pass__6 s1) s2 = r at q ⊢
        rw [q.1]
        cases e : sSaid T n lim R N 4 c (tA T n lim p) with
        | inl b =>
          have hb := q.2.1 b e
          by_cases z : x6 = 0
          · rw [if_pos z]; exact rb_13 (by omega) hb
          · rw [if_neg z]; exact rb_13 (by omega) hb
        | inr w =>
          obtain ⟨c1, p1⟩ := w
          have z := q.2.2 c1 p1 e
          have y := sSaid_c _ _ _ _ _ e
          rw [nI_1]
          by_cases z9 : x6 = 0
          · rw [if_pos z9]; exact ih g c1 p1 (m + 1) _ _ _ z.1 (by rw [as4]; exact z.2) y.2 (by omega) (by omega) (by omega)
          · rw [if_neg z9]; exact ih g c1 p1 (m + 1) _ _ _ z.1 z.2 y.2 (by omega) (by omega) (by omega)
      unfold f_X5_readCond__13_40
      by_cases z1 : f_X7_sees__1 (144 : Int32) s1 = 0
      · rw [if_pos z1]; exact t _ _ _ h4
      · rw [if_neg z1]
        by_cases z2 : x4 = 0
        · rw [if_pos z2]; exact t _ _ _ h4
        · rw [if_neg z2]; exact t _ _ _ (by rw [as4]; exact h4)
    · rw [if_neg a, sMore_n a]
      unfold f_X5_readCond__13_106
      by_cases z2 : x4 = 0
      · rw [if_pos z2]; exact SO.ok rfl h h4
      · rw [if_neg z2]; exact SO.ok rfl h (by rw [as4]; exact h4)
theorem rc_13 (h : CTK s1 T n lim p) (hN : CN s2 R N) (h4 : s0.1 4 = nI c) (hc : c ≤ 20) (x : Int32) : SO T n lim s2 (f_X5_readCond__13 x s0 s1 s2) (sCond T n lim (sSaid T n lim R N 4) c p) := by
  have q := ro_13 h hN h4 hc x
  unfold f_X5_readCond__13 sCond
  generalize f_X5_readOne__13 x s0 s1 s2 = r at q ⊢
  rw [q.1]
  cases e : sSaid T n lim R N 4 c p with
  | inl b => exact rb_13 (by decide) (q.2.1 b e)
  | inr w =>
    obtain ⟨c1, p1⟩ := w
    have z := q.2.2 c1 p1 e
    have y := sSaid_c _ _ _ _ _ e
    have w := rlc_13 hN x 21 4294967298 c1 p1 0 0 r.1 r.2.1 z.1 z.2 y.2 (by omega) (by omega) (by decide)
    rw [nI_0] at w
    exact w
end
section
variable {T : Nat → Nat} {n lim : Nat} {R : Nat → Int32} {N : Nat → Nat} {s0 s1 s2 : OS} {c p : Nat}
theorem hc_12 (x : Int32) (h : CTK s1 T n lim p) : f_X5_readOne__12 x s0 s1 s2 = if tK T n lim p = 40 ∨ (146 ≤ tK T n lim p ∧ tK T n lim p ≤ 155) then f_X5_readOne__12_37 x (nI (tK T n lim p)) s0 s1 s2 else f_X5_readOne__12_29 x (s1.1 7) s0 s1 s2 := by
  have c40 : (s1.1 7 = (40 : Int32)) ↔ tK T n lim p = 40 := ck_eq (v := 40) h.1 (by decide) (by decide)
  have kl := tK_lt (n := n) (lim := lim) (p := p) h.1.1.2.2.2.2.2.2.1
  unfold f_X5_readOne__12
  by_cases g : tK T n lim p = 40 ∨ (146 ≤ tK T n lim p ∧ tK T n lim p ≤ 155)
  · rw [if_pos g]
    have e7 : s1.1 7 = nI (tK T n lim p) := (ck_eq h.1 (by omega) kl).mpr rfl
    rcases g with g | g
    · rw [if_pos (c40.mpr g), e7]
    · rw [if_neg (fun q => by have := c40.mp q; omega), e7, if_neg (show ¬ nI (tK T n lim p) < (146 : Int32) from nI_nlt (b := 146) (by omega) (by omega)), if_pos (show nI (tK T n lim p) ≤ (155 : Int32) from nI_le (b := 155) (by omega) (by decide))]
  · rw [if_neg g, if_neg (fun q => by have := c40.mp q; omega)]
    have kk := kc_lt (n := n) (lim := lim) (p := p) h.1.1.2.2.2.2.2.2.1
    have nk : ¬ (146 ≤ kc T n lim p ∧ kc T n lim p ≤ 155) := fun q => by
      have z := (kc_eq (T := T) (n := n) (lim := lim) (p := p) (v := kc T n lim p) (by omega)).mp rfl
      omega
    generalize e7 : s1.1 7 = y
    rw [h.1.2.2.1] at e7
    subst e7
    by_cases z : kc T n lim p < 146
    · rw [if_pos (show nI (kc T n lim p) < (146 : Int32) from nI_lt (b := 146) z (by decide))]
    · rw [if_neg (show ¬ nI (kc T n lim p) < (146 : Int32) from nI_nlt (b := 146) (by omega) (by omega)), if_neg (show ¬ nI (kc T n lim p) ≤ (155 : Int32) from nI_ge (a := 155) (by omega) (by omega))]
theorem rb_12 {f : Nat} {x x4 x5 : Int32} {e : Nat × Nat} (hf : 0 < f) (h : CF s1 e) : SO T n lim s2 (f_X5_readCond__12_13 x f x4 x5 s0 s1 s2) (.inl e) := by
  obtain ⟨g, rfl⟩ : ∃ g, f = g + 1 := ⟨f - 1, by omega⟩
  rw [f_X5_readCond__12_13, see2_bad h, if22]
  unfold f_X5_readCond__12_106
  by_cases z : x4 = 0
  · rw [if_pos z]; exact SO.bad rfl h
  · rw [if_neg z]; exact SO.bad rfl h
theorem ro_12 (h : CTK s1 T n lim p) (hN : CN s2 R N) (h4 : s0.1 4 = nI c) (hc : c ≤ 20) (x : Int32) : SO T n lim s2 (f_X5_readOne__12 x s0 s1 s2) (sSaid T n lim R N 5 c p) := by
  rw [hc_12 x h, show sSaid T n lim R N 5 c p = _ from sSaid_s (d := 4)]
  by_cases g : tK T n lim p = 40 ∨ (146 ≤ tK T n lim p ∧ tK T n lim p ≤ 155)
  · rw [if_pos g, if_neg (show ¬ ¬ (tK T n lim p = 40 ∨ (146 ≤ tK T n lim p ∧ tK T n lim p ≤ 155)) from fun q => q g)]
    unfold f_X5_readOne__12_37
    by_cases k : 20 ≤ c
    · rw [if_pos (show (20 : Int32) ≤ s0.1 4 by rw [h4]; exact nI_le (a := 20) k (by omega)), if_pos k]
      have hb : CF (f_X7_refuse__4 (4 : Int32) s1) (sBad T n lim 4 p) := rf0_ (c := 4) h (by decide) (by decide) (fun q => by omega)
      unfold f_X5_readOne__12_52 f_X5_readOne__12_57
      rw [if_neg hb.ne]
      exact SO.bad rfl hb
    · rw [if_neg (show ¬ (20 : Int32) ≤ s0.1 4 by rw [h4]; exact nI_ge (b := 20) (by omega) (by decide)), if_neg k]
      unfold f_X5_readOne__12_57
      rw [if_pos h.2]
      have hp : CTK (f_X7_pass__5 s1) T n lim (tA T n lim p) := ps_ h (by omega) (by omega)
      have h5 : (sI s0 4 (s0.1 4 + 1)).1 4 = nI (c + 1) := by rw [sI_get, h4, nI_1]
      have e146 : nI (tK T n lim p) = (146 : Int32) ↔ tK T n lim p = 146 := nI_eq (b := 146) (by omega) (by decide)
      have e40 : nI (tK T n lim p) = (40 : Int32) ↔ tK T n lim p = 40 := nI_eq (b := 40) (by omega) (by decide)
      by_cases a1 : tK T n lim p = 146
      · rw [if_pos (e146.mpr a1), if_pos a1]
        exact SO.st (ro_13 hp hN h5 (by omega) (x + 1))
      · rw [if_neg (fun z => a1 (e146.mp z)), if_neg a1]
        by_cases a2 : tK T n lim p = 40
        · rw [if_pos (e40.mpr a2), if_pos a2]
          have q := rc_13 hp hN h5 (by omega) (x + 1)
          generalize f_X5_readCond__13 (x + 1) (sI s0 4 (s0.1 4 + 1)) (f_X7_pass__5 s1) s2 = r at q ⊢
          cases e : sCond T n lim (sSaid T n lim R N 4) (c + 1) (tA T n lim p) with
          | inl b =>
            have hb := q.2.1 b e
            rw [pon_bad hb]
            exact SO.bad q.1 hb
          | inr w =>
            obtain ⟨c1, p1⟩ := w
            have z := q.2.2 c1 p1 e
            have y := pon_ z.1
            try dsimp only
            by_cases k9 : tK T n lim p1 = 41
            · rw [if_neg (nn k9)]; exact SO.ok q.1 (y.1 k9) z.2
            · rw [if_pos k9]; exact SO.bad q.1 (y.2 k9)
        · rw [if_neg (fun z => a2 (e40.mp z)), if_neg a2]
          exact SO.eta (rp_ hp hN h5 (by omega) (by omega))
  · rw [if_neg g, if_pos g]
    have hb : CF (f_X7_refuse__4 (1 : Int32) s1) (sBad T n lim 1 p) := rf0_ (c := 1) h (by decide) (by decide) (fun _ => rfl)
    unfold f_X5_readOne__12_29 f_X5_readOne__12_57
    rw [if_neg hb.ne]
    exact SO.bad rfl hb
theorem rlc_12 (hN : CN s2 R N) (x : Int32) : ∀ (k f : Nat) (c p m : Nat) (x4 : Int32) (s0 s1 : OS), CTK s1 T n lim p → s0.1 4 = nI c → c ≤ 20 → 21 ≤ c + k → m + 1 ≤ c → k < f → SO T n lim s2 (f_X5_readCond__12_13 x f x4 (nI m) s0 s1 s2) (sMore T n lim (sSaid T n lim R N 5) k c p) := by
  intro k
  induction k with
  | zero => intro f c p m x4 s0 s1 _ _ _ _ _; omega
  | succ k ih =>
    intro f c p m x4 s0 s1 h h4 hc hk hm hf
    obtain ⟨g, rfl⟩ : ∃ g, f = g + 1 := ⟨f - 1, by omega⟩
    rw [f_X5_readCond__12_13, if_neg (show ¬ (20 : Int32) ≤ nI m from nI_ge (b := 20) (by omega) (by decide)), see2_ h]
    by_cases a : tK T n lim p = 144 ∨ tK T n lim p = 145
    · rw [if_pos a, sMore_s a]
      have t : ∀ (y4 x6 : Int32) (t0 : OS), t0.1 4 = nI c → SO T n lim s2 (f_X5_readCond__12_72 (f_X5_readCond__12_13 x g) x y4 (nI m) x6 t0 (f_X7_pass__6 s1) s2) (sAft T n lim (sSaid T n lim R N 5) k (sSaid T n lim R N 5 c (tA T n lim p))) := by
        intro y4 x6 t0 ht
        have q := ro_12 (ps6_ h (by omega) (by omega)) hN ht hc x
        unfold f_X5_readCond__12_72
        generalize f_X5_readOne__12 x t0 (f_X7_pass__6 s1) s2 = r at q ⊢
        rw [q.1]
        cases e : sSaid T n lim R N 5 c (tA T n lim p) with
        | inl b =>
          have hb := q.2.1 b e
          by_cases z : x6 = 0
          · rw [if_pos z]; exact rb_12 (by omega) hb
          · rw [if_neg z]; exact rb_12 (by omega) hb
        | inr w =>
          obtain ⟨c1, p1⟩ := w
          have z := q.2.2 c1 p1 e
          have y := sSaid_c _ _ _ _ _ e
          rw [nI_1]
          by_cases z9 : x6 = 0
          · rw [if_pos z9]; exact ih g c1 p1 (m + 1) _ _ _ z.1 (by rw [as4]; exact z.2) y.2 (by omega) (by omega) (by omega)
          · rw [if_neg z9]; exact ih g c1 p1 (m + 1) _ _ _ z.1 z.2 y.2 (by omega) (by omega) (by omega)
      unfold f_X5_readCond__12_40
      by_cases z1 : f_X7_sees__1 (144 : Int32) s1 = 0
      · rw [if_pos z1]; exact t _ _ _ h4
      · rw [if_neg z1]
        by_cases z2 : x4 = 0
        · rw [if_pos z2]; exact t _ _ _ h4
        · rw [if_neg z2]; exact t _ _ _ (by rw [as4]; exact h4)
    · rw [if_neg a, sMore_n a]
      unfold f_X5_readCond__12_106
      by_cases z2 : x4 = 0
      · rw [if_pos z2]; exact SO.ok rfl h h4
      · rw [if_neg z2]; exact SO.ok rfl h (by rw [as4]; exact h4)
theorem rc_12 (h : CTK s1 T n lim p) (hN : CN s2 R N) (h4 : s0.1 4 = nI c) (hc : c ≤ 20) (x : Int32) : SO T n lim s2 (f_X5_readCond__12 x s0 s1 s2) (sCond T n lim (sSaid T n lim R N 5) c p) := by
  have q := ro_12 h hN h4 hc x
  unfold f_X5_readCond__12 sCond
  generalize f_X5_readOne__12 x s0 s1 s2 = r at q ⊢
  rw [q.1]
  cases e : sSaid T n lim R N 5 c p with
  | inl b => exact rb_12 (by decide) (q.2.1 b e)
  | inr w =>
    obtain ⟨c1, p1⟩ := w
    have z := q.2.2 c1 p1 e
    have y := sSaid_c _ _ _ _ _ e
    have w := rlc_12 hN x 21 4294967298 c1 p1 0 0 r.1 r.2.1 z.1 z.2 y.2 (by omega) (by omega) (by decide)
    rw [nI_0] at w
    exact w
end
section
variable {T : Nat → Nat} {n lim : Nat} {R : Nat → Int32} {N : Nat → Nat} {s0 s1 s2 : OS} {c p : Nat}
theorem hc_11 (x : Int32) (h : CTK s1 T n lim p) : f_X5_readOne__11 x s0 s1 s2 = if tK T n lim p = 40 ∨ (146 ≤ tK T n lim p ∧ tK T n lim p ≤ 155) then f_X5_readOne__11_37 x (nI (tK T n lim p)) s0 s1 s2 else f_X5_readOne__11_29 x (s1.1 7) s0 s1 s2 := by
  have c40 : (s1.1 7 = (40 : Int32)) ↔ tK T n lim p = 40 := ck_eq (v := 40) h.1 (by decide) (by decide)
  have kl := tK_lt (n := n) (lim := lim) (p := p) h.1.1.2.2.2.2.2.2.1
  unfold f_X5_readOne__11
  by_cases g : tK T n lim p = 40 ∨ (146 ≤ tK T n lim p ∧ tK T n lim p ≤ 155)
  · rw [if_pos g]
    have e7 : s1.1 7 = nI (tK T n lim p) := (ck_eq h.1 (by omega) kl).mpr rfl
    rcases g with g | g
    · rw [if_pos (c40.mpr g), e7]
    · rw [if_neg (fun q => by have := c40.mp q; omega), e7, if_neg (show ¬ nI (tK T n lim p) < (146 : Int32) from nI_nlt (b := 146) (by omega) (by omega)), if_pos (show nI (tK T n lim p) ≤ (155 : Int32) from nI_le (b := 155) (by omega) (by decide))]
  · rw [if_neg g, if_neg (fun q => by have := c40.mp q; omega)]
    have kk := kc_lt (n := n) (lim := lim) (p := p) h.1.1.2.2.2.2.2.2.1
    have nk : ¬ (146 ≤ kc T n lim p ∧ kc T n lim p ≤ 155) := fun q => by
      have z := (kc_eq (T := T) (n := n) (lim := lim) (p := p) (v := kc T n lim p) (by omega)).mp rfl
      omega
    generalize e7 : s1.1 7 = y
    rw [h.1.2.2.1] at e7
    subst e7
    by_cases z : kc T n lim p < 146
    · rw [if_pos (show nI (kc T n lim p) < (146 : Int32) from nI_lt (b := 146) z (by decide))]
    · rw [if_neg (show ¬ nI (kc T n lim p) < (146 : Int32) from nI_nlt (b := 146) (by omega) (by omega)), if_neg (show ¬ nI (kc T n lim p) ≤ (155 : Int32) from nI_ge (a := 155) (by omega) (by omega))]
theorem rb_11 {f : Nat} {x x4 x5 : Int32} {e : Nat × Nat} (hf : 0 < f) (h : CF s1 e) : SO T n lim s2 (f_X5_readCond__11_13 x f x4 x5 s0 s1 s2) (.inl e) := by
  obtain ⟨g, rfl⟩ : ∃ g, f = g + 1 := ⟨f - 1, by omega⟩
  rw [f_X5_readCond__11_13, see2_bad h, if22]
  unfold f_X5_readCond__11_106
  by_cases z : x4 = 0
  · rw [if_pos z]; exact SO.bad rfl h
  · rw [if_neg z]; exact SO.bad rfl h
theorem ro_11 (h : CTK s1 T n lim p) (hN : CN s2 R N) (h4 : s0.1 4 = nI c) (hc : c ≤ 20) (x : Int32) : SO T n lim s2 (f_X5_readOne__11 x s0 s1 s2) (sSaid T n lim R N 6 c p) := by
  rw [hc_11 x h, show sSaid T n lim R N 6 c p = _ from sSaid_s (d := 5)]
  by_cases g : tK T n lim p = 40 ∨ (146 ≤ tK T n lim p ∧ tK T n lim p ≤ 155)
  · rw [if_pos g, if_neg (show ¬ ¬ (tK T n lim p = 40 ∨ (146 ≤ tK T n lim p ∧ tK T n lim p ≤ 155)) from fun q => q g)]
    unfold f_X5_readOne__11_37
    by_cases k : 20 ≤ c
    · rw [if_pos (show (20 : Int32) ≤ s0.1 4 by rw [h4]; exact nI_le (a := 20) k (by omega)), if_pos k]
      have hb : CF (f_X7_refuse__4 (4 : Int32) s1) (sBad T n lim 4 p) := rf0_ (c := 4) h (by decide) (by decide) (fun q => by omega)
      unfold f_X5_readOne__11_52 f_X5_readOne__11_57
      rw [if_neg hb.ne]
      exact SO.bad rfl hb
    · rw [if_neg (show ¬ (20 : Int32) ≤ s0.1 4 by rw [h4]; exact nI_ge (b := 20) (by omega) (by decide)), if_neg k]
      unfold f_X5_readOne__11_57
      rw [if_pos h.2]
      have hp : CTK (f_X7_pass__5 s1) T n lim (tA T n lim p) := ps_ h (by omega) (by omega)
      have h5 : (sI s0 4 (s0.1 4 + 1)).1 4 = nI (c + 1) := by rw [sI_get, h4, nI_1]
      have e146 : nI (tK T n lim p) = (146 : Int32) ↔ tK T n lim p = 146 := nI_eq (b := 146) (by omega) (by decide)
      have e40 : nI (tK T n lim p) = (40 : Int32) ↔ tK T n lim p = 40 := nI_eq (b := 40) (by omega) (by decide)
      by_cases a1 : tK T n lim p = 146
      · rw [if_pos (e146.mpr a1), if_pos a1]
        exact SO.st (ro_12 hp hN h5 (by omega) (x + 1))
      · rw [if_neg (fun z => a1 (e146.mp z)), if_neg a1]
        by_cases a2 : tK T n lim p = 40
        · rw [if_pos (e40.mpr a2), if_pos a2]
          have q := rc_12 hp hN h5 (by omega) (x + 1)
          generalize f_X5_readCond__12 (x + 1) (sI s0 4 (s0.1 4 + 1)) (f_X7_pass__5 s1) s2 = r at q ⊢
          cases e : sCond T n lim (sSaid T n lim R N 5) (c + 1) (tA T n lim p) with
          | inl b =>
            have hb := q.2.1 b e
            rw [pon_bad hb]
            exact SO.bad q.1 hb
          | inr w =>
            obtain ⟨c1, p1⟩ := w
            have z := q.2.2 c1 p1 e
            have y := pon_ z.1
            try dsimp only
            by_cases k9 : tK T n lim p1 = 41
            · rw [if_neg (nn k9)]; exact SO.ok q.1 (y.1 k9) z.2
            · rw [if_pos k9]; exact SO.bad q.1 (y.2 k9)
        · rw [if_neg (fun z => a2 (e40.mp z)), if_neg a2]
          exact SO.eta (rp_ hp hN h5 (by omega) (by omega))
  · rw [if_neg g, if_pos g]
    have hb : CF (f_X7_refuse__4 (1 : Int32) s1) (sBad T n lim 1 p) := rf0_ (c := 1) h (by decide) (by decide) (fun _ => rfl)
    unfold f_X5_readOne__11_29 f_X5_readOne__11_57
    rw [if_neg hb.ne]
    exact SO.bad rfl hb
theorem rlc_11 (hN : CN s2 R N) (x : Int32) : ∀ (k f : Nat) (c p m : Nat) (x4 : Int32) (s0 s1 : OS), CTK s1 T n lim p → s0.1 4 = nI c → c ≤ 20 → 21 ≤ c + k → m + 1 ≤ c → k < f → SO T n lim s2 (f_X5_readCond__11_13 x f x4 (nI m) s0 s1 s2) (sMore T n lim (sSaid T n lim R N 6) k c p) := by
  intro k
  induction k with
  | zero => intro f c p m x4 s0 s1 _ _ _ _ _; omega
  | succ k ih =>
    intro f c p m x4 s0 s1 h h4 hc hk hm hf
    obtain ⟨g, rfl⟩ : ∃ g, f = g + 1 := ⟨f - 1, by omega⟩
    rw [f_X5_readCond__11_13, if_neg (show ¬ (20 : Int32) ≤ nI m from nI_ge (b := 20) (by omega) (by decide)), see2_ h]
    by_cases a : tK T n lim p = 144 ∨ tK T n lim p = 145
    · rw [if_pos a, sMore_s a]
      have t : ∀ (y4 x6 : Int32) (t0 : OS), t0.1 4 = nI c → SO T n lim s2 (f_X5_readCond__11_72 (f_X5_readCond__11_13 x g) x y4 (nI m) x6 t0 (f_X7_pass__6 s1) s2) (sAft T n lim (sSaid T n lim R N 6) k (sSaid T n lim R N 6 c (tA T n lim p))) := by
        intro y4 x6 t0 ht
        have q := ro_11 (ps6_ h (by omega) (by omega)) hN ht hc x
        unfold f_X5_readCond__11_72
        generalize f_X5_readOne__11 x t0 (f_X7_pass__6 s1) s2 = r at q ⊢
        rw [q.1]
        cases e : sSaid T n lim R N 6 c (tA T n lim p) with
        | inl b =>
          have hb := q.2.1 b e
          by_cases z : x6 = 0
          · rw [if_pos z]; exact rb_11 (by omega) hb
          · rw [if_neg z]; exact rb_11 (by omega) hb
        | inr w =>
          obtain ⟨c1, p1⟩ := w
          have z := q.2.2 c1 p1 e
          have y := sSaid_c _ _ _ _ _ e
          rw [nI_1]
          by_cases z9 : x6 = 0
          · rw [if_pos z9]; exact ih g c1 p1 (m + 1) _ _ _ z.1 (by rw [as4]; exact z.2) y.2 (by omega) (by omega) (by omega)
          · rw [if_neg z9]; exact ih g c1 p1 (m + 1) _ _ _ z.1 z.2 y.2 (by omega) (by omega) (by omega)
      unfold f_X5_readCond__11_40
      by_cases z1 : f_X7_sees__1 (144 : Int32) s1 = 0
      · rw [if_pos z1]; exact t _ _ _ h4
      · rw [if_neg z1]
        by_cases z2 : x4 = 0
        · rw [if_pos z2]; exact t _ _ _ h4
        · rw [if_neg z2]; exact t _ _ _ (by rw [as4]; exact h4)
    · rw [if_neg a, sMore_n a]
      unfold f_X5_readCond__11_106
      by_cases z2 : x4 = 0
      · rw [if_pos z2]; exact SO.ok rfl h h4
      · rw [if_neg z2]; exact SO.ok rfl h (by rw [as4]; exact h4)
theorem rc_11 (h : CTK s1 T n lim p) (hN : CN s2 R N) (h4 : s0.1 4 = nI c) (hc : c ≤ 20) (x : Int32) : SO T n lim s2 (f_X5_readCond__11 x s0 s1 s2) (sCond T n lim (sSaid T n lim R N 6) c p) := by
  have q := ro_11 h hN h4 hc x
  unfold f_X5_readCond__11 sCond
  generalize f_X5_readOne__11 x s0 s1 s2 = r at q ⊢
  rw [q.1]
  cases e : sSaid T n lim R N 6 c p with
  | inl b => exact rb_11 (by decide) (q.2.1 b e)
  | inr w =>
    obtain ⟨c1, p1⟩ := w
    have z := q.2.2 c1 p1 e
    have y := sSaid_c _ _ _ _ _ e
    have w := rlc_11 hN x 21 4294967298 c1 p1 0 0 r.1 r.2.1 z.1 z.2 y.2 (by omega) (by omega) (by decide)
    rw [nI_0] at w
    exact w
end
section
variable {T : Nat → Nat} {n lim : Nat} {R : Nat → Int32} {N : Nat → Nat} {s0 s1 s2 : OS} {c p : Nat}
theorem hc_10 (x : Int32) (h : CTK s1 T n lim p) : f_X5_readOne__10 x s0 s1 s2 = if tK T n lim p = 40 ∨ (146 ≤ tK T n lim p ∧ tK T n lim p ≤ 155) then f_X5_readOne__10_37 x (nI (tK T n lim p)) s0 s1 s2 else f_X5_readOne__10_29 x (s1.1 7) s0 s1 s2 := by
  have c40 : (s1.1 7 = (40 : Int32)) ↔ tK T n lim p = 40 := ck_eq (v := 40) h.1 (by decide) (by decide)
  have kl := tK_lt (n := n) (lim := lim) (p := p) h.1.1.2.2.2.2.2.2.1
  unfold f_X5_readOne__10
  by_cases g : tK T n lim p = 40 ∨ (146 ≤ tK T n lim p ∧ tK T n lim p ≤ 155)
  · rw [if_pos g]
    have e7 : s1.1 7 = nI (tK T n lim p) := (ck_eq h.1 (by omega) kl).mpr rfl
    rcases g with g | g
    · rw [if_pos (c40.mpr g), e7]
    · rw [if_neg (fun q => by have := c40.mp q; omega), e7, if_neg (show ¬ nI (tK T n lim p) < (146 : Int32) from nI_nlt (b := 146) (by omega) (by omega)), if_pos (show nI (tK T n lim p) ≤ (155 : Int32) from nI_le (b := 155) (by omega) (by decide))]
  · rw [if_neg g, if_neg (fun q => by have := c40.mp q; omega)]
    have kk := kc_lt (n := n) (lim := lim) (p := p) h.1.1.2.2.2.2.2.2.1
    have nk : ¬ (146 ≤ kc T n lim p ∧ kc T n lim p ≤ 155) := fun q => by
      have z := (kc_eq (T := T) (n := n) (lim := lim) (p := p) (v := kc T n lim p) (by omega)).mp rfl
      omega
    generalize e7 : s1.1 7 = y
    rw [h.1.2.2.1] at e7
    subst e7
    by_cases z : kc T n lim p < 146
    · rw [if_pos (show nI (kc T n lim p) < (146 : Int32) from nI_lt (b := 146) z (by decide))]
    · rw [if_neg (show ¬ nI (kc T n lim p) < (146 : Int32) from nI_nlt (b := 146) (by omega) (by omega)), if_neg (show ¬ nI (kc T n lim p) ≤ (155 : Int32) from nI_ge (a := 155) (by omega) (by omega))]
theorem rb_10 {f : Nat} {x x4 x5 : Int32} {e : Nat × Nat} (hf : 0 < f) (h : CF s1 e) : SO T n lim s2 (f_X5_readCond__10_13 x f x4 x5 s0 s1 s2) (.inl e) := by
  obtain ⟨g, rfl⟩ : ∃ g, f = g + 1 := ⟨f - 1, by omega⟩
  rw [f_X5_readCond__10_13, see2_bad h, if22]
  unfold f_X5_readCond__10_106
  by_cases z : x4 = 0
  · rw [if_pos z]; exact SO.bad rfl h
  · rw [if_neg z]; exact SO.bad rfl h
theorem ro_10 (h : CTK s1 T n lim p) (hN : CN s2 R N) (h4 : s0.1 4 = nI c) (hc : c ≤ 20) (x : Int32) : SO T n lim s2 (f_X5_readOne__10 x s0 s1 s2) (sSaid T n lim R N 7 c p) := by
  rw [hc_10 x h, show sSaid T n lim R N 7 c p = _ from sSaid_s (d := 6)]
  by_cases g : tK T n lim p = 40 ∨ (146 ≤ tK T n lim p ∧ tK T n lim p ≤ 155)
  · rw [if_pos g, if_neg (show ¬ ¬ (tK T n lim p = 40 ∨ (146 ≤ tK T n lim p ∧ tK T n lim p ≤ 155)) from fun q => q g)]
    unfold f_X5_readOne__10_37
    by_cases k : 20 ≤ c
    · rw [if_pos (show (20 : Int32) ≤ s0.1 4 by rw [h4]; exact nI_le (a := 20) k (by omega)), if_pos k]
      have hb : CF (f_X7_refuse__4 (4 : Int32) s1) (sBad T n lim 4 p) := rf0_ (c := 4) h (by decide) (by decide) (fun q => by omega)
      unfold f_X5_readOne__10_52 f_X5_readOne__10_57
      rw [if_neg hb.ne]
      exact SO.bad rfl hb
    · rw [if_neg (show ¬ (20 : Int32) ≤ s0.1 4 by rw [h4]; exact nI_ge (b := 20) (by omega) (by decide)), if_neg k]
      unfold f_X5_readOne__10_57
      rw [if_pos h.2]
      have hp : CTK (f_X7_pass__5 s1) T n lim (tA T n lim p) := ps_ h (by omega) (by omega)
      have h5 : (sI s0 4 (s0.1 4 + 1)).1 4 = nI (c + 1) := by rw [sI_get, h4, nI_1]
      have e146 : nI (tK T n lim p) = (146 : Int32) ↔ tK T n lim p = 146 := nI_eq (b := 146) (by omega) (by decide)
      have e40 : nI (tK T n lim p) = (40 : Int32) ↔ tK T n lim p = 40 := nI_eq (b := 40) (by omega) (by decide)
      by_cases a1 : tK T n lim p = 146
      · rw [if_pos (e146.mpr a1), if_pos a1]
        exact SO.st (ro_11 hp hN h5 (by omega) (x + 1))
      · rw [if_neg (fun z => a1 (e146.mp z)), if_neg a1]
        by_cases a2 : tK T n lim p = 40
        · rw [if_pos (e40.mpr a2), if_pos a2]
          have q := rc_11 hp hN h5 (by omega) (x + 1)
          generalize f_X5_readCond__11 (x + 1) (sI s0 4 (s0.1 4 + 1)) (f_X7_pass__5 s1) s2 = r at q ⊢
          cases e : sCond T n lim (sSaid T n lim R N 6) (c + 1) (tA T n lim p) with
          | inl b =>
            have hb := q.2.1 b e
            rw [pon_bad hb]
            exact SO.bad q.1 hb
          | inr w =>
            obtain ⟨c1, p1⟩ := w
            have z := q.2.2 c1 p1 e
            have y := pon_ z.1
            try dsimp only
            by_cases k9 : tK T n lim p1 = 41
            · rw [if_neg (nn k9)]; exact SO.ok q.1 (y.1 k9) z.2
            · rw [if_pos k9]; exact SO.bad q.1 (y.2 k9)
        · rw [if_neg (fun z => a2 (e40.mp z)), if_neg a2]
          exact SO.eta (rp_ hp hN h5 (by omega) (by omega))
  · rw [if_neg g, if_pos g]
    have hb : CF (f_X7_refuse__4 (1 : Int32) s1) (sBad T n lim 1 p) := rf0_ (c := 1) h (by decide) (by decide) (fun _ => rfl)
    unfold f_X5_readOne__10_29 f_X5_readOne__10_57
    rw [if_neg hb.ne]
    exact SO.bad rfl hb
theorem rlc_10 (hN : CN s2 R N) (x : Int32) : ∀ (k f : Nat) (c p m : Nat) (x4 : Int32) (s0 s1 : OS), CTK s1 T n lim p → s0.1 4 = nI c → c ≤ 20 → 21 ≤ c + k → m + 1 ≤ c → k < f → SO T n lim s2 (f_X5_readCond__10_13 x f x4 (nI m) s0 s1 s2) (sMore T n lim (sSaid T n lim R N 7) k c p) := by
  intro k
  induction k with
  | zero => intro f c p m x4 s0 s1 _ _ _ _ _; omega
  | succ k ih =>
    intro f c p m x4 s0 s1 h h4 hc hk hm hf
    obtain ⟨g, rfl⟩ : ∃ g, f = g + 1 := ⟨f - 1, by omega⟩
    rw [f_X5_readCond__10_13, if_neg (show ¬ (20 : Int32) ≤ nI m from nI_ge (b := 20) (by omega) (by decide)), see2_ h]
    by_cases a : tK T n lim p = 144 ∨ tK T n lim p = 145
    · rw [if_pos a, sMore_s a]
      have t : ∀ (y4 x6 : Int32) (t0 : OS), t0.1 4 = nI c → SO T n lim s2 (f_X5_readCond__10_72 (f_X5_readCond__10_13 x g) x y4 (nI m) x6 t0 (f_X7_pass__6 s1) s2) (sAft T n lim (sSaid T n lim R N 7) k (sSaid T n lim R N 7 c (tA T n lim p))) := by
        intro y4 x6 t0 ht
        have q := ro_10 (ps6_ h (by omega) (by omega)) hN ht hc x
        unfold f_X5_readCond__10_72
        generalize f_X5_readOne__10 x t0 (f_X7_pass__6 s1) s2 = r at q ⊢
        rw [q.1]
        cases e : sSaid T n lim R N 7 c (tA T n lim p) with
        | inl b =>
          have hb := q.2.1 b e
          by_cases z : x6 = 0
          · rw [if_pos z]; exact rb_10 (by omega) hb
          · rw [if_neg z]; exact rb_10 (by omega) hb
        | inr w =>
          obtain ⟨c1, p1⟩ := w
          have z := q.2.2 c1 p1 e
          have y := sSaid_c _ _ _ _ _ e
          rw [nI_1]
          by_cases z9 : x6 = 0
          · rw [if_pos z9]; exact ih g c1 p1 (m + 1) _ _ _ z.1 (by rw [as4]; exact z.2) y.2 (by omega) (by omega) (by omega)
          · rw [if_neg z9]; exact ih g c1 p1 (m + 1) _ _ _ z.1 z.2 y.2 (by omega) (by omega) (by omega)
      unfold f_X5_readCond__10_40
      by_cases z1 : f_X7_sees__1 (144 : Int32) s1 = 0
      · rw [if_pos z1]; exact t _ _ _ h4
      · rw [if_neg z1]
        by_cases z2 : x4 = 0
        · rw [if_pos z2]; exact t _ _ _ h4
        · rw [if_neg z2]; exact t _ _ _ (by rw [as4]; exact h4)
    · rw [if_neg a, sMore_n a]
      unfold f_X5_readCond__10_106
      by_cases z2 : x4 = 0
      · rw [if_pos z2]; exact SO.ok rfl h h4
      · rw [if_neg z2]; exact SO.ok rfl h (by rw [as4]; exact h4)
theorem rc_10 (h : CTK s1 T n lim p) (hN : CN s2 R N) (h4 : s0.1 4 = nI c) (hc : c ≤ 20) (x : Int32) : SO T n lim s2 (f_X5_readCond__10 x s0 s1 s2) (sCond T n lim (sSaid T n lim R N 7) c p) := by
  have q := ro_10 h hN h4 hc x
  unfold f_X5_readCond__10 sCond
  generalize f_X5_readOne__10 x s0 s1 s2 = r at q ⊢
  rw [q.1]
  cases e : sSaid T n lim R N 7 c p with
  | inl b => exact rb_10 (by decide) (q.2.1 b e)
  | inr w =>
    obtain ⟨c1, p1⟩ := w
    have z := q.2.2 c1 p1 e
    have y := sSaid_c _ _ _ _ _ e
    have w := rlc_10 hN x 21 4294967298 c1 p1 0 0 r.1 r.2.1 z.1 z.2 y.2 (by omega) (by omega) (by decide)
    rw [nI_0] at w
    exact w
end
section
variable {T : Nat → Nat} {n lim : Nat} {R : Nat → Int32} {N : Nat → Nat} {s0 s1 s2 : OS} {c p : Nat}
theorem hc_9 (x : Int32) (h : CTK s1 T n lim p) : f_X5_readOne__9 x s0 s1 s2 = if tK T n lim p = 40 ∨ (146 ≤ tK T n lim p ∧ tK T n lim p ≤ 155) then f_X5_readOne__9_37 x (nI (tK T n lim p)) s0 s1 s2 else f_X5_readOne__9_29 x (s1.1 7) s0 s1 s2 := by
  have c40 : (s1.1 7 = (40 : Int32)) ↔ tK T n lim p = 40 := ck_eq (v := 40) h.1 (by decide) (by decide)
  have kl := tK_lt (n := n) (lim := lim) (p := p) h.1.1.2.2.2.2.2.2.1
  unfold f_X5_readOne__9
  by_cases g : tK T n lim p = 40 ∨ (146 ≤ tK T n lim p ∧ tK T n lim p ≤ 155)
  · rw [if_pos g]
    have e7 : s1.1 7 = nI (tK T n lim p) := (ck_eq h.1 (by omega) kl).mpr rfl
    rcases g with g | g
    · rw [if_pos (c40.mpr g), e7]
    · rw [if_neg (fun q => by have := c40.mp q; omega), e7, if_neg (show ¬ nI (tK T n lim p) < (146 : Int32) from nI_nlt (b := 146) (by omega) (by omega)), if_pos (show nI (tK T n lim p) ≤ (155 : Int32) from nI_le (b := 155) (by omega) (by decide))]
  · rw [if_neg g, if_neg (fun q => by have := c40.mp q; omega)]
    have kk := kc_lt (n := n) (lim := lim) (p := p) h.1.1.2.2.2.2.2.2.1
    have nk : ¬ (146 ≤ kc T n lim p ∧ kc T n lim p ≤ 155) := fun q => by
      have z := (kc_eq (T := T) (n := n) (lim := lim) (p := p) (v := kc T n lim p) (by omega)).mp rfl
      omega
    generalize e7 : s1.1 7 = y
    rw [h.1.2.2.1] at e7
    subst e7
    by_cases z : kc T n lim p < 146
    · rw [if_pos (show nI (kc T n lim p) < (146 : Int32) from nI_lt (b := 146) z (by decide))]
    · rw [if_neg (show ¬ nI (kc T n lim p) < (146 : Int32) from nI_nlt (b := 146) (by omega) (by omega)), if_neg (show ¬ nI (kc T n lim p) ≤ (155 : Int32) from nI_ge (a := 155) (by omega) (by omega))]
theorem rb_9 {f : Nat} {x x4 x5 : Int32} {e : Nat × Nat} (hf : 0 < f) (h : CF s1 e) : SO T n lim s2 (f_X5_readCond__9_13 x f x4 x5 s0 s1 s2) (.inl e) := by
  obtain ⟨g, rfl⟩ : ∃ g, f = g + 1 := ⟨f - 1, by omega⟩
  rw [f_X5_readCond__9_13, see2_bad h, if22]
  unfold f_X5_readCond__9_106
  by_cases z : x4 = 0
  · rw [if_pos z]; exact SO.bad rfl h
  · rw [if_neg z]; exact SO.bad rfl h
theorem ro_9 (h : CTK s1 T n lim p) (hN : CN s2 R N) (h4 : s0.1 4 = nI c) (hc : c ≤ 20) (x : Int32) : SO T n lim s2 (f_X5_readOne__9 x s0 s1 s2) (sSaid T n lim R N 8 c p) := by
  rw [hc_9 x h, show sSaid T n lim R N 8 c p = _ from sSaid_s (d := 7)]
  by_cases g : tK T n lim p = 40 ∨ (146 ≤ tK T n lim p ∧ tK T n lim p ≤ 155)
  · rw [if_pos g, if_neg (show ¬ ¬ (tK T n lim p = 40 ∨ (146 ≤ tK T n lim p ∧ tK T n lim p ≤ 155)) from fun q => q g)]
    unfold f_X5_readOne__9_37
    by_cases k : 20 ≤ c
    · rw [if_pos (show (20 : Int32) ≤ s0.1 4 by rw [h4]; exact nI_le (a := 20) k (by omega)), if_pos k]
      have hb : CF (f_X7_refuse__4 (4 : Int32) s1) (sBad T n lim 4 p) := rf0_ (c := 4) h (by decide) (by decide) (fun q => by omega)
      unfold f_X5_readOne__9_52 f_X5_readOne__9_57
      rw [if_neg hb.ne]
      exact SO.bad rfl hb
    · rw [if_neg (show ¬ (20 : Int32) ≤ s0.1 4 by rw [h4]; exact nI_ge (b := 20) (by omega) (by decide)), if_neg k]
      unfold f_X5_readOne__9_57
      rw [if_pos h.2]
      have hp : CTK (f_X7_pass__5 s1) T n lim (tA T n lim p) := ps_ h (by omega) (by omega)
      have h5 : (sI s0 4 (s0.1 4 + 1)).1 4 = nI (c + 1) := by rw [sI_get, h4, nI_1]
      have e146 : nI (tK T n lim p) = (146 : Int32) ↔ tK T n lim p = 146 := nI_eq (b := 146) (by omega) (by decide)
      have e40 : nI (tK T n lim p) = (40 : Int32) ↔ tK T n lim p = 40 := nI_eq (b := 40) (by omega) (by decide)
      by_cases a1 : tK T n lim p = 146
      · rw [if_pos (e146.mpr a1), if_pos a1]
        exact SO.st (ro_10 hp hN h5 (by omega) (x + 1))
      · rw [if_neg (fun z => a1 (e146.mp z)), if_neg a1]
        by_cases a2 : tK T n lim p = 40
        · rw [if_pos (e40.mpr a2), if_pos a2]
          have q := rc_10 hp hN h5 (by omega) (x + 1)
          generalize f_X5_readCond__10 (x + 1) (sI s0 4 (s0.1 4 + 1)) (f_X7_pass__5 s1) s2 = r at q ⊢
          cases e : sCond T n lim (sSaid T n lim R N 7) (c + 1) (tA T n lim p) with
          | inl b =>
            have hb := q.2.1 b e
            rw [pon_bad hb]
            exact SO.bad q.1 hb
          | inr w =>
            obtain ⟨c1, p1⟩ := w
            have z := q.2.2 c1 p1 e
            have y := pon_ z.1
            try dsimp only
            by_cases k9 : tK T n lim p1 = 41
            · rw [if_neg (nn k9)]; exact SO.ok q.1 (y.1 k9) z.2
            · rw [if_pos k9]; exact SO.bad q.1 (y.2 k9)
        · rw [if_neg (fun z => a2 (e40.mp z)), if_neg a2]
          exact SO.eta (rp_ hp hN h5 (by omega) (by omega))
  · rw [if_neg g, if_pos g]
    have hb : CF (f_X7_refuse__4 (1 : Int32) s1) (sBad T n lim 1 p) := rf0_ (c := 1) h (by decide) (by decide) (fun _ => rfl)
    unfold f_X5_readOne__9_29 f_X5_readOne__9_57
    rw [if_neg hb.ne]
    exact SO.bad rfl hb
theorem rlc_9 (hN : CN s2 R N) (x : Int32) : ∀ (k f : Nat) (c p m : Nat) (x4 : Int32) (s0 s1 : OS), CTK s1 T n lim p → s0.1 4 = nI c → c ≤ 20 → 21 ≤ c + k → m + 1 ≤ c → k < f → SO T n lim s2 (f_X5_readCond__9_13 x f x4 (nI m) s0 s1 s2) (sMore T n lim (sSaid T n lim R N 8) k c p) := by
  intro k
  induction k with
  | zero => intro f c p m x4 s0 s1 _ _ _ _ _; omega
  | succ k ih =>
    intro f c p m x4 s0 s1 h h4 hc hk hm hf
    obtain ⟨g, rfl⟩ : ∃ g, f = g + 1 := ⟨f - 1, by omega⟩
    rw [f_X5_readCond__9_13, if_neg (show ¬ (20 : Int32) ≤ nI m from nI_ge (b := 20) (by omega) (by decide)), see2_ h]
    by_cases a : tK T n lim p = 144 ∨ tK T n lim p = 145
    · rw [if_pos a, sMore_s a]
      have t : ∀ (y4 x6 : Int32) (t0 : OS), t0.1 4 = nI c → SO T n lim s2 (f_X5_readCond__9_72 (f_X5_readCond__9_13 x g) x y4 (nI m) x6 t0 (f_X7_pass__6 s1) s2) (sAft T n lim (sSaid T n lim R N 8) k (sSaid T n lim R N 8 c (tA T n lim p))) := by
        intro y4 x6 t0 ht
        have q := ro_9 (ps6_ h (by omega) (by omega)) hN ht hc x
        unfold f_X5_readCond__9_72
        generalize f_X5_readOne__9 x t0 (f_X7_pass__6 s1) s2 = r at q ⊢
        rw [q.1]
        cases e : sSaid T n lim R N 8 c (tA T n lim p) with
        | inl b =>
          have hb := q.2.1 b e
          by_cases z : x6 = 0
          · rw [if_pos z]; exact rb_9 (by omega) hb
          · rw [if_neg z]; exact rb_9 (by omega) hb
        | inr w =>
          obtain ⟨c1, p1⟩ := w
          have z := q.2.2 c1 p1 e
          have y := sSaid_c _ _ _ _ _ e
          rw [nI_1]
          by_cases z9 : x6 = 0
          · rw [if_pos z9]; exact ih g c1 p1 (m + 1) _ _ _ z.1 (by rw [as4]; exact z.2) y.2 (by omega) (by omega) (by omega)
          · rw [if_neg z9]; exact ih g c1 p1 (m + 1) _ _ _ z.1 z.2 y.2 (by omega) (by omega) (by omega)
      unfold f_X5_readCond__9_40
      by_cases z1 : f_X7_sees__1 (144 : Int32) s1 = 0
      · rw [if_pos z1]; exact t _ _ _ h4
      · rw [if_neg z1]
        by_cases z2 : x4 = 0
        · rw [if_pos z2]; exact t _ _ _ h4
        · rw [if_neg z2]; exact t _ _ _ (by rw [as4]; exact h4)
    · rw [if_neg a, sMore_n a]
      unfold f_X5_readCond__9_106
      by_cases z2 : x4 = 0
      · rw [if_pos z2]; exact SO.ok rfl h h4
      · rw [if_neg z2]; exact SO.ok rfl h (by rw [as4]; exact h4)
theorem rc_9 (h : CTK s1 T n lim p) (hN : CN s2 R N) (h4 : s0.1 4 = nI c) (hc : c ≤ 20) (x : Int32) : SO T n lim s2 (f_X5_readCond__9 x s0 s1 s2) (sCond T n lim (sSaid T n lim R N 8) c p) := by
  have q := ro_9 h hN h4 hc x
  unfold f_X5_readCond__9 sCond
  generalize f_X5_readOne__9 x s0 s1 s2 = r at q ⊢
  rw [q.1]
  cases e : sSaid T n lim R N 8 c p with
  | inl b => exact rb_9 (by decide) (q.2.1 b e)
  | inr w =>
    obtain ⟨c1, p1⟩ := w
    have z := q.2.2 c1 p1 e
    have y := sSaid_c _ _ _ _ _ e
    have w := rlc_9 hN x 21 4294967298 c1 p1 0 0 r.1 r.2.1 z.1 z.2 y.2 (by omega) (by omega) (by decide)
    rw [nI_0] at w
    exact w
end
/-! the class's sentence, read -/
theorem start_g {o : OS} {T : Nat → Nat} {n lim : Nat} (h : CXT o T n) (hl : lim ≤ 940) : CTK (f_X7_startText__3 (nI lim) o) T n lim 0 := by
  obtain ⟨h1, h2, h3, h4, h5⟩ := h
  have key : ∀ (a y : Int32), y = nI (tStop n lim) → a = (if lim < n then 1 else 0) → CTK (f_X7_pass__5 (sI (sI (sI (sI (sI o 4 a) 3 y) 6 (0 : Int32)) 10 (0 : Int32)) 11 (0 : Int32))) T n lim 0 := by
    intro a y hy ha
    have hX : CX (sI (sI (sI (sI (sI o 4 a) 3 y) 6 (0 : Int32)) 10 (0 : Int32)) 11 (0 : Int32)) T n lim := by
      refine ⟨h1, hl, ?_, ?_, ?_, h3, h4, h5⟩
      · rw [sI_ne (by decide), sI_ne (by decide), sI_ne (by decide), sI_ne (by decide), sI_ne (by decide)]; exact h2
      · rw [sI_ne (by decide), sI_ne (by decide), sI_ne (by decide), sI_get]; exact hy
      · rw [sI_ne (by decide), sI_ne (by decide), sI_ne (by decide), sI_ne (by decide), sI_get]; exact ha
    have z := pass_ (p := 0) hX (by rw [sI_ne (by decide), sI_ne (by decide), sI_get]; rfl) (by decide)
    exact ⟨z.1, by rw [z.2.1 10 (by decide) (by decide) (by decide) (by decide), sI_ne (by decide), sI_get]⟩
  unfold f_X7_startText__3 f_X7_startText__3_14 f_X7_startText__3_33
  rw [h2]
  by_cases e : n ≤ lim
  · rw [if_pos (nI_le e (by omega)), if_pos rfl]
    refine key 0 _ ?_ (by rw [if_neg (by omega)])
    rw [sI_ne (by decide), h2, show tStop n lim = n from if_neg (by omega)]
  · rw [if_neg (nI_ge (by omega) (by omega)), if_neg one0]
    exact key 1 _ (by rw [show tStop n lim = lim from if_pos (by omega)]) (by rw [if_pos (by omega)])
theorem sread_ {T : Nat → Nat} {n : Nat} {R : Nat → Int32} {N : Nat → Nat} {s0 s1 s2 : OS} (h : CXT s1 T n) (hN : CN s2 R N) (h4 : s0.1 4 = 0) : SO T n 200 s2 (f_X5_read__1 s0 s1 s2) (sSent T n 200 R N) := by
  have ht : CTK (f_X7_startText__3 (200 : Int32) s1) T n 200 0 := start_g (lim := 200) h (by decide)
  have q := rc_9 (c := 0) ht hN (h4.trans nI_0.symm) (by decide) (1 : Int32)
  unfold f_X5_read__1 sSent
  generalize f_X5_readCond__9 (1 : Int32) s0 (f_X7_startText__3 (200 : Int32) s1) s2 = r at q ⊢
  cases e : sCond T n 200 (sSaid T n 200 R N 8) 0 0 with
  | inl b =>
    have hb := q.2.1 b e
    have g := gs_bad hb
    generalize f_X7_goesOn__3 r.2.1 = y at g ⊢
    have y1 : y.1 = r.2.1 := by rw [g]
    have y2 : y.2 = 0 := by rw [g]
    rw [if_pos y2, y1]
    exact SO.bad q.1 hb
  | inr w =>
    obtain ⟨c1, p1⟩ := w
    have z := q.2.2 c1 p1 e
    try dsimp only
    by_cases k0 : tK T n 200 p1 = 0
    · have g := gs_0 z.1 k0
      generalize f_X7_goesOn__3 r.2.1 = y at g ⊢
      have y1 : y.1 = r.2.1 := by rw [g]
      have y2 : y.2 = 0 := by rw [g]
      rw [if_pos y2, y1, if_neg (nn k0)]
      exact SO.ok q.1 z.1 z.2
    · rw [if_pos k0]
      by_cases e9 : tStop n 200 ≤ tB0 T (tStop n 200) p1
      · obtain ⟨o', g, hb, k1⟩ := gs_1 z.1 k0 e9
        generalize f_X7_goesOn__3 r.2.1 = y at g ⊢
        have y1 : y.1 = o' := by rw [g]
        have y2 : y.2 = 0 := by rw [g]
        rw [if_pos y2, y1]
        exact SO.bad q.1 hb
      · obtain ⟨g, h7⟩ := gs_2 z.1 e9
        generalize f_X7_goesOn__3 r.2.1 = y at g ⊢
        have y1 : y.1 = r.2.1 := by rw [g]
        have y2 : y.2 = 1 := by rw [g]
        rw [if_neg (ne1 y2), y1]
        exact SO.bad q.1 (rf_ (c := 1) z.1 (by decide) (by decide) (fun _ => rfl))
