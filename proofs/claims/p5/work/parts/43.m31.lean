/-! p4: what a text says. T: its bytes (0 to 255), n: how many lie on the tape, lim: how many a text may have -/
abbrev tBl (c : Nat) : Prop := c = 32 ∨ c = 10
abbrev tLt (c : Nat) : Prop := 97 ≤ c ∧ c ≤ 122
abbrev tDg (c : Nat) : Prop := 48 ≤ c ∧ c ≤ 57
abbrev tSg (c : Nat) : Prop := c = 59 ∨ c = 60 ∨ c = 61 ∨ c = 62 ∨ c = 40 ∨ c = 41
def tSk (T : Nat → Nat) : Nat → Nat → Nat
  | 0, p => p
  | k + 1, p => if tBl (T p) then tSk T k (p + 1) else p
/-- the first place from p on, ahead of stop, that is no blank -/
def tB0 (T : Nat → Nat) (stop p : Nat) : Nat := tSk T (stop - p) p
theorem tB0_ge {T : Nat → Nat} {stop p : Nat} (h : stop ≤ p) : tB0 T stop p = p := by
  unfold tB0
  rw [Nat.sub_eq_zero_of_le h]
  rfl
theorem tB0_bl {T : Nat → Nat} {stop p : Nat} (h : p < stop) (hb : tBl (T p)) : tB0 T stop p = tB0 T stop (p + 1) := by
  unfold tB0
  rw [show stop - p = (stop - (p + 1)) + 1 by omega]
  exact if_pos hb
theorem tB0_no {T : Nat → Nat} {stop p : Nat} (h : p < stop) (hb : ¬ tBl (T p)) : tB0 T stop p = p := by
  unfold tB0
  rw [show stop - p = (stop - (p + 1)) + 1 by omega]
  exact if_neg hb
theorem tB0_le (T : Nat → Nat) (stop : Nat) : ∀ (k p : Nat), stop - p = k → p ≤ tB0 T stop p ∧ (p ≤ stop → tB0 T stop p ≤ stop) := by
  intro k
  induction k with
  | zero =>
    intro p h
    rw [tB0_ge (by omega)]
    exact ⟨Nat.le_refl _, fun q => q⟩
  | succ k ih =>
    intro p h
    by_cases hb : tBl (T p)
    · rw [tB0_bl (by omega) hb]
      have q := ih (p + 1) (by omega)
      exact ⟨by omega, fun _ => q.2 (by omega)⟩
    · rw [tB0_no (by omega) hb]
      exact ⟨Nat.le_refl _, fun q => q⟩
def tRn (T : Nat → Nat) : Nat → Nat → Nat
  | 0, p => p
  | k + 1, p => if tLt (T p) ∨ tDg (T p) then tRn T k (p + 1) else p
/-- where letters and digits end -/
def tE (T : Nat → Nat) (n p : Nat) : Nat := tRn T (n - p) p
theorem tE_ge {T : Nat → Nat} {n p : Nat} (h : n ≤ p) : tE T n p = p := by
  unfold tE
  rw [Nat.sub_eq_zero_of_le h]
  rfl
theorem tE_in {T : Nat → Nat} {n p : Nat} (h : p < n) (hb : tLt (T p) ∨ tDg (T p)) : tE T n p = tE T n (p + 1) := by
  unfold tE
  rw [show n - p = (n - (p + 1)) + 1 by omega]
  exact if_pos hb
theorem tE_no {T : Nat → Nat} {n p : Nat} (h : p < n) (hb : ¬ (tLt (T p) ∨ tDg (T p))) : tE T n p = p := by
  unfold tE
  rw [show n - p = (n - (p + 1)) + 1 by omega]
  exact if_neg hb
/-- how many letters, digits from b on; what they say -/
def nLt (T : Nat → Nat) (b : Nat) : Nat → Nat
  | 0 => 0
  | k + 1 => nLt T b k + (if tLt (T (b + k)) then 1 else 0)
def nDg (T : Nat → Nat) (b : Nat) : Nat → Nat
  | 0 => 0
  | k + 1 => nDg T b k + (if tDg (T (b + k)) then 1 else 0)
def tF (base off : Nat) (T : Nat → Nat) (b : Nat) : Nat → Nat
  | 0 => 0
  | k + 1 => base * tF base off T b k + (T (b + k) - off)
/-- the document's words, 256 to a letter -/
def KW : List Nat := [1768187233, 1919905645, 123563833255276, 123581014175598, 1936290931, 6840691, 31935733760681324, 1818583403, 444351214451, 457135713907, 126943688025203, 131294791492979, 29121001190286707, 1869636974, 426836652665, 6578553, 28530, 6385252, 7237492, 122528528754020, 31084793196801639, 33602674740454756, 26995, 26990, 1936292453, 422876833637, 128047779833188, 121450625394034]
def tKwF (w : Nat) : Nat → Nat
  | 0 => 2
  | k + 1 => if KW.getD k 0 = w then 128 + k else tKwF w k
def tKw (w : Nat) : Nat := tKwF w 28
def tStop (n lim : Nat) : Nat := if lim < n then lim else n
/-- where the token behind p begins -/
def tB (T : Nat → Nat) (n lim p : Nat) : Nat := if tStop n lim ≤ tB0 T (tStop n lim) p then tStop n lim else tB0 T (tStop n lim) p
/-- where the next may begin -/
def tA (T : Nat → Nat) (n lim p : Nat) : Nat := if tLt (T (tB T n lim p)) ∨ tDg (T (tB T n lim p)) then tE T n (tB T n lim p) else tB T n lim p + 1
def tLen (T : Nat → Nat) (n lim p : Nat) : Nat := tE T n (tB T n lim p) - tB T n lim p
/-- its word, its number -/
def tW (T : Nat → Nat) (n lim p : Nat) : Nat := tF 256 0 T (tB T n lim p) (tLen T n lim p)
def tNu (T : Nat → Nat) (n lim p : Nat) : Nat := tF 10 48 T (tB T n lim p) (tLen T n lim p)
/-- what it is: 0 the end, 1 no token, 2 a name, 3 a number, a sign's byte, 128 and on a word -/
def tK (T : Nat → Nat) (n lim p : Nat) : Nat :=
  if tStop n lim ≤ tB0 T (tStop n lim) p then (if lim < n then 1 else 0)
  else if tLt (T (tB T n lim p)) ∨ tDg (T (tB T n lim p)) then
    (if nLt T (tB T n lim p) (tLen T n lim p) = 0 ∧ tLen T n lim p ≤ 3 then 3
     else if nDg T (tB T n lim p) (tLen T n lim p) = 0 ∧ tLen T n lim p ≤ 7 then tKw (tW T n lim p) else 1)
  else if tSg (T (tB T n lim p)) then T (tB T n lim p) else 1
/-! a post's text, line by line: R what is told (as the places of the model), N its names; inl: the fault and its place -/
def ud (f : Nat → Nat) (k : Nat) (v : Nat) : Nat → Nat := fun j => if j = k then v else f j
theorem ud_eq {f : Nat → Nat} {k : Nat} {v : Nat} : ud f k v k = v := if_pos rfl
theorem ud_ne {f : Nat → Nat} {k j : Nat} {v : Nat} (h : j ≠ k) : ud f k v j = f j := if_neg h
abbrev PR : Type := (Nat × Nat) ⊕ (Nat × (Nat → Int32) × (Nat → Nat))
section TEXT
variable (T : Nat → Nat) (n lim : Nat)
def sBad (c : Nat) (p : Nat) : Nat × Nat := (if tK T n lim p = 1 then 1 else c, tB T n lim p)
def sNum (a b : Nat) (p : Nat) : (Nat × Nat) ⊕ (Nat × Nat) := if tK T n lim p ≠ 3 then .inl (sBad T n lim 1 p) else if ¬ (a ≤ tNu T n lim p ∧ tNu T n lim p ≤ b) then .inl (sBad T n lim 2 p) else .inr (tNu T n lim p, tA T n lim p)
/-- the first of a sort's names that is w -/
def sFind (N : Nat → Nat) (base : Nat) (w : Nat) : Nat → Option Nat
  | 0 => none
  | k + 1 => match sFind N base w k with
    | some j => some j
    | none => if N (base + k) = w then some k else none
def ct (R : Nat → Int32) (k : Nat) : Nat := (R k).toNatClampNeg
abbrev sTaken (R : Nat → Int32) (N : Nat → Nat) (w : Nat) : Prop := sFind N 0 w (ct R 0) ≠ none ∨ sFind N 6 w (ct R 1) ≠ none ∨ sFind N 10 w (ct R 2) ≠ none ∨ sFind N 16 w (ct R 3) ≠ none
def sNew (slot : Nat) (R : Nat → Int32) (N : Nat → Nat) (p : Nat) : (Nat × Nat) ⊕ (Nat × (Nat → Nat)) := if tK T n lim p ≠ 2 then .inl (sBad T n lim 1 p) else if sTaken R N (tW T n lim p) then .inl (sBad T n lim 3 p) else .inr (tA T n lim p, ud N slot (tW T n lim p))
/-- a name that is told, ahead: its number -/
def sOne (base many : Nat) (N : Nat → Nat) (p : Nat) : (Nat × Nat) ⊕ Nat := if tK T n lim p ≠ 2 then .inl (sBad T n lim 1 p) else match sFind N base (tW T n lim p) many with
  | none => .inl (sBad T n lim 3 p)
  | some k => .inr k
def sIdea (R : Nat → Int32) (N : Nat → Nat) (p : Nat) : PR :=
  if ct R 0 = 6 then .inl (sBad T n lim 4 p) else match sNew T n lim (ct R 0) R N (tA T n lim p) with
  | .inl b => .inl b
  | .inr (p1, N1) => match sNum T n lim 1 60 p1 with
    | .inl b => .inl b
    | .inr (v, p2) => .inr (p2, upd (upd R (6 + ct R 0) (nI v)) 0 (nI (ct R 0 + 1)), N1)
def sRoom (R : Nat → Int32) (N : Nat → Nat) (p : Nat) : PR :=
  if ct R 1 = 4 then .inl (sBad T n lim 4 p) else match sNew T n lim (6 + ct R 1) R N (tA T n lim p) with
  | .inl b => .inl b
  | .inr (p1, N1) => .inr (p1, upd R 1 (nI (ct R 1 + 1)), N1)
def sParcel (R : Nat → Int32) (N : Nat → Nat) (p : Nat) : PR :=
  if ct R 2 = 6 then .inl (sBad T n lim 4 p) else match sNew T n lim (10 + ct R 2) R N (tA T n lim p) with
  | .inl b => .inl b
  | .inr (p1, N1) => match sOne T n lim 6 (ct R 1) N1 p1 with
    | .inl b => .inl b
    | .inr v => .inr (tA T n lim p1, upd (upd R (18 + ct R 2) (nI v)) 2 (nI (ct R 2 + 1)), N1)
def sPerson (R : Nat → Int32) (N : Nat → Nat) (p : Nat) : PR :=
  if ct R 3 = 8 then .inl (sBad T n lim 4 p) else match sNew T n lim (16 + ct R 3) R N (tA T n lim p) with
  | .inl b => .inl b
  | .inr (p1, N1) => match sOne T n lim 0 (ct R 0) N1 p1 with
    | .inl b => .inl b
    | .inr v => match sNum T n lim 1 9 (tA T n lim p1) with
      | .inl b => .inl b
      | .inr (k, p2) => .inr (p2, upd (upd (upd (upd R (24 + ct R 3) (nI v)) (32 + ct R 3) (nI k)) (40 + ct R 3) (-1)) 3 (nI (ct R 3 + 1)), N1)
def sSits (R : Nat → Int32) (N : Nat → Nat) (p : Nat) : PR :=
  match sOne T n lim 16 (ct R 3) N (tA T n lim p) with
  | .inl b => .inl b
  | .inr v => if R (40 + v) ≠ -1 then .inl (sBad T n lim 3 (tA T n lim p)) else match sOne T n lim 10 (ct R 2) N (tA T n lim (tA T n lim p)) with
    | .inl b => .inl b
    | .inr q => .inr (tA T n lim (tA T n lim (tA T n lim p)), upd R (40 + v) (nI q), N)
def sHas (R : Nat → Int32) (N : Nat → Nat) (p : Nat) : PR :=
  match sOne T n lim 10 (ct R 2) N (tA T n lim p) with
  | .inl b => .inl b
  | .inr q => match sOne T n lim 0 (ct R 0) N (tA T n lim (tA T n lim p)) with
    | .inl b => .inl b
    | .inr i => if R (48 + 6 * q + i) ≠ 0 then .inl (sBad T n lim 3 (tA T n lim (tA T n lim p))) else match sNum T n lim 1 99 (tA T n lim (tA T n lim (tA T n lim p))) with
      | .inl b => .inl b
      | .inr (v, p1) => .inr (p1, upd R (48 + 6 * q + i) (nI v), N)
def sQuarrel (R : Nat → Int32) (N : Nat → Nat) (p : Nat) : PR :=
  match sOne T n lim 0 (ct R 0) N (tA T n lim p) with
  | .inl b => .inl b
  | .inr i => match sOne T n lim 0 (ct R 0) N (tA T n lim (tA T n lim p)) with
    | .inl b => .inl b
    | .inr j => if j = i ∨ (R (12 + i) >>> (nI j &&& 31)) &&& 1 = 1 then .inl (sBad T n lim 3 (tA T n lim (tA T n lim p))) else .inr (tA T n lim (tA T n lim (tA T n lim p)), upd (upd R (12 + i) (R (12 + i) ||| (1 <<< (nI j &&& 31)))) (12 + j) (R (12 + j) ||| (1 <<< (nI i &&& 31))), N)
/-- leak, guess: once each (places 84, 85) -/
def sOnce (k at_ : Nat) (a b : Nat) (R : Nat → Int32) (N : Nat → Nat) (p : Nat) : PR :=
  if R (84 + k) ≠ 0 then .inl (sBad T n lim 3 p) else match sNum T n lim a b (tA T n lim p) with
  | .inl b => .inl b
  | .inr (v, p1) => .inr (p1, upd (upd R (84 + k) 1) at_ (nI v), N)
def sLine (R : Nat → Int32) (N : Nat → Nat) (p : Nat) : PR :=
  if tK T n lim p = 128 then sIdea T n lim R N p
  else if tK T n lim p = 129 then sRoom T n lim R N p
  else if tK T n lim p = 130 then sParcel T n lim R N p
  else if tK T n lim p = 131 then sPerson T n lim R N p
  else if tK T n lim p = 132 then sSits T n lim R N p
  else if tK T n lim p = 133 then sHas T n lim R N p
  else if tK T n lim p = 134 then sQuarrel T n lim R N p
  else if tK T n lim p = 135 then sOnce T n lim 0 4 0 5 R N p
  else if tK T n lim p = 136 then sOnce T n lim 1 5 1 20 R N p
  else .inl (sBad T n lim 1 p)
def sPost : Nat → (Nat → Int32) → (Nat → Nat) → Nat → Nat → (Nat × Nat) ⊕ (Nat × (Nat → Int32) × (Nat → Nat))
  | 0, R, N, _, _ => .inr (0, R, N)
  | k + 1, R, N, p, l => if tK T n lim p = 0 then .inr (l, R, N) else match sLine T n lim R N p with
    | .inl b => .inl b
    | .inr (p1, R1, N1) => if tK T n lim p1 ≠ 59 then .inl (sBad T n lim 1 p1) else sPost k R1 N1 (tA T n lim p1) (l + 1)
end TEXT
/-! functions of objects: what a place holds behind a write -/
theorem sI_get {o : OS} {k : Nat} {v : Int32} : (sI o k v).1 k = v := if_pos rfl
theorem sI_ne {o : OS} {k j : Nat} {v : Int32} (h : j ≠ k) : (sI o k v).1 j = o.1 j := if_neg h
theorem sI_sI {o : OS} {k : Nat} {v w : Int32} : sI (sI o k v) k w = sI o k w := by
  unfold sI
  refine Prod.ext (funext fun j => ?_) rfl
  show (if j = k then w else if j = k then v else o.1 j) = if j = k then w else o.1 j
  by_cases e : j = k
  · rw [if_pos e, if_pos e]
  · rw [if_neg e, if_neg e, if_neg e]
theorem sI_self {o : OS} {k : Nat} {v : Int32} (h : o.1 k = v) : sI o k v = o := by
  unfold sI
  refine Prod.ext (funext fun j => ?_) rfl
  show (if j = k then v else o.1 j) = o.1 j
  by_cases e : j = k
  · rw [if_pos e, e, h]
  · rw [if_neg e]
theorem sL_get {o : OS} {k : Nat} {v : Int64} : (sL o k v).2.1 k = v := if_pos rfl
/-- the reference's text: T on its tape, n how many, lim how many it may have -/
def RX (o : OS) (T : Nat → Nat) (n lim : Nat) : Prop := n ≤ 940 ∧ lim ≤ 940 ∧ o.1 3 = nI n ∧ o.1 4 = nI lim ∧ (∀ k, k < n → o.2.2.1 1 k = nI (T k)) ∧ ∀ k, T k < 256
theorem RX.sI {o : OS} {T : Nat → Nat} {n lim k : Nat} {v : Int32} (h : RX o T n lim) (h3 : k ≠ 3) (h4 : k ≠ 4) : RX (sI o k v) T n lim :=
  ⟨h.1, h.2.1, by rw [sI_ne h3.symm]; exact h.2.2.1, by rw [sI_ne h4.symm]; exact h.2.2.2.1, h.2.2.2.2.1, h.2.2.2.2.2⟩
theorem RX.sL {o : OS} {T : Nat → Nat} {n lim k : Nat} {v : Int64} (h : RX o T n lim) : RX (sL o k v) T n lim := h
theorem nI_c {a c : Nat} (ha : a < 256) (hc : c < 256) : (nI a = nI c) ↔ a = c := nI_eq (by omega) (by omega)
theorem tB0_lim {T : Nat → Nat} {lim n : Nat} (hl : lim ≤ n) : ∀ (k p : Nat), lim - p = k → (lim ≤ tB0 T n p → lim ≤ tB0 T lim p) ∧ (tB0 T n p < lim → tB0 T lim p = tB0 T n p) := by
  intro k
  induction k with
  | zero =>
    intro p h
    have h1 := (tB0_le T n (n - p) p rfl).1
    rw [tB0_ge (stop := lim) (p := p) (by omega)]
    exact ⟨fun _ => by omega, fun q => by omega⟩
  | succ k ih =>
    intro p h
    by_cases hb : tBl (T p)
    · rw [tB0_bl (stop := lim) (by omega) hb, tB0_bl (stop := n) (by omega) hb]
      exact ih (p + 1) (by omega)
    · rw [tB0_no (stop := lim) (by omega) hb, tB0_no (stop := n) (by omega) hb]
      exact ⟨fun q => q, fun _ => rfl⟩
theorem tE_le {T : Nat → Nat} {n : Nat} : ∀ (k p : Nat), n - p = k → p ≤ tE T n p ∧ (p ≤ n → tE T n p ≤ n) ∧ ∀ j, p ≤ j → j < tE T n p → tLt (T j) ∨ tDg (T j) := by
  intro k
  induction k with
  | zero =>
    intro p h
    rw [tE_ge (by omega)]
    exact ⟨Nat.le_refl _, fun q => q, fun j h1 h2 => by omega⟩
  | succ k ih =>
    intro p h
    by_cases hb : tLt (T p) ∨ tDg (T p)
    · rw [tE_in (by omega) hb]
      have q := ih (p + 1) (by omega)
      refine ⟨by omega, fun _ => q.2.1 (by omega), fun j h1 h2 => ?_⟩
      by_cases e : j = p
      · rw [e]; exact hb
      · exact q.2.2 j (by omega) h2
    · rw [tE_no (by omega) hb]
      exact ⟨Nat.le_refl _, fun q => q, fun j h1 h2 => by omega⟩
/-- a token of the reference -/
def RK (K : Nat) : Nat := if K = 0 then 0 else if K = 1 then 1 else if K = 3 then 3 else if K = 2 ∨ 128 ≤ K then 2 else 4
def RT (o : OS) (T : Nat → Nat) (n lim p : Nat) : Prop := RX o T n lim ∧ o.1 6 = nI (tB T n lim p) ∧ o.1 7 = nI (RK (tK T n lim p)) ∧ (tB T n lim p < tStop n lim → o.1 5 = nI (tA T n lim p)) ∧ ((tK T n lim p = 2 ∨ 128 ≤ tK T n lim p) → o.2.1 12 = lN (tF 27 96 T (tB T n lim p) (tLen T n lim p))) ∧ (tK T n lim p = 3 → o.1 8 = nI (tNu T n lim p)) ∧ (RK (tK T n lim p) = 4 → o.1 9 = nI (tK T n lim p))
/-- what the reading of a token leaves as it was -/
def RS (o o' : OS) : Prop := (∀ k, k ≠ 5 → k ≠ 6 → k ≠ 7 → k ≠ 8 → k ≠ 9 → o'.1 k = o.1 k) ∧ (∀ k, k ≠ 12 → o'.2.1 k = o.2.1 k) ∧ o'.2.2 = o.2.2
theorem RS.rf {o : OS} : RS o o := ⟨fun _ _ _ _ _ _ => rfl, fun _ _ => rfl, rfl⟩
theorem RS.tr {o o1 o2 : OS} (h : RS o o1) (h2 : RS o1 o2) : RS o o2 := ⟨fun k a b c d e => (h2.1 k a b c d e).trans (h.1 k a b c d e), fun k a => (h2.2.1 k a).trans (h.2.1 k a), h2.2.2.trans h.2.2⟩
theorem RS.i {o o1 : OS} {k : Nat} {v : Int32} (h : RS o o1) (hk : k = 5 ∨ k = 6 ∨ k = 7 ∨ k = 8 ∨ k = 9) : RS o (sI o1 k v) :=
  ⟨fun j a b c d e => by rw [sI_ne (by omega)]; exact h.1 j a b c d e, h.2.1, h.2.2⟩
theorem RS.l {o o1 : OS} {v : Int64} (h : RS o o1) : RS o (sL o1 12 v) :=
  ⟨h.1, fun j a => (if_neg a : (sL o1 12 v).2.1 j = o1.2.1 j).trans (h.2.1 j a), h.2.2⟩
theorem isL_ {c : Nat} (hc : c < 256) : f_X10_isLetter__2 (nI c) = if tLt c then 1 else 0 := by
  unfold f_X10_isLetter__2
  by_cases h1 : c < 97
  · rw [if_pos (show nI c < (97 : Int32) from nI_lt (b := 97) h1 (by decide)), if_neg (by omega)]
  · rw [if_neg (show ¬ nI c < (97 : Int32) from nI_nlt (b := 97) (by omega) (by omega))]
    by_cases h2 : 122 < c
    · rw [if_pos (show (122 : Int32) < nI c from nI_lt (a := 122) h2 (by omega)), if_neg (by omega)]
    · rw [if_neg (show ¬ (122 : Int32) < nI c from nI_nlt (a := 122) (by omega) (by decide)), if_pos (by omega)]
theorem isD_ {c : Nat} (hc : c < 256) : f_X10_isDigit__1 (nI c) = if tDg c then 1 else 0 := by
  unfold f_X10_isDigit__1
  by_cases h1 : c < 48
  · rw [if_pos (show nI c < (48 : Int32) from nI_lt (b := 48) h1 (by decide)), if_neg (by omega)]
  · rw [if_neg (show ¬ nI c < (48 : Int32) from nI_nlt (b := 48) (by omega) (by omega))]
    by_cases h2 : 57 < c
    · rw [if_pos (show (57 : Int32) < nI c from nI_lt (a := 57) h2 (by omega)), if_neg (by omega)]
    · rw [if_neg (show ¬ (57 : Int32) < nI c from nI_nlt (a := 57) (by omega) (by decide)), if_pos (by omega)]
theorem go_blank {T : Nat → Nat} {n lim : Nat} : ∀ (f : Nat) (o : OS) (p : Nat), RX o T n lim → o.1 5 = nI p → p ≤ n → n - p < f → f_X10_go__2_0 f o = f_X10_go__2_52 (sI o 5 (nI (tB0 T n p))) := by
  intro f
  induction f with
  | zero => intro o p _ _ _ h; omega
  | succ f ih =>
    intro o p hX hp hn hf
    have h3 := hX.2.2.1
    have hb := hX.2.2.2.2.2 p
    have hn9 := hX.1
    rw [f_X10_go__2_0, h3, hp, nI_clamp (by omega)]
    by_cases e : n ≤ p
    · rw [if_pos (nI_le e (by omega)), tB0_ge e, sI_self hp]
    · rw [if_neg (nI_ge (by omega) (by omega)), hX.2.2.2.2.1 p (by omega)]
      have c32 : (nI (T p) = (32 : Int32)) ↔ T p = 32 := nI_c (c := 32) hb (by decide)
      have c10 : (nI (T p) = (10 : Int32)) ↔ T p = 10 := nI_c (c := 10) hb (by decide)
      have st : tBl (T p) → f_X10_go__2_39 (f_X10_go__2_0 f) o = f_X10_go__2_52 (sI o 5 (nI (tB0 T n p))) := fun hbl => by
        unfold f_X10_go__2_39
        rw [hp, nI_1, ih _ (p + 1) (hX.sI (by decide) (by decide)) sI_get (by omega) (by omega), sI_sI, ← tB0_bl (by omega) hbl]
      by_cases e1 : T p = 32
      · rw [if_pos (c32.mpr e1)]
        exact st (Or.inl e1)
      · rw [if_neg (fun q => e1 (c32.mp q))]
        by_cases e2 : T p = 10
        · rw [if_pos (c10.mpr e2)]
          exact st (Or.inr e2)
        · rw [if_neg (fun q => e2 (c10.mp q)), tB0_no (by omega) (by omega), sI_self hp]
theorem at_ {o : OS} {T : Nat → Nat} {n lim q : Nat} (hX : RX o T n lim) (h5 : o.1 5 = nI q) (hq : q ≤ 940) : f_X10_tapeAt__1 (o.1 5) o = nI (if q < n then T q else 0) := by
  unfold f_X10_tapeAt__1
  have hn := hX.1
  rw [hX.2.2.1, h5, nI_clamp (by omega)]
  by_cases e : q < n
  · rw [if_neg (nI_ge e (by omega)), if_pos e]
    exact hX.2.2.2.2.1 q e
  · rw [if_pos (nI_le (by omega) (by omega)), if_neg e]
    rfl
/-- the reference within a run of letters and digits that begins at b, k of them read -/
def RLS (o : OS) (T : Nat → Nat) (n lim b k : Nat) (lt gd : Int32) : Prop := RX o T n lim ∧ o.1 6 = nI b ∧ o.1 5 = nI (b + k) ∧ b + k ≤ n ∧ tE T n (b + k) = tE T n b ∧ lt = (if tLt (T b) then 1 else 0) ∧ gd = (if tLt (T b) then (if nDg T b k = 0 then 1 else 0) else (if nLt T b k = 0 then 1 else 0)) ∧ (nDg T b (min k 7) = 0 → o.2.1 12 = lN (tF 27 96 T b (min k 7))) ∧ (nLt T b (min k 3) = 0 → o.1 8 = nI (tF 10 48 T b (min k 3)))
theorem ltdg {c : Nat} (h : tLt c) : ¬ tDg c := by omega
theorem run_243 {K : (Int32) → (Int32) → (Int32) → (OS) → OS} {o : OS} {T : Nat → Nat} {n lim b k : Nat} {lt gd : Int32} (h : RLS o T n lim b k lt gd) (hk : b + k < n) (x1 : Int32) : f_X10_go__2_243 K x1 lt gd o = K x1 lt (if gd = 0 then 0 else if (if tLt (T (b + k)) then (1 : Int32) else 0) = lt then 1 else 0) (sI (if 3 ≤ k then (if 7 ≤ k then o else sL o 12 (27 * o.2.1 12 + (nI (T (b + k))).toInt64 - 96)) else sI (if 7 ≤ k then o else sL o 12 (27 * o.2.1 12 + (nI (T (b + k))).toInt64 - 96)) 8 (10 * o.1 8 + nI (T (b + k)) - 48)) 5 (nI (b + k + 1))) := by
  obtain ⟨hX, h6, h5, hn, -⟩ := h
  have hn9 := hX.1
  have hc := hX.2.2.2.2.2 (b + k)
  have ht := hX.2.2.2.2.1 (b + k) hk
  have hs : nI (b + k) - nI b = nI k := by rw [pk_sub (by omega), Nat.add_sub_cancel_left]
  have e : ∀ y : Int32, f_X10_go__2_272 K x1 lt gd (nI (T (b + k))) y o = K x1 lt y (sI (if 3 ≤ k then (if 7 ≤ k then o else sL o 12 (27 * o.2.1 12 + (nI (T (b + k))).toInt64 - 96)) else sI (if 7 ≤ k then o else sL o 12 (27 * o.2.1 12 + (nI (T (b + k))).toInt64 - 96)) 8 (10 * o.1 8 + nI (T (b + k)) - 48)) 5 (nI (b + k + 1))) := by
    intro y
    unfold f_X10_go__2_272 f_X10_go__2_307 f_X10_go__2_337
    by_cases e7 : 7 ≤ k
    · have e3 : 3 ≤ k := by omega
      rw [h5, h6, hs, if_pos (show (7 : Int32) ≤ nI k from nI_le (a := 7) e7 (by omega)), if_pos (show (3 : Int32) ≤ nI k from nI_le (a := 3) e3 (by omega)), if_pos e3, if_pos e7, nI_1]
    · by_cases e3 : 3 ≤ k
      · rw [h5, h6, hs, if_neg (show ¬ (7 : Int32) ≤ nI k from nI_ge (b := 7) (by omega) (by decide)), if_pos e3, if_neg e7]
        show (if (3 : Int32) ≤ o.1 5 - o.1 6 then _ else _) = _
        rw [h5, h6, hs, if_pos (show (3 : Int32) ≤ nI k from nI_le (a := 3) e3 (by omega))]
        show K x1 lt y (sI _ 5 (o.1 5 + 1)) = _
        rw [h5, nI_1]
      · rw [h5, h6, hs, if_neg (show ¬ (7 : Int32) ≤ nI k from nI_ge (b := 7) (by omega) (by decide)), if_neg e3, if_neg e7]
        show (if (3 : Int32) ≤ o.1 5 - o.1 6 then _ else _) = _
        rw [h5, h6, hs, if_neg (show ¬ (3 : Int32) ≤ nI k from nI_ge (b := 3) (by omega) (by decide))]
        show K x1 lt y (sI _ 5 ((sI _ 8 _).1 5 + 1)) = _
        rw [sI_ne (by decide)]
        show K x1 lt y (sI _ 5 (o.1 5 + 1)) = _
        rw [h5, nI_1]
        rfl
  unfold f_X10_go__2_243
  rw [h5, nI_clamp (by omega), ht, isL_ hc]
  unfold f_X10_go__2_271
  rw [e 0, e 1]
  by_cases g : gd = 0
  · rw [if_pos g, if_pos g]
  · rw [if_neg g, if_neg g]
    by_cases q : (if tLt (T (b + k)) then (1 : Int32) else 0) = lt
    · rw [if_pos q, if_pos q]
    · rw [if_neg q, if_neg q]
theorem nDg_z {T : Nat → Nat} {b : Nat} : ∀ k, nDg T b (k + 1) = 0 ↔ nDg T b k = 0 ∧ ¬ tDg (T (b + k)) := by
  intro k
  show nDg T b k + (if tDg (T (b + k)) then 1 else 0) = 0 ↔ _
  by_cases h : tDg (T (b + k))
  · rw [if_pos h]; exact ⟨fun q => by omega, fun q => absurd h q.2⟩
  · rw [if_neg h]; exact ⟨fun q => ⟨by omega, h⟩, fun q => by omega⟩
theorem nLt_z {T : Nat → Nat} {b : Nat} : ∀ k, nLt T b (k + 1) = 0 ↔ nLt T b k = 0 ∧ ¬ tLt (T (b + k)) := by
  intro k
  show nLt T b k + (if tLt (T (b + k)) then 1 else 0) = 0 ↔ _
  by_cases h : tLt (T (b + k))
  · rw [if_pos h]; exact ⟨fun q => by omega, fun q => absurd h q.2⟩
  · rw [if_neg h]; exact ⟨fun q => ⟨by omega, h⟩, fun q => by omega⟩
theorem run_step {o : OS} {T : Nat → Nat} {n lim b k : Nat} {lt gd : Int32} (h : RLS o T n lim b k lt gd) (hk : b + k < n) (hc : tLt (T (b + k)) ∨ tDg (T (b + k))) (f : Nat) (x1 : Int32) : ∃ (o' : OS) (gd' : Int32), f_X10_go__2_215 (f + 1) x1 lt gd o = f_X10_go__2_215 f x1 lt gd' o' ∧ RLS o' T n lim b (k + 1) lt gd' ∧ RS o o' := by
  have h9 := h
  obtain ⟨hX, h6, h5, hn, hE, hlt, hgd, hw, hv⟩ := h
  have hn9 := hX.1
  have hcb := hX.2.2.2.2.2 (b + k)
  refine ⟨sI (if 3 ≤ k then (if 7 ≤ k then o else sL o 12 (27 * o.2.1 12 + (nI (T (b + k))).toInt64 - 96)) else sI (if 7 ≤ k then o else sL o 12 (27 * o.2.1 12 + (nI (T (b + k))).toInt64 - 96)) 8 (10 * o.1 8 + nI (T (b + k)) - 48)) 5 (nI (b + k + 1)), (if gd = 0 then 0 else if (if tLt (T (b + k)) then (1 : Int32) else 0) = lt then 1 else 0), ?_, ?_, ?_⟩
  · rw [f_X10_go__2_215, at_ hX h5 (by omega), if_pos hk, isL_ hcb, isD_ hcb, run_243 h9 hk x1]
    rcases hc with q | q
    · rw [if_pos q, if_neg (by decide)]
    · rw [if_neg (fun z => ltdg z q), if_pos rfl, if_pos q, if_neg (by decide)]
  · have hX1 : RX (if 7 ≤ k then o else sL o 12 (27 * o.2.1 12 + (nI (T (b + k))).toInt64 - 96)) T n lim := by
      by_cases e : 7 ≤ k
      · rw [if_pos e]; exact hX
      · rw [if_neg e]; exact hX
    have hX2 : RX (if 3 ≤ k then (if 7 ≤ k then o else sL o 12 (27 * o.2.1 12 + (nI (T (b + k))).toInt64 - 96)) else sI (if 7 ≤ k then o else sL o 12 (27 * o.2.1 12 + (nI (T (b + k))).toInt64 - 96)) 8 (10 * o.1 8 + nI (T (b + k)) - 48)) T n lim := by
      by_cases e : 3 ≤ k
      · rw [if_pos e]; exact hX1
      · rw [if_neg e]; exact hX1.sI (by decide) (by decide)
    refine ⟨hX2.sI (by decide) (by decide), ?_, sI_get, by omega, ?_, hlt, ?_, ?_, ?_⟩
    · rw [sI_ne (by decide)]
      by_cases e3 : 3 ≤ k
      · rw [if_pos e3]
        by_cases e7 : 7 ≤ k
        · rw [if_pos e7]; exact h6
        · rw [if_neg e7]; exact h6
      · rw [if_neg e3, sI_ne (by decide)]
        by_cases e7 : 7 ≤ k
        · rw [if_pos e7]; exact h6
        · rw [if_neg e7]; exact h6
    · rw [← hE, tE_in hk hc]; rfl
    · rw [hgd, hlt]
      by_cases l0 : tLt (T b)
      · rw [if_pos l0, if_pos l0, if_pos l0]
        by_cases d : nDg T b k = 0
        · rw [if_pos d, if_neg (by decide)]
          by_cases l1 : tLt (T (b + k))
          · rw [if_pos l1, if_pos rfl, if_pos ((nDg_z k).mpr ⟨d, ltdg l1⟩)]
          · rw [if_neg l1, if_neg (by decide), if_neg (fun z => ((nDg_z k).mp z).2 (hc.resolve_left l1))]
        · rw [if_neg d, if_pos rfl, if_neg (fun z => d ((nDg_z k).mp z).1)]
      · rw [if_neg l0, if_neg l0, if_neg l0]
        by_cases d : nLt T b k = 0
        · rw [if_pos d, if_neg (by decide)]
          by_cases l1 : tLt (T (b + k))
          · rw [if_pos l1, if_neg (by decide), if_neg (fun z => ((nLt_z k).mp z).2 l1)]
          · rw [if_neg l1, if_pos rfl, if_pos ((nLt_z k).mpr ⟨d, l1⟩)]
        · rw [if_neg d, if_pos rfl, if_neg (fun z => d ((nLt_z k).mp z).1)]
    · intro z
      by_cases e7 : 7 ≤ k
      · rw [show min (k + 1) 7 = min k 7 by omega] at z ⊢
        rw [if_pos (show 3 ≤ k by omega), if_pos e7]
        exact hw z
      · rw [show min (k + 1) 7 = k + 1 by omega] at z ⊢
        rw [show min k 7 = k by omega] at hw
        have z2 := (nDg_z k).mp z
        have l1 := hc.resolve_right z2.2
        have e : (27 : Int64) * o.2.1 12 + (nI (T (b + k))).toInt64 - 96 = lN (tF 27 96 T b (k + 1)) := by
          rw [hw z2.1, nI_l (by omega)]
          show lN 27 * lN _ + lN _ - lN 96 = lN (27 * tF 27 96 T b k + (T (b + k) - 96))
          rw [lN_mul, lN_add, lN_sub (by omega), Nat.add_sub_assoc (by omega)]
        rw [if_neg e7]
        by_cases e3 : 3 ≤ k
        · rw [if_pos e3]
          show (sL o 12 _).2.1 12 = _
          rw [sL_get, e]
        · rw [if_neg e3]
          show (sL o 12 _).2.1 12 = _
          rw [sL_get, e]
    · intro z
      rw [sI_ne (by decide)]
      by_cases e3 : 3 ≤ k
      · rw [show min (k + 1) 3 = min k 3 by omega] at z ⊢
        rw [if_pos e3]
        by_cases e7 : 7 ≤ k
        · rw [if_pos e7]; exact hv z
        · rw [if_neg e7]; exact hv z
      · rw [show min (k + 1) 3 = k + 1 by omega] at z ⊢
        rw [show min k 3 = k by omega] at hv
        have z2 := (nLt_z k).mp z
        have d1 := hc.resolve_left z2.2
        rw [if_neg e3, sI_get, hv z2.1]
        show nI 10 * nI _ + nI _ - nI 48 = nI (10 * tF 10 48 T b k + (T (b + k) - 48))
        rw [pk_mul, nI_add, pk_sub (by omega), Nat.add_sub_assoc (by omega)]
  · refine RS.i ?_ (Or.inl rfl)
    by_cases e3 : 3 ≤ k
    · rw [if_pos e3]
      by_cases e7 : 7 ≤ k
      · rw [if_pos e7]; exact RS.rf
      · rw [if_neg e7]; exact RS.l RS.rf
    · rw [if_neg e3]
      refine RS.i ?_ (by omega)
      by_cases e7 : 7 ≤ k
      · rw [if_pos e7]; exact RS.rf
      · rw [if_neg e7]; exact RS.l RS.rf
/-- what stands behind the run -/
theorem run_ {T : Nat → Nat} {n lim b : Nat} {lt : Int32} (x1 : Int32) : ∀ (f : Nat) (o : OS) (k : Nat) (gd : Int32), RLS o T n lim b k lt gd → n - (b + k) < f → ∃ (o' : OS) (gd' : Int32), f_X10_go__2_215 f x1 lt gd o = (if gd' = 0 then f_X10_go__2_377 x1 lt gd' o' else if lt = 0 then f_X10_go__2_374 x1 lt gd' 3 (o'.1 5 - o'.1 6) o' else f_X10_go__2_374 x1 lt gd' 7 (o'.1 5 - o'.1 6) o') ∧ RLS o' T n lim b (tE T n b - b) lt gd' ∧ RS o o' := by
  intro f
  induction f with
  | zero => intro o k gd _ h; omega
  | succ f ih =>
    intro o k gd h hf
    have hX := h.1
    have hn9 := hX.1
    have h5 := h.2.2.1
    have hn := h.2.2.2.1
    by_cases hk : b + k < n ∧ (tLt (T (b + k)) ∨ tDg (T (b + k)))
    · obtain ⟨o1, g1, e1, l1, r1⟩ := run_step h hk.1 hk.2 f x1
      obtain ⟨o2, g2, e2, l2, r2⟩ := ih o1 (k + 1) g1 l1 (by omega)
      exact ⟨o2, g2, e1.trans e2, l2, r1.tr r2⟩
    · have hE : tE T n b - b = k := by
        rw [← h.2.2.2.2.1]
        by_cases e : b + k < n
        · rw [tE_no e (fun q => hk ⟨e, q⟩)]; omega
        · rw [tE_ge (by omega)]; omega
      refine ⟨o, gd, ?_, by rw [hE]; exact h, RS.rf⟩
      have hz : ¬ tLt (if b + k < n then T (b + k) else 0) ∧ ¬ tDg (if b + k < n then T (b + k) else 0) := by
        by_cases e : b + k < n
        · rw [if_pos e]; exact ⟨fun q => hk ⟨e, Or.inl q⟩, fun q => hk ⟨e, Or.inr q⟩⟩
        · rw [if_neg e]; exact ⟨by decide, by decide⟩
      have hb : (if b + k < n then T (b + k) else 0) < 256 := by
        by_cases e : b + k < n
        · rw [if_pos e]; exact hX.2.2.2.2.2 _
        · rw [if_neg e]; decide
      rw [f_X10_go__2_215, at_ hX h5 (by omega), isL_ hb, isD_ hb, if_neg hz.1, if_neg hz.2, if_pos rfl, if_pos rfl]
theorem nLt_p {T : Nat → Nat} {b : Nat} (h : tLt (T b)) : ∀ k, nLt T b (k + 1) ≠ 0 := by
  intro k
  induction k with
  | zero => intro z; exact ((nLt_z 0).mp z).2 h
  | succ k ih => intro z; exact ih ((nLt_z (k + 1)).mp z).1
theorem nDg_p {T : Nat → Nat} {b : Nat} (h : tDg (T b)) : ∀ k, nDg T b (k + 1) ≠ 0 := by
  intro k
  induction k with
  | zero => intro z; exact ((nDg_z 0).mp z).2 h
  | succ k ih => intro z; exact ih ((nDg_z (k + 1)).mp z).1
theorem tKwF_2 (w : Nat) : ∀ k, tKwF w k = 2 ∨ 128 ≤ tKwF w k := by
  intro k
  induction k with
  | zero => exact Or.inl rfl
  | succ k ih =>
    show (if KW.getD k 0 = w then 128 + k else tKwF w k) = 2 ∨ 128 ≤ (if KW.getD k 0 = w then 128 + k else tKwF w k)
    by_cases e : KW.getD k 0 = w
    · rw [if_pos e]; exact Or.inr (Nat.le_add_right _ _)
    · rw [if_neg e]; exact ih
theorem tKw_2 (w : Nat) : tKw w = 2 ∨ 128 ≤ tKw w := tKwF_2 w 28
theorem RK_w {K : Nat} (h : K = 2 ∨ 128 ≤ K) : RK K = 2 := by
  unfold RK
  rw [if_neg (by omega), if_neg (by omega), if_neg (by omega), if_pos h]
theorem RK_1 : RK 1 = 1 := rfl
theorem RK_3 : RK 3 = 3 := rfl
theorem RK_0 : RK 0 = 0 := rfl
theorem isL3_ {c : Nat} (hc : tLt c ∨ tDg c) : f_X10_isLetter__3 (nI c) = if tLt c then 1 else 0 := by
  unfold f_X10_isLetter__3
  by_cases h1 : c < 97
  · rw [if_pos (show nI c < (97 : Int32) from nI_lt (b := 97) h1 (by decide)), if_neg (by omega)]
  · rw [if_neg (show ¬ nI c < (97 : Int32) from nI_nlt (b := 97) (by omega) (by omega)), if_pos (by omega)]
/-- a token that begins at b ahead of the end: what the spec says of it -/
theorem tok_in {T : Nat → Nat} {n lim p b : Nat} (h0 : tB0 T (tStop n lim) p = b) (h1 : b < tStop n lim) : tB T n lim p = b ∧ tK T n lim p = (if tLt (T b) ∨ tDg (T b) then (if nLt T b (tE T n b - b) = 0 ∧ tE T n b - b ≤ 3 then 3 else if nDg T b (tE T n b - b) = 0 ∧ tE T n b - b ≤ 7 then tKw (tF 256 0 T b (tE T n b - b)) else 1) else if tSg (T b) then T b else 1) ∧ tA T n lim p = (if tLt (T b) ∨ tDg (T b) then tE T n b else b + 1) ∧ tLen T n lim p = tE T n b - b := by
  have e : tB T n lim p = b := by
    unfold tB
    rw [h0, if_neg (by omega)]
  refine ⟨e, ?_, ?_, ?_⟩
  · unfold tK tW tLen
    rw [h0, if_neg (by omega), e]
  · unfold tA
    rw [e]
  · unfold tLen
    rw [e]
theorem go_198 {o : OS} {T : Nat → Nat} {n lim p b : Nat} (hX : RX o T n lim) (h5 : o.1 5 = nI b) (h6 : o.1 6 = nI b) (h0 : tB0 T (tStop n lim) p = b) (h1 : b < tStop n lim) (hn : b < n) (hc : tLt (T b) ∨ tDg (T b)) : RT (f_X10_go__2_198 (nI (T b)) o) T n lim p ∧ RS o (f_X10_go__2_198 (nI (T b)) o) := by
  obtain ⟨tb, tk, ta, tl⟩ := tok_in h0 h1
  have hn9 := hX.1
  unfold f_X10_go__2_198
  rw [isL3_ hc]
  have hL : RLS (sI (sL o 12 (0 : Int64)) 8 (0 : Int32)) T n lim b 0 (if tLt (T b) then 1 else 0) 1 := by
    refine ⟨RX.sI (RX.sL hX) (by decide) (by decide), ?_, ?_, by omega, rfl, rfl, ?_, ?_, ?_⟩
    · rw [sI_ne (by decide)]; exact h6
    · rw [sI_ne (by decide)]; exact h5
    · by_cases l0 : tLt (T b)
      · rw [if_pos l0]; rfl
      · rw [if_neg l0]; rfl
    · intro _
      show (sL o 12 (0 : Int64)).2.1 12 = _
      rw [sL_get]
      rfl
    · intro _
      rw [sI_get]
      rfl
  obtain ⟨o1, g1, e1, l1, r1⟩ := run_ (nI (T b)) 4294967298 _ 0 1 hL (by omega)
  rw [e1]
  have r2 : RS o o1 := RS.tr (RS.i (RS.l RS.rf) (by omega)) r1
  have hE := tE_le (T := T) (n := n) (n - b) b rfl
  have hE1 : b + 1 ≤ tE T n b := by
    rw [tE_in hn hc]
    exact (tE_le (T := T) (n := n) (n - (b + 1)) (b + 1) rfl).1
  obtain ⟨L, hLe⟩ : ∃ L, tE T n b - b = L + 1 := ⟨tE T n b - b - 1, by omega⟩
  rw [hLe] at l1 tk tl
  obtain ⟨lX, l6, l5, ln, -, -, lg, lw, lv⟩ := l1
  have hs : o1.1 5 - o1.1 6 = nI (L + 1) := by rw [l5, l6, pk_sub (by omega), Nat.add_sub_cancel_left]
  have hA : tA T n lim p = b + (L + 1) := by rw [ta, if_pos hc]; omega
  rw [if_pos hc] at tk
  -- the kind that it gets
  have hk : ∃ K : Nat, (if g1 = 0 then f_X10_go__2_377 (nI (T b)) (if tLt (T b) then 1 else 0) g1 o1 else if (if tLt (T b) then (1 : Int32) else 0) = 0 then f_X10_go__2_374 (nI (T b)) (if tLt (T b) then 1 else 0) g1 3 (o1.1 5 - o1.1 6) o1 else f_X10_go__2_374 (nI (T b)) (if tLt (T b) then 1 else 0) g1 7 (o1.1 5 - o1.1 6) o1) = sI o1 7 (nI K) ∧ K = RK (tK T n lim p) ∧ K ≠ 4 ∧ ((tK T n lim p = 2 ∨ 128 ≤ tK T n lim p) → nDg T b (L + 1) = 0 ∧ L + 1 ≤ 7) ∧ (tK T n lim p = 3 → nLt T b (L + 1) = 0 ∧ L + 1 ≤ 3) := by
    unfold f_X10_go__2_374 f_X10_go__2_377 f_X10_go__2_390
    rw [hs]
    by_cases l0 : tLt (T b)
    · have z1 := nLt_p l0 L
      rw [if_pos l0] at lg
      rw [if_neg (fun q => z1 q.1)] at tk
      rw [if_pos l0]
      by_cases d : nDg T b (L + 1) = 0
      · rw [if_pos d] at lg
        rw [lg, if_neg (by decide), if_neg (by decide)]
        by_cases e7 : L + 1 ≤ 7
        · rw [if_pos ⟨d, e7⟩] at tk
          rw [if_pos (show nI (L + 1) ≤ (7 : Int32) from nI_le (b := 7) e7 (by decide))]
          have kw := tKw_2 (tF 256 0 T b (L + 1))
          rw [← tk] at kw
          exact ⟨2, rfl, (RK_w kw).symm, by decide, fun _ => ⟨d, e7⟩, fun q => by omega⟩
        · rw [if_neg (fun q => e7 q.2)] at tk
          rw [if_neg (show ¬ nI (L + 1) ≤ (7 : Int32) from nI_ge (a := 7) (by omega) (by omega))]
          exact ⟨1, rfl, by rw [tk]; rfl, by decide, fun q => by omega, fun q => by omega⟩
      · rw [if_neg d] at lg
        rw [if_neg (fun q => d q.1)] at tk
        rw [lg, if_pos rfl]
        exact ⟨1, rfl, by rw [tk]; rfl, by decide, fun q => by omega, fun q => by omega⟩
    · have d0 := hc.resolve_left l0
      have z1 := nDg_p d0 L
      rw [if_neg l0] at lg
      rw [if_neg (c := nDg T b (L + 1) = 0 ∧ L + 1 ≤ 7) (fun q => z1 q.1)] at tk
      rw [if_neg l0]
      by_cases d : nLt T b (L + 1) = 0
      · rw [if_pos d] at lg
        rw [lg, if_neg (by decide), if_pos rfl]
        by_cases e3 : L + 1 ≤ 3
        · rw [if_pos ⟨d, e3⟩] at tk
          rw [if_pos (show nI (L + 1) ≤ (3 : Int32) from nI_le (b := 3) e3 (by decide))]
          exact ⟨3, rfl, by rw [tk]; rfl, by decide, fun q => by omega, fun _ => ⟨d, e3⟩⟩
        · rw [if_neg (fun q => e3 q.2)] at tk
          rw [if_neg (show ¬ nI (L + 1) ≤ (3 : Int32) from nI_ge (a := 3) (by omega) (by omega))]
          exact ⟨1, rfl, by rw [tk]; rfl, by decide, fun q => by omega, fun q => by omega⟩
      · rw [if_neg d] at lg
        rw [if_neg (fun q => d q.1)] at tk
        rw [lg, if_pos rfl]
        exact ⟨1, rfl, by rw [tk]; rfl, by decide, fun q => by omega, fun q => by omega⟩
  obtain ⟨K, k1, k2, k3, k4, k5⟩ := hk
  rw [k1]
  refine ⟨⟨lX.sI (by decide) (by decide), ?_, ?_, ?_, ?_, ?_, ?_⟩, RS.i r2 (by omega)⟩
  · rw [sI_ne (by decide), tb]; exact l6
  · rw [sI_get, k2]
  · intro _
    rw [sI_ne (by decide), hA]; exact l5
  · intro q
    obtain ⟨a1, a2⟩ := k4 q
    rw [tb, tl]
    rw [show min (L + 1) 7 = L + 1 by omega] at lw
    exact lw a1
  · intro q
    obtain ⟨a1, a2⟩ := k5 q
    unfold tNu
    rw [sI_ne (by decide), tb, tl]
    rw [show min (L + 1) 3 = L + 1 by omega] at lv
    exact lv a1
  · intro q
    exact absurd (k2.trans q) k3
theorem go_96 {o : OS} {T : Nat → Nat} {n lim p b : Nat} (hX : RX o T n lim) (h5 : o.1 5 = nI b) (h6 : o.1 6 = nI b) (h0 : tB0 T (tStop n lim) p = b) (h1 : b < tStop n lim) (hn : b < n) : RT (f_X10_go__2_96 o) T n lim p ∧ RS o (f_X10_go__2_96 o) := by
  have hn9 := hX.1
  have hc := hX.2.2.2.2.2 b
  unfold f_X10_go__2_96
  rw [h5, hX.2.2.1, nI_clamp (by omega), hX.2.2.2.2.1 b hn, if_pos (nI_lt hn (by omega)), isL_ hc, isD_ hc]
  by_cases hl : tLt (T b)
  · rw [if_pos hl, if_neg (by decide)]
    exact go_198 hX h5 h6 h0 h1 hn (Or.inl hl)
  · rw [if_neg hl, if_pos rfl]
    by_cases hd : tDg (T b)
    · rw [if_pos hd, if_neg (by decide)]
      exact go_198 hX h5 h6 h0 h1 hn (Or.inr hd)
    · rw [if_neg hd, if_pos rfl]
      obtain ⟨tb, tk, ta, tl⟩ := tok_in h0 h1
      have hcd : ¬ (tLt (T b) ∨ tDg (T b)) := fun q => q.elim hl hd
      rw [if_neg hcd] at tk ta
      have fin : ∀ K : Nat, K = RK (tK T n lim p) → (K = 4 → tK T n lim p = T b) → K ≠ 2 → K ≠ 3 → RT (f_X10_go__2_179 (nI (T b)) (nI K) o) T n lim p ∧ RS o (f_X10_go__2_179 (nI (T b)) (nI K) o) := by
        intro K k2 k4 kn2 kn3
        unfold f_X10_go__2_179
        refine ⟨⟨((hX.sI (by decide) (by decide)).sI (by decide) (by decide)).sI (by decide) (by decide), ?_, ?_, ?_, ?_, ?_, ?_⟩, RS.i (RS.i (RS.i RS.rf (by omega)) (by omega)) (by omega)⟩
        · rw [sI_ne (by decide), sI_ne (by decide), sI_ne (by decide), tb]; exact h6
        · rw [sI_ne (by decide), sI_ne (by decide), sI_get, k2]
        · intro _
          rw [sI_get, h5, nI_1, ta]
        · intro q
          exact absurd (k2.trans (RK_w q)) kn2
        · intro q
          exact absurd (k2.trans (by rw [q]; rfl)) kn3
        · intro q
          rw [sI_ne (by decide), sI_get, k4 (k2.trans q)]
      unfold f_X10_go__2_174
      have cc : ∀ v : Nat, v < 256 → ((nI (T b) = nI v) ↔ T b = v) := fun v hv => nI_c hc hv
      by_cases hs : tSg (T b)
      · rw [if_pos hs] at tk
        have hr : 4 = RK (tK T n lim p) := by
          rw [tk]
          unfold RK
          rw [if_neg (by omega), if_neg (by omega), if_neg (by omega), if_neg (by omega)]
        have f4 := fin 4 hr (fun _ => tk) (by decide) (by decide)
        rcases hs with e | e | e | e | e | e
        · rw [if_pos (show nI (T b) = (59 : Int32) from (cc 59 (by decide)).mpr e)]; exact f4
        · rw [if_neg (fun q : nI (T b) = (59 : Int32) => absurd ((cc 59 (by decide)).mp q) (by omega)), if_pos (show nI (T b) = (60 : Int32) from (cc 60 (by decide)).mpr e)]; exact f4
        · rw [if_neg (fun q : nI (T b) = (59 : Int32) => absurd ((cc 59 (by decide)).mp q) (by omega)), if_neg (fun q : nI (T b) = (60 : Int32) => absurd ((cc 60 (by decide)).mp q) (by omega)), if_pos (show nI (T b) = (61 : Int32) from (cc 61 (by decide)).mpr e)]; exact f4
        · rw [if_neg (fun q : nI (T b) = (59 : Int32) => absurd ((cc 59 (by decide)).mp q) (by omega)), if_neg (fun q : nI (T b) = (60 : Int32) => absurd ((cc 60 (by decide)).mp q) (by omega)), if_neg (fun q : nI (T b) = (61 : Int32) => absurd ((cc 61 (by decide)).mp q) (by omega)), if_pos (show nI (T b) = (62 : Int32) from (cc 62 (by decide)).mpr e)]; exact f4
        · rw [if_neg (fun q : nI (T b) = (59 : Int32) => absurd ((cc 59 (by decide)).mp q) (by omega)), if_neg (fun q : nI (T b) = (60 : Int32) => absurd ((cc 60 (by decide)).mp q) (by omega)), if_neg (fun q : nI (T b) = (61 : Int32) => absurd ((cc 61 (by decide)).mp q) (by omega)), if_neg (fun q : nI (T b) = (62 : Int32) => absurd ((cc 62 (by decide)).mp q) (by omega)), if_pos (show nI (T b) = (40 : Int32) from (cc 40 (by decide)).mpr e)]; exact f4
        · rw [if_neg (fun q : nI (T b) = (59 : Int32) => absurd ((cc 59 (by decide)).mp q) (by omega)), if_neg (fun q : nI (T b) = (60 : Int32) => absurd ((cc 60 (by decide)).mp q) (by omega)), if_neg (fun q : nI (T b) = (61 : Int32) => absurd ((cc 61 (by decide)).mp q) (by omega)), if_neg (fun q : nI (T b) = (62 : Int32) => absurd ((cc 62 (by decide)).mp q) (by omega)), if_neg (fun q : nI (T b) = (40 : Int32) => absurd ((cc 40 (by decide)).mp q) (by omega)), if_pos (show nI (T b) = (41 : Int32) from (cc 41 (by decide)).mpr e)]; exact f4
      · rw [if_neg hs] at tk
        have f1 := fin 1 (by rw [tk]; rfl) (fun q => absurd q (by decide)) (by decide) (by decide)
        rw [if_neg (fun q : nI (T b) = (59 : Int32) => hs (Or.inl ((cc 59 (by decide)).mp q))), if_neg (fun q : nI (T b) = (60 : Int32) => hs (Or.inr (Or.inl ((cc 60 (by decide)).mp q)))), if_neg (fun q : nI (T b) = (61 : Int32) => hs (Or.inr (Or.inr (Or.inl ((cc 61 (by decide)).mp q))))), if_neg (fun q : nI (T b) = (62 : Int32) => hs (Or.inr (Or.inr (Or.inr (Or.inl ((cc 62 (by decide)).mp q)))))), if_neg (fun q : nI (T b) = (40 : Int32) => hs (Or.inr (Or.inr (Or.inr (Or.inr (Or.inl ((cc 40 (by decide)).mp q))))))), if_neg (fun q : nI (T b) = (41 : Int32) => hs (Or.inr (Or.inr (Or.inr (Or.inr (Or.inr ((cc 41 (by decide)).mp q)))))))]
        exact f1
/-- the reference's go: from place p on, the token behind it -/
theorem go_ {o : OS} {T : Nat → Nat} {n lim p : Nat} (hX : RX o T n lim) (h5 : o.1 5 = nI p) (hp : p ≤ n) : RT (f_X10_go__2 o) T n lim p ∧ RS o (f_X10_go__2 o) := by
  have hn9 := hX.1
  have hl9 := hX.2.1
  unfold f_X10_go__2
  rw [go_blank 4294967298 o p hX h5 hp (by omega)]
  obtain ⟨b, hb⟩ : ∃ b, tB0 T n p = b := ⟨_, rfl⟩
  rw [hb]
  have hb1 := tB0_le T n (n - p) p rfl
  rw [hb] at hb1
  have hbn := hb1.2 hp
  have hX1 : RX (sI o 5 (nI b)) T n lim := hX.sI (by decide) (by decide)
  have hX2 : RX (sI (sI o 5 (nI b)) 6 (nI b)) T n lim := hX1.sI (by decide) (by decide)
  have r2 : RS o (sI (sI o 5 (nI b)) 6 (nI b)) := RS.i (RS.i RS.rf (by omega)) (by omega)
  have g5 : (sI (sI o 5 (nI b)) 6 (nI b)).1 5 = nI b := by rw [sI_ne (by decide), sI_get]
  have g6 : (sI (sI o 5 (nI b)) 6 (nI b)).1 6 = nI b := sI_get
  unfold f_X10_go__2_52
  rw [show (sI o 5 (nI b)).1 5 = nI b from sI_get, hX2.2.2.1, hX2.2.2.2.1]
  have go96 : tB0 T (tStop n lim) p = b → b < tStop n lim → b < n → RT (f_X10_go__2_96 (sI (sI o 5 (nI b)) 6 (nI b))) T n lim p ∧ RS o (f_X10_go__2_96 (sI (sI o 5 (nI b)) 6 (nI b))) := fun q1 q2 q3 => by
    have q := go_96 hX2 g5 g6 q1 q2 q3
    exact ⟨q.1, r2.tr q.2⟩
  by_cases e : n ≤ lim
  · have hs : tStop n lim = n := if_neg (by omega)
    rw [if_pos (nI_le e (by omega))]
    by_cases e2 : b < n
    · exact go96 (by rw [hs]; exact hb) (by omega) e2
    · have ebn : b = n := by omega
      unfold f_X10_go__2_96
      rw [g5, hX2.2.2.1, if_neg (nI_nlt (by omega) (by omega))]
      have tb : tB T n lim p = n := by
        unfold tB
        rw [hs, hb, if_pos (by omega)]
      have tk : tK T n lim p = 0 := by
        unfold tK
        rw [hs, hb, if_pos (by omega), if_neg (by omega)]
      refine ⟨⟨hX2.sI (by decide) (by decide), ?_, ?_, ?_, ?_, ?_, ?_⟩, RS.i r2 (by omega)⟩
      · rw [sI_ne (by decide), g6, tb, ebn]
      · rw [sI_get, tk]; rfl
      · intro q; rw [tb, hs] at q; omega
      · intro q; rw [tk] at q; omega
      · intro q; rw [tk] at q; omega
      · intro q; rw [tk] at q; exact absurd q (by decide)
  · have hs : tStop n lim = lim := if_pos (by omega)
    rw [if_neg (nI_ge (by omega) (by omega))]
    have hl := tB0_lim (T := T) (show lim ≤ n by omega) (lim - p) p rfl
    rw [hb] at hl
    by_cases e2 : b < lim
    · rw [if_pos (nI_lt e2 (by omega))]
      exact go96 (by rw [hs]; exact hl.2 e2) (by omega) (by omega)
    · rw [if_neg (nI_nlt (by omega) (by omega))]
      have tb : tB T n lim p = lim := by
        unfold tB
        rw [hs, if_pos (hl.1 (by omega))]
      have tk : tK T n lim p = 1 := by
        unfold tK
        rw [hs, if_pos (hl.1 (by omega)), if_pos (by omega)]
      refine ⟨⟨(hX2.sI (by decide) (by decide)).sI (by decide) (by decide), ?_, ?_, ?_, ?_, ?_, ?_⟩, RS.i (RS.i r2 (by omega)) (by omega)⟩
      · rw [sI_ne (by decide), sI_get, tb]
      · rw [sI_get, tk]; rfl
      · intro q; rw [tb, hs] at q; omega
      · intro q; rw [tk] at q; omega
      · intro q; rw [tk] at q; omega
      · intro q; rw [tk] at q; exact absurd q (by decide)
/-! words: 256 to a letter, 27 to a letter -/
def LC : Nat → Nat → Nat → Prop
  | 0, w, v => w = 0 ∧ v = 0
  | L + 1, w, v => ∃ w1 v1 c : Nat, LC L w1 v1 ∧ tLt c ∧ w = 256 * w1 + c ∧ v = 27 * v1 + (c - 96)
theorem LC.bd : ∀ (L w v : Nat), LC L w v → v + 1 ≤ 27 ^ L ∧ w + 1 ≤ 256 ^ L := by
  intro L
  induction L with
  | zero => intro w v h; obtain ⟨rfl, rfl⟩ := h; exact ⟨Nat.le_refl _, Nat.le_refl _⟩
  | succ L ih =>
    intro w v h
    obtain ⟨w1, v1, c, h1, hc, rfl, rfl⟩ := h
    have q := ih w1 v1 h1
    rw [Nat.pow_succ, Nat.pow_succ]
    exact ⟨by omega, by omega⟩
theorem LC.v63 {L w v : Nat} (h : LC L w v) (hL : L ≤ 7) : v < 2 ^ 63 := by
  have q := (LC.bd L w v h).1
  have r : 27 ^ L ≤ 27 ^ 7 := Nat.pow_le_pow_right (by decide) hL
  have s : 27 ^ 7 < 2 ^ 63 := by decide
  omega
theorem LC.w63 {L w v : Nat} (h : LC L w v) (hL : L ≤ 7) : w < 2 ^ 63 := by
  have q := (LC.bd L w v h).2
  have r : 256 ^ L ≤ 256 ^ 7 := Nat.pow_le_pow_right (by decide) hL
  have s : 256 ^ 7 < 2 ^ 63 := by decide
  omega
theorem LC.inj : ∀ (L L' w v w' v' : Nat), LC L w v → LC L' w' v' → (w = w' ↔ v = v') := by
  intro L
  induction L with
  | zero =>
    intro L' w v w' v' h h'
    obtain ⟨rfl, rfl⟩ := h
    cases L' with
    | zero => obtain ⟨rfl, rfl⟩ := h'; exact ⟨fun _ => rfl, fun _ => rfl⟩
    | succ L' =>
      obtain ⟨w1, v1, c, h1, hc, rfl, rfl⟩ := h'
      exact ⟨fun q => by omega, fun q => by omega⟩
  | succ L ih =>
    intro L' w v w' v' h h'
    obtain ⟨w1, v1, c, h1, hc, rfl, rfl⟩ := h
    cases L' with
    | zero => obtain ⟨rfl, rfl⟩ := h'; exact ⟨fun q => by omega, fun q => by omega⟩
    | succ L' =>
      obtain ⟨w2, v2, d, h2, hd, rfl, rfl⟩ := h'
      have q := ih L' w1 v1 w2 v2 h1 h2
      constructor
      · intro e
        have e1 : w1 = w2 := by omega
        have e2 := q.mp e1
        omega
      · intro e
        have e1 : v1 = v2 := by omega
        have e2 := q.mpr e1
        omega
theorem LC.tok {T : Nat → Nat} {b : Nat} : ∀ L, nDg T b L = 0 → (∀ j, j < L → tLt (T (b + j)) ∨ tDg (T (b + j))) → LC L (tF 256 0 T b L) (tF 27 96 T b L) := by
  intro L
  induction L with
  | zero => intro _ _; exact ⟨rfl, rfl⟩
  | succ L ih =>
    intro h hl
    have z := (nDg_z L).mp h
    exact ⟨_, _, T (b + L), ih z.1 (fun j hj => hl j (by omega)), (hl L (by omega)).resolve_right z.2, rfl, rfl⟩
def rc256 : List Nat → Nat
  | [] => 0
  | c :: l => 256 * rc256 l + c
def rc27 : List Nat → Nat
  | [] => 0
  | c :: l => 27 * rc27 l + (c - 96)
theorem LC.list : ∀ l : List Nat, (∀ c ∈ l, tLt c) → LC l.length (rc256 l) (rc27 l) := by
  intro l
  induction l with
  | nil => intro _; exact ⟨rfl, rfl⟩
  | cons c l ih => intro h; exact ⟨_, _, c, ih (fun d hd => h d (List.mem_cons_of_mem _ hd)), h c List.mem_cons_self, rfl, rfl⟩
def KWL : List (List Nat) := [[97, 101, 100, 105], [109, 111, 111, 114], [108, 101, 99, 114, 97, 112], [110, 111, 115, 114, 101, 112], [115, 116, 105, 115], [115, 97, 104], [108, 101, 114, 114, 97, 117, 113], [107, 97, 101, 108], [115, 115, 101, 117, 103], [115, 110, 105, 111, 106], [115, 100, 110, 97, 116, 115], [115, 101, 104, 115, 105, 119], [115, 101, 115, 115, 101, 117, 103], [110, 101, 112, 111], [121, 114, 114, 97, 99], [121, 97, 100], [114, 111], [100, 110, 97], [116, 111, 110], [100, 101, 110, 101, 112, 111], [103, 110, 105, 104, 116, 111, 110], [100, 101, 104, 99, 116, 97, 119], [115, 105], [110, 105], [101, 122, 105, 115], [101, 103, 108, 117, 98], [100, 101, 110, 114, 117, 116], [114, 101, 98, 109, 117, 110]]
def KW27 : List Nat := [180199, 365647, 230470581, 232608281, 381097, 5878, 6888374364, 239879, 4137607, 5616613, 283288069, 335187793, 3016315657, 307058, 1627639, 2968, 423, 1111, 10631, 223845421, 5649913681, 8935713994, 262, 257, 381245, 1485167, 298503040, 212302449]
theorem kwLC : ∀ k, k < 28 → LC (KWL.getD k []).length (KW.getD k 0) (KW27.getD k 0) ∧ (KWL.getD k []).length ≤ 7 := by
  have h : ∀ k, k < 28 → (∀ c ∈ KWL.getD k [], tLt c) ∧ KW.getD k 0 = rc256 (KWL.getD k []) ∧ KW27.getD k 0 = rc27 (KWL.getD k []) ∧ (KWL.getD k []).length ≤ 7 := by decide +kernel
  intro k hk
  obtain ⟨h1, h2, h3, h4⟩ := h k hk
  rw [h2, h3]
  exact ⟨LC.list _ h1, h4⟩
theorem kw_nodup : ∀ i, i < 28 → ∀ j, j < 28 → KW.getD i 0 = KW.getD j 0 → i = j := by decide +kernel
theorem tKwF_no {w : Nat} : ∀ k, (∀ j, j < k → KW.getD j 0 ≠ w) → tKwF w k = 2 := by
  intro k
  induction k with
  | zero => intro _; rfl
  | succ k ih =>
    intro h
    show (if KW.getD k 0 = w then 128 + k else tKwF w k) = 2
    rw [if_neg (h k (by omega))]
    exact ih (fun j hj => h j (by omega))
theorem tKwF_at {w j : Nat} (hj28 : j < 28) (hw : KW.getD j 0 = w) : ∀ k, k ≤ 28 → j < k → tKwF w k = 128 + j := by
  intro k
  induction k with
  | zero => intro _ h; omega
  | succ k ih =>
    intro hk hj
    show (if KW.getD k 0 = w then 128 + k else tKwF w k) = 128 + j
    by_cases e : KW.getD k 0 = w
    · rw [if_pos e, kw_nodup k (by omega) j hj28 (e.trans hw.symm)]
    · rw [if_neg e]
      by_cases e2 : j = k
      · rw [e2] at hw; exact absurd hw e
      · exact ih (by omega) (by omega)
theorem tKw_at {w j : Nat} (hj : j < 28) : tKw w = 128 + j ↔ KW.getD j 0 = w := by
  constructor
  · intro h
    by_cases e : ∃ i, i < 28 ∧ KW.getD i 0 = w
    · obtain ⟨i, hi, e⟩ := e
      have q : tKw w = 128 + i := tKwF_at hi e 28 (Nat.le_refl _) hi
      have : i = j := by omega
      rw [← this]; exact e
    · have q : tKw w = 2 := tKwF_no 28 (fun j hj e1 => e ⟨j, hj, e1⟩)
      omega
  · intro h
    exact tKwF_at hj h 28 (Nat.le_refl _) hj
theorem tKw_name {w : Nat} : tKw w = 2 ↔ ∀ j, j < 28 → KW.getD j 0 ≠ w := by
  constructor
  · intro h j hj e
    have q := (tKw_at hj).mpr e
    omega
  · intro h
    exact tKwF_no 28 h
theorem wo_ : ∀ k, k < 28 → f_X10_wordOf__7 (nI k) = lN (KW27.getD k 0) := by decide +kernel
theorem lc0 {x y : Int64} : lg_cmp x y = 0 ↔ x = y := lg_cmp_eq x y
/-- a word ahead: its letters -/
theorem tok_word {T : Nat → Nat} {n lim p : Nat} (h : tK T n lim p = 2 ∨ 128 ≤ tK T n lim p) : ∃ L, L ≤ 7 ∧ LC L (tW T n lim p) (tF 27 96 T (tB T n lim p) (tLen T n lim p)) ∧ tK T n lim p = tKw (tW T n lim p) := by
  have h9 := h
  unfold tK at h
  by_cases e1 : tStop n lim ≤ tB0 T (tStop n lim) p
  · rw [if_pos e1] at h
    by_cases e2 : lim < n
    · rw [if_pos e2] at h; omega
    · rw [if_neg e2] at h; omega
  · rw [if_neg e1] at h
    obtain ⟨tb, tk, ta, tl⟩ := tok_in (T := T) (n := n) (lim := lim) (p := p) rfl (by omega)
    have ew : tW T n lim p = tF 256 0 T (tB T n lim p) (tLen T n lim p) := rfl
    by_cases e3 : tLt (T (tB T n lim p)) ∨ tDg (T (tB T n lim p))
    · rw [if_pos e3] at h
      by_cases e4 : nLt T (tB T n lim p) (tLen T n lim p) = 0 ∧ tLen T n lim p ≤ 3
      · rw [if_pos e4] at h; omega
      · rw [if_neg e4] at h
        by_cases e5 : nDg T (tB T n lim p) (tLen T n lim p) = 0 ∧ tLen T n lim p ≤ 7
        · refine ⟨tLen T n lim p, e5.2, ?_, ?_⟩
          · rw [ew]
            refine LC.tok _ e5.1 (fun j hj => ?_)
            have q := (tE_le (T := T) (n := n) (n - tB T n lim p) (tB T n lim p) rfl)
            refine q.2.2 _ (Nat.le_add_right _ _) ?_
            unfold tLen at hj
            omega
          · unfold tK
            rw [if_neg e1, if_pos e3, if_neg e4, if_pos e5]
        · rw [if_neg e5] at h; omega
    · rw [if_neg e3] at h
      by_cases e4 : tSg (T (tB T n lim p))
      · rw [if_pos e4] at h; omega
      · rw [if_neg e4] at h; omega
theorem RK_n2 {K : Nat} (h : ¬ (K = 2 ∨ 128 ≤ K)) : RK K ≠ 2 ∧ RK K < 5 := by
  unfold RK
  by_cases e0 : K = 0
  · rw [if_pos e0]; exact ⟨by decide, by decide⟩
  · rw [if_neg e0]
    by_cases e1 : K = 1
    · rw [if_pos e1]; exact ⟨by decide, by decide⟩
    · rw [if_neg e1]
      by_cases e3 : K = 3
      · rw [if_pos e3]; exact ⟨by decide, by decide⟩
      · rw [if_neg e3, if_neg h]; exact ⟨by decide, by decide⟩
theorem wcmp {T : Nat → Nat} {n lim p L w v : Nat} {o : OS} (h : RT o T n lim p) (hw : tK T n lim p = 2 ∨ 128 ≤ tK T n lim p) (hL : LC L w v) (h7 : L ≤ 7) : lg_cmp (o.2.1 12) (lN v) = 0 ↔ w = tW T n lim p := by
  obtain ⟨L2, l7, l2, -⟩ := tok_word hw
  rw [lc0, h.2.2.2.2.1 hw, pk_lEQ (LC.v63 l2 l7) (LC.v63 hL h7)]
  exact ⟨fun q => (LC.inj _ _ _ _ _ _ hL l2).mpr q.symm, fun q => ((LC.inj _ _ _ _ _ _ hL l2).mp q).symm⟩
theorem isWord_ {T : Nat → Nat} {n lim p k : Nat} {o : OS} (h : RT o T n lim p) (hk : k < 28) : f_X10_isWord__4 (nI k) o = if tK T n lim p = 128 + k then 1 else 0 := by
  unfold f_X10_isWord__4
  rw [h.2.2.1, wo_ k hk]
  by_cases hw : tK T n lim p = 2 ∨ 128 ≤ tK T n lim p
  · obtain ⟨L, l7, l2, ek⟩ := tok_word hw
    obtain ⟨q1, q2⟩ := kwLC k hk
    rw [RK_w hw, if_pos (show nI 2 = (2 : Int32) from rfl)]
    have c := wcmp h hw q1 q2
    have d : tK T n lim p = 128 + k ↔ KW.getD k 0 = tW T n lim p := by rw [ek]; exact tKw_at hk
    by_cases e : KW.getD k 0 = tW T n lim p
    · rw [if_pos (c.mpr e), if_pos (d.mpr e)]
    · rw [if_neg (fun q => e (c.mp q)), if_neg (fun q => e (d.mp q))]
  · have q := RK_n2 hw
    rw [if_neg (fun z : nI (RK (tK T n lim p)) = (2 : Int32) => q.1 ((nI_eq (a := RK (tK T n lim p)) (b := 2) (by omega) (by decide)).mp z)), if_neg (by omega)]
theorem isName_l {T : Nat → Nat} {n lim p : Nat} {o : OS} (h : RT o T n lim p) (hw : tK T n lim p = 2 ∨ 128 ≤ tK T n lim p) : ∀ (f k : Nat), k ≤ 28 → 28 - k < f → ((∀ j, k ≤ j → j < 28 → KW.getD j 0 ≠ tW T n lim p) → f_X10_isName__1_12 f (nI k) o = 1) ∧ ((∃ j, k ≤ j ∧ j < 28 ∧ KW.getD j 0 = tW T n lim p) → f_X10_isName__1_12 f (nI k) o = 0) := by
  intro f
  induction f with
  | zero => intro k _ h; omega
  | succ f ih =>
    intro k hk hf
    rw [f_X10_isName__1_12]
    by_cases e : 27 < k
    · rw [if_pos (show (27 : Int32) < nI k from nI_lt (a := 27) e (by omega))]
      exact ⟨fun _ => rfl, fun ⟨j, h1, h2, _⟩ => by omega⟩
    · rw [if_neg (show ¬ (27 : Int32) < nI k from nI_nlt (a := 27) (by omega) (by decide)), wo_ k (by omega)]
      obtain ⟨q1, q2⟩ := kwLC k (by omega)
      have c := wcmp h hw q1 q2
      by_cases e2 : KW.getD k 0 = tW T n lim p
      · rw [if_pos (c.mpr e2)]
        exact ⟨fun q => absurd e2 (q k (Nat.le_refl _) (by omega)), fun _ => rfl⟩
      · rw [if_neg (fun q => e2 (c.mp q)), nI_1]
        obtain ⟨i1, i2⟩ := ih (k + 1) (by omega) (by omega)
        refine ⟨fun q => i1 (fun j h1 h2 => q j (by omega) h2), fun ⟨j, h1, h2, h3⟩ => i2 ⟨j, ?_, h2, h3⟩⟩
        by_cases e4 : j = k
        · rw [e4] at h3; exact absurd h3 e2
        · omega
theorem isName_ {T : Nat → Nat} {n lim p : Nat} {o : OS} (h : RT o T n lim p) : f_X10_isName__1 o = if tK T n lim p = 2 then 1 else 0 := by
  unfold f_X10_isName__1
  rw [h.2.2.1]
  by_cases hw : tK T n lim p = 2 ∨ 128 ≤ tK T n lim p
  · obtain ⟨L, l7, l2, ek⟩ := tok_word hw
    rw [RK_w hw, if_pos (show nI 2 = (2 : Int32) from rfl)]
    have q := isName_l h hw 4294967298 0 (by decide) (by decide)
    rw [nI_0] at q
    by_cases e : tK T n lim p = 2
    · rw [if_pos e]
      rw [ek] at e
      exact q.1 (fun j _ h2 => tKw_name.mp e j h2)
    · rw [if_neg e]
      obtain ⟨j, hj⟩ : ∃ j, tK T n lim p = 128 + j := ⟨tK T n lim p - 128, by omega⟩
      by_cases j28 : j < 28
      · rw [ek] at hj
        exact q.2 ⟨j, Nat.zero_le _, j28, (tKw_at j28).mp hj⟩
      · exfalso
        rw [ek] at e hj
        apply e
        refine tKw_name.mpr (fun i hi z => ?_)
        have z1 := (tKw_at hi).mpr z
        omega
  · have q := RK_n2 hw
    rw [if_neg (fun z : nI (RK (tK T n lim p)) = (2 : Int32) => q.1 ((nI_eq (a := RK (tK T n lim p)) (b := 2) (by omega) (by decide)).mp z)), if_neg (by omega)]
/-- a fault, at the token ahead -/
theorem bad_ {T : Nat → Nat} {n lim p c : Nat} {o : OS} (h : RT o T n lim p) (hc : c < 5) : (f_X10_bad__1 (nI c) o).2 = 0 ∧ (f_X10_bad__1 (nI c) o).1.1 10 = nI (sBad T n lim c p).1 ∧ (f_X10_bad__1 (nI c) o).1.1 11 = nI (sBad T n lim c p).2 := by
  unfold f_X10_bad__1 f_X10_bad__1_14 sBad
  rw [h.2.2.1]
  have e : (nI (RK (tK T n lim p)) = (1 : Int32)) ↔ tK T n lim p = 1 := by
    have hr : RK (tK T n lim p) < 5 := by
      by_cases hw : tK T n lim p = 2 ∨ 128 ≤ tK T n lim p
      · rw [RK_w hw]; decide
      · exact (RK_n2 hw).2
    have q := nI_eq (a := RK (tK T n lim p)) (b := 1) (by omega) (by decide)
    refine ⟨fun z => ?_, fun z => by rw [z]; rfl⟩
    have z1 := q.mp z
    unfold RK at z1
    by_cases e0 : tK T n lim p = 0
    · rw [if_pos e0] at z1; omega
    · rw [if_neg e0] at z1
      by_cases e1 : tK T n lim p = 1
      · exact e1
      · rw [if_neg e1] at z1
        by_cases e3 : tK T n lim p = 3
        · rw [if_pos e3] at z1; omega
        · rw [if_neg e3] at z1
          by_cases e4 : tK T n lim p = 2 ∨ 128 ≤ tK T n lim p
          · rw [if_pos e4] at z1; omega
          · rw [if_neg e4] at z1; omega
  by_cases k1 : tK T n lim p = 1
  · rw [if_pos (e.mpr k1), if_pos k1]
    refine ⟨rfl, ?_, ?_⟩
    · rw [sI_ne (by decide), sI_get]; rfl
    · rw [sI_get, sI_ne (by decide)]; exact h.2.1
  · rw [if_neg (fun q => k1 (e.mp q)), if_neg k1]
    refine ⟨rfl, ?_, ?_⟩
    · rw [sI_ne (by decide), sI_get]
    · rw [sI_get, sI_ne (by decide)]; exact h.2.1
