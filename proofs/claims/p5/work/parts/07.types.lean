def canon : Nat → Int × Int := fun j => if j ≤ 0 then (0, 6) else if j ≤ 1 then (0, 4) else if j ≤ 2 then (0, 6) else if j ≤ 3 then (0, 8) else if j ≤ 23 then ((-2147483648), 2147483647) else if j ≤ 31 then (0, 5) else if j ≤ 39 then ((-2147483648), 2147483647) else if j ≤ 47 then ((-1), 5) else if j ≤ 103 then ((-2147483648), 2147483647) else if j ≤ 111 then (0, 5) else if j ≤ 119 then ((-1), 5) else if j ≤ 172 then ((-2147483648), 2147483647) else if j ≤ 173 then (0, 59) else if j ≤ 413 then ((-2147483648), 2147483647) else (-2147483648, 2147483647)
def RNODE (f : Nat → Int32) : Prop := ∀ k, k < 60 → (((f (174 + 4 * k)).toInt = 1 ∨ (f (174 + 4 * k)).toInt = 2 ∨ (f (174 + 4 * k)).toInt = 3) → 0 ≤ (f (175 + 4 * k)).toInt ∧ (f (175 + 4 * k)).toInt < k) ∧ (((f (174 + 4 * k)).toInt = 2 ∨ (f (174 + 4 * k)).toInt = 3) → 0 ≤ (f (176 + 4 * k)).toInt ∧ (f (176 + 4 * k)).toInt < k)
def RHEAD (f : Nat → Int32) : Prop := (0 < (f 0).toInt → 1 ≤ (f 5).toInt) ∧ (0 < (f 3).toInt → 0 < (f 0).toInt) ∧ ∀ i : Nat, i < 6 → (i : Int) < (f 0).toInt → 1 ≤ (f (6 + i)).toInt
def RN (f : Nat → Int32) : Prop := RHEAD f ∧ RNODE f
theorem RN_upd {v : Int32} {AA BB : Nat} (h1 : 84 ≤ AA) (h2 : BB ≤ 173) : ∀ (f : Nat → Int32) (j : Nat), AA ≤ j → j ≤ BB → RN f → RN (upd f j v) := by
  intro f j hj hj2 h
  have e : ∀ i, i ≠ j → upd f j v i = f i := fun i hi => pk_un hi
  refine ⟨⟨?_, ?_, ?_⟩, ?_⟩
  · rw [e 0 (by omega), e 5 (by omega)]; exact h.1.1
  · rw [e 0 (by omega), e 3 (by omega)]; exact h.1.2.1
  · intro i hi
    rw [e 0 (by omega), e (6 + i) (by omega)]
    exact h.1.2.2 i hi
  · intro k hk
    rw [e (174 + 4 * k) (by omega), e (175 + 4 * k) (by omega), e (176 + 4 * k) (by omega)]
    exact h.2 k hk
def RND (f : Nat → Int32) : Prop := ∀ k, k < 60 → (((f (4 * k)).toInt = 1 ∨ (f (4 * k)).toInt = 2 ∨ (f (4 * k)).toInt = 3) → 0 ≤ (f (4 * k + 1)).toInt ∧ (f (4 * k + 1)).toInt < k) ∧ (((f (4 * k)).toInt = 2 ∨ (f (4 * k)).toInt = 3) → 0 ≤ (f (4 * k + 2)).toInt ∧ (f (4 * k + 2)).toInt < k)
theorem RN_zero {v : Int32} {AA BB : Nat} (hv : RI v 0 0) (h1 : 84 ≤ AA) : ∀ (f : Nat → Int32) (j : Nat), AA ≤ j → j ≤ BB → RN f → RN (upd f j v) := by
  intro f j hj hj2 h
  have e : ∀ i, i ≠ j → upd f j v i = f i := fun i hi => pk_un hi
  have e0 : ∀ i, i = j → (upd f j v i).toInt = 0 := fun i hi => by rw [hi, pk_us]; exact hv.eq
  refine ⟨⟨?_, ?_, ?_⟩, ?_⟩
  · rw [e 0 (by omega), e 5 (by omega)]; exact h.1.1
  · rw [e 0 (by omega), e 3 (by omega)]; exact h.1.2.1
  · intro i hi
    rw [e 0 (by omega), e (6 + i) (by omega)]
    exact h.1.2.2 i hi
  · intro k hk
    have hk2 := h.2 k hk
    by_cases a1 : 174 + 4 * k = j
    · have z := e0 _ a1
      exact ⟨fun q => by omega, fun q => by omega⟩
    · rw [e _ a1]
      by_cases a2 : 175 + 4 * k = j
      · have z := e0 _ a2
        rw [e (176 + 4 * k) (by omega)]
        exact ⟨fun q => by have := (hk2.1 q); omega, hk2.2⟩
      · rw [e _ a2]
        by_cases a3 : 176 + 4 * k = j
        · have z := e0 _ a3
          exact ⟨hk2.1, fun q => by have := (hk2.2 q); omega⟩
        · rw [e _ a3]; exact hk2
def el_MANY : Nat → Int × Int := fun j => if j ≤ 0 then (0, 6) else if j ≤ 1 then (0, 4) else if j ≤ 2 then (0, 6) else if j ≤ 3 then (0, 8) else (0, 0)
def ty_WORLD : List VT := [vR 25, vI (-2147483648) 2147483647, vR 8, vR 9, vR 10, vR 10, vR 10, vR 11, vR 12, vR 13, vR 13, vR 14, vI (-2147483648) 2147483647]
def ty_POST : List VT := [vR 1, vR 4, vR 5, vR 6, vR 7, vI (-2147483648) 2147483647, vI (-2147483648) 2147483647, vI 0 1, vI 0 1]
def ty_TAPE : List VT := [vR 2, vR 0, vI 0 940, vI 0 940, vI 0 1, vI 0 940, vI 0 940, vI (-2147483648) 2147483647, vJ (-9223372036854775808) 9223372036854775807, vI (-2147483648) 2147483647, vI 0 4, vI (-2147483648) 2147483647]
def ty_HIST : List VT := [vR 22, vI 0 8, vI (-2147483648) 2147483647]
def ty_IMAGE : List VT := [vR 24, vN 32, vI 0 1]
def ty_ROOMS : List VT := [vR 16, vR 17]
def ty_TAG : List VT := [vR 3, vI 0 26]
def ty_BOOK : List VT := [vR 18, vR 19, vR 20, vI 0 40, vI (-2147483648) 2147483647]
def ty_SENT : List VT := [vR 21, vR 21, vR 21, vI 0 40, vI (-2147483648) 2147483647]
def ty_WP : List VT := [vR 26, vR 24, vR 24, vR 27, vR 23, vN 32, vR 31, vR 15, vR 29, vR 13, vR 30, vI (-2147483648) 2147483647, vI (-2147483648) 2147483647, vI (-2147483648) 2147483647, vI (-2147483648) 2147483647]
def el_NOW : Nat → Int × Int := fun j => canon (j)
def el_READ : Nat → Int × Int := fun j => canon (j)
def el_KEPT : Nat → Int × Int := fun j => canon (j % 414)
def el_SNAPS : Nat → Int × Int := fun j => canon (84 + j % 88)
def el_ASIDE : Nat → Int × Int := fun j => canon (84 + j)
def el_HELD : Nat → Int × Int := fun j => canon (84 + j)
def ty_MODEL : List VT := [vI (-2147483648) 2147483647, vR 40, vI 0 940, vI 0 940, vI (-2147483648) 2147483647, vI 0 940, vI (-2147483648) 2147483647, vI (-2147483648) 2147483647, vI (-2147483648) 2147483647, vI (-2147483648) 2147483647, vI (-2147483648) 2147483647, vI (-2147483648) 2147483647, vJ (-9223372036854775808) 9223372036854775807, vI (-2147483648) 2147483647, vR 34, vR 35, vR 36, vR 37, vR 38, vR 39, vR 41, vR 42, vR 43, vR 44, vR 45, vI 0 8, vR 46, vI (-2147483648) 2147483647, vR 47, vI (-2147483648) 2147483647, vI (-1) 7, vR 48, vR 49, vI 0 6, vI 0 1, vR 50, vI 0 8, vR 51, vI 0 64, vI (-2147483648) 2147483647, vR 52, vR 53, vI 0 40, vI 0 1, vR 54, vI (-2147483648) 2147483647, vI (-2147483648) 2147483647, vI (-2147483648) 2147483647, vI (-2147483648) 2147483647]
def GG : Nat → Nat → CTy := fun _ t => match t with
  | 0 => .inr (.inr (.inl (28, (-9223372036854775808), 9223372036854775807)))
  | 1 => .inr (.inr (.inl (32, (-9223372036854775808), 9223372036854775807)))
  | 2 => .inr (.inl (0, 940, (fun _ => ((-128), 127)), (fun _ => True)))
  | 3 => .inr (.inl (0, 26, (fun _ => ((-128), 127)), (fun _ => True)))
  | 4 => .inr (.inl (1, 4, el_MANY, (fun _ => True)))
  | 5 => .inr (.inl (1, 6, (fun _ => ((-2147483648), 2147483647)), (fun _ => True)))
  | 6 => .inr (.inl (1, 6, (fun _ => ((-2147483648), 2147483647)), (fun _ => True)))
  | 7 => .inr (.inl (1, 8, (fun _ => ((-2147483648), 2147483647)), (fun _ => True)))
  | 8 => .inr (.inl (1, 36, (fun _ => ((-2147483648), 2147483647)), (fun _ => True)))
  | 9 => .inr (.inl (1, 6, (fun _ => ((-2147483648), 2147483647)), (fun _ => True)))
  | 10 => .inr (.inl (1, 6, (fun _ => ((-2147483648), 2147483647)), (fun _ => True)))
  | 11 => .inr (.inl (1, 8, (fun _ => (0, 5)), (fun _ => True)))
  | 12 => .inr (.inl (1, 8, (fun _ => ((-1), 5)), (fun _ => True)))
  | 13 => .inr (.inl (1, 8, (fun _ => ((-2147483648), 2147483647)), (fun _ => True)))
  | 14 => .inr (.inl (1, 6, (fun _ => ((-2147483648), 2147483647)), (fun _ => True)))
  | 15 => .inr (.inl (1, 4, (fun _ => ((-2147483648), 2147483647)), (fun _ => True)))
  | 16 => .inr (.inl (1, 6, (fun _ => ((-1), 5)), (fun _ => True)))
  | 17 => .inr (.inl (1, 6, (fun _ => ((-2147483648), 2147483647)), (fun _ => True)))
  | 18 => .inr (.inl (1, 40, (fun _ => ((-2147483648), 2147483647)), (fun _ => True)))
  | 19 => .inr (.inl (1, 40, (fun _ => ((-2147483648), 2147483647)), (fun _ => True)))
  | 20 => .inr (.inl (1, 40, (fun _ => ((-2147483648), 2147483647)), (fun _ => True)))
  | 21 => .inr (.inl (1, 40, (fun _ => ((-2147483648), 2147483647)), (fun _ => True)))
  | 22 => .inr (.inr (.inr (4, 9, (fun _ => 24))))
  | 23 => .inr (.inr (.inr (5, 2, (fun _ => 28))))
  | 24 => .inl (8, ty_WORLD)
  | 25 => .inl (3, ty_POST)
  | 26 => .inl (7, ty_TAPE)
  | 27 => .inl (1, ty_HIST)
  | 28 => .inl (2, ty_IMAGE)
  | 29 => .inl (4, ty_ROOMS)
  | 30 => .inl (6, ty_TAG)
  | 31 => .inl (0, ty_BOOK)
  | 32 => .inl (5, ty_SENT)
  | 33 => .inl (9, ty_WP)
  | 34 => .inr (.inl (1, 414, el_NOW, RN))
  | 35 => .inr (.inl (1, 84, el_READ, (fun _ => True)))
  | 36 => .inr (.inl (1, 828, el_KEPT, (fun f => RN f ∧ RN (fun j => f (414 + j)))))
  | 37 => .inr (.inl (1, 704, el_SNAPS, (fun _ => True)))
  | 38 => .inr (.inl (1, 88, el_ASIDE, (fun _ => True)))
  | 39 => .inr (.inl (1, 88, el_HELD, (fun _ => True)))
  | 40 => .inr (.inl (1, 940, (fun _ => (0, 255)), (fun _ => True)))
  | 41 => .inr (.inr (.inl (24, (-9223372036854775808), 9223372036854775807)))
  | 42 => .inr (.inr (.inl (24, (-9223372036854775808), 9223372036854775807)))
  | 43 => .inr (.inr (.inl (48, (-9223372036854775808), 9223372036854775807)))
  | 44 => .inr (.inl (3, 2, (fun _ => ((-2147483648), 2147483647)), (fun _ => True)))
  | 45 => .inr (.inl (3, 2, (fun _ => ((-2147483648), 2147483647)), (fun _ => True)))
  | 46 => .inr (.inl (1, 6, (fun _ => ((-2147483648), 2147483647)), (fun _ => True)))
  | 47 => .inr (.inl (1, 8, (fun _ => ((-2147483648), 2147483647)), (fun _ => True)))
  | 48 => .inr (.inl (1, 6, (fun _ => ((-2147483648), 2147483647)), (fun _ => True)))
  | 49 => .inr (.inl (1, 6, (fun _ => ((-2147483648), 2147483647)), (fun _ => True)))
  | 50 => .inr (.inl (1, 8, (fun _ => ((-2147483648), 2147483647)), (fun _ => True)))
  | 51 => .inr (.inl (1, 64, (fun _ => ((-2147483648), 2147483647)), (fun _ => True)))
  | 52 => .inr (.inl (1, 120, (fun _ => (0, 60)), (fun _ => True)))
  | 53 => .inr (.inl (1, 4, (fun _ => ((-2147483648), 2147483647)), (fun _ => True)))
  | 54 => .inr (.inl (1, 240, (fun _ => ((-2147483648), 2147483647)), RND))
  | 55 => .inl (10, ty_MODEL)
  | 56 => .inr (.inr (.inl (1, (-9223372036854775808), 9223372036854775807)))
  | _ => .inl (0, [])
