/-! no fault as long as a reader answers yes (the reference, a post's readers) -/
theorem zI {o : OS} {k : Nat} {v : Int32} (hk : 10 ≠ k) (h : o.1 10 = 0) : (sI o k v).1 10 = 0 := (sI_ne hk).trans h
theorem zA {o : OS} {k i : Nat} {v : Int32} (h : o.1 10 = 0) : (sA o k i v).1 10 = 0 := h
theorem zB {o : OS} {k i : Nat} {v : Int64} (h : o.1 10 = 0) : (sB o k i v).1 10 = 0 := h
theorem zL {o : OS} {k : Nat} {v : Int64} (h : o.1 10 = 0) : (sL o k v).1 10 = 0 := h
theorem zi {c : Prop} [Decidable c] {A B : OS} (h1 : A.1 10 = 0) (h2 : B.1 10 = 0) : (if c then A else B).1 10 = 0 := by
  by_cases z : c
  · rw [if_pos z]; exact h1
  · rw [if_neg z]; exact h2
section ZGO
variable {o : OS} {x1 x2 x3 x4 y0 y1 : Int32} {K : Int32 → Int32 → Int32 → OS → OS}
theorem z390 (h : o.1 10 = 0) : (f_X10_go__2_390 x1 x2 x3 y0 o).1 10 = 0 := by
  unfold f_X10_go__2_390
  exact zI (by decide) h
theorem z377 (h : o.1 10 = 0) : (f_X10_go__2_377 x1 x2 x3 o).1 10 = 0 := by
  unfold f_X10_go__2_377
  exact z390 h
theorem z374 (h : o.1 10 = 0) : (f_X10_go__2_374 x1 x2 x3 y0 y1 o).1 10 = 0 := by
  unfold f_X10_go__2_374
  exact zi (zi (z390 h) (z390 h)) (z377 h)
theorem z337 (hK : ∀ x1 x2 x3 o, o.1 10 = 0 → (K x1 x2 x3 o).1 10 = 0) (h : o.1 10 = 0) : (f_X10_go__2_337 K x1 x2 x3 x4 o).1 10 = 0 := by
  unfold f_X10_go__2_337
  exact hK _ _ _ _ (zI (by decide) h)
theorem z307 (hK : ∀ x1 x2 x3 o, o.1 10 = 0 → (K x1 x2 x3 o).1 10 = 0) (h : o.1 10 = 0) : (f_X10_go__2_307 K x1 x2 x3 x4 o).1 10 = 0 := by
  unfold f_X10_go__2_307
  exact zi (z337 hK h) (z337 hK (zI (by decide) h))
theorem z272 (hK : ∀ x1 x2 x3 o, o.1 10 = 0 → (K x1 x2 x3 o).1 10 = 0) (h : o.1 10 = 0) : (f_X10_go__2_272 K x1 x2 x3 x4 y0 o).1 10 = 0 := by
  unfold f_X10_go__2_272
  exact zi (z307 hK h) (z307 hK (zL h))
theorem z271 (hK : ∀ x1 x2 x3 o, o.1 10 = 0 → (K x1 x2 x3 o).1 10 = 0) (h : o.1 10 = 0) : (f_X10_go__2_271 K x1 x2 x3 x4 o).1 10 = 0 := by
  unfold f_X10_go__2_271
  exact z272 hK h
theorem z243 (hK : ∀ x1 x2 x3 o, o.1 10 = 0 → (K x1 x2 x3 o).1 10 = 0) (h : o.1 10 = 0) : (f_X10_go__2_243 K x1 x2 x3 o).1 10 = 0 := by
  unfold f_X10_go__2_243
  exact zi (z271 hK h) (zi (z272 hK h) (z271 hK h))
theorem z215 : ∀ (f : Nat) (x1 x2 x3 : Int32) (o : OS), o.1 10 = 0 → (f_X10_go__2_215 f x1 x2 x3 o).1 10 = 0 := by
  intro f
  induction f with
  | zero => intro x1 x2 x3 o _; rfl
  | succ f ih =>
    intro x1 x2 x3 o h
    rw [f_X10_go__2_215]
    exact zi (zi (zi (z377 h) (zi (z374 h) (z374 h))) (z243 ih h)) (z243 ih h)
theorem z198 (h : o.1 10 = 0) : (f_X10_go__2_198 x1 o).1 10 = 0 := by
  unfold f_X10_go__2_198
  exact z215 _ _ _ _ _ (zI (by decide) (zL h))
theorem z179 (h : o.1 10 = 0) : (f_X10_go__2_179 x1 y0 o).1 10 = 0 := by
  unfold f_X10_go__2_179
  exact zI (by decide) (zI (by decide) (zI (by decide) h))
theorem z174 (h : o.1 10 = 0) : (f_X10_go__2_174 x1 o).1 10 = 0 := by
  unfold f_X10_go__2_174
  exact z179 h
theorem z96 (h : o.1 10 = 0) : (f_X10_go__2_96 o).1 10 = 0 := by
  unfold f_X10_go__2_96
  repeat' first | with_reducible refine zi ?_ ?_ | with_reducible exact z174 h | with_reducible exact z198 h | with_reducible exact z179 h | exact zI (by decide) h
theorem z52 (h : o.1 10 = 0) : (f_X10_go__2_52 o).1 10 = 0 := by
  unfold f_X10_go__2_52
  have h6 : (sI o 6 (o.1 5)).1 10 = 0 := zI (by decide) h
  exact zi (z96 h6) (zi (z96 h6) (zI (by decide) (zI (by decide) h6)))
theorem z0 : ∀ (f : Nat) (o : OS), o.1 10 = 0 → (f_X10_go__2_0 f o).1 10 = 0 := by
  intro f
  induction f with
  | zero => intro o _; rfl
  | succ f ih =>
    intro o h
    have k : (f_X10_go__2_39 (f_X10_go__2_0 f) o).1 10 = 0 := by
      unfold f_X10_go__2_39
      exact ih _ (zI (by decide) h)
    rw [f_X10_go__2_0]
    exact zi (z52 h) (zi k (zi k (z52 h)))
theorem zgo (h : o.1 10 = 0) : (f_X10_go__2 o).1 10 = 0 := by
  unfold f_X10_go__2
  exact z0 _ _ h
end ZGO
/-- an answer yes is without fault -/
def ZP (r : OS × Int32) : Prop := r.2 ≠ 0 → r.1.1 10 = 0
section ZREAD
variable {o : OS} {r : OS × Int32} {x y z w v : Int32}
theorem ZP.zz : ZP (o, 0) := fun q => absurd rfl q
theorem ZP.k (h : o.1 10 = 0) : ZP (o, v) := fun _ => h
theorem zbad2 : (f_X10_bad__1 x o).2 = 0 := by
  unfold f_X10_bad__1 f_X10_bad__1_14
  by_cases e : o.1 7 = 1
  · rw [if_pos e]
  · rw [if_neg e]
theorem ZP.b : ZP ((f_X10_bad__1 x o).1, (f_X10_bad__1 x o).2) := fun q => absurd zbad2 q
theorem ZP.i {c : Prop} [Decidable c] {A B : OS × Int32} (h1 : c → ZP A) (h2 : ¬ c → ZP B) : ZP (if c then A else B) := by
  by_cases e : c
  · rw [if_pos e]; exact h1 e
  · rw [if_neg e]; exact h2 e
theorem ZP.e (h : ZP r) : ZP (if r.2 = 0 then (r.1, r.2) else (r.1, r.2)) := ZP.i (fun _ => h) (fun _ => h)
theorem ZP.c {B : OS × Int32} (h : ZP r) (k : r.1.1 10 = 0 → ZP B) : ZP (if r.2 = 0 then (r.1, (0 : Int32)) else B) := ZP.i (fun _ => ZP.zz) (fun q => k (h q))
theorem zput (h : o.1 10 = 0) : (f_X10_put__17 x y o).1.1 10 = 0 := by
  unfold f_X10_put__17
  exact h
theorem ZP.p (h : ZP r) : ZP (if r.2 = 0 then (r.1, (f_X10_put__16 x r.2 r.1)) else ((f_X10_put__17 x r.2 r.1).1, (f_X10_put__17 x r.2 r.1).2)) := ZP.i (fun q => by unfold f_X10_put__16; exact fun y => absurd q y) (fun q => ZP.k (zput (h q)))
theorem z_readNumber (h : o.1 10 = 0) : ZP (f_X10_readNumber__7 x y o) := by
  unfold f_X10_readNumber__7
  exact ZP.i (fun _ => ZP.i (fun _ => ZP.b) (fun _ => ZP.k (zgo (zI (by decide) h)))) (fun _ => ZP.b)
theorem z_isOne (h : o.1 10 = 0) : ZP (f_X10_isOne__4 x y o) := by
  unfold f_X10_isOne__4
  exact ZP.i (fun _ => ZP.b) (fun _ => ZP.i (fun _ => ZP.zz) (fun _ => ZP.k (zI (by decide) h)))
theorem z_readOne (h : o.1 10 = 0) : ZP (f_X10_readOne__3 x y o) := by
  unfold f_X10_readOne__3
  exact ZP.c (z_isOne h) (fun q => ZP.k (zgo q))
theorem z_readIdea (h : o.1 10 = 0) : ZP (f_X10_readIdea__1 o) := by
  unfold f_X10_readIdea__1
  exact ZP.e (z_readOne h)
theorem z_readFirst (h : o.1 10 = 0) : ZP (f_X10_readFirst__4 x y o) := by
  unfold f_X10_readFirst__4
  exact ZP.i (fun _ => ZP.b) (fun _ => ZP.k (zgo h))
theorem z_readNew (h : o.1 10 = 0) : ZP (f_X10_readNew__4 x o) := by
  unfold f_X10_readNew__4
  exact ZP.i (fun _ => ZP.b) (fun _ => ZP.i (fun _ => ZP.k (zgo (zB h))) (fun _ => ZP.b))
theorem z_readOnce (h : o.1 10 = 0) : ZP (f_X10_readOnce__2 x y z w o) := by
  unfold f_X10_readOnce__2
  exact ZP.i (fun _ => ZP.p (z_readNumber (zgo (zA h)))) (fun _ => ZP.b)
theorem z_readHas (h : o.1 10 = 0) : ZP (f_X10_readHas__1 o) := by
  unfold f_X10_readHas__1
  exact ZP.c (z_readOne (zgo h)) (fun q => ZP.c (z_isOne q) (fun q2 => ZP.i (fun _ => ZP.p (z_readNumber (zgo q2))) (fun _ => ZP.b)))
theorem z_readSits (h : o.1 10 = 0) : ZP (f_X10_readSits__1 o) := by
  unfold f_X10_readSits__1
  exact ZP.c (z_isOne (zgo h)) (fun q => ZP.i (fun _ => ZP.p (z_readOne (zgo q))) (fun _ => ZP.b))
theorem zq61 : ZP (f_X10_readQuarrel__1_61 x o) := by
  unfold f_X10_readQuarrel__1_61
  exact ZP.b
theorem z_readQuarrel (h : o.1 10 = 0) : ZP (f_X10_readQuarrel__1 o) := by
  unfold f_X10_readQuarrel__1
  exact ZP.c (z_readIdea (zgo h)) (fun q => ZP.c (z_isOne q) (fun q2 => ZP.i (fun _ => zq61) (fun _ => ZP.i (fun _ => ZP.k (zgo (zA (zA q2)))) (fun _ => zq61))))
theorem z_readRoom (h : o.1 10 = 0) : ZP (f_X10_readRoom__1 o) := by
  unfold f_X10_readRoom__1
  exact ZP.c (z_readFirst h) (fun q => ZP.c (z_readNew q) (fun q2 => ZP.k (zA q2)))
theorem z_readParcel (h : o.1 10 = 0) : ZP (f_X10_readParcel__1 o) := by
  unfold f_X10_readParcel__1
  exact ZP.c (z_readFirst h) (fun q => ZP.c (z_readNew q) (fun q2 => ZP.c (z_readOne q2) (fun q3 => ZP.k (zA (zput q3)))))
theorem z_readNewIdea (h : o.1 10 = 0) : ZP (f_X10_readNewIdea__1 o) := by
  unfold f_X10_readNewIdea__1
  exact ZP.c (z_readFirst h) (fun q => ZP.c (z_readNew q) (fun q2 => ZP.c (z_readNumber q2) (fun q3 => ZP.k (zA (zput q3)))))
theorem z_readPerson (h : o.1 10 = 0) : ZP (f_X10_readPerson__1 o) := by
  unfold f_X10_readPerson__1
  exact ZP.c (z_readFirst h) (fun q => ZP.c (z_readNew q) (fun q2 => ZP.c (z_readIdea q2) (fun q3 => ZP.c (z_readNumber (zput q3)) (fun q4 => ZP.k (zA (zA (zput q4)))))))
theorem z_readLine (h : o.1 10 = 0) : ZP (f_X10_readLine__1 o) := by
  unfold f_X10_readLine__1
  exact ZP.i (fun _ => ZP.i (fun _ => ZP.i (fun _ => ZP.i (fun _ => ZP.i (fun _ => ZP.i (fun _ => ZP.i (fun _ => ZP.i (fun _ => ZP.i (fun _ => ZP.b) (fun _ => ZP.e (z_readOnce h))) (fun _ => ZP.e (z_readOnce h))) (fun _ => ZP.e (z_readQuarrel h))) (fun _ => ZP.e (z_readHas h))) (fun _ => ZP.e (z_readSits h))) (fun _ => ZP.e (z_readPerson h))) (fun _ => ZP.e (z_readParcel h))) (fun _ => ZP.e (z_readRoom h))) (fun _ => ZP.e (z_readNewIdea h))
theorem z_readEnd (h : o.1 10 = 0) : ZP (f_X10_readEnd__2 o) := by
  unfold f_X10_readEnd__2
  exact ZP.i (fun _ => ZP.b) (fun _ => ZP.k (zgo h))
end ZREAD
/-- the fault that a reading leaves -/
def FAU {α : Type} : (Nat × Nat) ⊕ α → Int32
  | .inl e => nI e.1
  | .inr _ => 0
theorem fp_51 {T : Nat → Nat} {n lim : Nat} : ∀ (f l : Nat) (o : OS) (p : Nat) (R : Nat → Int32) (N : Nat → Nat), RT o T n lim p → RP o R N → o.1 10 = 0 → n - p + 1 < f → (f_X10_post__3_51 f (nI l) o).1.1 10 = FAU (sPost T n lim f R N p l) := by
  intro f
  induction f with
  | zero => intro l o p R N _ _ _ h; omega
  | succ f ih =>
    intro l o p R N h hP h10 hf
    rw [f_X10_post__3_51, sPost, h.2.2.1]
    have c := nI_eq (a := RK (tK T n lim p)) (b := 0) (by have := RK_lt (tK T n lim p); omega) (by decide)
    by_cases e0 : tK T n lim p = 0
    · rw [if_pos (show nI _ = (0 : Int32) from c.mpr (RK_is0.mpr e0)), if_pos e0]
      have z := po_87 (x1 := nI l) (o := o) 4294967298 0 (by decide) (by decide)
      rw [nI_0] at z
      rw [z]
      exact zI (by decide) (zI (by decide) h10)
    · rw [if_neg (fun q : nI _ = (0 : Int32) => e0 (RK_is0.mp (c.mp q))), if_neg e0]
      have q := readLine_ h hP
      have qz := z_readLine h10
      generalize f_X10_readLine__1 o = r at q qz ⊢
      cases e1 : sLine T n lim R N p with
      | inl b =>
        have z := q.1 b e1
        rw [if_pos z.1]
        exact (sI_ne (by decide)).trans z.2.1
      | inr w =>
        obtain ⟨p1, R1, N1⟩ := w
        obtain ⟨a1, a2, a3⟩ := q.2 p1 R1 N1 e1
        have hp := sLine_p e1
        rw [if_neg (ne1 a1)]
        have q2 := readEnd_ a2 a3
        have qz2 := z_readEnd (qz (ne1 a1))
        generalize f_X10_readEnd__2 r.1 = r2 at q2 qz2 ⊢
        show _ = FAU (if tK T n lim p1 ≠ 59 then _ else _)
        by_cases e2 : tK T n lim p1 = 59
        · obtain ⟨b1, b2, b3⟩ := q2.2 e2
          rw [if_neg (ne1 b1), nI_1, if_neg (nn e2)]
          have hg := tA_gt (T := T) (n := n) (lim := lim) (p := p1) (by omega) (by omega)
          exact ih (l + 1) r2.1 (tA T n lim p1) R1 N1 b2 b3 (qz2 (ne1 b1)) (by omega)
        · have z := q2.1 e2
          rw [if_pos z.1, if_pos e2]
          exact (sI_ne (by decide)).trans z.2.1
theorem fp_9 {T : Nat → Nat} {n lim : Nat} (hn9 : n ≤ 940) : ∀ (f k : Nat) (o : OS), k ≤ 84 → 84 - k < f → RT o T n lim 0 → (∀ j, j < k → o.2.2.1 15 j = 0) → o.1 10 = 0 → (f_X10_post__3_9 f (nI k) o).1.1 10 = FAU (sPost T n lim 4294967298 R0 N0 0 0) := by
  intro f
  induction f with
  | zero => intro k o _ h; omega
  | succ f ih =>
    intro k o hk hf h hz h10
    rw [f_X10_post__3_9]
    by_cases e : 84 ≤ k
    · rw [if_pos (show (84 : Int32) ≤ nI k from nI_le (a := 84) e (by omega))]
      have hA : ∀ j, (sA (sA (sA o 24 (Int32.toNatClampNeg (0 : Int32)) (vp_nar .boolean (0 : Int32))) 24 (Int32.toNatClampNeg (1 : Int32)) (vp_nar .boolean (0 : Int32))) 15 (Int32.toNatClampNeg (5 : Int32)) (5 : Int32)).2.2.1 15 j = upd (o.2.2.1 15) 5 5 j := fun j => rfl
      refine fp_51 4294967298 0 _ 0 R0 N0 (((h.of (fun _ _ => rfl) rfl rfl).of (fun _ _ => rfl) rfl rfl).of (fun _ _ => rfl) rfl rfl) ⟨fun j hj => ?_, ?_, ?_, fun s b m q => ?_⟩ h10 (by omega)
      · rw [hA j]
        by_cases e5 : j = 5
        · rw [e5, pk_us]; rfl
        · rw [pk_un e5, hz j (by omega)]
          exact (if_neg e5).symm
      · rfl
      · rfl
      · have e0 : R0 s = 0 := if_neg (by omega)
        have ec : ct R0 s = 0 := by
          show (R0 s).toNatClampNeg = 0
          rw [e0]
          rfl
        rw [ec, e0]
        exact ⟨rfl, Nat.zero_le _, fun k hk => by omega⟩
    · rw [if_neg (show ¬ (84 : Int32) ≤ nI k from nI_ge (b := 84) (by omega) (by decide)), nI_1, nI_clamp (by omega)]
      refine ih (k + 1) _ (by omega) (by omega) (h.of (fun _ _ => rfl) rfl (sA_ne (by decide))) (fun j hj => ?_) h10
      rw [sA_get]
      by_cases e5 : j = k
      · rw [e5, pk_us]
      · rw [pk_un e5]; exact hz j (by omega)
theorem fp_ {T : Nat → Nat} {g : Int} {o : OS} (h : RXT o T g.toNat) : (f_X10_post__3 o).1.1 10 = FAU (SP T g) := by
  unfold f_X10_post__3
  have b : RT (f_X10_begin__4 (900 : Int32) o) T g.toNat 900 0 ∧ (∀ k, k ≠ 0 → k ≠ 2 → k ≠ 3 → k ≠ 4 → k ≠ 5 → k ≠ 6 → k ≠ 7 → k ≠ 8 → k ≠ 9 → k ≠ 10 → (f_X10_begin__4 (900 : Int32) o).1 k = o.1 k) ∧ (f_X10_begin__4 (900 : Int32) o).2.2 = o.2.2 ∧ (f_X10_begin__4 (900 : Int32) o).1 10 = 0 := begin_g (lim := 900) h (by decide)
  exact fp_9 h.1 4294967298 0 _ (by decide) (by decide) b.1 (fun j hj => by omega) b.2.2.2
/-- the reference's sentence: the fault it leaves -/
theorem fs79_ : ∀ (f k : Nat) (o : OS), k ≤ 240 → 240 - k < f → (f_X10_sentence__3_79 f (nI k) o).1.1 10 = o.1 10 := by
  intro f
  induction f with
  | zero => intro k o _ h; omega
  | succ f ih =>
    intro k o hk hf
    rw [f_X10_sentence__3_79]
    by_cases e : 240 ≤ k
    · rw [if_pos (show (240 : Int32) ≤ nI k from nI_le (a := 240) e (by omega))]
    · rw [if_neg (show ¬ (240 : Int32) ≤ nI k from nI_ge (b := 240) (by omega) (by decide)), nI_1]
      rw [ih (k + 1) _ (by omega) (by omega)]
      rfl
theorem fsent_ {T : Nat → Nat} {n : Nat} {o : OS} {R : Nat → Int32} {N : Nat → Nat} (h : RXT o T n) (hS : SNM o R N) : (f_X10_sentence__3 o).1.1 10 = FAU (sSent T n 200 R N) := by
  have b : RT (f_X10_begin__4 (200 : Int32) o) T n 200 0 ∧ (∀ k, k ≠ 0 → k ≠ 2 → k ≠ 3 → k ≠ 4 → k ≠ 5 → k ≠ 6 → k ≠ 7 → k ≠ 8 → k ≠ 9 → k ≠ 10 → (f_X10_begin__4 (200 : Int32) o).1 k = o.1 k) ∧ (f_X10_begin__4 (200 : Int32) o).2.2 = o.2.2 ∧ (f_X10_begin__4 (200 : Int32) o).1 10 = 0 := begin_g (lim := 200) h (by decide)
  unfold f_X10_sentence__3
  generalize f_X10_begin__4 (200 : Int32) o = s at b ⊢
  obtain ⟨b1, b2, b3, b4⟩ := b
  have hQ : RQ T n 200 R N (sI (sI (sI s 45 (0 : Int32)) 46 (0 : Int32)) 47 (0 : Int32)) 0 0 0 := by
    have r1 : RT (sI s 45 (0 : Int32)) T n 200 0 := b1.of (fun k hk => sI_ne (by omega)) rfl rfl
    have r2 : RT (sI (sI s 45 (0 : Int32)) 46 (0 : Int32)) T n 200 0 := r1.of (fun k hk => sI_ne (by omega)) rfl rfl
    have r3 : RT (sI (sI (sI s 45 (0 : Int32)) 46 (0 : Int32)) 47 (0 : Int32)) T n 200 0 := r2.of (fun k hk => sI_ne (by omega)) rfl rfl
    refine ⟨r3, hS.of ?_ ?_, ?_, ?_, ?_⟩
    · show s.2.2.1 14 = _
      rw [b3]
    · show s.2.2.2 20 = _
      rw [b3]
    · rw [sI_ne (by decide), sI_get]; rfl
    · rw [sI_get]; rfl
    · rw [sI_ne (by decide), sI_ne (by decide), sI_ne (by decide)]; exact b4
  have q := rO_9 hQ (by decide)
  unfold sSent
  generalize f_X10_readOr__9 (sI (sI (sI s 45 (0 : Int32)) 46 (0 : Int32)) 47 (0 : Int32)) = r at q ⊢
  cases e : sCond T n 200 (sSaid T n 200 R N 8) 0 0 with
  | inl b =>
    have z := q.1 b e
    rw [if_pos z.1]
    exact z.2.1
  | inr w =>
    obtain ⟨c1, p1⟩ := w
    have z := q.2 c1 p1 e
    rw [if_neg (ne1 z.1), z.2.1.2.2.1]
    have cz := nI_eq (a := RK (tK T n 200 p1)) (b := 0) (by have := RK_lt (tK T n 200 p1); omega) (by decide)
    try dsimp only
    by_cases e0 : tK T n 200 p1 = 0
    · rw [if_pos (show nI _ = (0 : Int32) from cz.mpr (RK_is0.mpr e0)), if_neg (nn e0)]
      have y := fs79_ 4294967298 0 (sA (sA r.1 14 (Int32.toNatClampNeg (172 : Int32)) (1 : Int32)) 14 (Int32.toNatClampNeg (173 : Int32)) ((sA r.1 14 (Int32.toNatClampNeg (172 : Int32)) (1 : Int32)).1 48)) (by decide) (by decide)
      rw [nI_0] at y
      rw [y]
      exact z.2.2.2.2.2
    · rw [if_neg (fun q : nI _ = (0 : Int32) => e0 (RK_is0.mp (cz.mp q))), if_pos e0]
      exact (bad_R (c := 1) z.2.1 (by decide)).2.1
/-! the fault that class and reference keep -/
theorem FP_ {r : OS × OS × OS × Int32} {S : (Nat × Nat) ⊕ (Nat × (Nat → Int32) × (Nat → Nat))} (h : RO r S) : r.2.1.1 10 = FAU S := by
  cases S with
  | inl e => exact (h.1 e rfl).1
  | inr w =>
    obtain ⟨l, R, N⟩ := w
    exact (h.2 l R N rfl).1
theorem FS_ {T : Nat → Nat} {n lim : Nat} {s2 : OS} {r : OS × OS × OS} {S : SR} (h : SO T n lim s2 r S) : r.2.1.1 10 = FAU S := by
  cases S with
  | inl e => exact (h.2.1 e rfl).1
  | inr w =>
    obtain ⟨c, p⟩ := w
    exact (h.2.2 c p rfl).1.2
theorem FB_ {s2 : OS} {r : OS × OS × OS} {S : (Nat × Nat) ⊕ Nat} (h : BR s2 r S) : r.2.1.1 10 = FAU S := by
  cases S with
  | inl e => exact (h.2.1 e rfl).1
  | inr l => exact h.2.2 l rfl
abbrev SBK (T : Nat → Nat) (g : Int) (R : Nat → Int32) (N : Nat → Nat) : (Nat × Nat) ⊕ Nat := sBook T g.toNat 400 R N 4294967298 0 0
section FACTS67
variable {s : State} {H : Heap} {locs : List Loc} {D : va_G} {cy : Nat → ClassId} {A : Nat → Prop} {ws ws' w0 wx : va_W} {Ps X : PSI} {wr : List (Nat × Nat)} {wa : List Nat} {x y t b : Nat} {T : Nat → Nat} {g : Int} {o : OS} {R : Nat → Int32} {L : Nat → Int64} {N : Nat → Nat} {v u w : Int32}
theorem bk_full (hT : HT cy GG Ps ws) (hp : (b, 31) ∈ Ps) : ∃ o, OV vw_BOOK Ps ws b o := OV.ex (V := vw_BOOK) (ts := ty_BOOK) hT hp rfl (by decide) (by decide) (by decide) (by decide) (by decide) (by decide)
theorem md_full5 (hT : HT cy GG Ps ws) (hD : va_D A ws) (h1 : TLM ws y g) (h2 : BYM Ps ws y T) (h3 : AX 14 34 (HDp R) Ps ws y) (h4 : AXL 20 41 (NMp L) Ps ws y) (h5 : NLC R N L) (hp : (y, 55) ∈ Ps) : ∃ o, OV vw_M5 Ps ws y o ∧ RXT o T g.toNat ∧ SNM o R N := by
  obtain ⟨o1, a1, a2, a3⟩ := mx_get hT hD h1 h2 hp
  obtain ⟨o, b⟩ := OV.ex (V := vw_M5) (ts := ty_MODEL) hT hp rfl (by decide) (by decide) (by decide) (by decide) (by decide) (by decide)
  refine ⟨o, b, ⟨a2.1, ?_, fun k hk => ?_, a2.2.2.2⟩, fun s b9 M hs => ?_⟩
  · exact (OV.eqI hD b (a1.1 2 (by decide)) (by decide)).trans a2.2.1
  · obtain ⟨r, c1, c2⟩ := a1.2.2.1 (1, 40) (by decide)
    have e := ARR.inj hD (OV.arrA (V := vw_M5) (t := 40) hD b c1 (by decide)) c2
    exact (congrFun e k).trans (a2.2.2.1 k)
  · obtain ⟨z1, z2, z3⟩ := h5 s b9 M hs
    obtain ⟨r, f, c1, c2, c3⟩ := h3
    have e := ARR.inj hD (OV.arrA (V := vw_M5) (t := 34) hD b c1 (by decide)) c2
    obtain ⟨r2, f2, d1, d2, d3⟩ := h4
    have e2 := ARL.inj hD (OV.arrB (V := vw_M5) (t := 41) hD b d1 (by decide)) d2
    refine ⟨?_, z1, z2, fun k hk => ?_⟩
    · rw [e]; exact c3 s (by omega)
    · obtain ⟨L9, v9, l1, l2, l3⟩ := z3 k hk
      exact ⟨L9, v9, l1, l2, by rw [e2, d3 (b9 + k) (by omega)]; exact l3⟩
/-- the reference, within a book: what is still to be read -/
def BKQ (o : OS) (T : Nat → Nat) (g : Int) (R : Nat → Int32) (N : Nat → Nat) (d : Nat) : Prop := ∃ p l f, RBq T g.toNat 400 R N o l p ∧ l + d ≤ 40 ∧ p ≤ g.toNat ∧ g.toNat - p + 1 < f ∧ SBK T g R N = sBook T g.toNat 400 R N f p (l + d)
def BKS (Ps : PSI) (ws : va_W) (y : Nat) (T : Nat → Nat) (g : Int) (R : Nat → Int32) (N : Nat → Nat) : Prop := ∃ o, OV vw_M5 Ps ws y o ∧ BKQ o T g R N 0
/-- a line stands ahead -/
def BKN (Ps : PSI) (ws : va_W) (y : Nat) (T : Nat → Nat) (g : Int) (R : Nat → Int32) (N : Nat → Nat) : Prop := ∃ o, OV vw_M5 Ps ws y o ∧ ¬ o.1 7 = 0 ∧ BKQ o T g R N 0
/-- a line was read, and not counted yet -/
def BKT (Ps : PSI) (ws : va_W) (y : Nat) (T : Nat → Nat) (g : Int) (R : Nat → Int32) (N : Nat → Nat) : Prop := ∃ o, OV vw_M5 Ps ws y o ∧ BKQ o T g R N 1
def BKR (Ps : PSI) (ws : va_W) (y : Nat) (r : Int32) (T : Nat → Nat) (g : Int) (R : Nat → Int32) (N : Nat → Nat) : Prop := (r = 0 → FLD ws y 10 10 (.int (FAU (SBK T g R N)))) ∧ (¬ r = 0 → BKT Ps ws y T g R N)
theorem BKS.start (hF : FR [(10, 42)] [] Ps ws ws') (hp : FLD ws' y 10 42 (.int 0)) (h : OV vw_M5 Ps ws y o) (h1 : RT o T g.toNat 400 0) (h2 : SNM o R N) (h3 : o.1 10 = 0) : BKS Ps ws' y T g R N := by
  have h9 := h1.1.1
  refine ⟨sI o 42 0, OV.putI (V := vw_M5) hF hp h (by decide), 0, 0, 4294967298, ⟨h1.of (fun k hk => sI_ne (by omega)) rfl rfl, h2.of rfl rfl, zI (by decide) h3, by rw [sI_get, nI_0]⟩, by decide, Nat.zero_le _, by omega, rfl⟩
theorem BKN.of (hD : va_D A ws) (h : BKS Ps ws y T g R N) (hk : FLD ws y 10 7 (.int v)) (hv : ¬ v = 0) : BKN Ps ws y T g R N := by
  obtain ⟨o, h1, h2⟩ := h
  exact ⟨o, h1, by rw [OV.eqI (V := vw_M5) hD h1 hk (by decide)]; exact hv, h2⟩
theorem BKT.up (hD : va_D A ws) (hF : FR [(10, 42)] [] Ps ws ws') (hp : FLD ws' y 10 42 (.int w)) (h : BKT Ps ws y T g R N) (hu : FLD ws y 10 42 (.int u)) (hw : w = u + 1) : BKS Ps ws' y T g R N := by
  obtain ⟨o, h1, p, l, f, a1, a2, a3, a4, a5⟩ := h
  have e := OV.eqI (V := vw_M5) hD h1 hu (by decide)
  refine ⟨sI o 42 w, OV.putI (V := vw_M5) hF hp h1 (by decide), p, l + 1, f, ⟨a1.1.of (fun k hk => sI_ne (by omega)) rfl rfl, a1.2.1.of rfl rfl, zI (by decide) a1.2.2.1, by rw [sI_get, hw, ← e, a1.2.2.2, nI_1]⟩, a2, a3, a4, a5⟩
theorem kind0 {n lim p : Nat} (h : RT o T n lim p) : o.1 7 = 0 ↔ tK T n lim p = 0 := by
  rw [h.2.2.1]
  have q := nI_eq (a := RK (tK T n lim p)) (b := 0) (by have := RK_lt (tK T n lim p); omega) (by decide)
  exact ⟨fun z => RK_is0.mp (q.mp z), fun z => q.mpr (RK_is0.mpr z)⟩
theorem BKS.fin (hD : va_D A ws) (h : BKS Ps ws y T g R N) (hk : FLD ws y 10 7 (.int v)) (hv : v = 0) : FLD ws y 10 10 (.int (FAU (SBK T g R N))) := by
  obtain ⟨o, h1, p, l, f, a1, a2, a3, a4, a5⟩ := h
  have e := OV.eqI (V := vw_M5) hD h1 hk (by decide)
  have k0 := (kind0 a1.1).mp (e.trans hv)
  obtain ⟨f, rfl⟩ : ∃ q, f = q + 1 := ⟨f - 1, by omega⟩
  have es : FAU (SBK T g R N) = 0 := by
    rw [a5, sBook, if_pos k0]
    rfl
  rw [es, ← a1.2.2.1]
  exact h1.1 10 (by decide)
theorem bkr_ {r : OS × Int32} {rr : Int32} {Pn : PSI} {un : va_W} (hk : ¬ o.1 7 = 0) (h : BKQ o T g R N 0) (hr : r = f_X10_readBookLine__1 o) (ho : OV vw_M5 Pn un y r.1) (ha : r.2 = rr) : BKR Pn un y rr T g R N := by
  obtain ⟨p, l, f, a1, a2, a3, a4, a5⟩ := h
  have k0 : tK T g.toNat 400 p ≠ 0 := fun z => hk ((kind0 a1.1).mpr z)
  have q := rbl_ a1 (by omega)
  rw [← hr] at q
  obtain ⟨f, rfl⟩ : ∃ q, f = q + 1 := ⟨f - 1, by omega⟩
  have a5 : SBK T g R N = sBook T g.toNat 400 R N (f + 1) p l := a5
  rw [sBook, if_neg k0] at a5
  subst ha
  cases e : bLine T g.toNat 400 R N p l with
  | inl b =>
    rw [e] at a5 q
    have z := q.1 b rfl
    refine ⟨fun _ => ?_, fun n0 => absurd z.1 n0⟩
    rw [a5]
    have w := ho.1 10 (by decide)
    rw [z.2.1] at w
    exact w
  | inr p1 =>
    rw [e] at a5 q
    have hb := bLine_p e
    have l40 : l ≠ 40 := fun z => by
      unfold bLine at e
      rw [z, if_pos (rfl : (40 : Nat) = 40), if_pos (rfl : (40 : Nat) = 40)] at e
      by_cases k1 : 141 ≤ tK T g.toNat 400 p ∧ tK T g.toNat 400 p ≤ 143
      · rw [if_pos k1] at e; cases e
      · rw [if_neg k1] at e
        cases e9 : sOne T g.toNat 400 16 (ct R 3) N p with
        | inl y => rw [e9] at e; cases e
        | inr y => rw [e9] at e; cases e
    have a5 : SBK T g R N = if tK T g.toNat 400 p1 ≠ 59 then .inl (sBad T g.toNat 400 1 p1) else sBook T g.toNat 400 R N f (tA T g.toNat 400 p1) (l + 1) := a5
    have q : RBd T g.toNat 400 R N l r (if tK T g.toNat 400 p1 ≠ 59 then .inl (sBad T g.toNat 400 1 p1) else .inr (tA T g.toNat 400 p1)) := q
    by_cases k : tK T g.toNat 400 p1 = 59
    · rw [if_neg (nn k)] at a5 q
      have z := q.2 _ rfl
      have t1 := tA_gt (T := T) (n := g.toNat) (lim := 400) (p := p1) (by omega) (by omega)
      have t2 := tok_inside (T := T) (n := g.toNat) (lim := 400) (p := p1) (by omega) (by omega)
      exact ⟨fun n0 => absurd n0 (ne1 z.1), fun _ => ⟨r.1, ho, tA T g.toNat 400 p1, l, f, z.2, by omega, t2.2.2, by omega, a5⟩⟩
    · rw [if_pos k] at a5 q
      have z := q.1 _ rfl
      refine ⟨fun _ => ?_, fun n0 => absurd z.1 n0⟩
      rw [a5]
      have w := ho.1 10 (by decide)
      rw [z.2.1] at w
      exact w
end FACTS67
theorem FLD2.over {c d : Prop} {wr : List (Nat × Nat)} {wa : List Nat} {Ps : PSI} {ws ws' : va_W} {y c9 k9 : Nat} {u v : Value} (hF : FR wr wa Ps ws ws') (h : (c → FLD ws y c9 k9 u) ∧ (d → FLD ws y c9 k9 v)) (hn : (c9, k9) ∉ wr) : (c → FLD ws' y c9 k9 u) ∧ (d → FLD ws' y c9 k9 v) := ⟨fun e => FLD.over hF (h.1 e) hn, fun e => FLD.over hF (h.2 e) hn⟩
abbrev wr_X9_book__3 : List (Nat × Nat) := [(0, 3), (0, 4), (1, 1), (1, 2), (7, 2), (7, 3), (7, 4), (7, 5), (7, 6), (7, 7), (7, 8), (7, 9), (7, 10), (7, 11), (8, 0), (8, 1), (9, 11)]
abbrev wa_X9_book__3 : List Nat := [8, 9, 10, 11, 12, 13, 14, 15, 18, 19, 20]
set_option maxHeartbeats 4000000 in
set_option maxRecDepth 100000 in
theorem c_X9_book__3 (l : Launch) (D : va_G) (cy : Nat → ClassId) (z : Nat → Nat) (sz : Nat) (Ps : PSI) (w0 : va_W) (hT : HT cy GG Ps w0) (p0 : Nat) (p1 : Int32) (gh : Int) (gdT : Nat → Nat) (gdq : Nat → Nat) (gdg : Nat → Nat) (gdo : OS) (gdA : OS) (gdB : OS) (gdR : Nat → Int32) (gdN : Nat → Nat) (gdf : Int32) (h_p0 : (p0, 33) ∈ Ps) (r_p1 : RI p1 (-2147483648) 2147483647) (x_TLX_p0_gh : TLX w0 p0 (gh)) (x_GWX_p0_gdq : GWX w0 p0 gdq) (x_GQ_gdq_gdg : GQ Ps w0 gdq gdg) (x_HE_gdq_gdg_gdo_gdA_gdB_false_false : HE Ps w0 gdq gdg gdo gdA gdB false false) (x_BYX_p0_gdT : BYX Ps w0 p0 gdT) (x_WKX_p0 : WKX Ps w0 p0) (x_PDF_gdo_gdR_gdN : (PDO gdo gdR gdN)) (x_LF_p0_gdf : FLD w0 p0 9 11 (.int gdf)) : Met l yX9_book (Cond.code yX9_book cX9_book 3 (some .int) :: gT) ({ frames := 8, cells := 0, slots := 0, locals := 1600 } : Room) (va_Pc [.ref p0, .int p1] (PRE D cy z w0 sz)) (va_Qi (fun (r : Int32) (u : va_W) => (RI r (-2147483648) 2147483647 ∧ (r = 0 → True) ∧ (¬ r = 0 → True) ∧ (BKX u p0 p1 (gh) ∧ HE Ps u gdq gdg gdo gdA gdB false false ∧ (((0 ≤ Int32.toInt p1 ∧ Int32.toInt p1 ≤ 1) → FLD u p0 9 11 (.int (FAU (SBK gdT gh gdR gdN)))) ∧ (¬ (0 ≤ Int32.toInt p1 ∧ Int32.toInt p1 ≤ 1) → FLD u p0 9 11 (.int gdf))) ∧ True) ∧ (r.toInt < 0 → True) ∧ (0 ≤ r.toInt → True)) ∧ HT cy GG Ps u ∧ FR wr_X9_book__3 wa_X9_book__3 Ps w0 u) (BB D cy (va_A w0 sz) (fun (u : va_W) => u)) (va_A w0 sz)) 0 0 (va_A w0 sz) := by
  refine Met.ofW (cc := cX9_book) (maxL := 3) (ret := (some .int)) (by decide) rfl ?_
  intro p e s m args below meth c s₁ B hml hv
  obtain ⟨rfl, hsz, hP, hK, hD0, hSD⟩ := hv
  have hx := B.exec
  have hb := B.bytes
  have hr := B.returns
  have hlocks := B.notSynchronized
  have hts : ∀ w ∈ gT, w.before _ s = true := fun w h => atoms_spec (ws := Cond.code yX9_book cX9_book 3 (some .int) :: gT) B.pre w (List.mem_cons_of_mem _ h)
  have hown : s.vm.findClass RX9 = some m.cls := findClass_of_methodNamed B.named
  subst hsz
  have hD := hD0.self (sz := s.heap.size)
  generalize hAe : va_A w0 s.heap.size = A at hD hSD ⊢
  have hA : ∀ q : Nat, s.heap.size ≤ q → A q := fun q h => by rw [← hAe]; exact Or.inr h
  have hl := lv_entry ([.ref p0, .int p1]) (n := 3) (Nat.le_of_ble_eq_true rfl)
  rw [lg_entry_eq]
  generalize (lg_sl ([.ref p0, .int p1]) ++ List.replicate (3 - (lg_sl ([.ref p0, .int p1])).length) Slot.unset).toArray = ls at hl ⊢
  have hl : lv_has ls 3 [(0, .ref p0), (1, .int p1)] := hl
  refine nameQ (fun Q hQ => ?_)
  have hw : WD D cy GG A s wr_X9_book__3 wa_X9_book__3 Ps w0 Ps w0 s.heap [] := ⟨hT, hP, hD, va_S.rf, FR.rf, hT.1, [], (List.append_nil _).symm⟩
  have B156 : ∀ (x2 : Int32) (z0_11 : Int32) (ws : va_W) (H : Heap) (locs : List Loc) (ls : Array Slot), RI p1 0 1 → RI x2 (-2147483648) 2147483647 → RI z0_11 0 0 → FLD ws p0 9 11 (.int z0_11) → BYX Ps ws p0 gdT → EQF ws p0 → GQ Ps ws gdq gdg → GWX ws p0 gdq → HE Ps ws gdq gdg gdo gdA gdB false true → FLD ws p0 9 11 (.int (FAU (SBK gdT gh gdR gdN))) → (PDO gdo gdR gdN) → TLX ws p0 (0) → WKX Ps ws p0 → WD D cy GG A s wr_X9_book__3 wa_X9_book__3 Ps w0 Ps ws H locs → lv_has ls 3 [(0, .ref p0), (1, .int p1), (2, .int x2)] → W p l e (headSpec (Cond.code yX9_book cX9_book 3 (some .int) :: gT) ({ frames := 8, cells := 0, slots := 0, locals := 1600 } : Room)).room s m ([.ref p0, .int p1] : List Value).toArray below meth c H locs 0 0 Q (F0 m 156 ls []) := by
    intro x2 z0_11 ws H locs ls r_p1 r_x2 r_z0_11 m_z0_11 x_BYX_p0_gdT x_EQF_p0 x_GQ_gdq_gdg x_GWX_p0_gdq x_HE_gdq_gdg_gdo_gdA_gdB_false_true x_LFB_p0_gdT_gh_gdR_gdN x_PDF_gdo_gdR_gdN x_TLX_p0_0 x_WKX_p0 hw hl
    refine lv_iload_n hx hb dX9_book_156 rfl (lv_at hl 2 rfl) ?_
    refine lv_if_ne (tgt := 164) hx hb dX9_book_157 (by decide) (fun c_157 => ?_) (fun c_157 => ?_)
    · refine lv_aload_n hx hb dX9_book_164 rfl (lv_at hl 0 rfl) ?_
      refine tg_get (ci := 9) (ts := ty_WP) (C := RX9) (T := TX9) (N := 15) hx hb hts inX9 hown hK hw h_p0 rfl rfl 6 (by decide) (hts _ tw_352) (fun _ h9 => h9) (ft := vR 31) rfl dX9_book_165 (fun u_1 hv_u_1 m_u_1 => ?_)
      obtain ⟨vu_1, rfl, h_vu_1⟩ := hv_u_1
      refine tg_getN (ci := 0) (ts := ty_BOOK) (C := RX0) (T := TX0) (N := 5) hx hb hts inX0 hown hK hw h_vu_1 rfl rfl 4 (by decide) (hSD.nest tn_147) (fun _ h9 => h9) (ft := vI (-2147483648) 2147483647) rfl dX9_book_168 (fun u_2 hv_u_2 m_u_2 => ?_)
      obtain ⟨vu_2, rfl, r_vu_2⟩ := hv_u_2
      subst hQ
      exact W.iret (v := vu_2) hx hb hr (fun t ht hW => ⟨⟨vu_2, ws, rfl, ⟨⟨r_vu_2.to (by decide), (fun h0 => trivial), (fun h0 => trivial), ⟨⟨fun _ => x_TLX_p0_0, fun h9 => absurd ⟨by have k1 := r_p1.1; omega, by have k1 := r_p1.2; omega⟩ h9⟩, (HE.weak (fun e9 => e9) (fun e9 => by cases e9) x_HE_gdq_gdg_gdo_gdA_gdB_false_true), ⟨fun _ => x_LFB_p0_gdT_gh_gdR_gdN, fun h9 => absurd ⟨by have k1 := r_p1.1; omega, by have k1 := r_p1.2; omega⟩ h9⟩, trivial⟩, (fun _ => trivial), (fun _ => trivial)⟩, hw.1, hw.2.2.2.2.1⟩, by rw [ht]; exact hw.2.1, va_K.moved hW.alike hK, hw.2.2.1⟩, hw.2.2.2.1.F ht⟩) hw.2.2.2.1.2.2 dX9_book_171
    · have r_x2 : RI x2 0 0 := rc_eq1 r_x2 rl_0 (ti_eq c_157) (by decide)
      refine lv_iconst (v := (-1)) hx hb dX9_book_160 (by decide) ?_
      refine lv_goto (tgt := 171) hx hb dX9_book_161 (by decide) ?_
      subst hQ
      exact W.iret (v := (-1)) hx hb hr (fun t ht hW => ⟨⟨(-1), ws, rfl, ⟨⟨rl_m1.to (by decide), (fun _ => trivial), (fun h0 => trivial), ⟨⟨fun _ => x_TLX_p0_0, fun h9 => absurd ⟨by have k1 := r_p1.1; omega, by have k1 := r_p1.2; omega⟩ h9⟩, (HE.weak (fun e9 => e9) (fun e9 => by cases e9) x_HE_gdq_gdg_gdo_gdA_gdB_false_true), ⟨fun _ => x_LFB_p0_gdT_gh_gdR_gdN, fun h9 => absurd ⟨by have k1 := r_p1.1; omega, by have k1 := r_p1.2; omega⟩ h9⟩, trivial⟩, (fun _ => trivial), (fun _ => trivial)⟩, hw.1, hw.2.2.2.2.1⟩, by rw [ht]; exact hw.2.1, va_K.moved hW.alike hK, hw.2.2.1⟩, hw.2.2.2.1.F ht⟩) hw.2.2.2.1.2.2 dX9_book_171
  refine lv_iload_n hx hb dX9_book_0 rfl (lv_at hl 1 rfl) ?_
  refine lv_if_eq (tgt := 13) hx hb dX9_book_1 (by decide) (fun c_1 => ?_) (fun c_1 => ?_)
  · have r_p1 : RI p1 0 0 := rc_eq1 r_p1 rl_0 (ti_eq c_1) (by decide)
    refine lv_aload_n hx hb dX9_book_13 rfl (lv_at hl 0 rfl) ?_
    refine tg_get (ci := 9) (ts := ty_WP) (C := RX9) (T := TX9) (N := 15) hx hb hts inX9 hown hK hw h_p0 rfl rfl 6 (by decide) (hts _ tw_352) (fun _ h9 => h9) (ft := vR 31) rfl dX9_book_14 (fun u_3 hv_u_3 m_u_3 => ?_)
    obtain ⟨vu_3, rfl, h_vu_3⟩ := hv_u_3
    refine lv_aload_n hx hb dX9_book_17 rfl (lv_at hl 0 rfl) ?_
    refine tg_get (ci := 9) (ts := ty_WP) (C := RX9) (T := TX9) (N := 15) hx hb hts inX9 hown hK hw h_p0 rfl rfl 0 (by decide) (hts _ tw_346) (fun _ h9 => h9) (ft := vR 26) rfl dX9_book_18 (fun u_4 hv_u_4 m_u_4 => ?_)
    obtain ⟨vu_4, rfl, h_vu_4⟩ := hv_u_4
    refine lv_aload_n hx hb dX9_book_21 rfl (lv_at hl 0 rfl) ?_
    refine tg_get (ci := 9) (ts := ty_WP) (C := RX9) (T := TX9) (N := 15) hx hb hts inX9 hown hK hw h_p0 rfl rfl 1 (by decide) (hts _ tw_347) (fun _ h9 => h9) (ft := vR 24) rfl dX9_book_22 (fun u_5 hv_u_5 m_u_5 => ?_)
    obtain ⟨vu_5, rfl, h_vu_5⟩ := hv_u_5
    refine tg_getN (ci := 8) (ts := ty_WORLD) (C := RX8) (T := TX8) (N := 13) hx hb hts inX8 hown hK hw h_vu_5 rfl rfl 0 (by decide) (hSD.nest tn_249) (fun _ h9 => h9) (ft := vR 25) rfl dX9_book_25 (fun u_6 hv_u_6 m_u_6 => ?_)
    obtain ⟨vu_6, rfl, h_vu_6⟩ := hv_u_6
    obtain ⟨sb9, o_b⟩ := bk_full hw.1 h_vu_3
    obtain ⟨so, o_t, hCX⟩ := tp_full hw.1 hw.2.2.1 x_TLX_p0_gh x_BYX_p0_gdT x_WKX_p0 m_u_4 h_vu_4
    have o_w : OV vw_POST Ps w0 vu_6 gdo := wr_ov hw.2.2.1 (HE.w x_HE_gdq_gdg_gdo_gdA_gdB_false_false) x_GWX_p0_gdq m_u_5 m_u_6
    refine tk_v (va_runV (As := [.ref vu_4, .ref vu_6]) (rest := []) ⟨hx, hb, hml, hown, hts⟩ (c_X0_read__1 l D cy z s.heap.size Ps w0 hw.1 vu_3 vu_4 vu_6 sb9 so gdo h_vu_3 h_vu_4 h_vu_6 o_b o_t o_w) (cwV 2 hts (gV tw_886 tw_887 tw_888 tw_7 tw_889) rfl rfl rfl (by decide +kernel) ⟨Nat.le_of_ble_eq_true rfl, Nat.le_of_ble_eq_true rfl⟩) (tg_preV hw hK hSD hA (ci := 0) (q := (RX0, TX0, 5)) rfl h_vu_3 rfl) rfl rfl hl.1 rfl (lv_room (Nat.le_of_ble_eq_true rfl)) dX9_book_28 ⟨Nat.le_of_ble_eq_true rfl, Nat.le_of_ble_eq_true rfl⟩) hw hA ⟨by decide, by decide⟩ (fun ws H locs hp_v_7 hw hF9 => ?_)
    have m_u_3 := FLD.over hF9 m_u_3 (by decide)
    have m_u_4 := FLD.over hF9 m_u_4 (by decide)
    have m_u_5 := FLD.over hF9 m_u_5 (by decide)
    have m_u_6 := FLD.over hF9 m_u_6 (by decide)
    have x_TLX_p0_gh := TLX.over hF9 x_TLX_p0_gh (by decide)
    have x_GWX_p0_gdq := GWX.over hF9 x_GWX_p0_gdq (by decide)
    have x_GQ_gdq_gdg := GQ.over hF9 x_GQ_gdq_gdg (by decide)
    have x_HE_gdq_gdg_gdo_gdA_gdB_false_false := HE.over hF9 x_HE_gdq_gdg_gdo_gdA_gdB_false_false (by decide)
    have x_BYX_p0_gdT := BYX.over hF9 x_BYX_p0_gdT (by decide)
    have x_WKX_p0 := WKX.over hF9 x_WKX_p0 (by decide)
    have x_LF_p0_gdf := FLD.over hF9 x_LF_p0_gdf (by decide)
    obtain ⟨hfn, hp_v_7⟩ := hp_v_7
    have o_b : OV vw_BOOK Ps ws vu_3 ((f_X0_read__1 sb9 so gdo).1) := hfn.1
    have o_t : OV vw_TAPE Ps ws vu_4 ((f_X0_read__1 sb9 so gdo).2.1) := hfn.2.1
    have o_w : OV vw_POST Ps ws vu_6 ((f_X0_read__1 sb9 so gdo).2.2) := hfn.2.2.1
    have x_JB_vu_4_vu_3 := (hp_v_7.1)
    obtain ⟨fv, e_fv⟩ : ∃ q9 : Int32, (((f_X0_read__1 sb9 so gdo).2.1)).1 10 = q9 := ⟨_, rfl⟩
    have m_fv : FLD ws vu_4 7 10 (.int fv) := by rw [← e_fv]; exact o_t.1 10 (by decide)
    obtain ⟨pv, e_pv⟩ : ∃ q9 : Int32, (((f_X0_read__1 sb9 so gdo).2.1)).1 11 = q9 := ⟨_, rfl⟩
    have m_pv : FLD ws vu_4 7 11 (.int pv) := by rw [← e_pv]; exact o_t.1 11 (by decide)
    have r_fv : RI fv 0 4 := by
      obtain ⟨v9, a9, b9⟩ := ht_fld (k := 10) (ci := 7) (ts := ty_TAPE) (lo := 0) (hi := 4) hw.1 h_vu_4 rfl rfl
      cases FLD.inj hw.2.2.1 a9 m_fv
      exact b9
    have r_pv := ri_any pv
    refine lv_aload_n hx hb dX9_book_31 rfl (lv_at hl 0 rfl) ?_
    refine tk_v (va_runV (As := []) (rest := []) ⟨hx, hb, hml, hown, hts⟩ (c_X9_noteFault__2 l D cy z H.size Ps ws hw.1 p0 h_p0) (cwV 0 hts (gV tw_517 tw_519 ts_9 tw_1 tw_520) rfl rfl rfl (by decide +kernel) ⟨Nat.le_of_ble_eq_true rfl, Nat.le_of_ble_eq_true rfl⟩) (tg_preV hw hK hSD hA (ci := 9) (q := (RX9, TX9, 15)) rfl h_p0 rfl) rfl rfl hl.1 rfl (lv_room (Nat.le_of_ble_eq_true rfl)) dX9_book_32 ⟨Nat.le_of_ble_eq_true rfl, Nat.le_of_ble_eq_true rfl⟩) hw hA ⟨by decide, by decide⟩ (fun ws H locs hp_v_8 hw hF9 => ?_)
    have m_u_3 := FLD.over hF9 m_u_3 (by decide)
    have m_u_4 := FLD.over hF9 m_u_4 (by decide)
    have m_u_5 := FLD.over hF9 m_u_5 (by decide)
    have m_u_6 := FLD.over hF9 m_u_6 (by decide)
    have m_fv := FLD.over hF9 m_fv (by decide)
    have m_pv := FLD.over hF9 m_pv (by decide)
    have x_GWX_p0_gdq := GWX.over hF9 x_GWX_p0_gdq (by decide)
    have x_GQ_gdq_gdg := GQ.over hF9 x_GQ_gdq_gdg (by decide)
    have x_HE_gdq_gdg_gdo_gdA_gdB_false_false := HE.over hF9 x_HE_gdq_gdg_gdo_gdA_gdB_false_false (by decide)
    have x_BYX_p0_gdT := BYX.over hF9 x_BYX_p0_gdT (by decide)
    have x_WKX_p0 := WKX.over hF9 x_WKX_p0 (by decide)
    have x_JB_vu_4_vu_3 := JB.over hF9 x_JB_vu_4_vu_3 (by decide)
    have x_EQF_p0 := (hp_v_8.1)
    have x_TLX_p0_0 := (hp_v_8.2.1)
    have m_lf : FLD ws p0 9 11 (.int fv) := EQF.lf hw.2.2.1 x_EQF_p0 m_u_4 m_fv
    have e9_ : FAU (SBK gdT gh gdR gdN) = fv := (FB_ (bread_ (s0 := sb9) hCX x_PDF_gdo_gdR_gdN.1)).symm.trans e_fv
    have x_LFB_p0_gdT_gh_gdR_gdN : FLD ws p0 9 11 (.int (FAU (SBK gdT gh gdR gdN))) := by rw [e9_]; exact m_lf
    refine lv_aload_n hx hb dX9_book_35 rfl (lv_at hl 0 rfl) ?_
    refine tg_mem (ci := 9) (C := RX9) (T := TX9) (N := 15) hx hb hts inX9 hown hK hw 11 m_lf rfl (by decide) (hts _ tw_357) (fun _ h9 => h9) dX9_book_36 ?_
    refine lv_if_eq (tgt := 53) hx hb dX9_book_39 (by decide) (fun c_39 => ?_) (fun c_39 => ?_)
    · have r_fv : RI fv 0 0 := rc_eq1 r_fv rl_0 (ti_eq c_39) (by decide)
      have x_BG_vu_3 : BG Ps ws vu_3 := JB.bg hw x_JB_vu_4_vu_3 x_EQF_p0 m_u_4 m_lf r_fv
      refine lv_aload_n hx hb dX9_book_53 rfl (lv_at hl 0 rfl) ?_
      refine tg_get (ci := 9) (ts := ty_WP) (C := RX9) (T := TX9) (N := 15) hx hb hts inX9 hown hK hw h_p0 rfl rfl 2 (by decide) (hts _ tw_348) (fun _ h9 => h9) (ft := vR 24) rfl dX9_book_54 (fun u_9 hv_u_9 m_u_9 => ?_)
      obtain ⟨vu_9, rfl, h_vu_9⟩ := hv_u_9
      refine lv_aload_n hx hb dX9_book_57 rfl (lv_at hl 0 rfl) ?_
      refine tg_mem (ci := 9) (C := RX9) (T := TX9) (N := 15) hx hb hts inX9 hown hK hw 1 m_u_5 rfl (by decide) (hts _ tw_347) (fun _ h9 => h9) dX9_book_58 ?_
      have hD8 := hw.2.2.1
      refine tk_v (va_runV (As := [.ref vu_5]) (rest := []) ⟨hx, hb, hml, hown, hts⟩ (c_X8_takeFrom__1 l D cy z H.size Ps ws hw.1 vu_9 vu_5 h_vu_9 h_vu_5) (cwV 1 hts (gV tw_521 tw_522 tw_523 tw_12 tw_524) rfl rfl rfl (by decide +kernel) ⟨Nat.le_of_ble_eq_true rfl, Nat.le_of_ble_eq_true rfl⟩) (tg_preV hw hK hSD hA (ci := 8) (q := (RX8, TX8, 13)) rfl h_vu_9 rfl) rfl rfl hl.1 rfl (lv_room (Nat.le_of_ble_eq_true rfl)) dX9_book_61 ⟨Nat.le_of_ble_eq_true rfl, Nat.le_of_ble_eq_true rfl⟩) hw hA ⟨by decide, by decide⟩ (fun ws H locs hp_v_10 hw hF9 => ?_)
      have m_u_3 := FLD.over hF9 m_u_3 (by decide)
      have m_u_4 := FLD.over hF9 m_u_4 (by decide)
      have m_u_5 := FLD.over hF9 m_u_5 (by decide)
      have m_fv := FLD.over hF9 m_fv (by decide)
      have m_pv := FLD.over hF9 m_pv (by decide)
      have m_lf := FLD.over hF9 m_lf (by decide)
      have m_u_9 := FLD.over hF9 m_u_9 (by decide)
      have x_GWX_p0_gdq := GWX.over hF9 x_GWX_p0_gdq (by decide)
      have x_GQ_gdq_gdg := GQ.over hF9 x_GQ_gdq_gdg (by decide)
      have x_BYX_p0_gdT := BYX.over hF9 x_BYX_p0_gdT (by decide)
      have x_WKX_p0 := WKX.over hF9 x_WKX_p0 (by decide)
      have x_JB_vu_4_vu_3 := JB.over hF9 x_JB_vu_4_vu_3 (by decide)
      have x_EQF_p0 := EQF.over hF9 x_EQF_p0 (by decide)
      have x_TLX_p0_0 := TLX.over hF9 x_TLX_p0_0 (by decide)
      have x_LFB_p0_gdT_gh_gdR_gdN := FLD.over hF9 x_LFB_p0_gdT_gh_gdR_gdN (by decide)
      have x_BG_vu_3 := B3.over hF9 x_BG_vu_3 (by decide)
      have x_TKF_vu_9_vu_5 := (hp_v_10.1)
      have x_HE_gdq_gdg_gdo_gdA_gdB_false_true : HE Ps ws gdq gdg gdo gdA gdB false true := HE.trial hD8 hF9 (by decide) x_GQ_gdq_gdg.2.2.2.2.2 x_HE_gdq_gdg_gdo_gdA_gdB_false_false (by rw [← GWX.tr hw.2.2.1 x_GWX_p0_gdq m_u_9, ← GWX.wo hw.2.2.1 x_GWX_p0_gdq m_u_5]; exact x_TKF_vu_9_vu_5)
      refine lv_aload_n hx hb dX9_book_64 rfl (lv_at hl 0 rfl) ?_
      refine tg_mem (ci := 9) (C := RX9) (T := TX9) (N := 15) hx hb hts inX9 hown hK hw 6 m_u_3 rfl (by decide) (hts _ tw_352) (fun _ h9 => h9) dX9_book_65 ?_
      refine lv_aload_n hx hb dX9_book_68 rfl (lv_at hl 0 rfl) ?_
      refine tg_mem (ci := 9) (C := RX9) (T := TX9) (N := 15) hx hb hts inX9 hown hK hw 2 m_u_9 rfl (by decide) (hts _ tw_348) (fun _ h9 => h9) dX9_book_69 ?_
      refine tk_i (va_runV (As := [.ref vu_9]) (rest := []) ⟨hx, hb, hml, hown, hts⟩ (c_X0_liveIn l D cy z H.size Ps ws hw.1 vu_3 vu_9 h_vu_3 h_vu_9 x_BG_vu_3) (cwV 1 hts (gV tw_914 tw_915 tw_916 tw_7 tw_917) rfl rfl rfl (by decide +kernel) ⟨Nat.le_of_ble_eq_true rfl, Nat.le_of_ble_eq_true rfl⟩) (tg_preV hw hK hSD hA (ci := 0) (q := (RX0, TX0, 5)) rfl h_vu_3 rfl) rfl rfl hl.1 rfl (lv_room (Nat.le_of_ble_eq_true rfl)) dX9_book_72 ⟨Nat.le_of_ble_eq_true rfl, Nat.le_of_ble_eq_true rfl⟩) hw hA ⟨by decide, by decide⟩ (fun v_11 ws H locs hp_v_11 hw hF9 => ?_)
      have m_u_3 := FLD.over hF9 m_u_3 (by decide)
      have m_u_4 := FLD.over hF9 m_u_4 (by decide)
      have m_u_5 := FLD.over hF9 m_u_5 (by decide)
      have m_fv := FLD.over hF9 m_fv (by decide)
      have m_pv := FLD.over hF9 m_pv (by decide)
      have m_lf := FLD.over hF9 m_lf (by decide)
      have m_u_9 := FLD.over hF9 m_u_9 (by decide)
      have x_GWX_p0_gdq := GWX.over hF9 x_GWX_p0_gdq (by decide)
      have x_GQ_gdq_gdg := GQ.over hF9 x_GQ_gdq_gdg (by decide)
      have x_BYX_p0_gdT := BYX.over hF9 x_BYX_p0_gdT (by decide)
      have x_WKX_p0 := WKX.over hF9 x_WKX_p0 (by decide)
      have x_JB_vu_4_vu_3 := JB.over hF9 x_JB_vu_4_vu_3 (by decide)
      have x_EQF_p0 := EQF.over hF9 x_EQF_p0 (by decide)
      have x_TLX_p0_0 := TLX.over hF9 x_TLX_p0_0 (by decide)
      have x_LFB_p0_gdT_gh_gdR_gdN := FLD.over hF9 x_LFB_p0_gdT_gh_gdR_gdN (by decide)
      have x_BG_vu_3 := B3.over hF9 x_BG_vu_3 (by decide)
      have x_HE_gdq_gdg_gdo_gdA_gdB_false_true := HE.over hF9 x_HE_gdq_gdg_gdo_gdA_gdB_false_true (by decide)
      have r_v_11 : RI v_11 (-2147483648) 2147483647 := hp_v_11.1
      by_cases c9_v_11 : v_11 = 0
      · have r_v_11 : RI v_11 0 0 := by rw [c9_v_11]; exact rl_0
        refine lv_istore_n (lv' := [(2, .int v_11), (0, .ref p0), (1, .int p1)]) hx hb dX9_book_75 rfl hl (by decide) rfl (fun ls hl => ?_)
        refine lv_aload_n hx hb dX9_book_76 rfl (lv_at hl 1 rfl) ?_
        refine tg_get (ci := 9) (ts := ty_WP) (C := RX9) (T := TX9) (N := 15) hx hb hts inX9 hown hK hw h_p0 rfl rfl 7 (by decide) (hts _ tw_353) (fun _ h9 => h9) (ft := vR 15) rfl dX9_book_77 (fun u_12 hv_u_12 m_u_12 => ?_)
        obtain ⟨vu_12, rfl, h_vu_12⟩ := hv_u_12
        refine lv_iconst (v := 0) hx hb dX9_book_80 (by decide) ?_
        refine lv_iload_n hx hb dX9_book_81 rfl (lv_at hl 0 rfl) ?_
        refine tg_iast hx hb hK hw h_vu_12 rfl 0 0 rl_0 (by decide) r_v_11 (by exact fun _ _ _ => by decide) (fun _ _ _ _ _ => trivial) (by decide) dX9_book_82 (fun ws H locs hw hF9 hU9 => ?_)
        have x_GWX_p0_gdq := GWX.over hF9 x_GWX_p0_gdq (by decide)
        have x_GQ_gdq_gdg := GQ.over hF9 x_GQ_gdq_gdg (by decide)
        have x_BYX_p0_gdT := BYX.over hF9 x_BYX_p0_gdT (by decide)
        have x_WKX_p0 := WKX.over hF9 x_WKX_p0 (by decide)
        have x_JB_vu_4_vu_3 := JB.over hF9 x_JB_vu_4_vu_3 (by decide)
        have x_EQF_p0 := EQF.over hF9 x_EQF_p0 (by decide)
        have x_TLX_p0_0 := TLX.over hF9 x_TLX_p0_0 (by decide)
        have x_LFB_p0_gdT_gh_gdR_gdN := FLD.over hF9 x_LFB_p0_gdT_gh_gdR_gdN (by decide)
        have x_BG_vu_3 := B3.over hF9 x_BG_vu_3 (by decide)
        have x_HE_gdq_gdg_gdo_gdA_gdB_false_true := HE.over hF9 x_HE_gdq_gdg_gdo_gdA_gdB_false_true (by decide)
        have m_u_3 := FLD.over hF9 m_u_3 (by decide)
        have m_u_4 := FLD.over hF9 m_u_4 (by decide)
        have m_u_5 := FLD.over hF9 m_u_5 (by decide)
        have m_fv := FLD.over hF9 m_fv (by decide)
        have m_pv := FLD.over hF9 m_pv (by decide)
        have m_lf := FLD.over hF9 m_lf (by decide)
        have m_u_9 := FLD.over hF9 m_u_9 (by decide)
        have m_u_12 := FLD.over hF9 m_u_12 (by decide)
        refine lv_aload_n hx hb dX9_book_83 rfl (lv_at hl 1 rfl) ?_
        refine tg_mem (ci := 9) (C := RX9) (T := TX9) (N := 15) hx hb hts inX9 hown hK hw 7 m_u_12 rfl (by decide) (hts _ tw_353) (fun _ h9 => h9) dX9_book_84 ?_
        refine lv_iconst (v := 1) hx hb dX9_book_87 (by decide) ?_
        refine lv_aload_n hx hb dX9_book_88 rfl (lv_at hl 1 rfl) ?_
        refine tg_mem (ci := 9) (C := RX9) (T := TX9) (N := 15) hx hb hts inX9 hown hK hw 6 m_u_3 rfl (by decide) (hts _ tw_352) (fun _ h9 => h9) dX9_book_89 ?_
        refine tg_getN (ci := 0) (ts := ty_BOOK) (C := RX0) (T := TX0) (N := 5) hx hb hts inX0 hown hK hw h_vu_3 rfl rfl 4 (by decide) (hSD.nest tn_147) (fun _ h9 => h9) (ft := vI (-2147483648) 2147483647) rfl dX9_book_92 (fun u_13 hv_u_13 m_u_13 => ?_)
        obtain ⟨vu_13, rfl, r_vu_13⟩ := hv_u_13
        refine tg_iast hx hb hK hw h_vu_12 rfl 1 1 rl_1 (by decide) r_vu_13 (by exact fun _ _ _ => by decide) (fun _ _ _ _ _ => trivial) (by decide) dX9_book_95 (fun ws H locs hw hF9 hU9 => ?_)
        have x_GWX_p0_gdq := GWX.over hF9 x_GWX_p0_gdq (by decide)
        have x_GQ_gdq_gdg := GQ.over hF9 x_GQ_gdq_gdg (by decide)
        have x_BYX_p0_gdT := BYX.over hF9 x_BYX_p0_gdT (by decide)
        have x_WKX_p0 := WKX.over hF9 x_WKX_p0 (by decide)
        have x_JB_vu_4_vu_3 := JB.over hF9 x_JB_vu_4_vu_3 (by decide)
        have x_EQF_p0 := EQF.over hF9 x_EQF_p0 (by decide)
        have x_TLX_p0_0 := TLX.over hF9 x_TLX_p0_0 (by decide)
        have x_LFB_p0_gdT_gh_gdR_gdN := FLD.over hF9 x_LFB_p0_gdT_gh_gdR_gdN (by decide)
        have x_BG_vu_3 := B3.over hF9 x_BG_vu_3 (by decide)
        have x_HE_gdq_gdg_gdo_gdA_gdB_false_true := HE.over hF9 x_HE_gdq_gdg_gdo_gdA_gdB_false_true (by decide)
        have m_u_3 := FLD.over hF9 m_u_3 (by decide)
        have m_u_4 := FLD.over hF9 m_u_4 (by decide)
        have m_u_5 := FLD.over hF9 m_u_5 (by decide)
        have m_fv := FLD.over hF9 m_fv (by decide)
        have m_pv := FLD.over hF9 m_pv (by decide)
        have m_lf := FLD.over hF9 m_lf (by decide)
        have m_u_9 := FLD.over hF9 m_u_9 (by decide)
        have m_u_12 := FLD.over hF9 m_u_12 (by decide)
        have m_u_13 := FLD.over hF9 m_u_13 (by decide)
        refine lv_aload_n hx hb dX9_book_96 rfl (lv_at hl 1 rfl) ?_
        refine tg_mem (ci := 9) (C := RX9) (T := TX9) (N := 15) hx hb hts inX9 hown hK hw 7 m_u_12 rfl (by decide) (hts _ tw_353) (fun _ h9 => h9) dX9_book_97 ?_
        refine lv_iconst (v := 2) hx hb dX9_book_100 (by decide) ?_
        refine lv_aload_n hx hb dX9_book_101 rfl (lv_at hl 1 rfl) ?_
        refine tg_mem (ci := 9) (C := RX9) (T := TX9) (N := 15) hx hb hts inX9 hown hK hw 2 m_u_9 rfl (by decide) (hts _ tw_348) (fun _ h9 => h9) dX9_book_102 ?_
        refine tg_getN (ci := 8) (ts := ty_WORLD) (C := RX8) (T := TX8) (N := 13) hx hb hts inX8 hown hK hw h_vu_9 rfl rfl 1 (by decide) (hSD.nest tn_251) (fun _ h9 => h9) (ft := vI (-2147483648) 2147483647) rfl dX9_book_105 (fun u_14 hv_u_14 m_u_14 => ?_)
        obtain ⟨vu_14, rfl, r_vu_14⟩ := hv_u_14
        refine tg_iast hx hb hK hw h_vu_12 rfl 2 2 rl_2 (by decide) r_vu_14 (by exact fun _ _ _ => by decide) (fun _ _ _ _ _ => trivial) (by decide) dX9_book_108 (fun ws H locs hw hF9 hU9 => ?_)
        have x_GWX_p0_gdq := GWX.over hF9 x_GWX_p0_gdq (by decide)
        have x_GQ_gdq_gdg := GQ.over hF9 x_GQ_gdq_gdg (by decide)
        have x_BYX_p0_gdT := BYX.over hF9 x_BYX_p0_gdT (by decide)
        have x_WKX_p0 := WKX.over hF9 x_WKX_p0 (by decide)
        have x_JB_vu_4_vu_3 := JB.over hF9 x_JB_vu_4_vu_3 (by decide)
        have x_EQF_p0 := EQF.over hF9 x_EQF_p0 (by decide)
        have x_TLX_p0_0 := TLX.over hF9 x_TLX_p0_0 (by decide)
        have x_LFB_p0_gdT_gh_gdR_gdN := FLD.over hF9 x_LFB_p0_gdT_gh_gdR_gdN (by decide)
        have x_BG_vu_3 := B3.over hF9 x_BG_vu_3 (by decide)
        have x_HE_gdq_gdg_gdo_gdA_gdB_false_true := HE.over hF9 x_HE_gdq_gdg_gdo_gdA_gdB_false_true (by decide)
        have m_u_3 := FLD.over hF9 m_u_3 (by decide)
        have m_u_4 := FLD.over hF9 m_u_4 (by decide)
        have m_u_5 := FLD.over hF9 m_u_5 (by decide)
        have m_fv := FLD.over hF9 m_fv (by decide)
        have m_pv := FLD.over hF9 m_pv (by decide)
        have m_lf := FLD.over hF9 m_lf (by decide)
        have m_u_9 := FLD.over hF9 m_u_9 (by decide)
        have m_u_12 := FLD.over hF9 m_u_12 (by decide)
        have m_u_13 := FLD.over hF9 m_u_13 (by decide)
        have m_u_14 := FLD.over hF9 m_u_14 (by decide)
        refine lv_aload_n hx hb dX9_book_109 rfl (lv_at hl 1 rfl) ?_
        refine tg_mem (ci := 9) (C := RX9) (T := TX9) (N := 15) hx hb hts inX9 hown hK hw 7 m_u_12 rfl (by decide) (hts _ tw_353) (fun _ h9 => h9) dX9_book_110 ?_
        refine lv_iconst (v := 3) hx hb dX9_book_113 (by decide) ?_
        refine lv_aload_n hx hb dX9_book_114 rfl (lv_at hl 1 rfl) ?_
        refine tg_mem (ci := 9) (C := RX9) (T := TX9) (N := 15) hx hb hts inX9 hown hK hw 2 m_u_9 rfl (by decide) (hts _ tw_348) (fun _ h9 => h9) dX9_book_115 ?_
        refine tk_ir (va_runV (As := []) (rest := [.int 3, .ref vu_12]) ⟨hx, hb, hml, hown, hts⟩ (c_X8_whichAreNothing l D cy z H.size Ps ws hw.1 vu_9 h_vu_9) (cwV 0 hts (gV tw_565 tw_566 tw_567 tw_12 tw_568) rfl rfl rfl (by decide +kernel) ⟨Nat.le_of_ble_eq_true rfl, Nat.le_of_ble_eq_true rfl⟩) (tg_preV hw hK hSD hA (ci := 8) (q := (RX8, TX8, 13)) rfl h_vu_9 rfl) rfl rfl hl.1 rfl (lv_room (Nat.le_of_ble_eq_true rfl)) dX9_book_118 ⟨Nat.le_of_ble_eq_true rfl, Nat.le_of_ble_eq_true rfl⟩) hw hA (fun v_15  H locs hp_v_15 hw => ?_)
        have r_v_15 : RI v_15 (-2147483648) 2147483647 := hp_v_15.1
        refine tg_iast hx hb hK hw h_vu_12 rfl 3 3 rl_3 (by decide) r_v_15 (by exact fun _ _ _ => by decide) (fun _ _ _ _ _ => trivial) (by decide) dX9_book_121 (fun ws H locs hw hF9 hU9 => ?_)
        have x_GWX_p0_gdq := GWX.over hF9 x_GWX_p0_gdq (by decide)
        have x_GQ_gdq_gdg := GQ.over hF9 x_GQ_gdq_gdg (by decide)
        have x_BYX_p0_gdT := BYX.over hF9 x_BYX_p0_gdT (by decide)
        have x_WKX_p0 := WKX.over hF9 x_WKX_p0 (by decide)
        have x_JB_vu_4_vu_3 := JB.over hF9 x_JB_vu_4_vu_3 (by decide)
        have x_EQF_p0 := EQF.over hF9 x_EQF_p0 (by decide)
        have x_TLX_p0_0 := TLX.over hF9 x_TLX_p0_0 (by decide)
        have x_LFB_p0_gdT_gh_gdR_gdN := FLD.over hF9 x_LFB_p0_gdT_gh_gdR_gdN (by decide)
        have x_BG_vu_3 := B3.over hF9 x_BG_vu_3 (by decide)
        have x_HE_gdq_gdg_gdo_gdA_gdB_false_true := HE.over hF9 x_HE_gdq_gdg_gdo_gdA_gdB_false_true (by decide)
        have m_u_3 := FLD.over hF9 m_u_3 (by decide)
        have m_u_4 := FLD.over hF9 m_u_4 (by decide)
        have m_u_5 := FLD.over hF9 m_u_5 (by decide)
        have m_fv := FLD.over hF9 m_fv (by decide)
        have m_pv := FLD.over hF9 m_pv (by decide)
        have m_lf := FLD.over hF9 m_lf (by decide)
        have m_u_9 := FLD.over hF9 m_u_9 (by decide)
        have m_u_12 := FLD.over hF9 m_u_12 (by decide)
        have m_u_13 := FLD.over hF9 m_u_13 (by decide)
        have m_u_14 := FLD.over hF9 m_u_14 (by decide)
        refine lv_iload_n hx hb dX9_book_122 rfl (lv_at hl 2 rfl) ?_
        refine lv_iconst (v := 1) hx hb dX9_book_123 (by decide) ?_
        refine lv_icmp_ne (tgt := 156) hx hb dX9_book_124 (by decide) (fun c_124 => ?_) (fun c_124 => ?_)
        · exact B156 v_11 fv ws _ _ ls (r_p1.to (by decide)) (r_v_11.to (by decide)) r_fv m_lf x_BYX_p0_gdT x_EQF_p0 x_GQ_gdq_gdg x_GWX_p0_gdq x_HE_gdq_gdg_gdo_gdA_gdB_false_true x_LFB_p0_gdT_gh_gdR_gdN x_PDF_gdo_gdR_gdN x_TLX_p0_0 x_WKX_p0 hw (lv_sub hl [1, 2, 0] rfl)
        · have r_p1 : RI p1 1 0 := rc_eq1 r_p1 rl_1 (ti_eq c_124) (by decide)
          exact (r_p1.no (by decide)).elim
      · obtain ⟨v_16, m_v_16, r_v_16⟩ := ((hp_v_11.2.2 c9_v_11).1)
        refine lv_istore_n (lv' := [(2, .int v_11), (0, .ref p0), (1, .int p1)]) hx hb dX9_book_75 rfl hl (by decide) rfl (fun ls hl => ?_)
        refine lv_aload_n hx hb dX9_book_76 rfl (lv_at hl 1 rfl) ?_
        refine tg_get (ci := 9) (ts := ty_WP) (C := RX9) (T := TX9) (N := 15) hx hb hts inX9 hown hK hw h_p0 rfl rfl 7 (by decide) (hts _ tw_353) (fun _ h9 => h9) (ft := vR 15) rfl dX9_book_77 (fun u_17 hv_u_17 m_u_17 => ?_)
        obtain ⟨vu_17, rfl, h_vu_17⟩ := hv_u_17
        refine lv_iconst (v := 0) hx hb dX9_book_80 (by decide) ?_
        refine lv_iload_n hx hb dX9_book_81 rfl (lv_at hl 0 rfl) ?_
        refine tg_iast hx hb hK hw h_vu_17 rfl 0 0 rl_0 (by decide) r_v_11 (by exact fun _ _ _ => by decide) (fun _ _ _ _ _ => trivial) (by decide) dX9_book_82 (fun ws H locs hw hF9 hU9 => ?_)
        have x_GWX_p0_gdq := GWX.over hF9 x_GWX_p0_gdq (by decide)
        have x_GQ_gdq_gdg := GQ.over hF9 x_GQ_gdq_gdg (by decide)
        have x_BYX_p0_gdT := BYX.over hF9 x_BYX_p0_gdT (by decide)
        have x_WKX_p0 := WKX.over hF9 x_WKX_p0 (by decide)
        have x_JB_vu_4_vu_3 := JB.over hF9 x_JB_vu_4_vu_3 (by decide)
        have x_EQF_p0 := EQF.over hF9 x_EQF_p0 (by decide)
        have x_TLX_p0_0 := TLX.over hF9 x_TLX_p0_0 (by decide)
        have x_LFB_p0_gdT_gh_gdR_gdN := FLD.over hF9 x_LFB_p0_gdT_gh_gdR_gdN (by decide)
        have x_BG_vu_3 := B3.over hF9 x_BG_vu_3 (by decide)
        have x_HE_gdq_gdg_gdo_gdA_gdB_false_true := HE.over hF9 x_HE_gdq_gdg_gdo_gdA_gdB_false_true (by decide)
        have m_u_3 := FLD.over hF9 m_u_3 (by decide)
        have m_u_4 := FLD.over hF9 m_u_4 (by decide)
        have m_u_5 := FLD.over hF9 m_u_5 (by decide)
        have m_fv := FLD.over hF9 m_fv (by decide)
        have m_pv := FLD.over hF9 m_pv (by decide)
        have m_lf := FLD.over hF9 m_lf (by decide)
        have m_u_9 := FLD.over hF9 m_u_9 (by decide)
        have m_v_16 := FLD.over hF9 m_v_16 (by decide)
        have m_u_17 := FLD.over hF9 m_u_17 (by decide)
        refine lv_aload_n hx hb dX9_book_83 rfl (lv_at hl 1 rfl) ?_
        refine tg_mem (ci := 9) (C := RX9) (T := TX9) (N := 15) hx hb hts inX9 hown hK hw 7 m_u_17 rfl (by decide) (hts _ tw_353) (fun _ h9 => h9) dX9_book_84 ?_
        refine lv_iconst (v := 1) hx hb dX9_book_87 (by decide) ?_
        refine lv_aload_n hx hb dX9_book_88 rfl (lv_at hl 1 rfl) ?_
        refine tg_mem (ci := 9) (C := RX9) (T := TX9) (N := 15) hx hb hts inX9 hown hK hw 6 m_u_3 rfl (by decide) (hts _ tw_352) (fun _ h9 => h9) dX9_book_89 ?_
        refine tg_getN (ci := 0) (ts := ty_BOOK) (C := RX0) (T := TX0) (N := 5) hx hb hts inX0 hown hK hw h_vu_3 rfl rfl 4 (by decide) (hSD.nest tn_147) (fun _ h9 => h9) (ft := vI (-2147483648) 2147483647) rfl dX9_book_92 (fun u_18 hv_u_18 m_u_18 => ?_)
        obtain ⟨vu_18, rfl, r_vu_18⟩ := hv_u_18
        refine tg_iast hx hb hK hw h_vu_17 rfl 1 1 rl_1 (by decide) r_vu_18 (by exact fun _ _ _ => by decide) (fun _ _ _ _ _ => trivial) (by decide) dX9_book_95 (fun ws H locs hw hF9 hU9 => ?_)
        have x_GWX_p0_gdq := GWX.over hF9 x_GWX_p0_gdq (by decide)
        have x_GQ_gdq_gdg := GQ.over hF9 x_GQ_gdq_gdg (by decide)
        have x_BYX_p0_gdT := BYX.over hF9 x_BYX_p0_gdT (by decide)
        have x_WKX_p0 := WKX.over hF9 x_WKX_p0 (by decide)
        have x_JB_vu_4_vu_3 := JB.over hF9 x_JB_vu_4_vu_3 (by decide)
        have x_EQF_p0 := EQF.over hF9 x_EQF_p0 (by decide)
        have x_TLX_p0_0 := TLX.over hF9 x_TLX_p0_0 (by decide)
        have x_LFB_p0_gdT_gh_gdR_gdN := FLD.over hF9 x_LFB_p0_gdT_gh_gdR_gdN (by decide)
        have x_BG_vu_3 := B3.over hF9 x_BG_vu_3 (by decide)
        have x_HE_gdq_gdg_gdo_gdA_gdB_false_true := HE.over hF9 x_HE_gdq_gdg_gdo_gdA_gdB_false_true (by decide)
        have m_u_3 := FLD.over hF9 m_u_3 (by decide)
        have m_u_4 := FLD.over hF9 m_u_4 (by decide)
        have m_u_5 := FLD.over hF9 m_u_5 (by decide)
        have m_fv := FLD.over hF9 m_fv (by decide)
        have m_pv := FLD.over hF9 m_pv (by decide)
        have m_lf := FLD.over hF9 m_lf (by decide)
        have m_u_9 := FLD.over hF9 m_u_9 (by decide)
        have m_v_16 := FLD.over hF9 m_v_16 (by decide)
        have m_u_17 := FLD.over hF9 m_u_17 (by decide)
        have m_u_18 := FLD.over hF9 m_u_18 (by decide)
        refine lv_aload_n hx hb dX9_book_96 rfl (lv_at hl 1 rfl) ?_
        refine tg_mem (ci := 9) (C := RX9) (T := TX9) (N := 15) hx hb hts inX9 hown hK hw 7 m_u_17 rfl (by decide) (hts _ tw_353) (fun _ h9 => h9) dX9_book_97 ?_
        refine lv_iconst (v := 2) hx hb dX9_book_100 (by decide) ?_
        refine lv_aload_n hx hb dX9_book_101 rfl (lv_at hl 1 rfl) ?_
        refine tg_mem (ci := 9) (C := RX9) (T := TX9) (N := 15) hx hb hts inX9 hown hK hw 2 m_u_9 rfl (by decide) (hts _ tw_348) (fun _ h9 => h9) dX9_book_102 ?_
        refine tg_getN (ci := 8) (ts := ty_WORLD) (C := RX8) (T := TX8) (N := 13) hx hb hts inX8 hown hK hw h_vu_9 rfl rfl 1 (by decide) (hSD.nest tn_251) (fun _ h9 => h9) (ft := vI (-2147483648) 2147483647) rfl dX9_book_105 (fun u_19 hv_u_19 m_u_19 => ?_)
        obtain ⟨vu_19, rfl, r_vu_19⟩ := hv_u_19
        refine tg_iast hx hb hK hw h_vu_17 rfl 2 2 rl_2 (by decide) r_vu_19 (by exact fun _ _ _ => by decide) (fun _ _ _ _ _ => trivial) (by decide) dX9_book_108 (fun ws H locs hw hF9 hU9 => ?_)
        have x_GWX_p0_gdq := GWX.over hF9 x_GWX_p0_gdq (by decide)
        have x_GQ_gdq_gdg := GQ.over hF9 x_GQ_gdq_gdg (by decide)
        have x_BYX_p0_gdT := BYX.over hF9 x_BYX_p0_gdT (by decide)
        have x_WKX_p0 := WKX.over hF9 x_WKX_p0 (by decide)
        have x_JB_vu_4_vu_3 := JB.over hF9 x_JB_vu_4_vu_3 (by decide)
        have x_EQF_p0 := EQF.over hF9 x_EQF_p0 (by decide)
        have x_TLX_p0_0 := TLX.over hF9 x_TLX_p0_0 (by decide)
        have x_LFB_p0_gdT_gh_gdR_gdN := FLD.over hF9 x_LFB_p0_gdT_gh_gdR_gdN (by decide)
        have x_BG_vu_3 := B3.over hF9 x_BG_vu_3 (by decide)
        have x_HE_gdq_gdg_gdo_gdA_gdB_false_true := HE.over hF9 x_HE_gdq_gdg_gdo_gdA_gdB_false_true (by decide)
        have m_u_3 := FLD.over hF9 m_u_3 (by decide)
        have m_u_4 := FLD.over hF9 m_u_4 (by decide)
        have m_u_5 := FLD.over hF9 m_u_5 (by decide)
        have m_fv := FLD.over hF9 m_fv (by decide)
        have m_pv := FLD.over hF9 m_pv (by decide)
        have m_lf := FLD.over hF9 m_lf (by decide)
        have m_u_9 := FLD.over hF9 m_u_9 (by decide)
        have m_v_16 := FLD.over hF9 m_v_16 (by decide)
        have m_u_17 := FLD.over hF9 m_u_17 (by decide)
        have m_u_18 := FLD.over hF9 m_u_18 (by decide)
        have m_u_19 := FLD.over hF9 m_u_19 (by decide)
        refine lv_aload_n hx hb dX9_book_109 rfl (lv_at hl 1 rfl) ?_
        refine tg_mem (ci := 9) (C := RX9) (T := TX9) (N := 15) hx hb hts inX9 hown hK hw 7 m_u_17 rfl (by decide) (hts _ tw_353) (fun _ h9 => h9) dX9_book_110 ?_
        refine lv_iconst (v := 3) hx hb dX9_book_113 (by decide) ?_
        refine lv_aload_n hx hb dX9_book_114 rfl (lv_at hl 1 rfl) ?_
        refine tg_mem (ci := 9) (C := RX9) (T := TX9) (N := 15) hx hb hts inX9 hown hK hw 2 m_u_9 rfl (by decide) (hts _ tw_348) (fun _ h9 => h9) dX9_book_115 ?_
        refine tk_ir (va_runV (As := []) (rest := [.int 3, .ref vu_17]) ⟨hx, hb, hml, hown, hts⟩ (c_X8_whichAreNothing l D cy z H.size Ps ws hw.1 vu_9 h_vu_9) (cwV 0 hts (gV tw_565 tw_566 tw_567 tw_12 tw_568) rfl rfl rfl (by decide +kernel) ⟨Nat.le_of_ble_eq_true rfl, Nat.le_of_ble_eq_true rfl⟩) (tg_preV hw hK hSD hA (ci := 8) (q := (RX8, TX8, 13)) rfl h_vu_9 rfl) rfl rfl hl.1 rfl (lv_room (Nat.le_of_ble_eq_true rfl)) dX9_book_118 ⟨Nat.le_of_ble_eq_true rfl, Nat.le_of_ble_eq_true rfl⟩) hw hA (fun v_20  H locs hp_v_20 hw => ?_)
        have r_v_20 : RI v_20 (-2147483648) 2147483647 := hp_v_20.1
        refine tg_iast hx hb hK hw h_vu_17 rfl 3 3 rl_3 (by decide) r_v_20 (by exact fun _ _ _ => by decide) (fun _ _ _ _ _ => trivial) (by decide) dX9_book_121 (fun ws H locs hw hF9 hU9 => ?_)
        have x_GWX_p0_gdq := GWX.over hF9 x_GWX_p0_gdq (by decide)
        have x_GQ_gdq_gdg := GQ.over hF9 x_GQ_gdq_gdg (by decide)
        have x_BYX_p0_gdT := BYX.over hF9 x_BYX_p0_gdT (by decide)
        have x_WKX_p0 := WKX.over hF9 x_WKX_p0 (by decide)
        have x_JB_vu_4_vu_3 := JB.over hF9 x_JB_vu_4_vu_3 (by decide)
        have x_EQF_p0 := EQF.over hF9 x_EQF_p0 (by decide)
        have x_TLX_p0_0 := TLX.over hF9 x_TLX_p0_0 (by decide)
        have x_LFB_p0_gdT_gh_gdR_gdN := FLD.over hF9 x_LFB_p0_gdT_gh_gdR_gdN (by decide)
        have x_BG_vu_3 := B3.over hF9 x_BG_vu_3 (by decide)
        have x_HE_gdq_gdg_gdo_gdA_gdB_false_true := HE.over hF9 x_HE_gdq_gdg_gdo_gdA_gdB_false_true (by decide)
        have m_u_3 := FLD.over hF9 m_u_3 (by decide)
        have m_u_4 := FLD.over hF9 m_u_4 (by decide)
        have m_u_5 := FLD.over hF9 m_u_5 (by decide)
        have m_fv := FLD.over hF9 m_fv (by decide)
        have m_pv := FLD.over hF9 m_pv (by decide)
        have m_lf := FLD.over hF9 m_lf (by decide)
        have m_u_9 := FLD.over hF9 m_u_9 (by decide)
        have m_v_16 := FLD.over hF9 m_v_16 (by decide)
        have m_u_17 := FLD.over hF9 m_u_17 (by decide)
        have m_u_18 := FLD.over hF9 m_u_18 (by decide)
        have m_u_19 := FLD.over hF9 m_u_19 (by decide)
        refine lv_iload_n hx hb dX9_book_122 rfl (lv_at hl 2 rfl) ?_
        refine lv_iconst (v := 1) hx hb dX9_book_123 (by decide) ?_
        refine lv_icmp_ne (tgt := 156) hx hb dX9_book_124 (by decide) (fun c_124 => ?_) (fun c_124 => ?_)
        · exact B156 v_11 fv ws _ _ ls (r_p1.to (by decide)) r_v_11 r_fv m_lf x_BYX_p0_gdT x_EQF_p0 x_GQ_gdq_gdg x_GWX_p0_gdq x_HE_gdq_gdg_gdo_gdA_gdB_false_true x_LFB_p0_gdT_gh_gdR_gdN x_PDF_gdo_gdR_gdN x_TLX_p0_0 x_WKX_p0 hw (lv_sub hl [1, 2, 0] rfl)
        · have r_p1 : RI p1 1 0 := rc_eq1 r_p1 rl_1 (ti_eq c_124) (by decide)
          exact (r_p1.no (by decide)).elim
    · have r_fv : RI fv 1 4 := rc_neL r_fv rl_0 (ti_ne c_39) (by decide)
      refine lv_bipush (v := (-2)) hx hb dX9_book_42 (by decide) ?_
      refine lv_aload_n hx hb dX9_book_44 rfl (lv_at hl 0 rfl) ?_
      refine tg_mem (ci := 9) (C := RX9) (T := TX9) (N := 15) hx hb hts inX9 hown hK hw 0 m_u_4 rfl (by decide) (hts _ tw_346) (fun _ h9 => h9) dX9_book_45 ?_
      refine tg_memN (ci := 7) (C := RX7) (T := TX7) (N := 12) hx hb hts inX7 hown hK hw 11 m_pv rfl (by decide) (hSD.nest tn_107) (fun _ h9 => h9) dX9_book_48 ?_
      refine lv_isub hx hb dX9_book_51 (lv_topi (fun v_21 e_v_21 => ?_))
      have r_v_21 := ri_any v_21
      subst hQ
      exact W.iret (v := v_21) hx hb hr (fun t ht hW => ⟨⟨v_21, ws, rfl, ⟨⟨r_v_21.to (by decide), (fun h0 => trivial), (fun h0 => trivial), ⟨⟨fun _ => x_TLX_p0_0, fun h9 => absurd ⟨by have k1 := r_p1.1; omega, by have k1 := r_p1.2; omega⟩ h9⟩, x_HE_gdq_gdg_gdo_gdA_gdB_false_false, ⟨fun _ => x_LFB_p0_gdT_gh_gdR_gdN, fun h9 => absurd ⟨by have k1 := r_p1.1; omega, by have k1 := r_p1.2; omega⟩ h9⟩, trivial⟩, (fun _ => trivial), (fun _ => trivial)⟩, hw.1, hw.2.2.2.2.1⟩, by rw [ht]; exact hw.2.1, va_K.moved hW.alike hK, hw.2.2.1⟩, hw.2.2.2.1.F ht⟩) hw.2.2.2.1.2.2 dX9_book_52
  · refine lv_iload_n hx hb dX9_book_4 rfl (lv_at hl 1 rfl) ?_
    refine lv_iconst (v := 1) hx hb dX9_book_5 (by decide) ?_
    refine lv_icmp_eq (tgt := 13) hx hb dX9_book_6 (by decide) (fun c_6 => ?_) (fun c_6 => ?_)
    · have r_p1 : RI p1 1 1 := rc_eq1 r_p1 rl_1 (ti_eq c_6) (by decide)
      refine lv_aload_n hx hb dX9_book_13 rfl (lv_at hl 0 rfl) ?_
      refine tg_get (ci := 9) (ts := ty_WP) (C := RX9) (T := TX9) (N := 15) hx hb hts inX9 hown hK hw h_p0 rfl rfl 6 (by decide) (hts _ tw_352) (fun _ h9 => h9) (ft := vR 31) rfl dX9_book_14 (fun u_22 hv_u_22 m_u_22 => ?_)
      obtain ⟨vu_22, rfl, h_vu_22⟩ := hv_u_22
      refine lv_aload_n hx hb dX9_book_17 rfl (lv_at hl 0 rfl) ?_
      refine tg_get (ci := 9) (ts := ty_WP) (C := RX9) (T := TX9) (N := 15) hx hb hts inX9 hown hK hw h_p0 rfl rfl 0 (by decide) (hts _ tw_346) (fun _ h9 => h9) (ft := vR 26) rfl dX9_book_18 (fun u_23 hv_u_23 m_u_23 => ?_)
      obtain ⟨vu_23, rfl, h_vu_23⟩ := hv_u_23
      refine lv_aload_n hx hb dX9_book_21 rfl (lv_at hl 0 rfl) ?_
      refine tg_get (ci := 9) (ts := ty_WP) (C := RX9) (T := TX9) (N := 15) hx hb hts inX9 hown hK hw h_p0 rfl rfl 1 (by decide) (hts _ tw_347) (fun _ h9 => h9) (ft := vR 24) rfl dX9_book_22 (fun u_24 hv_u_24 m_u_24 => ?_)
      obtain ⟨vu_24, rfl, h_vu_24⟩ := hv_u_24
      refine tg_getN (ci := 8) (ts := ty_WORLD) (C := RX8) (T := TX8) (N := 13) hx hb hts inX8 hown hK hw h_vu_24 rfl rfl 0 (by decide) (hSD.nest tn_249) (fun _ h9 => h9) (ft := vR 25) rfl dX9_book_25 (fun u_25 hv_u_25 m_u_25 => ?_)
      obtain ⟨vu_25, rfl, h_vu_25⟩ := hv_u_25
      obtain ⟨sb9, o_b⟩ := bk_full hw.1 h_vu_22
      obtain ⟨so, o_t, hCX⟩ := tp_full hw.1 hw.2.2.1 x_TLX_p0_gh x_BYX_p0_gdT x_WKX_p0 m_u_23 h_vu_23
      have o_w : OV vw_POST Ps w0 vu_25 gdo := wr_ov hw.2.2.1 (HE.w x_HE_gdq_gdg_gdo_gdA_gdB_false_false) x_GWX_p0_gdq m_u_24 m_u_25
      refine tk_v (va_runV (As := [.ref vu_23, .ref vu_25]) (rest := []) ⟨hx, hb, hml, hown, hts⟩ (c_X0_read__1 l D cy z s.heap.size Ps w0 hw.1 vu_22 vu_23 vu_25 sb9 so gdo h_vu_22 h_vu_23 h_vu_25 o_b o_t o_w) (cwV 2 hts (gV tw_886 tw_887 tw_888 tw_7 tw_889) rfl rfl rfl (by decide +kernel) ⟨Nat.le_of_ble_eq_true rfl, Nat.le_of_ble_eq_true rfl⟩) (tg_preV hw hK hSD hA (ci := 0) (q := (RX0, TX0, 5)) rfl h_vu_22 rfl) rfl rfl hl.1 rfl (lv_room (Nat.le_of_ble_eq_true rfl)) dX9_book_28 ⟨Nat.le_of_ble_eq_true rfl, Nat.le_of_ble_eq_true rfl⟩) hw hA ⟨by decide, by decide⟩ (fun ws H locs hp_v_26 hw hF9 => ?_)
      have m_u_22 := FLD.over hF9 m_u_22 (by decide)
      have m_u_23 := FLD.over hF9 m_u_23 (by decide)
      have m_u_24 := FLD.over hF9 m_u_24 (by decide)
      have m_u_25 := FLD.over hF9 m_u_25 (by decide)
      have x_TLX_p0_gh := TLX.over hF9 x_TLX_p0_gh (by decide)
      have x_GWX_p0_gdq := GWX.over hF9 x_GWX_p0_gdq (by decide)
      have x_GQ_gdq_gdg := GQ.over hF9 x_GQ_gdq_gdg (by decide)
      have x_HE_gdq_gdg_gdo_gdA_gdB_false_false := HE.over hF9 x_HE_gdq_gdg_gdo_gdA_gdB_false_false (by decide)
      have x_BYX_p0_gdT := BYX.over hF9 x_BYX_p0_gdT (by decide)
      have x_WKX_p0 := WKX.over hF9 x_WKX_p0 (by decide)
      have x_LF_p0_gdf := FLD.over hF9 x_LF_p0_gdf (by decide)
      obtain ⟨hfn, hp_v_26⟩ := hp_v_26
      have o_b : OV vw_BOOK Ps ws vu_22 ((f_X0_read__1 sb9 so gdo).1) := hfn.1
      have o_t : OV vw_TAPE Ps ws vu_23 ((f_X0_read__1 sb9 so gdo).2.1) := hfn.2.1
      have o_w : OV vw_POST Ps ws vu_25 ((f_X0_read__1 sb9 so gdo).2.2) := hfn.2.2.1
      have x_JB_vu_23_vu_22 := (hp_v_26.1)
      obtain ⟨fv, e_fv⟩ : ∃ q9 : Int32, (((f_X0_read__1 sb9 so gdo).2.1)).1 10 = q9 := ⟨_, rfl⟩
      have m_fv : FLD ws vu_23 7 10 (.int fv) := by rw [← e_fv]; exact o_t.1 10 (by decide)
      obtain ⟨pv, e_pv⟩ : ∃ q9 : Int32, (((f_X0_read__1 sb9 so gdo).2.1)).1 11 = q9 := ⟨_, rfl⟩
      have m_pv : FLD ws vu_23 7 11 (.int pv) := by rw [← e_pv]; exact o_t.1 11 (by decide)
      have r_fv : RI fv 0 4 := by
        obtain ⟨v9, a9, b9⟩ := ht_fld (k := 10) (ci := 7) (ts := ty_TAPE) (lo := 0) (hi := 4) hw.1 h_vu_23 rfl rfl
        cases FLD.inj hw.2.2.1 a9 m_fv
        exact b9
      have r_pv := ri_any pv
      refine lv_aload_n hx hb dX9_book_31 rfl (lv_at hl 0 rfl) ?_
      refine tk_v (va_runV (As := []) (rest := []) ⟨hx, hb, hml, hown, hts⟩ (c_X9_noteFault__2 l D cy z H.size Ps ws hw.1 p0 h_p0) (cwV 0 hts (gV tw_517 tw_519 ts_9 tw_1 tw_520) rfl rfl rfl (by decide +kernel) ⟨Nat.le_of_ble_eq_true rfl, Nat.le_of_ble_eq_true rfl⟩) (tg_preV hw hK hSD hA (ci := 9) (q := (RX9, TX9, 15)) rfl h_p0 rfl) rfl rfl hl.1 rfl (lv_room (Nat.le_of_ble_eq_true rfl)) dX9_book_32 ⟨Nat.le_of_ble_eq_true rfl, Nat.le_of_ble_eq_true rfl⟩) hw hA ⟨by decide, by decide⟩ (fun ws H locs hp_v_27 hw hF9 => ?_)
      have m_u_22 := FLD.over hF9 m_u_22 (by decide)
      have m_u_23 := FLD.over hF9 m_u_23 (by decide)
      have m_u_24 := FLD.over hF9 m_u_24 (by decide)
      have m_u_25 := FLD.over hF9 m_u_25 (by decide)
      have m_fv := FLD.over hF9 m_fv (by decide)
      have m_pv := FLD.over hF9 m_pv (by decide)
      have x_GWX_p0_gdq := GWX.over hF9 x_GWX_p0_gdq (by decide)
      have x_GQ_gdq_gdg := GQ.over hF9 x_GQ_gdq_gdg (by decide)
      have x_HE_gdq_gdg_gdo_gdA_gdB_false_false := HE.over hF9 x_HE_gdq_gdg_gdo_gdA_gdB_false_false (by decide)
      have x_BYX_p0_gdT := BYX.over hF9 x_BYX_p0_gdT (by decide)
      have x_WKX_p0 := WKX.over hF9 x_WKX_p0 (by decide)
      have x_JB_vu_23_vu_22 := JB.over hF9 x_JB_vu_23_vu_22 (by decide)
      have x_EQF_p0 := (hp_v_27.1)
      have x_TLX_p0_0 := (hp_v_27.2.1)
      have m_lf : FLD ws p0 9 11 (.int fv) := EQF.lf hw.2.2.1 x_EQF_p0 m_u_23 m_fv
      have e9_ : FAU (SBK gdT gh gdR gdN) = fv := (FB_ (bread_ (s0 := sb9) hCX x_PDF_gdo_gdR_gdN.1)).symm.trans e_fv
      have x_LFB_p0_gdT_gh_gdR_gdN : FLD ws p0 9 11 (.int (FAU (SBK gdT gh gdR gdN))) := by rw [e9_]; exact m_lf
      refine lv_aload_n hx hb dX9_book_35 rfl (lv_at hl 0 rfl) ?_
      refine tg_mem (ci := 9) (C := RX9) (T := TX9) (N := 15) hx hb hts inX9 hown hK hw 11 m_lf rfl (by decide) (hts _ tw_357) (fun _ h9 => h9) dX9_book_36 ?_
      refine lv_if_eq (tgt := 53) hx hb dX9_book_39 (by decide) (fun c_39 => ?_) (fun c_39 => ?_)
      · have r_fv : RI fv 0 0 := rc_eq1 r_fv rl_0 (ti_eq c_39) (by decide)
        have x_BG_vu_22 : BG Ps ws vu_22 := JB.bg hw x_JB_vu_23_vu_22 x_EQF_p0 m_u_23 m_lf r_fv
        refine lv_aload_n hx hb dX9_book_53 rfl (lv_at hl 0 rfl) ?_
        refine tg_get (ci := 9) (ts := ty_WP) (C := RX9) (T := TX9) (N := 15) hx hb hts inX9 hown hK hw h_p0 rfl rfl 2 (by decide) (hts _ tw_348) (fun _ h9 => h9) (ft := vR 24) rfl dX9_book_54 (fun u_28 hv_u_28 m_u_28 => ?_)
        obtain ⟨vu_28, rfl, h_vu_28⟩ := hv_u_28
        refine lv_aload_n hx hb dX9_book_57 rfl (lv_at hl 0 rfl) ?_
        refine tg_mem (ci := 9) (C := RX9) (T := TX9) (N := 15) hx hb hts inX9 hown hK hw 1 m_u_24 rfl (by decide) (hts _ tw_347) (fun _ h9 => h9) dX9_book_58 ?_
        have hD8 := hw.2.2.1
        refine tk_v (va_runV (As := [.ref vu_24]) (rest := []) ⟨hx, hb, hml, hown, hts⟩ (c_X8_takeFrom__1 l D cy z H.size Ps ws hw.1 vu_28 vu_24 h_vu_28 h_vu_24) (cwV 1 hts (gV tw_521 tw_522 tw_523 tw_12 tw_524) rfl rfl rfl (by decide +kernel) ⟨Nat.le_of_ble_eq_true rfl, Nat.le_of_ble_eq_true rfl⟩) (tg_preV hw hK hSD hA (ci := 8) (q := (RX8, TX8, 13)) rfl h_vu_28 rfl) rfl rfl hl.1 rfl (lv_room (Nat.le_of_ble_eq_true rfl)) dX9_book_61 ⟨Nat.le_of_ble_eq_true rfl, Nat.le_of_ble_eq_true rfl⟩) hw hA ⟨by decide, by decide⟩ (fun ws H locs hp_v_29 hw hF9 => ?_)
        have m_u_22 := FLD.over hF9 m_u_22 (by decide)
        have m_u_23 := FLD.over hF9 m_u_23 (by decide)
        have m_u_24 := FLD.over hF9 m_u_24 (by decide)
        have m_fv := FLD.over hF9 m_fv (by decide)
        have m_pv := FLD.over hF9 m_pv (by decide)
        have m_lf := FLD.over hF9 m_lf (by decide)
        have m_u_28 := FLD.over hF9 m_u_28 (by decide)
        have x_GWX_p0_gdq := GWX.over hF9 x_GWX_p0_gdq (by decide)
        have x_GQ_gdq_gdg := GQ.over hF9 x_GQ_gdq_gdg (by decide)
        have x_BYX_p0_gdT := BYX.over hF9 x_BYX_p0_gdT (by decide)
        have x_WKX_p0 := WKX.over hF9 x_WKX_p0 (by decide)
        have x_JB_vu_23_vu_22 := JB.over hF9 x_JB_vu_23_vu_22 (by decide)
        have x_EQF_p0 := EQF.over hF9 x_EQF_p0 (by decide)
        have x_TLX_p0_0 := TLX.over hF9 x_TLX_p0_0 (by decide)
        have x_LFB_p0_gdT_gh_gdR_gdN := FLD.over hF9 x_LFB_p0_gdT_gh_gdR_gdN (by decide)
        have x_BG_vu_22 := B3.over hF9 x_BG_vu_22 (by decide)
        have x_TKF_vu_28_vu_24 := (hp_v_29.1)
        have x_HE_gdq_gdg_gdo_gdA_gdB_false_true : HE Ps ws gdq gdg gdo gdA gdB false true := HE.trial hD8 hF9 (by decide) x_GQ_gdq_gdg.2.2.2.2.2 x_HE_gdq_gdg_gdo_gdA_gdB_false_false (by rw [← GWX.tr hw.2.2.1 x_GWX_p0_gdq m_u_28, ← GWX.wo hw.2.2.1 x_GWX_p0_gdq m_u_24]; exact x_TKF_vu_28_vu_24)
        refine lv_aload_n hx hb dX9_book_64 rfl (lv_at hl 0 rfl) ?_
        refine tg_mem (ci := 9) (C := RX9) (T := TX9) (N := 15) hx hb hts inX9 hown hK hw 6 m_u_22 rfl (by decide) (hts _ tw_352) (fun _ h9 => h9) dX9_book_65 ?_
        refine lv_aload_n hx hb dX9_book_68 rfl (lv_at hl 0 rfl) ?_
        refine tg_mem (ci := 9) (C := RX9) (T := TX9) (N := 15) hx hb hts inX9 hown hK hw 2 m_u_28 rfl (by decide) (hts _ tw_348) (fun _ h9 => h9) dX9_book_69 ?_
        refine tk_i (va_runV (As := [.ref vu_28]) (rest := []) ⟨hx, hb, hml, hown, hts⟩ (c_X0_liveIn l D cy z H.size Ps ws hw.1 vu_22 vu_28 h_vu_22 h_vu_28 x_BG_vu_22) (cwV 1 hts (gV tw_914 tw_915 tw_916 tw_7 tw_917) rfl rfl rfl (by decide +kernel) ⟨Nat.le_of_ble_eq_true rfl, Nat.le_of_ble_eq_true rfl⟩) (tg_preV hw hK hSD hA (ci := 0) (q := (RX0, TX0, 5)) rfl h_vu_22 rfl) rfl rfl hl.1 rfl (lv_room (Nat.le_of_ble_eq_true rfl)) dX9_book_72 ⟨Nat.le_of_ble_eq_true rfl, Nat.le_of_ble_eq_true rfl⟩) hw hA ⟨by decide, by decide⟩ (fun v_30 ws H locs hp_v_30 hw hF9 => ?_)
        have m_u_22 := FLD.over hF9 m_u_22 (by decide)
        have m_u_23 := FLD.over hF9 m_u_23 (by decide)
        have m_u_24 := FLD.over hF9 m_u_24 (by decide)
        have m_fv := FLD.over hF9 m_fv (by decide)
        have m_pv := FLD.over hF9 m_pv (by decide)
        have m_lf := FLD.over hF9 m_lf (by decide)
        have m_u_28 := FLD.over hF9 m_u_28 (by decide)
        have x_GWX_p0_gdq := GWX.over hF9 x_GWX_p0_gdq (by decide)
        have x_GQ_gdq_gdg := GQ.over hF9 x_GQ_gdq_gdg (by decide)
        have x_BYX_p0_gdT := BYX.over hF9 x_BYX_p0_gdT (by decide)
        have x_WKX_p0 := WKX.over hF9 x_WKX_p0 (by decide)
        have x_JB_vu_23_vu_22 := JB.over hF9 x_JB_vu_23_vu_22 (by decide)
        have x_EQF_p0 := EQF.over hF9 x_EQF_p0 (by decide)
        have x_TLX_p0_0 := TLX.over hF9 x_TLX_p0_0 (by decide)
        have x_LFB_p0_gdT_gh_gdR_gdN := FLD.over hF9 x_LFB_p0_gdT_gh_gdR_gdN (by decide)
        have x_BG_vu_22 := B3.over hF9 x_BG_vu_22 (by decide)
        have x_HE_gdq_gdg_gdo_gdA_gdB_false_true := HE.over hF9 x_HE_gdq_gdg_gdo_gdA_gdB_false_true (by decide)
        have r_v_30 : RI v_30 (-2147483648) 2147483647 := hp_v_30.1
        by_cases c9_v_30 : v_30 = 0
        · have r_v_30 : RI v_30 0 0 := by rw [c9_v_30]; exact rl_0
          refine lv_istore_n (lv' := [(2, .int v_30), (0, .ref p0), (1, .int p1)]) hx hb dX9_book_75 rfl hl (by decide) rfl (fun ls hl => ?_)
          refine lv_aload_n hx hb dX9_book_76 rfl (lv_at hl 1 rfl) ?_
          refine tg_get (ci := 9) (ts := ty_WP) (C := RX9) (T := TX9) (N := 15) hx hb hts inX9 hown hK hw h_p0 rfl rfl 7 (by decide) (hts _ tw_353) (fun _ h9 => h9) (ft := vR 15) rfl dX9_book_77 (fun u_31 hv_u_31 m_u_31 => ?_)
          obtain ⟨vu_31, rfl, h_vu_31⟩ := hv_u_31
          refine lv_iconst (v := 0) hx hb dX9_book_80 (by decide) ?_
          refine lv_iload_n hx hb dX9_book_81 rfl (lv_at hl 0 rfl) ?_
          refine tg_iast hx hb hK hw h_vu_31 rfl 0 0 rl_0 (by decide) r_v_30 (by exact fun _ _ _ => by decide) (fun _ _ _ _ _ => trivial) (by decide) dX9_book_82 (fun ws H locs hw hF9 hU9 => ?_)
          have x_GWX_p0_gdq := GWX.over hF9 x_GWX_p0_gdq (by decide)
          have x_GQ_gdq_gdg := GQ.over hF9 x_GQ_gdq_gdg (by decide)
          have x_BYX_p0_gdT := BYX.over hF9 x_BYX_p0_gdT (by decide)
          have x_WKX_p0 := WKX.over hF9 x_WKX_p0 (by decide)
          have x_JB_vu_23_vu_22 := JB.over hF9 x_JB_vu_23_vu_22 (by decide)
          have x_EQF_p0 := EQF.over hF9 x_EQF_p0 (by decide)
          have x_TLX_p0_0 := TLX.over hF9 x_TLX_p0_0 (by decide)
          have x_LFB_p0_gdT_gh_gdR_gdN := FLD.over hF9 x_LFB_p0_gdT_gh_gdR_gdN (by decide)
          have x_BG_vu_22 := B3.over hF9 x_BG_vu_22 (by decide)
          have x_HE_gdq_gdg_gdo_gdA_gdB_false_true := HE.over hF9 x_HE_gdq_gdg_gdo_gdA_gdB_false_true (by decide)
          have m_u_22 := FLD.over hF9 m_u_22 (by decide)
          have m_u_23 := FLD.over hF9 m_u_23 (by decide)
          have m_u_24 := FLD.over hF9 m_u_24 (by decide)
          have m_fv := FLD.over hF9 m_fv (by decide)
          have m_pv := FLD.over hF9 m_pv (by decide)
          have m_lf := FLD.over hF9 m_lf (by decide)
          have m_u_28 := FLD.over hF9 m_u_28 (by decide)
          have m_u_31 := FLD.over hF9 m_u_31 (by decide)
          refine lv_aload_n hx hb dX9_book_83 rfl (lv_at hl 1 rfl) ?_
          refine tg_mem (ci := 9) (C := RX9) (T := TX9) (N := 15) hx hb hts inX9 hown hK hw 7 m_u_31 rfl (by decide) (hts _ tw_353) (fun _ h9 => h9) dX9_book_84 ?_
          refine lv_iconst (v := 1) hx hb dX9_book_87 (by decide) ?_
          refine lv_aload_n hx hb dX9_book_88 rfl (lv_at hl 1 rfl) ?_
          refine tg_mem (ci := 9) (C := RX9) (T := TX9) (N := 15) hx hb hts inX9 hown hK hw 6 m_u_22 rfl (by decide) (hts _ tw_352) (fun _ h9 => h9) dX9_book_89 ?_
          refine tg_getN (ci := 0) (ts := ty_BOOK) (C := RX0) (T := TX0) (N := 5) hx hb hts inX0 hown hK hw h_vu_22 rfl rfl 4 (by decide) (hSD.nest tn_147) (fun _ h9 => h9) (ft := vI (-2147483648) 2147483647) rfl dX9_book_92 (fun u_32 hv_u_32 m_u_32 => ?_)
          obtain ⟨vu_32, rfl, r_vu_32⟩ := hv_u_32
          refine tg_iast hx hb hK hw h_vu_31 rfl 1 1 rl_1 (by decide) r_vu_32 (by exact fun _ _ _ => by decide) (fun _ _ _ _ _ => trivial) (by decide) dX9_book_95 (fun ws H locs hw hF9 hU9 => ?_)
          have x_GWX_p0_gdq := GWX.over hF9 x_GWX_p0_gdq (by decide)
          have x_GQ_gdq_gdg := GQ.over hF9 x_GQ_gdq_gdg (by decide)
          have x_BYX_p0_gdT := BYX.over hF9 x_BYX_p0_gdT (by decide)
          have x_WKX_p0 := WKX.over hF9 x_WKX_p0 (by decide)
          have x_JB_vu_23_vu_22 := JB.over hF9 x_JB_vu_23_vu_22 (by decide)
          have x_EQF_p0 := EQF.over hF9 x_EQF_p0 (by decide)
          have x_TLX_p0_0 := TLX.over hF9 x_TLX_p0_0 (by decide)
          have x_LFB_p0_gdT_gh_gdR_gdN := FLD.over hF9 x_LFB_p0_gdT_gh_gdR_gdN (by decide)
          have x_BG_vu_22 := B3.over hF9 x_BG_vu_22 (by decide)
          have x_HE_gdq_gdg_gdo_gdA_gdB_false_true := HE.over hF9 x_HE_gdq_gdg_gdo_gdA_gdB_false_true (by decide)
          have m_u_22 := FLD.over hF9 m_u_22 (by decide)
          have m_u_23 := FLD.over hF9 m_u_23 (by decide)
          have m_u_24 := FLD.over hF9 m_u_24 (by decide)
          have m_fv := FLD.over hF9 m_fv (by decide)
          have m_pv := FLD.over hF9 m_pv (by decide)
          have m_lf := FLD.over hF9 m_lf (by decide)
          have m_u_28 := FLD.over hF9 m_u_28 (by decide)
          have m_u_31 := FLD.over hF9 m_u_31 (by decide)
          have m_u_32 := FLD.over hF9 m_u_32 (by decide)
          refine lv_aload_n hx hb dX9_book_96 rfl (lv_at hl 1 rfl) ?_
          refine tg_mem (ci := 9) (C := RX9) (T := TX9) (N := 15) hx hb hts inX9 hown hK hw 7 m_u_31 rfl (by decide) (hts _ tw_353) (fun _ h9 => h9) dX9_book_97 ?_
          refine lv_iconst (v := 2) hx hb dX9_book_100 (by decide) ?_
          refine lv_aload_n hx hb dX9_book_101 rfl (lv_at hl 1 rfl) ?_
          refine tg_mem (ci := 9) (C := RX9) (T := TX9) (N := 15) hx hb hts inX9 hown hK hw 2 m_u_28 rfl (by decide) (hts _ tw_348) (fun _ h9 => h9) dX9_book_102 ?_
          refine tg_getN (ci := 8) (ts := ty_WORLD) (C := RX8) (T := TX8) (N := 13) hx hb hts inX8 hown hK hw h_vu_28 rfl rfl 1 (by decide) (hSD.nest tn_251) (fun _ h9 => h9) (ft := vI (-2147483648) 2147483647) rfl dX9_book_105 (fun u_33 hv_u_33 m_u_33 => ?_)
          obtain ⟨vu_33, rfl, r_vu_33⟩ := hv_u_33
          refine tg_iast hx hb hK hw h_vu_31 rfl 2 2 rl_2 (by decide) r_vu_33 (by exact fun _ _ _ => by decide) (fun _ _ _ _ _ => trivial) (by decide) dX9_book_108 (fun ws H locs hw hF9 hU9 => ?_)
          have x_GWX_p0_gdq := GWX.over hF9 x_GWX_p0_gdq (by decide)
          have x_GQ_gdq_gdg := GQ.over hF9 x_GQ_gdq_gdg (by decide)
          have x_BYX_p0_gdT := BYX.over hF9 x_BYX_p0_gdT (by decide)
          have x_WKX_p0 := WKX.over hF9 x_WKX_p0 (by decide)
          have x_JB_vu_23_vu_22 := JB.over hF9 x_JB_vu_23_vu_22 (by decide)
          have x_EQF_p0 := EQF.over hF9 x_EQF_p0 (by decide)
          have x_TLX_p0_0 := TLX.over hF9 x_TLX_p0_0 (by decide)
          have x_LFB_p0_gdT_gh_gdR_gdN := FLD.over hF9 x_LFB_p0_gdT_gh_gdR_gdN (by decide)
          have x_BG_vu_22 := B3.over hF9 x_BG_vu_22 (by decide)
          have x_HE_gdq_gdg_gdo_gdA_gdB_false_true := HE.over hF9 x_HE_gdq_gdg_gdo_gdA_gdB_false_true (by decide)
          have m_u_22 := FLD.over hF9 m_u_22 (by decide)
          have m_u_23 := FLD.over hF9 m_u_23 (by decide)
          have m_u_24 := FLD.over hF9 m_u_24 (by decide)
          have m_fv := FLD.over hF9 m_fv (by decide)
          have m_pv := FLD.over hF9 m_pv (by decide)
          have m_lf := FLD.over hF9 m_lf (by decide)
          have m_u_28 := FLD.over hF9 m_u_28 (by decide)
          have m_u_31 := FLD.over hF9 m_u_31 (by decide)
          have m_u_32 := FLD.over hF9 m_u_32 (by decide)
          have m_u_33 := FLD.over hF9 m_u_33 (by decide)
          refine lv_aload_n hx hb dX9_book_109 rfl (lv_at hl 1 rfl) ?_
          refine tg_mem (ci := 9) (C := RX9) (T := TX9) (N := 15) hx hb hts inX9 hown hK hw 7 m_u_31 rfl (by decide) (hts _ tw_353) (fun _ h9 => h9) dX9_book_110 ?_
          refine lv_iconst (v := 3) hx hb dX9_book_113 (by decide) ?_
          refine lv_aload_n hx hb dX9_book_114 rfl (lv_at hl 1 rfl) ?_
          refine tg_mem (ci := 9) (C := RX9) (T := TX9) (N := 15) hx hb hts inX9 hown hK hw 2 m_u_28 rfl (by decide) (hts _ tw_348) (fun _ h9 => h9) dX9_book_115 ?_
          refine tk_ir (va_runV (As := []) (rest := [.int 3, .ref vu_31]) ⟨hx, hb, hml, hown, hts⟩ (c_X8_whichAreNothing l D cy z H.size Ps ws hw.1 vu_28 h_vu_28) (cwV 0 hts (gV tw_565 tw_566 tw_567 tw_12 tw_568) rfl rfl rfl (by decide +kernel) ⟨Nat.le_of_ble_eq_true rfl, Nat.le_of_ble_eq_true rfl⟩) (tg_preV hw hK hSD hA (ci := 8) (q := (RX8, TX8, 13)) rfl h_vu_28 rfl) rfl rfl hl.1 rfl (lv_room (Nat.le_of_ble_eq_true rfl)) dX9_book_118 ⟨Nat.le_of_ble_eq_true rfl, Nat.le_of_ble_eq_true rfl⟩) hw hA (fun v_34  H locs hp_v_34 hw => ?_)
          have r_v_34 : RI v_34 (-2147483648) 2147483647 := hp_v_34.1
          refine tg_iast hx hb hK hw h_vu_31 rfl 3 3 rl_3 (by decide) r_v_34 (by exact fun _ _ _ => by decide) (fun _ _ _ _ _ => trivial) (by decide) dX9_book_121 (fun ws H locs hw hF9 hU9 => ?_)
          have x_GWX_p0_gdq := GWX.over hF9 x_GWX_p0_gdq (by decide)
          have x_GQ_gdq_gdg := GQ.over hF9 x_GQ_gdq_gdg (by decide)
          have x_BYX_p0_gdT := BYX.over hF9 x_BYX_p0_gdT (by decide)
          have x_WKX_p0 := WKX.over hF9 x_WKX_p0 (by decide)
          have x_JB_vu_23_vu_22 := JB.over hF9 x_JB_vu_23_vu_22 (by decide)
          have x_EQF_p0 := EQF.over hF9 x_EQF_p0 (by decide)
          have x_TLX_p0_0 := TLX.over hF9 x_TLX_p0_0 (by decide)
          have x_LFB_p0_gdT_gh_gdR_gdN := FLD.over hF9 x_LFB_p0_gdT_gh_gdR_gdN (by decide)
          have x_BG_vu_22 := B3.over hF9 x_BG_vu_22 (by decide)
          have x_HE_gdq_gdg_gdo_gdA_gdB_false_true := HE.over hF9 x_HE_gdq_gdg_gdo_gdA_gdB_false_true (by decide)
          have m_u_22 := FLD.over hF9 m_u_22 (by decide)
          have m_u_23 := FLD.over hF9 m_u_23 (by decide)
          have m_u_24 := FLD.over hF9 m_u_24 (by decide)
          have m_fv := FLD.over hF9 m_fv (by decide)
          have m_pv := FLD.over hF9 m_pv (by decide)
          have m_lf := FLD.over hF9 m_lf (by decide)
          have m_u_28 := FLD.over hF9 m_u_28 (by decide)
          have m_u_31 := FLD.over hF9 m_u_31 (by decide)
          have m_u_32 := FLD.over hF9 m_u_32 (by decide)
          have m_u_33 := FLD.over hF9 m_u_33 (by decide)
          refine lv_iload_n hx hb dX9_book_122 rfl (lv_at hl 2 rfl) ?_
          refine lv_iconst (v := 1) hx hb dX9_book_123 (by decide) ?_
          refine lv_icmp_ne (tgt := 156) hx hb dX9_book_124 (by decide) (fun c_124 => ?_) (fun c_124 => ?_)
          · exact absurd (r_p1.eq.trans rl_1.eq.symm) ((ti_ne c_124))
          · refine lv_aload_n hx hb dX9_book_127 rfl (lv_at hl 1 rfl) ?_
            refine tg_get (ci := 9) (ts := ty_WP) (C := RX9) (T := TX9) (N := 15) hx hb hts inX9 hown hK hw h_p0 rfl rfl 3 (by decide) (hts _ tw_349) (fun _ h9 => h9) (ft := vR 27) rfl dX9_book_128 (fun u_35 hv_u_35 m_u_35 => ?_)
            obtain ⟨vu_35, rfl, h_vu_35⟩ := hv_u_35
            refine lv_aload_n hx hb dX9_book_131 rfl (lv_at hl 1 rfl) ?_
            refine tg_mem (ci := 9) (C := RX9) (T := TX9) (N := 15) hx hb hts inX9 hown hK hw 1 m_u_24 rfl (by decide) (hts _ tw_347) (fun _ h9 => h9) dX9_book_132 ?_
            have x_AT_vu_35_gdq_2 : (vu_35 = gdq 2) := GWX.hi hw.2.2.1 x_GWX_p0_gdq m_u_35
            have x_AT_vu_24_gdq_0 : (vu_24 = gdq 0) := GWX.wo hw.2.2.1 x_GWX_p0_gdq m_u_24
            refine tk_v (va_runV (As := [.ref vu_24]) (rest := []) ⟨hx, hb, hml, hown, hts⟩ (c_X1_prepare__1 l D cy z H.size Ps ws hw.1 vu_35 vu_24 (gdq) (gdg) (gdo) (gdA) (gdB) (false) (true) h_vu_35 h_vu_24 x_AT_vu_35_gdq_2 x_AT_vu_24_gdq_0 x_GQ_gdq_gdg x_HE_gdq_gdg_gdo_gdA_gdB_false_true) (cwV 1 hts (gV tw_606 tw_607 tw_608 tw_13 tw_609) rfl rfl rfl (by decide +kernel) ⟨Nat.le_of_ble_eq_true rfl, Nat.le_of_ble_eq_true rfl⟩) (tg_preV hw hK hSD hA (ci := 1) (q := (RX1, TX1, 3)) rfl h_vu_35 rfl) rfl rfl hl.1 rfl (lv_room (Nat.le_of_ble_eq_true rfl)) dX9_book_135 ⟨Nat.le_of_ble_eq_true rfl, Nat.le_of_ble_eq_true rfl⟩) hw hA ⟨by decide, by decide⟩ (fun ws H locs hp_v_36 hw hF9 => ?_)
            have m_u_22 := FLD.over hF9 m_u_22 (by decide)
            have m_u_23 := FLD.over hF9 m_u_23 (by decide)
            have m_u_24 := FLD.over hF9 m_u_24 (by decide)
            have m_fv := FLD.over hF9 m_fv (by decide)
            have m_pv := FLD.over hF9 m_pv (by decide)
            have m_lf := FLD.over hF9 m_lf (by decide)
            have m_u_28 := FLD.over hF9 m_u_28 (by decide)
            have m_u_31 := FLD.over hF9 m_u_31 (by decide)
            have m_u_32 := FLD.over hF9 m_u_32 (by decide)
            have m_u_35 := FLD.over hF9 m_u_35 (by decide)
            have x_GWX_p0_gdq := GWX.over hF9 x_GWX_p0_gdq (by decide)
            have x_GQ_gdq_gdg := GQ.over hF9 x_GQ_gdq_gdg (by decide)
            have x_BYX_p0_gdT := BYX.over hF9 x_BYX_p0_gdT (by decide)
            have x_WKX_p0 := WKX.over hF9 x_WKX_p0 (by decide)
            have x_JB_vu_23_vu_22 := JB.over hF9 x_JB_vu_23_vu_22 (by decide)
            have x_EQF_p0 := EQF.over hF9 x_EQF_p0 (by decide)
            have x_TLX_p0_0 := TLX.over hF9 x_TLX_p0_0 (by decide)
            have x_LFB_p0_gdT_gh_gdR_gdN := FLD.over hF9 x_LFB_p0_gdT_gh_gdR_gdN (by decide)
            have x_BG_vu_22 := B3.over hF9 x_BG_vu_22 (by decide)
            have x_HE_gdq_gdg_gdo_gdA_gdB_true_true := (hp_v_36.1)
            refine lv_aload_n hx hb dX9_book_138 rfl (lv_at hl 1 rfl) ?_
            refine tg_mem (ci := 9) (C := RX9) (T := TX9) (N := 15) hx hb hts inX9 hown hK hw 3 m_u_35 rfl (by decide) (hts _ tw_349) (fun _ h9 => h9) dX9_book_139 ?_
            refine tk_v (va_runV (As := []) (rest := []) ⟨hx, hb, hml, hown, hts⟩ (c_X1_keep__1 l D cy z H.size Ps ws hw.1 vu_35 (gdq) (gdg) (gdo) (gdA) (gdB) (true) h_vu_35 x_AT_vu_35_gdq_2 x_HE_gdq_gdg_gdo_gdA_gdB_true_true) (cwV 0 hts (gV tw_619 tw_620 tw_621 tw_13 tw_622) rfl rfl rfl (by decide +kernel) ⟨Nat.le_of_ble_eq_true rfl, Nat.le_of_ble_eq_true rfl⟩) (tg_preV hw hK hSD hA (ci := 1) (q := (RX1, TX1, 3)) rfl h_vu_35 rfl) rfl rfl hl.1 rfl (lv_room (Nat.le_of_ble_eq_true rfl)) dX9_book_142 ⟨Nat.le_of_ble_eq_true rfl, Nat.le_of_ble_eq_true rfl⟩) hw hA ⟨by decide, by decide⟩ (fun ws H locs hp_v_37 hw hF9 => ?_)
            have m_u_22 := FLD.over hF9 m_u_22 (by decide)
            have m_u_23 := FLD.over hF9 m_u_23 (by decide)
            have m_u_24 := FLD.over hF9 m_u_24 (by decide)
            have m_fv := FLD.over hF9 m_fv (by decide)
            have m_pv := FLD.over hF9 m_pv (by decide)
            have m_lf := FLD.over hF9 m_lf (by decide)
            have m_u_28 := FLD.over hF9 m_u_28 (by decide)
            have m_u_31 := FLD.over hF9 m_u_31 (by decide)
            have m_u_32 := FLD.over hF9 m_u_32 (by decide)
            have m_u_35 := FLD.over hF9 m_u_35 (by decide)
            have x_GWX_p0_gdq := GWX.over hF9 x_GWX_p0_gdq (by decide)
            have x_GQ_gdq_gdg := GQ.over hF9 x_GQ_gdq_gdg (by decide)
            have x_BYX_p0_gdT := BYX.over hF9 x_BYX_p0_gdT (by decide)
            have x_WKX_p0 := WKX.over hF9 x_WKX_p0 (by decide)
            have x_JB_vu_23_vu_22 := JB.over hF9 x_JB_vu_23_vu_22 (by decide)
            have x_EQF_p0 := EQF.over hF9 x_EQF_p0 (by decide)
            have x_TLX_p0_0 := TLX.over hF9 x_TLX_p0_0 (by decide)
            have x_LFB_p0_gdT_gh_gdR_gdN := FLD.over hF9 x_LFB_p0_gdT_gh_gdR_gdN (by decide)
            have x_BG_vu_22 := B3.over hF9 x_BG_vu_22 (by decide)
            have x_HE_gdq_gdg_gdo_gdA_gdB_false_true := (hp_v_37.1)
            refine lv_aload_n hx hb dX9_book_145 rfl (lv_at hl 1 rfl) ?_
            refine tg_mem (ci := 9) (C := RX9) (T := TX9) (N := 15) hx hb hts inX9 hown hK hw 1 m_u_24 rfl (by decide) (hts _ tw_347) (fun _ h9 => h9) dX9_book_146 ?_
            refine lv_aload_n hx hb dX9_book_149 rfl (lv_at hl 1 rfl) ?_
            refine tg_mem (ci := 9) (C := RX9) (T := TX9) (N := 15) hx hb hts inX9 hown hK hw 2 m_u_28 rfl (by decide) (hts _ tw_348) (fun _ h9 => h9) dX9_book_150 ?_
            have hD8 := hw.2.2.1
            refine tk_v (va_runV (As := [.ref vu_28]) (rest := []) ⟨hx, hb, hml, hown, hts⟩ (c_X8_takeFrom__1 l D cy z H.size Ps ws hw.1 vu_24 vu_28 h_vu_24 h_vu_28) (cwV 1 hts (gV tw_521 tw_522 tw_523 tw_12 tw_524) rfl rfl rfl (by decide +kernel) ⟨Nat.le_of_ble_eq_true rfl, Nat.le_of_ble_eq_true rfl⟩) (tg_preV hw hK hSD hA (ci := 8) (q := (RX8, TX8, 13)) rfl h_vu_24 rfl) rfl rfl hl.1 rfl (lv_room (Nat.le_of_ble_eq_true rfl)) dX9_book_153 ⟨Nat.le_of_ble_eq_true rfl, Nat.le_of_ble_eq_true rfl⟩) hw hA ⟨by decide, by decide⟩ (fun ws H locs hp_v_38 hw hF9 => ?_)
            have m_u_22 := FLD.over hF9 m_u_22 (by decide)
            have m_u_23 := FLD.over hF9 m_u_23 (by decide)
            have m_u_24 := FLD.over hF9 m_u_24 (by decide)
            have m_fv := FLD.over hF9 m_fv (by decide)
            have m_pv := FLD.over hF9 m_pv (by decide)
            have m_lf := FLD.over hF9 m_lf (by decide)
            have m_u_28 := FLD.over hF9 m_u_28 (by decide)
            have m_u_31 := FLD.over hF9 m_u_31 (by decide)
            have m_u_32 := FLD.over hF9 m_u_32 (by decide)
            have m_u_35 := FLD.over hF9 m_u_35 (by decide)
            have x_GWX_p0_gdq := GWX.over hF9 x_GWX_p0_gdq (by decide)
            have x_GQ_gdq_gdg := GQ.over hF9 x_GQ_gdq_gdg (by decide)
            have x_BYX_p0_gdT := BYX.over hF9 x_BYX_p0_gdT (by decide)
            have x_WKX_p0 := WKX.over hF9 x_WKX_p0 (by decide)
            have x_JB_vu_23_vu_22 := JB.over hF9 x_JB_vu_23_vu_22 (by decide)
            have x_EQF_p0 := EQF.over hF9 x_EQF_p0 (by decide)
            have x_TLX_p0_0 := TLX.over hF9 x_TLX_p0_0 (by decide)
            have x_LFB_p0_gdT_gh_gdR_gdN := FLD.over hF9 x_LFB_p0_gdT_gh_gdR_gdN (by decide)
            have x_BG_vu_22 := B3.over hF9 x_BG_vu_22 (by decide)
            have x_TKF_vu_24_vu_28 := (hp_v_38.1)
            have x_HE_gdq_gdg_gdo_gdA_gdB_false_true : HE Ps ws gdq gdg gdo gdA gdB false true := HE.world hD8 hF9 (by decide) x_GQ_gdq_gdg.2.2.2.2.2 x_HE_gdq_gdg_gdo_gdA_gdB_false_true (by rw [← GWX.wo hw.2.2.1 x_GWX_p0_gdq m_u_24, ← GWX.tr hw.2.2.1 x_GWX_p0_gdq m_u_28]; exact x_TKF_vu_24_vu_28)
            exact B156 v_30 fv ws _ _ ls (r_p1.to (by decide)) (r_v_30.to (by decide)) r_fv m_lf x_BYX_p0_gdT x_EQF_p0 x_GQ_gdq_gdg x_GWX_p0_gdq x_HE_gdq_gdg_gdo_gdA_gdB_false_true x_LFB_p0_gdT_gh_gdR_gdN x_PDF_gdo_gdR_gdN x_TLX_p0_0 x_WKX_p0 hw (lv_sub hl [1, 2, 0] rfl)
        · obtain ⟨v_39, m_v_39, r_v_39⟩ := ((hp_v_30.2.2 c9_v_30).1)
          refine lv_istore_n (lv' := [(2, .int v_30), (0, .ref p0), (1, .int p1)]) hx hb dX9_book_75 rfl hl (by decide) rfl (fun ls hl => ?_)
          refine lv_aload_n hx hb dX9_book_76 rfl (lv_at hl 1 rfl) ?_
          refine tg_get (ci := 9) (ts := ty_WP) (C := RX9) (T := TX9) (N := 15) hx hb hts inX9 hown hK hw h_p0 rfl rfl 7 (by decide) (hts _ tw_353) (fun _ h9 => h9) (ft := vR 15) rfl dX9_book_77 (fun u_40 hv_u_40 m_u_40 => ?_)
          obtain ⟨vu_40, rfl, h_vu_40⟩ := hv_u_40
          refine lv_iconst (v := 0) hx hb dX9_book_80 (by decide) ?_
          refine lv_iload_n hx hb dX9_book_81 rfl (lv_at hl 0 rfl) ?_
          refine tg_iast hx hb hK hw h_vu_40 rfl 0 0 rl_0 (by decide) r_v_30 (by exact fun _ _ _ => by decide) (fun _ _ _ _ _ => trivial) (by decide) dX9_book_82 (fun ws H locs hw hF9 hU9 => ?_)
          have x_GWX_p0_gdq := GWX.over hF9 x_GWX_p0_gdq (by decide)
          have x_GQ_gdq_gdg := GQ.over hF9 x_GQ_gdq_gdg (by decide)
          have x_BYX_p0_gdT := BYX.over hF9 x_BYX_p0_gdT (by decide)
          have x_WKX_p0 := WKX.over hF9 x_WKX_p0 (by decide)
          have x_JB_vu_23_vu_22 := JB.over hF9 x_JB_vu_23_vu_22 (by decide)
          have x_EQF_p0 := EQF.over hF9 x_EQF_p0 (by decide)
          have x_TLX_p0_0 := TLX.over hF9 x_TLX_p0_0 (by decide)
          have x_LFB_p0_gdT_gh_gdR_gdN := FLD.over hF9 x_LFB_p0_gdT_gh_gdR_gdN (by decide)
          have x_BG_vu_22 := B3.over hF9 x_BG_vu_22 (by decide)
          have x_HE_gdq_gdg_gdo_gdA_gdB_false_true := HE.over hF9 x_HE_gdq_gdg_gdo_gdA_gdB_false_true (by decide)
          have m_u_22 := FLD.over hF9 m_u_22 (by decide)
          have m_u_23 := FLD.over hF9 m_u_23 (by decide)
          have m_u_24 := FLD.over hF9 m_u_24 (by decide)
          have m_fv := FLD.over hF9 m_fv (by decide)
          have m_pv := FLD.over hF9 m_pv (by decide)
          have m_lf := FLD.over hF9 m_lf (by decide)
          have m_u_28 := FLD.over hF9 m_u_28 (by decide)
          have m_v_39 := FLD.over hF9 m_v_39 (by decide)
          have m_u_40 := FLD.over hF9 m_u_40 (by decide)
          refine lv_aload_n hx hb dX9_book_83 rfl (lv_at hl 1 rfl) ?_
          refine tg_mem (ci := 9) (C := RX9) (T := TX9) (N := 15) hx hb hts inX9 hown hK hw 7 m_u_40 rfl (by decide) (hts _ tw_353) (fun _ h9 => h9) dX9_book_84 ?_
          refine lv_iconst (v := 1) hx hb dX9_book_87 (by decide) ?_
          refine lv_aload_n hx hb dX9_book_88 rfl (lv_at hl 1 rfl) ?_
          refine tg_mem (ci := 9) (C := RX9) (T := TX9) (N := 15) hx hb hts inX9 hown hK hw 6 m_u_22 rfl (by decide) (hts _ tw_352) (fun _ h9 => h9) dX9_book_89 ?_
          refine tg_getN (ci := 0) (ts := ty_BOOK) (C := RX0) (T := TX0) (N := 5) hx hb hts inX0 hown hK hw h_vu_22 rfl rfl 4 (by decide) (hSD.nest tn_147) (fun _ h9 => h9) (ft := vI (-2147483648) 2147483647) rfl dX9_book_92 (fun u_41 hv_u_41 m_u_41 => ?_)
          obtain ⟨vu_41, rfl, r_vu_41⟩ := hv_u_41
          refine tg_iast hx hb hK hw h_vu_40 rfl 1 1 rl_1 (by decide) r_vu_41 (by exact fun _ _ _ => by decide) (fun _ _ _ _ _ => trivial) (by decide) dX9_book_95 (fun ws H locs hw hF9 hU9 => ?_)
          have x_GWX_p0_gdq := GWX.over hF9 x_GWX_p0_gdq (by decide)
          have x_GQ_gdq_gdg := GQ.over hF9 x_GQ_gdq_gdg (by decide)
          have x_BYX_p0_gdT := BYX.over hF9 x_BYX_p0_gdT (by decide)
          have x_WKX_p0 := WKX.over hF9 x_WKX_p0 (by decide)
          have x_JB_vu_23_vu_22 := JB.over hF9 x_JB_vu_23_vu_22 (by decide)
          have x_EQF_p0 := EQF.over hF9 x_EQF_p0 (by decide)
          have x_TLX_p0_0 := TLX.over hF9 x_TLX_p0_0 (by decide)
          have x_LFB_p0_gdT_gh_gdR_gdN := FLD.over hF9 x_LFB_p0_gdT_gh_gdR_gdN (by decide)
          have x_BG_vu_22 := B3.over hF9 x_BG_vu_22 (by decide)
          have x_HE_gdq_gdg_gdo_gdA_gdB_false_true := HE.over hF9 x_HE_gdq_gdg_gdo_gdA_gdB_false_true (by decide)
          have m_u_22 := FLD.over hF9 m_u_22 (by decide)
          have m_u_23 := FLD.over hF9 m_u_23 (by decide)
          have m_u_24 := FLD.over hF9 m_u_24 (by decide)
          have m_fv := FLD.over hF9 m_fv (by decide)
          have m_pv := FLD.over hF9 m_pv (by decide)
          have m_lf := FLD.over hF9 m_lf (by decide)
          have m_u_28 := FLD.over hF9 m_u_28 (by decide)
          have m_v_39 := FLD.over hF9 m_v_39 (by decide)
          have m_u_40 := FLD.over hF9 m_u_40 (by decide)
          have m_u_41 := FLD.over hF9 m_u_41 (by decide)
          refine lv_aload_n hx hb dX9_book_96 rfl (lv_at hl 1 rfl) ?_
          refine tg_mem (ci := 9) (C := RX9) (T := TX9) (N := 15) hx hb hts inX9 hown hK hw 7 m_u_40 rfl (by decide) (hts _ tw_353) (fun _ h9 => h9) dX9_book_97 ?_
          refine lv_iconst (v := 2) hx hb dX9_book_100 (by decide) ?_
          refine lv_aload_n hx hb dX9_book_101 rfl (lv_at hl 1 rfl) ?_
          refine tg_mem (ci := 9) (C := RX9) (T := TX9) (N := 15) hx hb hts inX9 hown hK hw 2 m_u_28 rfl (by decide) (hts _ tw_348) (fun _ h9 => h9) dX9_book_102 ?_
          refine tg_getN (ci := 8) (ts := ty_WORLD) (C := RX8) (T := TX8) (N := 13) hx hb hts inX8 hown hK hw h_vu_28 rfl rfl 1 (by decide) (hSD.nest tn_251) (fun _ h9 => h9) (ft := vI (-2147483648) 2147483647) rfl dX9_book_105 (fun u_42 hv_u_42 m_u_42 => ?_)
          obtain ⟨vu_42, rfl, r_vu_42⟩ := hv_u_42
          refine tg_iast hx hb hK hw h_vu_40 rfl 2 2 rl_2 (by decide) r_vu_42 (by exact fun _ _ _ => by decide) (fun _ _ _ _ _ => trivial) (by decide) dX9_book_108 (fun ws H locs hw hF9 hU9 => ?_)
          have x_GWX_p0_gdq := GWX.over hF9 x_GWX_p0_gdq (by decide)
          have x_GQ_gdq_gdg := GQ.over hF9 x_GQ_gdq_gdg (by decide)
          have x_BYX_p0_gdT := BYX.over hF9 x_BYX_p0_gdT (by decide)
          have x_WKX_p0 := WKX.over hF9 x_WKX_p0 (by decide)
          have x_JB_vu_23_vu_22 := JB.over hF9 x_JB_vu_23_vu_22 (by decide)
          have x_EQF_p0 := EQF.over hF9 x_EQF_p0 (by decide)
          have x_TLX_p0_0 := TLX.over hF9 x_TLX_p0_0 (by decide)
          have x_LFB_p0_gdT_gh_gdR_gdN := FLD.over hF9 x_LFB_p0_gdT_gh_gdR_gdN (by decide)
          have x_BG_vu_22 := B3.over hF9 x_BG_vu_22 (by decide)
          have x_HE_gdq_gdg_gdo_gdA_gdB_false_true := HE.over hF9 x_HE_gdq_gdg_gdo_gdA_gdB_false_true (by decide)
          have m_u_22 := FLD.over hF9 m_u_22 (by decide)
          have m_u_23 := FLD.over hF9 m_u_23 (by decide)
          have m_u_24 := FLD.over hF9 m_u_24 (by decide)
          have m_fv := FLD.over hF9 m_fv (by decide)
          have m_pv := FLD.over hF9 m_pv (by decide)
          have m_lf := FLD.over hF9 m_lf (by decide)
          have m_u_28 := FLD.over hF9 m_u_28 (by decide)
          have m_v_39 := FLD.over hF9 m_v_39 (by decide)
          have m_u_40 := FLD.over hF9 m_u_40 (by decide)
          have m_u_41 := FLD.over hF9 m_u_41 (by decide)
          have m_u_42 := FLD.over hF9 m_u_42 (by decide)
          refine lv_aload_n hx hb dX9_book_109 rfl (lv_at hl 1 rfl) ?_
          refine tg_mem (ci := 9) (C := RX9) (T := TX9) (N := 15) hx hb hts inX9 hown hK hw 7 m_u_40 rfl (by decide) (hts _ tw_353) (fun _ h9 => h9) dX9_book_110 ?_
          refine lv_iconst (v := 3) hx hb dX9_book_113 (by decide) ?_
          refine lv_aload_n hx hb dX9_book_114 rfl (lv_at hl 1 rfl) ?_
          refine tg_mem (ci := 9) (C := RX9) (T := TX9) (N := 15) hx hb hts inX9 hown hK hw 2 m_u_28 rfl (by decide) (hts _ tw_348) (fun _ h9 => h9) dX9_book_115 ?_
          refine tk_ir (va_runV (As := []) (rest := [.int 3, .ref vu_40]) ⟨hx, hb, hml, hown, hts⟩ (c_X8_whichAreNothing l D cy z H.size Ps ws hw.1 vu_28 h_vu_28) (cwV 0 hts (gV tw_565 tw_566 tw_567 tw_12 tw_568) rfl rfl rfl (by decide +kernel) ⟨Nat.le_of_ble_eq_true rfl, Nat.le_of_ble_eq_true rfl⟩) (tg_preV hw hK hSD hA (ci := 8) (q := (RX8, TX8, 13)) rfl h_vu_28 rfl) rfl rfl hl.1 rfl (lv_room (Nat.le_of_ble_eq_true rfl)) dX9_book_118 ⟨Nat.le_of_ble_eq_true rfl, Nat.le_of_ble_eq_true rfl⟩) hw hA (fun v_43  H locs hp_v_43 hw => ?_)
          have r_v_43 : RI v_43 (-2147483648) 2147483647 := hp_v_43.1
          refine tg_iast hx hb hK hw h_vu_40 rfl 3 3 rl_3 (by decide) r_v_43 (by exact fun _ _ _ => by decide) (fun _ _ _ _ _ => trivial) (by decide) dX9_book_121 (fun ws H locs hw hF9 hU9 => ?_)
          have x_GWX_p0_gdq := GWX.over hF9 x_GWX_p0_gdq (by decide)
          have x_GQ_gdq_gdg := GQ.over hF9 x_GQ_gdq_gdg (by decide)
          have x_BYX_p0_gdT := BYX.over hF9 x_BYX_p0_gdT (by decide)
          have x_WKX_p0 := WKX.over hF9 x_WKX_p0 (by decide)
          have x_JB_vu_23_vu_22 := JB.over hF9 x_JB_vu_23_vu_22 (by decide)
          have x_EQF_p0 := EQF.over hF9 x_EQF_p0 (by decide)
          have x_TLX_p0_0 := TLX.over hF9 x_TLX_p0_0 (by decide)
          have x_LFB_p0_gdT_gh_gdR_gdN := FLD.over hF9 x_LFB_p0_gdT_gh_gdR_gdN (by decide)
          have x_BG_vu_22 := B3.over hF9 x_BG_vu_22 (by decide)
          have x_HE_gdq_gdg_gdo_gdA_gdB_false_true := HE.over hF9 x_HE_gdq_gdg_gdo_gdA_gdB_false_true (by decide)
          have m_u_22 := FLD.over hF9 m_u_22 (by decide)
          have m_u_23 := FLD.over hF9 m_u_23 (by decide)
          have m_u_24 := FLD.over hF9 m_u_24 (by decide)
          have m_fv := FLD.over hF9 m_fv (by decide)
          have m_pv := FLD.over hF9 m_pv (by decide)
          have m_lf := FLD.over hF9 m_lf (by decide)
          have m_u_28 := FLD.over hF9 m_u_28 (by decide)
          have m_v_39 := FLD.over hF9 m_v_39 (by decide)
          have m_u_40 := FLD.over hF9 m_u_40 (by decide)
          have m_u_41 := FLD.over hF9 m_u_41 (by decide)
          have m_u_42 := FLD.over hF9 m_u_42 (by decide)
          refine lv_iload_n hx hb dX9_book_122 rfl (lv_at hl 2 rfl) ?_
          refine lv_iconst (v := 1) hx hb dX9_book_123 (by decide) ?_
          refine lv_icmp_ne (tgt := 156) hx hb dX9_book_124 (by decide) (fun c_124 => ?_) (fun c_124 => ?_)
          · exact absurd (r_p1.eq.trans rl_1.eq.symm) ((ti_ne c_124))
          · refine lv_aload_n hx hb dX9_book_127 rfl (lv_at hl 1 rfl) ?_
            refine tg_get (ci := 9) (ts := ty_WP) (C := RX9) (T := TX9) (N := 15) hx hb hts inX9 hown hK hw h_p0 rfl rfl 3 (by decide) (hts _ tw_349) (fun _ h9 => h9) (ft := vR 27) rfl dX9_book_128 (fun u_44 hv_u_44 m_u_44 => ?_)
            obtain ⟨vu_44, rfl, h_vu_44⟩ := hv_u_44
            refine lv_aload_n hx hb dX9_book_131 rfl (lv_at hl 1 rfl) ?_
            refine tg_mem (ci := 9) (C := RX9) (T := TX9) (N := 15) hx hb hts inX9 hown hK hw 1 m_u_24 rfl (by decide) (hts _ tw_347) (fun _ h9 => h9) dX9_book_132 ?_
            have x_AT_vu_44_gdq_2 : (vu_44 = gdq 2) := GWX.hi hw.2.2.1 x_GWX_p0_gdq m_u_44
            have x_AT_vu_24_gdq_0 : (vu_24 = gdq 0) := GWX.wo hw.2.2.1 x_GWX_p0_gdq m_u_24
            refine tk_v (va_runV (As := [.ref vu_24]) (rest := []) ⟨hx, hb, hml, hown, hts⟩ (c_X1_prepare__1 l D cy z H.size Ps ws hw.1 vu_44 vu_24 (gdq) (gdg) (gdo) (gdA) (gdB) (false) (true) h_vu_44 h_vu_24 x_AT_vu_44_gdq_2 x_AT_vu_24_gdq_0 x_GQ_gdq_gdg x_HE_gdq_gdg_gdo_gdA_gdB_false_true) (cwV 1 hts (gV tw_606 tw_607 tw_608 tw_13 tw_609) rfl rfl rfl (by decide +kernel) ⟨Nat.le_of_ble_eq_true rfl, Nat.le_of_ble_eq_true rfl⟩) (tg_preV hw hK hSD hA (ci := 1) (q := (RX1, TX1, 3)) rfl h_vu_44 rfl) rfl rfl hl.1 rfl (lv_room (Nat.le_of_ble_eq_true rfl)) dX9_book_135 ⟨Nat.le_of_ble_eq_true rfl, Nat.le_of_ble_eq_true rfl⟩) hw hA ⟨by decide, by decide⟩ (fun ws H locs hp_v_45 hw hF9 => ?_)
            have m_u_22 := FLD.over hF9 m_u_22 (by decide)
            have m_u_23 := FLD.over hF9 m_u_23 (by decide)
            have m_u_24 := FLD.over hF9 m_u_24 (by decide)
            have m_fv := FLD.over hF9 m_fv (by decide)
            have m_pv := FLD.over hF9 m_pv (by decide)
            have m_lf := FLD.over hF9 m_lf (by decide)
            have m_u_28 := FLD.over hF9 m_u_28 (by decide)
            have m_v_39 := FLD.over hF9 m_v_39 (by decide)
            have m_u_40 := FLD.over hF9 m_u_40 (by decide)
            have m_u_41 := FLD.over hF9 m_u_41 (by decide)
            have m_u_44 := FLD.over hF9 m_u_44 (by decide)
            have x_GWX_p0_gdq := GWX.over hF9 x_GWX_p0_gdq (by decide)
            have x_GQ_gdq_gdg := GQ.over hF9 x_GQ_gdq_gdg (by decide)
            have x_BYX_p0_gdT := BYX.over hF9 x_BYX_p0_gdT (by decide)
            have x_WKX_p0 := WKX.over hF9 x_WKX_p0 (by decide)
            have x_JB_vu_23_vu_22 := JB.over hF9 x_JB_vu_23_vu_22 (by decide)
            have x_EQF_p0 := EQF.over hF9 x_EQF_p0 (by decide)
            have x_TLX_p0_0 := TLX.over hF9 x_TLX_p0_0 (by decide)
            have x_LFB_p0_gdT_gh_gdR_gdN := FLD.over hF9 x_LFB_p0_gdT_gh_gdR_gdN (by decide)
            have x_BG_vu_22 := B3.over hF9 x_BG_vu_22 (by decide)
            have x_HE_gdq_gdg_gdo_gdA_gdB_true_true := (hp_v_45.1)
            refine lv_aload_n hx hb dX9_book_138 rfl (lv_at hl 1 rfl) ?_
            refine tg_mem (ci := 9) (C := RX9) (T := TX9) (N := 15) hx hb hts inX9 hown hK hw 3 m_u_44 rfl (by decide) (hts _ tw_349) (fun _ h9 => h9) dX9_book_139 ?_
            refine tk_v (va_runV (As := []) (rest := []) ⟨hx, hb, hml, hown, hts⟩ (c_X1_keep__1 l D cy z H.size Ps ws hw.1 vu_44 (gdq) (gdg) (gdo) (gdA) (gdB) (true) h_vu_44 x_AT_vu_44_gdq_2 x_HE_gdq_gdg_gdo_gdA_gdB_true_true) (cwV 0 hts (gV tw_619 tw_620 tw_621 tw_13 tw_622) rfl rfl rfl (by decide +kernel) ⟨Nat.le_of_ble_eq_true rfl, Nat.le_of_ble_eq_true rfl⟩) (tg_preV hw hK hSD hA (ci := 1) (q := (RX1, TX1, 3)) rfl h_vu_44 rfl) rfl rfl hl.1 rfl (lv_room (Nat.le_of_ble_eq_true rfl)) dX9_book_142 ⟨Nat.le_of_ble_eq_true rfl, Nat.le_of_ble_eq_true rfl⟩) hw hA ⟨by decide, by decide⟩ (fun ws H locs hp_v_46 hw hF9 => ?_)
            have m_u_22 := FLD.over hF9 m_u_22 (by decide)
            have m_u_23 := FLD.over hF9 m_u_23 (by decide)
            have m_u_24 := FLD.over hF9 m_u_24 (by decide)
            have m_fv := FLD.over hF9 m_fv (by decide)
            have m_pv := FLD.over hF9 m_pv (by decide)
            have m_lf := FLD.over hF9 m_lf (by decide)
            have m_u_28 := FLD.over hF9 m_u_28 (by decide)
            have m_v_39 := FLD.over hF9 m_v_39 (by decide)
            have m_u_40 := FLD.over hF9 m_u_40 (by decide)
            have m_u_41 := FLD.over hF9 m_u_41 (by decide)
            have m_u_44 := FLD.over hF9 m_u_44 (by decide)
            have x_GWX_p0_gdq := GWX.over hF9 x_GWX_p0_gdq (by decide)
            have x_GQ_gdq_gdg := GQ.over hF9 x_GQ_gdq_gdg (by decide)
            have x_BYX_p0_gdT := BYX.over hF9 x_BYX_p0_gdT (by decide)
            have x_WKX_p0 := WKX.over hF9 x_WKX_p0 (by decide)
            have x_JB_vu_23_vu_22 := JB.over hF9 x_JB_vu_23_vu_22 (by decide)
            have x_EQF_p0 := EQF.over hF9 x_EQF_p0 (by decide)
            have x_TLX_p0_0 := TLX.over hF9 x_TLX_p0_0 (by decide)
            have x_LFB_p0_gdT_gh_gdR_gdN := FLD.over hF9 x_LFB_p0_gdT_gh_gdR_gdN (by decide)
            have x_BG_vu_22 := B3.over hF9 x_BG_vu_22 (by decide)
            have x_HE_gdq_gdg_gdo_gdA_gdB_false_true := (hp_v_46.1)
            refine lv_aload_n hx hb dX9_book_145 rfl (lv_at hl 1 rfl) ?_
            refine tg_mem (ci := 9) (C := RX9) (T := TX9) (N := 15) hx hb hts inX9 hown hK hw 1 m_u_24 rfl (by decide) (hts _ tw_347) (fun _ h9 => h9) dX9_book_146 ?_
            refine lv_aload_n hx hb dX9_book_149 rfl (lv_at hl 1 rfl) ?_
            refine tg_mem (ci := 9) (C := RX9) (T := TX9) (N := 15) hx hb hts inX9 hown hK hw 2 m_u_28 rfl (by decide) (hts _ tw_348) (fun _ h9 => h9) dX9_book_150 ?_
            have hD8 := hw.2.2.1
            refine tk_v (va_runV (As := [.ref vu_28]) (rest := []) ⟨hx, hb, hml, hown, hts⟩ (c_X8_takeFrom__1 l D cy z H.size Ps ws hw.1 vu_24 vu_28 h_vu_24 h_vu_28) (cwV 1 hts (gV tw_521 tw_522 tw_523 tw_12 tw_524) rfl rfl rfl (by decide +kernel) ⟨Nat.le_of_ble_eq_true rfl, Nat.le_of_ble_eq_true rfl⟩) (tg_preV hw hK hSD hA (ci := 8) (q := (RX8, TX8, 13)) rfl h_vu_24 rfl) rfl rfl hl.1 rfl (lv_room (Nat.le_of_ble_eq_true rfl)) dX9_book_153 ⟨Nat.le_of_ble_eq_true rfl, Nat.le_of_ble_eq_true rfl⟩) hw hA ⟨by decide, by decide⟩ (fun ws H locs hp_v_47 hw hF9 => ?_)
            have m_u_22 := FLD.over hF9 m_u_22 (by decide)
            have m_u_23 := FLD.over hF9 m_u_23 (by decide)
            have m_u_24 := FLD.over hF9 m_u_24 (by decide)
            have m_fv := FLD.over hF9 m_fv (by decide)
            have m_pv := FLD.over hF9 m_pv (by decide)
            have m_lf := FLD.over hF9 m_lf (by decide)
            have m_u_28 := FLD.over hF9 m_u_28 (by decide)
            have m_v_39 := FLD.over hF9 m_v_39 (by decide)
            have m_u_40 := FLD.over hF9 m_u_40 (by decide)
            have m_u_41 := FLD.over hF9 m_u_41 (by decide)
            have m_u_44 := FLD.over hF9 m_u_44 (by decide)
            have x_GWX_p0_gdq := GWX.over hF9 x_GWX_p0_gdq (by decide)
            have x_GQ_gdq_gdg := GQ.over hF9 x_GQ_gdq_gdg (by decide)
            have x_BYX_p0_gdT := BYX.over hF9 x_BYX_p0_gdT (by decide)
            have x_WKX_p0 := WKX.over hF9 x_WKX_p0 (by decide)
            have x_JB_vu_23_vu_22 := JB.over hF9 x_JB_vu_23_vu_22 (by decide)
            have x_EQF_p0 := EQF.over hF9 x_EQF_p0 (by decide)
            have x_TLX_p0_0 := TLX.over hF9 x_TLX_p0_0 (by decide)
            have x_LFB_p0_gdT_gh_gdR_gdN := FLD.over hF9 x_LFB_p0_gdT_gh_gdR_gdN (by decide)
            have x_BG_vu_22 := B3.over hF9 x_BG_vu_22 (by decide)
            have x_TKF_vu_24_vu_28 := (hp_v_47.1)
            have x_HE_gdq_gdg_gdo_gdA_gdB_false_true : HE Ps ws gdq gdg gdo gdA gdB false true := HE.world hD8 hF9 (by decide) x_GQ_gdq_gdg.2.2.2.2.2 x_HE_gdq_gdg_gdo_gdA_gdB_false_true (by rw [← GWX.wo hw.2.2.1 x_GWX_p0_gdq m_u_24, ← GWX.tr hw.2.2.1 x_GWX_p0_gdq m_u_28]; exact x_TKF_vu_24_vu_28)
            exact B156 v_30 fv ws _ _ ls (r_p1.to (by decide)) r_v_30 r_fv m_lf x_BYX_p0_gdT x_EQF_p0 x_GQ_gdq_gdg x_GWX_p0_gdq x_HE_gdq_gdg_gdo_gdA_gdB_false_true x_LFB_p0_gdT_gh_gdR_gdN x_PDF_gdo_gdR_gdN x_TLX_p0_0 x_WKX_p0 hw (lv_sub hl [1, 2, 0] rfl)
      · have r_fv : RI fv 1 4 := rc_neL r_fv rl_0 (ti_ne c_39) (by decide)
        refine lv_bipush (v := (-2)) hx hb dX9_book_42 (by decide) ?_
        refine lv_aload_n hx hb dX9_book_44 rfl (lv_at hl 0 rfl) ?_
        refine tg_mem (ci := 9) (C := RX9) (T := TX9) (N := 15) hx hb hts inX9 hown hK hw 0 m_u_23 rfl (by decide) (hts _ tw_346) (fun _ h9 => h9) dX9_book_45 ?_
        refine tg_memN (ci := 7) (C := RX7) (T := TX7) (N := 12) hx hb hts inX7 hown hK hw 11 m_pv rfl (by decide) (hSD.nest tn_107) (fun _ h9 => h9) dX9_book_48 ?_
        refine lv_isub hx hb dX9_book_51 (lv_topi (fun v_48 e_v_48 => ?_))
        have r_v_48 := ri_any v_48
        subst hQ
        exact W.iret (v := v_48) hx hb hr (fun t ht hW => ⟨⟨v_48, ws, rfl, ⟨⟨r_v_48.to (by decide), (fun h0 => trivial), (fun h0 => trivial), ⟨⟨fun _ => x_TLX_p0_0, fun h9 => absurd ⟨by have k1 := r_p1.1; omega, by have k1 := r_p1.2; omega⟩ h9⟩, x_HE_gdq_gdg_gdo_gdA_gdB_false_false, ⟨fun _ => x_LFB_p0_gdT_gh_gdR_gdN, fun h9 => absurd ⟨by have k1 := r_p1.1; omega, by have k1 := r_p1.2; omega⟩ h9⟩, trivial⟩, (fun _ => trivial), (fun _ => trivial)⟩, hw.1, hw.2.2.2.2.1⟩, by rw [ht]; exact hw.2.1, va_K.moved hW.alike hK, hw.2.2.1⟩, hw.2.2.2.1.F ht⟩) hw.2.2.2.1.2.2 dX9_book_52
    · have x_IMG0_p1 : ¬ (0 ≤ Int32.toInt p1 ∧ Int32.toInt p1 ≤ 1) := (fun h9 => by have k1 := ti_ne c_1; have k2 := ti_ne c_6; have k3 : Int32.toInt 0 = 0 := (by decide); have k4 : Int32.toInt 1 = 1 := (by decide); omega)
      refine lv_sipush (v := (-1000)) hx hb dX9_book_9 (by decide) ?_
      subst hQ
      exact W.iret (v := (-1000)) hx hb hr (fun t ht hW => ⟨⟨(-1000), w0, rfl, ⟨⟨rl_m1000.to (by decide), (fun _ => trivial), (fun h0 => trivial), ⟨⟨fun h9 => absurd h9 x_IMG0_p1, fun _ => x_TLX_p0_gh⟩, x_HE_gdq_gdg_gdo_gdA_gdB_false_false, ⟨fun h9 => absurd h9 x_IMG0_p1, fun _ => x_LF_p0_gdf⟩, trivial⟩, (fun _ => trivial), (fun _ => trivial)⟩, hw.1, hw.2.2.2.2.1⟩, by rw [ht]; exact hw.2.1, va_K.moved hW.alike hK, hw.2.2.1⟩, hw.2.2.2.1.F ht⟩) hw.2.2.2.1.2.2 dX9_book_12
abbrev wr_X9_post__4 : List (Nat × Nat) := [(1, 2), (3, 5), (3, 6), (3, 7), (3, 8), (7, 2), (7, 3), (7, 4), (7, 5), (7, 6), (7, 7), (7, 8), (7, 9), (7, 10), (7, 11), (8, 0), (8, 1), (9, 5), (9, 11)]
abbrev wa_X9_post__4 : List Nat := [1, 4, 5, 6, 7, 8, 9, 10, 11, 12, 13]
set_option maxHeartbeats 4000000 in
set_option maxRecDepth 100000 in
theorem c_X9_post__4 (l : Launch) (D : va_G) (cy : Nat → ClassId) (z : Nat → Nat) (sz : Nat) (Ps : PSI) (w0 : va_W) (hT : HT cy GG Ps w0) (p0 : Nat) (gh : Int) (gdT : Nat → Nat) (gdq : Nat → Nat) (gdg : Nat → Nat) (gdo : OS) (gdA : OS) (gdB : OS) (h_p0 : (p0, 33) ∈ Ps) (x_TLX_p0_gh : TLX w0 p0 (gh)) (x_BYX_p0_gdT : BYX Ps w0 p0 gdT) (x_WKX_p0 : WKX Ps w0 p0) (x_GWX_p0_gdq : GWX w0 p0 gdq) (x_GQ_gdq_gdg : GQ Ps w0 gdq gdg) (x_HE_gdq_gdg_gdo_gdA_gdB_false_false : HE Ps w0 gdq gdg gdo gdA gdB false false) : Met l yX9_post (Cond.code yX9_post cX9_post 3 (some .int) :: gT) ({ frames := 6, cells := 6, slots := 65, locals := 1200 } : Room) (va_Pc [.ref p0] (PRE D cy z w0 sz)) (va_Qi (fun (r : Int32) (u : PSI × va_W) => (RI r (-2147483648) 2147483647 ∧ (r = 0 → True) ∧ (¬ r = 0 → True) ∧ (TLX u.2 p0 (0) ∧ (r = PAN gdT gh) ∧ PX u.1 u.2 gdq gdg gdo gdA gdB gdT gh ∧ FLD u.2 p0 9 11 (.int (FAU (SP gdT gh))) ∧ True) ∧ (r.toInt < 0 → True) ∧ (0 ≤ r.toInt → True)) ∧ (∃ X, u.1 = Ps ++ X) ∧ HT cy GG u.1 u.2 ∧ FR wr_X9_post__4 wa_X9_post__4 Ps w0 u.2) (BB D cy (va_A w0 sz) (fun (u : PSI × va_W) => u.2)) (va_A w0 sz)) 6 65 (va_A w0 sz) := by
  refine Met.ofW (cc := cX9_post) (maxL := 3) (ret := (some .int)) (by decide) rfl ?_
  intro p e s m args below meth c s₁ B hml hv
  obtain ⟨rfl, hsz, hP, hK, hD0, hSD⟩ := hv
  have hx := B.exec
  have hb := B.bytes
  have hr := B.returns
  have hlocks := B.notSynchronized
  have hts : ∀ w ∈ gT, w.before _ s = true := fun w h => atoms_spec (ws := Cond.code yX9_post cX9_post 3 (some .int) :: gT) B.pre w (List.mem_cons_of_mem _ h)
  have hown : s.vm.findClass RX9 = some m.cls := findClass_of_methodNamed B.named
  subst hsz
  have hD := hD0.self (sz := s.heap.size)
  generalize hAe : va_A w0 s.heap.size = A at hD hSD ⊢
  have hA : ∀ q : Nat, s.heap.size ≤ q → A q := fun q h => by rw [← hAe]; exact Or.inr h
  have hl := lv_entry ([.ref p0]) (n := 3) (Nat.le_of_ble_eq_true rfl)
  rw [lg_entry_eq]
  generalize (lg_sl ([.ref p0]) ++ List.replicate (3 - (lg_sl ([.ref p0])).length) Slot.unset).toArray = ls at hl ⊢
  have hl : lv_has ls 3 [(0, .ref p0)] := hl
  refine nameQ (fun Q hQ => ?_)
  have hw : WD D cy GG A s wr_X9_post__4 wa_X9_post__4 Ps w0 Ps w0 s.heap [] := ⟨hT, hP, hD, va_S.rf, FR.rf, hT.1, [], (List.append_nil _).symm⟩
  refine va_new (ci := 3) (fs := [.null, .null, .null, .null, .null, .int 0, .int 0, .int 0, .int 0]) (C := RX3) (T := TX3) (N := 9) hx hb hts inX3 tyX3 tyX3_ok hown (hts _ tw_192) (hts _ tw_193) (hts _ tw_11) hK hw.2.1 hw.2.2.1 hw.2.2.2.1 hA rfl (dfX3) (Nat.le_of_ble_eq_true rfl) (Nat.le_of_ble_eq_true rfl) dX9_post_0 (fun q_1 H hP9 hD9 hS9 => ?_)
  refine lv_dup hx hb dX9_post_3 rfl ?_
  refine tkN (va_runIN (As := []) (rest := [.ref q_1]) ⟨hx, hb, hml, hown, hts⟩ (c_Post_init l D cy z H.size q_1) ⟨va_cnB 0 hts (gC tw_196) rfl rfl rfl (va_Nw.of rfl (hSD.nest (args := #[]) tn_194)) (hts _ tw_11) (by decide +kernel) ⟨Nat.le_of_ble_eq_true rfl, Nat.le_of_ble_eq_true rfl⟩, rfl, hts _ tw_195⟩ (preS hP9 hD9 hK hSD hS9 hA [w0.length] last1 rfl) rfl rfl hl.1 rfl (lv_room (Nat.le_of_ble_eq_true rfl)) dX9_post_4 ⟨Nat.le_of_ble_eq_true rfl, Nat.le_of_ble_eq_true rfl⟩) hP9 hD9 hS9 hA (fun u9 H locs hp9 hP9 hD9 hS9 => ?_)
  obtain ⟨u0_1, u1_1, u2_1, u3_1, u4_1⟩ := u9
  have hw := WD.app (X := [(q_1, 25), (u0_1, 1), (u1_1, 4), (u2_1, 5), (u3_1, 6), (u4_1, 7)]) (wx := [(q_1, .inr (3, [.ref u0_1, .ref u1_1, .ref u2_1, .ref u3_1, .ref u4_1, .int 0, .int 5, .int 0, .int 0])), (u0_1, .inl (cy 2, 32, .inr (.inl (fun _ => 0)))), (u1_1, .inl (cy 1, 4, .inl (fun _ => 0))), (u2_1, .inl (cy 1, 6, .inl (fun _ => 0))), (u3_1, .inl (cy 1, 6, .inl (fun _ => 0))), (u4_1, .inl (cy 1, 8, .inl (fun _ => 0)))]) hw ⟨⟨rfl, ok_POST (List.mem_append_right _ (by simp)) (List.mem_append_right _ (by simp)) (List.mem_append_right _ (by simp)) (List.mem_append_right _ (by simp)) (List.mem_append_right _ (by simp)) (rl_0.to (by decide)) (rl_5.to (by decide)) (rl_0.to (by decide)) (rl_0.to (by decide))⟩, ⟨rfl, z_lon (fun _ => 0)⟩, ⟨rfl, z_arr (fun _ => 0) (by decide +kernel) trivial⟩, ⟨rfl, z_arr (fun _ => 0) (fun j9 _ => (by show ((-2147483648) : Int) ≤ (0 : Int32).toInt ∧ (0 : Int32).toInt ≤ 2147483647; decide)) trivial⟩, ⟨rfl, z_arr (fun _ => 0) (fun j9 _ => (by show ((-2147483648) : Int) ≤ (0 : Int32).toInt ∧ (0 : Int32).toInt ≤ 2147483647; decide)) trivial⟩, ⟨rfl, z_arr (fun _ => 0) (fun j9 _ => (by show ((-2147483648) : Int) ≤ (0 : Int32).toInt ∧ (0 : Int32).toInt ≤ 2147483647; decide)) trivial⟩, trivial⟩ hP9 hD9 hS9
  obtain ⟨Pn, hPn⟩ : ∃ q9 : PSI, q9 = Ps ++ [(q_1, 25), (u0_1, 1), (u1_1, 4), (u2_1, 5), (u3_1, 6), (u4_1, 7)] := ⟨_, rfl⟩
  have hup : ∀ x9 ∈ Ps, x9 ∈ Pn := fun x9 h9 => by rw [hPn]; exact List.mem_append_left _ h9
  obtain ⟨ws, hws⟩ : ∃ q9 : va_W, q9 = w0 ++ [(q_1, .inr (3, [.ref u0_1, .ref u1_1, .ref u2_1, .ref u3_1, .ref u4_1, .int 0, .int 5, .int 0, .int 0])), (u0_1, .inl (cy 2, 32, .inr (.inl (fun _ => 0)))), (u1_1, .inl (cy 1, 4, .inl (fun _ => 0))), (u2_1, .inl (cy 1, 6, .inl (fun _ => 0))), (u3_1, .inl (cy 1, 6, .inl (fun _ => 0))), (u4_1, .inl (cy 1, 8, .inl (fun _ => 0)))] := ⟨_, rfl⟩
  rw [← hPn, ← hws] at hw
  have h_p0 := hup _ h_p0
  have h_q_1 : (q_1, 25) ∈ Pn := by rw [hPn]; exact List.mem_append_right _ (by simp)
  have h_u0_1 : (u0_1, 1) ∈ Pn := by rw [hPn]; exact List.mem_append_right _ (by simp)
  have h_u1_1 : (u1_1, 4) ∈ Pn := by rw [hPn]; exact List.mem_append_right _ (by simp)
  have h_u2_1 : (u2_1, 5) ∈ Pn := by rw [hPn]; exact List.mem_append_right _ (by simp)
  have h_u3_1 : (u3_1, 6) ∈ Pn := by rw [hPn]; exact List.mem_append_right _ (by simp)
  have h_u4_1 : (u4_1, 7) ∈ Pn := by rw [hPn]; exact List.mem_append_right _ (by simp)
  refine W.widen (k := 6) (n := 65) (Nat.le_of_ble_eq_true rfl) (Nat.le_of_ble_eq_true rfl) ?_
  have x_TLX_p0_gh : TLX ws p0 (gh) := by rw [hws]; exact TLX.app x_TLX_p0_gh
  have x_BYX_p0_gdT : BYX Pn ws p0 gdT := by rw [hPn, hws]; exact BYX.app x_BYX_p0_gdT
  have x_WKX_p0 : WKX Pn ws p0 := by rw [hPn, hws]; exact WKX.app x_WKX_p0
  have o_n : OV vw_POST Pn ws q_1 OP0 := by rw [hPn, hws]; exact post_new hT.1
  have x_GWX_p0_gdq : GWX ws p0 gdq := by rw [hws]; exact GWX.app x_GWX_p0_gdq
  have x_GQ_gdq_gdg : GQ Pn ws gdq gdg := by rw [hPn, hws]; exact GQ.app x_GQ_gdq_gdg
  refine lv_astore_n (lv' := [(1, .ref q_1), (0, .ref p0)]) hx hb dX9_post_7 rfl hl (by decide) rfl (fun ls hl => ?_)
  refine lv_aload_n hx hb dX9_post_8 rfl (lv_at hl 0 rfl) ?_
  refine lv_aload_n hx hb dX9_post_9 rfl (lv_at hl 1 rfl) ?_
  refine tg_get (ci := 9) (ts := ty_WP) (C := RX9) (T := TX9) (N := 15) hx hb hts inX9 hown hK hw h_p0 rfl rfl 0 (by decide) (hts _ tw_346) (fun _ h9 => h9) (ft := vR 26) rfl dX9_post_10 (fun u_2 hv_u_2 m_u_2 => ?_)
  obtain ⟨vu_2, rfl, h_vu_2⟩ := hv_u_2
  refine lv_aload_n hx hb dX9_post_13 rfl (lv_at hl 1 rfl) ?_
  refine tg_get (ci := 9) (ts := ty_WP) (C := RX9) (T := TX9) (N := 15) hx hb hts inX9 hown hK hw h_p0 rfl rfl 2 (by decide) (hts _ tw_348) (fun _ h9 => h9) (ft := vR 24) rfl dX9_post_14 (fun u_3 hv_u_3 m_u_3 => ?_)
  obtain ⟨vu_3, rfl, h_vu_3⟩ := hv_u_3
  obtain ⟨so, o_t, hCX⟩ := tp_full hw.1 hw.2.2.1 x_TLX_p0_gh x_BYX_p0_gdT x_WKX_p0 m_u_2 h_vu_2
  obtain ⟨sw, o_w⟩ := wd_full hw.1 h_vu_3
  have hD8 := hw.2.2.1
  refine tk_i (va_runV (As := [.ref vu_2, .ref vu_3]) (rest := []) ⟨hx, hb, hml, hown, hts⟩ (c_X3_read__2 l D cy z H.size Pn ws hw.1 q_1 vu_2 vu_3 OP0 so sw h_q_1 h_vu_2 h_vu_3 o_n o_t o_w) (cwV 2 hts (gV tw_412 tw_413 tw_414 tw_11 tw_415) rfl rfl rfl (by decide +kernel) ⟨Nat.le_of_ble_eq_true rfl, Nat.le_of_ble_eq_true rfl⟩) (tg_preV hw hK hSD hA (ci := 3) (q := (RX3, TX3, 9)) rfl h_q_1 rfl) rfl rfl hl.1 rfl (lv_room (Nat.le_of_ble_eq_true rfl)) dX9_post_17 ⟨Nat.le_of_ble_eq_true rfl, Nat.le_of_ble_eq_true rfl⟩) hw hA ⟨by decide, by decide⟩ (fun v_4 ws H locs hp_v_4 hw hF9 => ?_)
  have m_u_2 := FLD.over hF9 m_u_2 (by decide)
  have m_u_3 := FLD.over hF9 m_u_3 (by decide)
  have x_TLX_p0_gh := TLX.over hF9 x_TLX_p0_gh (by decide)
  have x_BYX_p0_gdT := BYX.over hF9 x_BYX_p0_gdT (by decide)
  have x_WKX_p0 := WKX.over hF9 x_WKX_p0 (by decide)
  have x_GWX_p0_gdq := GWX.over hF9 x_GWX_p0_gdq (by decide)
  have x_GQ_gdq_gdg := GQ.over hF9 x_GQ_gdq_gdg (by decide)
  obtain ⟨hot9, hp_v_4⟩ := hp_v_4
  obtain ⟨hfn, hp_v_4⟩ := hp_v_4
  have o_n : OV vw_POST Pn ws q_1 ((f_X3_read__1 OP0 so sw).1) := hfn.1
  have o_t : OV vw_TAPE Pn ws vu_2 ((f_X3_read__1 OP0 so sw).2.1) := hfn.2.1
  have o_w : OV vw_WORLD Pn ws vu_3 ((f_X3_read__1 OP0 so sw).2.2.1) := hfn.2.2.1
  have hfr_v_4 : (f_X3_read__1 OP0 so sw).2.2.2 = v_4 := hfn.2.2.2.1
  have r_v_4 : RI v_4 (-1) 900 := hp_v_4.1
  have x_BGF_vu_3_q_1 := hp_v_4.2.2.2.1.1
  obtain ⟨fv, e_fv⟩ : ∃ q9 : Int32, (((f_X3_read__1 OP0 so sw).2.1)).1 10 = q9 := ⟨_, rfl⟩
  have m_fv : FLD ws vu_2 7 10 (.int fv) := by rw [← e_fv]; exact o_t.1 10 (by decide)
  obtain ⟨pv, e_pv⟩ : ∃ q9 : Int32, (((f_X3_read__1 OP0 so sw).2.1)).1 11 = q9 := ⟨_, rfl⟩
  have m_pv : FLD ws vu_2 7 11 (.int pv) := by rw [← e_pv]; exact o_t.1 11 (by decide)
  have hPA : (fv = 0 → v_4 = PAN gdT gh) ∧ (¬ fv = 0 → -1 - pv = PAN gdT gh) := by
    have h9 := PA_ (read_ (s2 := sw) hCX P0_OP0)
    rw [e_fv, e_pv, hfr_v_4] at h9
    exact h9
  have r_fv : RI fv 0 4 := by
    obtain ⟨v9, a9, b9⟩ := ht_fld (k := 10) (ci := 7) (ts := ty_TAPE) (lo := 0) (hi := 4) hw.1 h_vu_2 rfl rfl
    cases FLD.inj hw.2.2.1 a9 m_fv
    exact b9
  have r_pv := ri_any pv
  have x_HE_gdq_gdg_gdo_gdA_gdB_false_false : HE Pn ws gdq gdg gdo gdA gdB false false := HE.read hT.1 hPn hws hD8 x_GQ_gdq_gdg.2.2.2.2.2 hot9 x_BGF_vu_3_q_1 (GWX.tr hw.2.2.1 x_GWX_p0_gdq m_u_3) hF9 (by decide) x_HE_gdq_gdg_gdo_gdA_gdB_false_false
  have hRO := read_ (s2 := sw) hCX P0_OP0
  obtain ⟨gdn, e_gdn⟩ : ∃ q9 : OS, ((f_X3_read__1 OP0 so sw).1) = q9 := ⟨_, rfl⟩
  have o_n : OV vw_POST Pn ws q_1 gdn := by rw [← e_gdn]; exact o_n
  refine lv_istore_n (lv' := [(2, .int v_4), (1, .ref q_1), (0, .ref p0)]) hx hb dX9_post_20 rfl hl (by decide) rfl (fun ls hl => ?_)
  refine lv_aload_n hx hb dX9_post_21 rfl (lv_at hl 2 rfl) ?_
  refine tk_v (va_runV (As := []) (rest := []) ⟨hx, hb, hml, hown, hts⟩ (c_X9_noteFault__2 l D cy z H.size Pn ws hw.1 p0 h_p0) (cwV 0 hts (gV tw_517 tw_519 ts_9 tw_1 tw_520) rfl rfl rfl (by decide +kernel) ⟨Nat.le_of_ble_eq_true rfl, Nat.le_of_ble_eq_true rfl⟩) (tg_preV hw hK hSD hA (ci := 9) (q := (RX9, TX9, 15)) rfl h_p0 rfl) rfl rfl hl.1 rfl (lv_room (Nat.le_of_ble_eq_true rfl)) dX9_post_22 ⟨Nat.le_of_ble_eq_true rfl, Nat.le_of_ble_eq_true rfl⟩) hw hA ⟨by decide, by decide⟩ (fun ws H locs hp_v_5 hw hF9 => ?_)
  have m_u_2 := FLD.over hF9 m_u_2 (by decide)
  have m_u_3 := FLD.over hF9 m_u_3 (by decide)
  have m_fv := FLD.over hF9 m_fv (by decide)
  have m_pv := FLD.over hF9 m_pv (by decide)
  have x_BYX_p0_gdT := BYX.over hF9 x_BYX_p0_gdT (by decide)
  have x_WKX_p0 := WKX.over hF9 x_WKX_p0 (by decide)
  have x_GWX_p0_gdq := GWX.over hF9 x_GWX_p0_gdq (by decide)
  have x_GQ_gdq_gdg := GQ.over hF9 x_GQ_gdq_gdg (by decide)
  have x_BGF_vu_3_q_1 := BGF.over hF9 x_BGF_vu_3_q_1 (by decide)
  have x_HE_gdq_gdg_gdo_gdA_gdB_false_false := HE.over hF9 x_HE_gdq_gdg_gdo_gdA_gdB_false_false (by decide)
  have o_n := OV.over (V := vw_POST) hF9 o_n (by decide)
  have x_EQF_p0 := (hp_v_5.1)
  have x_TLX_p0_0 := (hp_v_5.2.1)
  have m_lf : FLD ws p0 9 11 (.int fv) := EQF.lf hw.2.2.1 x_EQF_p0 m_u_2 m_fv
  have e9_ : FAU (SP gdT gh) = fv := (FP_ hRO).symm.trans e_fv
  have x_LFP_p0_gdT_gh : FLD ws p0 9 11 (.int (FAU (SP gdT gh))) := by rw [e9_]; exact m_lf
  refine lv_aload_n hx hb dX9_post_25 rfl (lv_at hl 2 rfl) ?_
  refine tg_mem (ci := 9) (C := RX9) (T := TX9) (N := 15) hx hb hts inX9 hown hK hw 11 m_lf rfl (by decide) (hts _ tw_357) (fun _ h9 => h9) dX9_post_26 ?_
  refine lv_if_eq (tgt := 42) hx hb dX9_post_29 (by decide) (fun c_29 => ?_) (fun c_29 => ?_)
  · have r_fv : RI fv 0 0 := rc_eq1 r_fv rl_0 (ti_eq c_29) (by decide)
    refine lv_aload_n hx hb dX9_post_42 rfl (lv_at hl 2 rfl) ?_
    refine tg_get (ci := 9) (ts := ty_WP) (C := RX9) (T := TX9) (N := 15) hx hb hts inX9 hown hK hw h_p0 rfl rfl 1 (by decide) (hts _ tw_347) (fun _ h9 => h9) (ft := vR 24) rfl dX9_post_43 (fun u_6 hv_u_6 m_u_6 => ?_)
    obtain ⟨vu_6, rfl, h_vu_6⟩ := hv_u_6
    refine lv_aload_n hx hb dX9_post_46 rfl (lv_at hl 2 rfl) ?_
    refine tg_mem (ci := 9) (C := RX9) (T := TX9) (N := 15) hx hb hts inX9 hown hK hw 2 m_u_3 rfl (by decide) (hts _ tw_348) (fun _ h9 => h9) dX9_post_47 ?_
    have wn9 : WR Pn ws vu_3 gdn := ⟨_, x_BGF_vu_3_q_1.1, o_n⟩
    have hD8 := hw.2.2.1
    refine tk_v (va_runV (As := [.ref vu_3]) (rest := []) ⟨hx, hb, hml, hown, hts⟩ (c_X8_takeFrom__1 l D cy z H.size Pn ws hw.1 vu_6 vu_3 h_vu_6 h_vu_3) (cwV 1 hts (gV tw_521 tw_522 tw_523 tw_12 tw_524) rfl rfl rfl (by decide +kernel) ⟨Nat.le_of_ble_eq_true rfl, Nat.le_of_ble_eq_true rfl⟩) (tg_preV hw hK hSD hA (ci := 8) (q := (RX8, TX8, 13)) rfl h_vu_6 rfl) rfl rfl hl.1 rfl (lv_room (Nat.le_of_ble_eq_true rfl)) dX9_post_50 ⟨Nat.le_of_ble_eq_true rfl, Nat.le_of_ble_eq_true rfl⟩) hw hA ⟨by decide, by decide⟩ (fun ws H locs hp_v_7 hw hF9 => ?_)
    have m_u_2 := FLD.over hF9 m_u_2 (by decide)
    have m_u_3 := FLD.over hF9 m_u_3 (by decide)
    have m_fv := FLD.over hF9 m_fv (by decide)
    have m_pv := FLD.over hF9 m_pv (by decide)
    have m_lf := FLD.over hF9 m_lf (by decide)
    have m_u_6 := FLD.over hF9 m_u_6 (by decide)
    have x_BYX_p0_gdT := BYX.over hF9 x_BYX_p0_gdT (by decide)
    have x_WKX_p0 := WKX.over hF9 x_WKX_p0 (by decide)
    have x_GWX_p0_gdq := GWX.over hF9 x_GWX_p0_gdq (by decide)
    have x_GQ_gdq_gdg := GQ.over hF9 x_GQ_gdq_gdg (by decide)
    have x_EQF_p0 := EQF.over hF9 x_EQF_p0 (by decide)
    have x_TLX_p0_0 := TLX.over hF9 x_TLX_p0_0 (by decide)
    have x_LFP_p0_gdT_gh := FLD.over hF9 x_LFP_p0_gdT_gh (by decide)
    have o_n := OV.over (V := vw_POST) hF9 o_n (by decide)
    have x_TKF_vu_6_vu_3 := (hp_v_7.1)
    have x_HZ_gdq_gdn_gdA_gdB : HZ Pn ws gdq gdn gdA gdB := HE.newp hD8 hF9 (by decide) x_GQ_gdq_gdg.2.2.2.2.2 x_HE_gdq_gdg_gdo_gdA_gdB_false_false (by rw [← GWX.wo hw.2.2.1 x_GWX_p0_gdq m_u_6, ← GWX.tr hw.2.2.1 x_GWX_p0_gdq m_u_3]; exact x_TKF_vu_6_vu_3) (by rw [← GWX.tr hw.2.2.1 x_GWX_p0_gdq m_u_3]; exact wn9)
    refine lv_aload_n hx hb dX9_post_53 rfl (lv_at hl 2 rfl) ?_
    refine lv_null hx hb dX9_post_54 ?_
    refine tg_put (ci := 9) (ts := ty_WP) (v := .null) (ty := .object "WonderParcels$Sentence") (C := RX9) (T := TX9) (N := 15) hx hb hts inX9 tyX9 tyX9_ok nmX9 hown hK hw h_p0 rfl rfl 5 (by decide) (hts _ tw_351) (fun _ h9 => h9) rfl (by decide +kernel) rfl rfl (ft := vN 32) rfl (Or.inl rfl) (by decide) dX9_post_55 (fun ws H locs hw n_k_8 hF9 => ?_)
    have m_u_2 := FLD.over hF9 m_u_2 (by decide)
    have m_u_3 := FLD.over hF9 m_u_3 (by decide)
    have m_fv := FLD.over hF9 m_fv (by decide)
    have m_pv := FLD.over hF9 m_pv (by decide)
    have m_lf := FLD.over hF9 m_lf (by decide)
    have m_u_6 := FLD.over hF9 m_u_6 (by decide)
    have x_BYX_p0_gdT := BYX.over hF9 x_BYX_p0_gdT (by decide)
    have x_WKX_p0 := WKX.over hF9 x_WKX_p0 (by decide)
    have x_GWX_p0_gdq := GWX.over hF9 x_GWX_p0_gdq (by decide)
    have x_GQ_gdq_gdg := GQ.over hF9 x_GQ_gdq_gdg (by decide)
    have x_EQF_p0 := EQF.over hF9 x_EQF_p0 (by decide)
    have x_TLX_p0_0 := TLX.over hF9 x_TLX_p0_0 (by decide)
    have x_LFP_p0_gdT_gh := FLD.over hF9 x_LFP_p0_gdT_gh (by decide)
    have x_HZ_gdq_gdn_gdA_gdB := HZ.over hF9 x_HZ_gdq_gdn_gdA_gdB (by decide)
    have o_n := OV.over (V := vw_POST) hF9 o_n (by decide)
    refine lv_aload_n hx hb dX9_post_58 rfl (lv_at hl 2 rfl) ?_
    refine tg_get (ci := 9) (ts := ty_WP) (C := RX9) (T := TX9) (N := 15) hx hb hts inX9 hown hK hw h_p0 rfl rfl 3 (by decide) (hts _ tw_349) (fun _ h9 => h9) (ft := vR 27) rfl dX9_post_59 (fun u_9 hv_u_9 m_u_9 => ?_)
    obtain ⟨vu_9, rfl, h_vu_9⟩ := hv_u_9
    have x_AT_vu_9_gdq_2 : (vu_9 = gdq 2) := GWX.hi hw.2.2.1 x_GWX_p0_gdq m_u_9
    refine tk_v (va_runV (As := []) (rest := []) ⟨hx, hb, hml, hown, hts⟩ (c_X1_forget__1 l D cy z H.size Pn ws hw.1 vu_9 (gdq) (gdg) (gdn) (gdA) (gdB) h_vu_9 x_AT_vu_9_gdq_2 x_GQ_gdq_gdg x_HZ_gdq_gdn_gdA_gdB) (cwV 0 hts (gV tw_528 tw_529 tw_530 tw_13 tw_531) rfl rfl rfl (by decide +kernel) ⟨Nat.le_of_ble_eq_true rfl, Nat.le_of_ble_eq_true rfl⟩) (tg_preV hw hK hSD hA (ci := 1) (q := (RX1, TX1, 3)) rfl h_vu_9 rfl) rfl rfl hl.1 rfl (lv_room (Nat.le_of_ble_eq_true rfl)) dX9_post_62 ⟨Nat.le_of_ble_eq_true rfl, Nat.le_of_ble_eq_true rfl⟩) hw hA ⟨by decide, by decide⟩ (fun ws H locs hp_v_10 hw hF9 => ?_)
    have m_u_2 := FLD.over hF9 m_u_2 (by decide)
    have m_u_3 := FLD.over hF9 m_u_3 (by decide)
    have m_fv := FLD.over hF9 m_fv (by decide)
    have m_pv := FLD.over hF9 m_pv (by decide)
    have m_lf := FLD.over hF9 m_lf (by decide)
    have m_u_6 := FLD.over hF9 m_u_6 (by decide)
    have m_u_9 := FLD.over hF9 m_u_9 (by decide)
    have x_BYX_p0_gdT := BYX.over hF9 x_BYX_p0_gdT (by decide)
    have x_WKX_p0 := WKX.over hF9 x_WKX_p0 (by decide)
    have x_GWX_p0_gdq := GWX.over hF9 x_GWX_p0_gdq (by decide)
    have x_GQ_gdq_gdg := GQ.over hF9 x_GQ_gdq_gdg (by decide)
    have x_EQF_p0 := EQF.over hF9 x_EQF_p0 (by decide)
    have x_TLX_p0_0 := TLX.over hF9 x_TLX_p0_0 (by decide)
    have x_LFP_p0_gdT_gh := FLD.over hF9 x_LFP_p0_gdT_gh (by decide)
    have o_n := OV.over (V := vw_POST) hF9 o_n (by decide)
    have x_HE_gdq_gdg_gdn_gdA_gdB_false_false := (hp_v_10.1)
    refine lv_iload_n hx hb dX9_post_65 rfl (lv_at hl 0 rfl) ?_
    subst hQ
    exact W.iret (v := v_4) hx hb hr (fun t ht hW => ⟨⟨v_4, (Pn, ws), rfl, ⟨⟨r_v_4.to (by decide), (fun h0 => trivial), (fun h0 => trivial), ⟨x_TLX_p0_0, (hPA.1 c_29), (PX.ok hRO (e_fv.trans c_29) (by rw [e_gdn]; exact x_HE_gdq_gdg_gdn_gdA_gdB_false_false)), x_LFP_p0_gdT_gh, trivial⟩, (fun _ => trivial), (fun _ => trivial)⟩, hw.2.2.2.2.2.2, hw.1, hw.2.2.2.2.1⟩, by rw [ht]; exact hw.2.1, va_K.moved hW.alike hK, hw.2.2.1⟩, hw.2.2.2.1.F ht⟩) hw.2.2.2.1.2.2 dX9_post_66
  · have r_fv : RI fv 1 4 := rc_neL r_fv rl_0 (ti_ne c_29) (by decide)
    refine lv_iconst (v := (-1)) hx hb dX9_post_32 (by decide) ?_
    refine lv_aload_n hx hb dX9_post_33 rfl (lv_at hl 2 rfl) ?_
    refine tg_mem (ci := 9) (C := RX9) (T := TX9) (N := 15) hx hb hts inX9 hown hK hw 0 m_u_2 rfl (by decide) (hts _ tw_346) (fun _ h9 => h9) dX9_post_34 ?_
    refine tg_memN (ci := 7) (C := RX7) (T := TX7) (N := 12) hx hb hts inX7 hown hK hw 11 m_pv rfl (by decide) (hSD.nest tn_107) (fun _ h9 => h9) dX9_post_37 ?_
    refine lv_isub hx hb dX9_post_40 (lv_topi (fun v_11 e_v_11 => ?_))
    obtain ⟨t_v_11, r_v_11⟩ := tq_sub (lo := (-2147483648)) (hi := 2147483647) rl_m1 r_pv (by decide +kernel) e_v_11
    have t_v_11 : v_11.toInt = (-1) - pv.toInt := t_v_11
    subst hQ
    exact W.iret (v := v_11) hx hb hr (fun t ht hW => ⟨⟨v_11, (Pn, ws), rfl, ⟨⟨r_v_11.to (by decide), (fun h0 => trivial), (fun h0 => trivial), ⟨x_TLX_p0_0, (e_v_11.trans (hPA.2 c_29)), (PX.bad hRO (fun h9 => c_29 (e_fv.symm.trans h9)) x_HE_gdq_gdg_gdo_gdA_gdB_false_false), x_LFP_p0_gdT_gh, trivial⟩, (fun _ => trivial), (fun _ => trivial)⟩, hw.2.2.2.2.2.2, hw.1, hw.2.2.2.2.1⟩, by rw [ht]; exact hw.2.1, va_K.moved hW.alike hK, hw.2.2.1⟩, hw.2.2.2.1.F ht⟩) hw.2.2.2.1.2.2 dX9_post_41
abbrev wr_X9_sentence__3 : List (Nat × Nat) := [(5, 3), (5, 4), (7, 2), (7, 3), (7, 4), (7, 5), (7, 6), (7, 7), (7, 8), (7, 9), (7, 10), (7, 11), (9, 5), (9, 11)]
abbrev wa_X9_sentence__3 : List Nat := [21]
set_option maxHeartbeats 4000000 in
set_option maxRecDepth 100000 in
theorem c_X9_sentence__3 (l : Launch) (D : va_G) (cy : Nat → ClassId) (z : Nat → Nat) (sz : Nat) (Ps : PSI) (w0 : va_W) (hT : HT cy GG Ps w0) (p0 : Nat) (gh : Int) (gdT : Nat → Nat) (gdq : Nat → Nat) (gdg : Nat → Nat) (gdo : OS) (gdA : OS) (gdB : OS) (gdR : Nat → Int32) (gdN : Nat → Nat) (h_p0 : (p0, 33) ∈ Ps) (x_TLX_p0_gh : TLX w0 p0 (gh)) (x_BYX_p0_gdT : BYX Ps w0 p0 gdT) (x_WKX_p0 : WKX Ps w0 p0) (x_GWX_p0_gdq : GWX w0 p0 gdq) (x_HE_gdq_gdg_gdo_gdA_gdB_false_false : HE Ps w0 gdq gdg gdo gdA gdB false false) (x_PDF_gdo_gdR_gdN : (PDO gdo gdR gdN)) : Met l yX9_sentence (Cond.code yX9_sentence cX9_sentence 2 (some .int) :: gT) ({ frames := 22, cells := 4, slots := 125, locals := 4400 } : Room) (va_Pc [.ref p0] (PRE D cy z w0 sz)) (va_Qi (fun (r : Int32) (u : PSI × va_W) => (RI r (-2147483648) 2147483647 ∧ (r = 0 → True) ∧ (¬ r = 0 → True) ∧ (TLX u.2 p0 (0) ∧ (r = SSA gdT gh gdR gdN) ∧ FLD u.2 p0 9 11 (.int (FAU (sSent gdT (Int.toNat gh) 200 gdR gdN))) ∧ True) ∧ (r.toInt < 0 → True) ∧ (0 ≤ r.toInt → True)) ∧ (∃ X, u.1 = Ps ++ X) ∧ HT cy GG u.1 u.2 ∧ FR wr_X9_sentence__3 wa_X9_sentence__3 Ps w0 u.2) (BB D cy (va_A w0 sz) (fun (u : PSI × va_W) => u.2)) (va_A w0 sz)) 4 125 (va_A w0 sz) := by
  refine Met.ofW (cc := cX9_sentence) (maxL := 2) (ret := (some .int)) (by decide) rfl ?_
  intro p e s m args below meth c s₁ B hml hv
  obtain ⟨rfl, hsz, hP, hK, hD0, hSD⟩ := hv
  have hx := B.exec
  have hb := B.bytes
  have hr := B.returns
  have hlocks := B.notSynchronized
  have hts : ∀ w ∈ gT, w.before _ s = true := fun w h => atoms_spec (ws := Cond.code yX9_sentence cX9_sentence 2 (some .int) :: gT) B.pre w (List.mem_cons_of_mem _ h)
  have hown : s.vm.findClass RX9 = some m.cls := findClass_of_methodNamed B.named
  subst hsz
  have hD := hD0.self (sz := s.heap.size)
  generalize hAe : va_A w0 s.heap.size = A at hD hSD ⊢
  have hA : ∀ q : Nat, s.heap.size ≤ q → A q := fun q h => by rw [← hAe]; exact Or.inr h
  have hl := lv_entry ([.ref p0]) (n := 2) (Nat.le_of_ble_eq_true rfl)
  rw [lg_entry_eq]
  generalize (lg_sl ([.ref p0]) ++ List.replicate (2 - (lg_sl ([.ref p0])).length) Slot.unset).toArray = ls at hl ⊢
  have hl : lv_has ls 2 [(0, .ref p0)] := hl
  refine nameQ (fun Q hQ => ?_)
  have hw : WD D cy GG A s wr_X9_sentence__3 wa_X9_sentence__3 Ps w0 Ps w0 s.heap [] := ⟨hT, hP, hD, va_S.rf, FR.rf, hT.1, [], (List.append_nil _).symm⟩
  refine va_new (ci := 5) (fs := [.null, .null, .null, .int 0, .int 0]) (C := RX5) (T := TX5) (N := 5) hx hb hts inX5 tyX5 tyX5_ok hown (hts _ tw_945) (hts _ tw_946) (hts _ tw_23) hK hw.2.1 hw.2.2.1 hw.2.2.2.1 hA rfl (dfX5) (Nat.le_of_ble_eq_true rfl) (Nat.le_of_ble_eq_true rfl) dX9_sentence_0 (fun q_1 H hP9 hD9 hS9 => ?_)
  refine lv_dup hx hb dX9_sentence_3 rfl ?_
  refine tkN (va_runIN (As := []) (rest := [.ref q_1]) ⟨hx, hb, hml, hown, hts⟩ (c_Sent_init l D cy z H.size q_1) ⟨va_cnB 0 hts (gC tw_949) rfl rfl rfl (va_Nw.of rfl (hSD.nest (args := #[]) tn_947)) (hts _ tw_23) (by decide +kernel) ⟨Nat.le_of_ble_eq_true rfl, Nat.le_of_ble_eq_true rfl⟩, rfl, hts _ tw_948⟩ (preS hP9 hD9 hK hSD hS9 hA [w0.length] last1 rfl) rfl rfl hl.1 rfl (lv_room (Nat.le_of_ble_eq_true rfl)) dX9_sentence_4 ⟨Nat.le_of_ble_eq_true rfl, Nat.le_of_ble_eq_true rfl⟩) hP9 hD9 hS9 hA (fun u9 H locs hp9 hP9 hD9 hS9 => ?_)
  obtain ⟨u0_1, u1_1, u2_1⟩ := u9
  have hw := WD.app (X := [(q_1, 32), (u0_1, 21), (u1_1, 21), (u2_1, 21)]) (wx := [(q_1, .inr (5, [.ref u0_1, .ref u1_1, .ref u2_1, .int 0, .int 0])), (u0_1, .inl (cy 1, 40, .inl (fun _ => 0))), (u1_1, .inl (cy 1, 40, .inl (fun _ => 0))), (u2_1, .inl (cy 1, 40, .inl (fun _ => 0)))]) hw ⟨⟨rfl, ok_SENT (List.mem_append_right _ (by simp)) (List.mem_append_right _ (by simp)) (List.mem_append_right _ (by simp)) (rl_0.to (by decide)) (rl_0.to (by decide))⟩, ⟨rfl, z_arr (fun _ => 0) (fun j9 _ => (by show ((-2147483648) : Int) ≤ (0 : Int32).toInt ∧ (0 : Int32).toInt ≤ 2147483647; decide)) trivial⟩, ⟨rfl, z_arr (fun _ => 0) (fun j9 _ => (by show ((-2147483648) : Int) ≤ (0 : Int32).toInt ∧ (0 : Int32).toInt ≤ 2147483647; decide)) trivial⟩, ⟨rfl, z_arr (fun _ => 0) (fun j9 _ => (by show ((-2147483648) : Int) ≤ (0 : Int32).toInt ∧ (0 : Int32).toInt ≤ 2147483647; decide)) trivial⟩, trivial⟩ hP9 hD9 hS9
  obtain ⟨Pn, hPn⟩ : ∃ q9 : PSI, q9 = Ps ++ [(q_1, 32), (u0_1, 21), (u1_1, 21), (u2_1, 21)] := ⟨_, rfl⟩
  have hup : ∀ x9 ∈ Ps, x9 ∈ Pn := fun x9 h9 => by rw [hPn]; exact List.mem_append_left _ h9
  obtain ⟨ws, hws⟩ : ∃ q9 : va_W, q9 = w0 ++ [(q_1, .inr (5, [.ref u0_1, .ref u1_1, .ref u2_1, .int 0, .int 0])), (u0_1, .inl (cy 1, 40, .inl (fun _ => 0))), (u1_1, .inl (cy 1, 40, .inl (fun _ => 0))), (u2_1, .inl (cy 1, 40, .inl (fun _ => 0)))] := ⟨_, rfl⟩
  rw [← hPn, ← hws] at hw
  have h_p0 := hup _ h_p0
  have h_q_1 : (q_1, 32) ∈ Pn := by rw [hPn]; exact List.mem_append_right _ (by simp)
  have h_u0_1 : (u0_1, 21) ∈ Pn := by rw [hPn]; exact List.mem_append_right _ (by simp)
  have h_u1_1 : (u1_1, 21) ∈ Pn := by rw [hPn]; exact List.mem_append_right _ (by simp)
  have h_u2_1 : (u2_1, 21) ∈ Pn := by rw [hPn]; exact List.mem_append_right _ (by simp)
  refine W.widen (k := 4) (n := 125) (Nat.le_of_ble_eq_true rfl) (Nat.le_of_ble_eq_true rfl) ?_
  have x_TLX_p0_gh : TLX ws p0 (gh) := by rw [hws]; exact TLX.app x_TLX_p0_gh
  have x_BYX_p0_gdT : BYX Pn ws p0 gdT := by rw [hPn, hws]; exact BYX.app x_BYX_p0_gdT
  have x_WKX_p0 : WKX Pn ws p0 := by rw [hPn, hws]; exact WKX.app x_WKX_p0
  have x_GWX_p0_gdq : GWX ws p0 gdq := by rw [hws]; exact GWX.app x_GWX_p0_gdq
  have x_HE_gdq_gdg_gdo_gdA_gdB_false_false : HE Pn ws gdq gdg gdo gdA gdB false false := by rw [hPn, hws]; exact HE.app x_HE_gdq_gdg_gdo_gdA_gdB_false_false
  have o_n : OV vw_SENT Pn ws q_1 dOS := by rw [hPn, hws]; exact sent_new
  refine lv_astore_n (lv' := [(1, .ref q_1), (0, .ref p0)]) hx hb dX9_sentence_7 rfl hl (by decide) rfl (fun ls hl => ?_)
  refine lv_aload_n hx hb dX9_sentence_8 rfl (lv_at hl 0 rfl) ?_
  refine lv_aload_n hx hb dX9_sentence_9 rfl (lv_at hl 1 rfl) ?_
  refine tg_get (ci := 9) (ts := ty_WP) (C := RX9) (T := TX9) (N := 15) hx hb hts inX9 hown hK hw h_p0 rfl rfl 0 (by decide) (hts _ tw_346) (fun _ h9 => h9) (ft := vR 26) rfl dX9_sentence_10 (fun u_2 hv_u_2 m_u_2 => ?_)
  obtain ⟨vu_2, rfl, h_vu_2⟩ := hv_u_2
  refine lv_aload_n hx hb dX9_sentence_13 rfl (lv_at hl 1 rfl) ?_
  refine tg_get (ci := 9) (ts := ty_WP) (C := RX9) (T := TX9) (N := 15) hx hb hts inX9 hown hK hw h_p0 rfl rfl 1 (by decide) (hts _ tw_347) (fun _ h9 => h9) (ft := vR 24) rfl dX9_sentence_14 (fun u_3 hv_u_3 m_u_3 => ?_)
  obtain ⟨vu_3, rfl, h_vu_3⟩ := hv_u_3
  refine tg_getN (ci := 8) (ts := ty_WORLD) (C := RX8) (T := TX8) (N := 13) hx hb hts inX8 hown hK hw h_vu_3 rfl rfl 0 (by decide) (hSD.nest tn_249) (fun _ h9 => h9) (ft := vR 25) rfl dX9_sentence_17 (fun u_4 hv_u_4 m_u_4 => ?_)
  obtain ⟨vu_4, rfl, h_vu_4⟩ := hv_u_4
  obtain ⟨so, o_t, hCX⟩ := tp_full hw.1 hw.2.2.1 x_TLX_p0_gh x_BYX_p0_gdT x_WKX_p0 m_u_2 h_vu_2
  have o_w : OV vw_POST Pn ws vu_4 gdo := wr_ov hw.2.2.1 (HE.w x_HE_gdq_gdg_gdo_gdA_gdB_false_false) x_GWX_p0_gdq m_u_3 m_u_4
  refine tk_v (va_runV (As := [.ref vu_2, .ref vu_4]) (rest := []) ⟨hx, hb, hml, hown, hts⟩ (c_X5_read__1 l D cy z H.size Pn ws hw.1 q_1 vu_2 vu_4 dOS so gdo h_q_1 h_vu_2 h_vu_4 o_n o_t o_w) (cwV 2 hts (gV tw_968 tw_969 tw_970 tw_23 tw_971) rfl rfl rfl (by decide +kernel) ⟨Nat.le_of_ble_eq_true rfl, Nat.le_of_ble_eq_true rfl⟩) (tg_preV hw hK hSD hA (ci := 5) (q := (RX5, TX5, 5)) rfl h_q_1 rfl) rfl rfl hl.1 rfl (lv_room (Nat.le_of_ble_eq_true rfl)) dX9_sentence_20 ⟨Nat.le_of_ble_eq_true rfl, Nat.le_of_ble_eq_true rfl⟩) hw hA ⟨by decide, by decide⟩ (fun ws H locs hp_v_5 hw hF9 => ?_)
  have m_u_2 := FLD.over hF9 m_u_2 (by decide)
  have m_u_3 := FLD.over hF9 m_u_3 (by decide)
  have m_u_4 := FLD.over hF9 m_u_4 (by decide)
  have x_TLX_p0_gh := TLX.over hF9 x_TLX_p0_gh (by decide)
  have x_BYX_p0_gdT := BYX.over hF9 x_BYX_p0_gdT (by decide)
  have x_WKX_p0 := WKX.over hF9 x_WKX_p0 (by decide)
  have x_GWX_p0_gdq := GWX.over hF9 x_GWX_p0_gdq (by decide)
  have x_HE_gdq_gdg_gdo_gdA_gdB_false_false := HE.over hF9 x_HE_gdq_gdg_gdo_gdA_gdB_false_false (by decide)
  obtain ⟨hfn, hp_v_5⟩ := hp_v_5
  have o_n : OV vw_SENT Pn ws q_1 ((f_X5_read__1 dOS so gdo).1) := hfn.1
  have o_t : OV vw_TAPE Pn ws vu_2 ((f_X5_read__1 dOS so gdo).2.1) := hfn.2.1
  have o_w : OV vw_POST Pn ws vu_4 ((f_X5_read__1 dOS so gdo).2.2) := hfn.2.2.1
  obtain ⟨fv, e_fv⟩ : ∃ q9 : Int32, (((f_X5_read__1 dOS so gdo).2.1)).1 10 = q9 := ⟨_, rfl⟩
  have m_fv : FLD ws vu_2 7 10 (.int fv) := by rw [← e_fv]; exact o_t.1 10 (by decide)
  obtain ⟨pv, e_pv⟩ : ∃ q9 : Int32, (((f_X5_read__1 dOS so gdo).2.1)).1 11 = q9 := ⟨_, rfl⟩
  have m_pv : FLD ws vu_2 7 11 (.int pv) := by rw [← e_pv]; exact o_t.1 11 (by decide)
  obtain ⟨on, e_on⟩ : ∃ q9 : Int32, (((f_X5_read__1 dOS so gdo).1)).1 4 = q9 := ⟨_, rfl⟩
  have m_on : FLD ws q_1 5 4 (.int on) := by rw [← e_on]; exact o_n.1 4 (by decide)
  have hSA : (fv = 0 → on = SSA gdT gh gdR gdN) ∧ (¬ fv = 0 → -1 - pv = SSA gdT gh gdR gdN) := by
    have h9 := SS_ (sread_ (s0 := dOS) hCX x_PDF_gdo_gdR_gdN.1 rfl)
    rw [e_fv, e_pv, e_on] at h9
    exact h9
  have r_fv : RI fv 0 4 := by
    obtain ⟨v9, a9, b9⟩ := ht_fld (k := 10) (ci := 7) (ts := ty_TAPE) (lo := 0) (hi := 4) hw.1 h_vu_2 rfl rfl
    cases FLD.inj hw.2.2.1 a9 m_fv
    exact b9
  have r_pv := ri_any pv
  have r_on := ri_any on
  refine lv_aload_n hx hb dX9_sentence_23 rfl (lv_at hl 1 rfl) ?_
  refine tk_v (va_runV (As := []) (rest := []) ⟨hx, hb, hml, hown, hts⟩ (c_X9_noteFault__2 l D cy z H.size Pn ws hw.1 p0 h_p0) (cwV 0 hts (gV tw_517 tw_519 ts_9 tw_1 tw_520) rfl rfl rfl (by decide +kernel) ⟨Nat.le_of_ble_eq_true rfl, Nat.le_of_ble_eq_true rfl⟩) (tg_preV hw hK hSD hA (ci := 9) (q := (RX9, TX9, 15)) rfl h_p0 rfl) rfl rfl hl.1 rfl (lv_room (Nat.le_of_ble_eq_true rfl)) dX9_sentence_24 ⟨Nat.le_of_ble_eq_true rfl, Nat.le_of_ble_eq_true rfl⟩) hw hA ⟨by decide, by decide⟩ (fun ws H locs hp_v_6 hw hF9 => ?_)
  have m_u_2 := FLD.over hF9 m_u_2 (by decide)
  have m_u_3 := FLD.over hF9 m_u_3 (by decide)
  have m_u_4 := FLD.over hF9 m_u_4 (by decide)
  have m_fv := FLD.over hF9 m_fv (by decide)
  have m_pv := FLD.over hF9 m_pv (by decide)
  have m_on := FLD.over hF9 m_on (by decide)
  have x_BYX_p0_gdT := BYX.over hF9 x_BYX_p0_gdT (by decide)
  have x_WKX_p0 := WKX.over hF9 x_WKX_p0 (by decide)
  have x_GWX_p0_gdq := GWX.over hF9 x_GWX_p0_gdq (by decide)
  have x_HE_gdq_gdg_gdo_gdA_gdB_false_false := HE.over hF9 x_HE_gdq_gdg_gdo_gdA_gdB_false_false (by decide)
  have x_EQF_p0 := (hp_v_6.1)
  have x_TLX_p0_0 := (hp_v_6.2.1)
  have m_lf : FLD ws p0 9 11 (.int fv) := EQF.lf hw.2.2.1 x_EQF_p0 m_u_2 m_fv
  have e9_ : FAU (sSent gdT (Int.toNat gh) 200 gdR gdN) = fv := (FS_ (sread_ (s0 := dOS) hCX x_PDF_gdo_gdR_gdN.1 rfl)).symm.trans e_fv
  have x_LFS_p0_gdT_gh_gdR_gdN : FLD ws p0 9 11 (.int (FAU (sSent gdT (Int.toNat gh) 200 gdR gdN))) := by rw [e9_]; exact m_lf
  refine lv_aload_n hx hb dX9_sentence_27 rfl (lv_at hl 1 rfl) ?_
  refine tg_mem (ci := 9) (C := RX9) (T := TX9) (N := 15) hx hb hts inX9 hown hK hw 11 m_lf rfl (by decide) (hts _ tw_357) (fun _ h9 => h9) dX9_sentence_28 ?_
  refine lv_if_eq (tgt := 44) hx hb dX9_sentence_31 (by decide) (fun c_31 => ?_) (fun c_31 => ?_)
  · have r_fv : RI fv 0 0 := rc_eq1 r_fv rl_0 (ti_eq c_31) (by decide)
    refine lv_aload_n hx hb dX9_sentence_44 rfl (lv_at hl 1 rfl) ?_
    refine lv_aload_n hx hb dX9_sentence_45 rfl (lv_at hl 0 rfl) ?_
    refine tg_put (ci := 9) (ts := ty_WP) (v := .ref q_1) (ty := .object "WonderParcels$Sentence") (C := RX9) (T := TX9) (N := 15) hx hb hts inX9 tyX9 tyX9_ok nmX9 hown hK hw h_p0 rfl rfl 5 (by decide) (hts _ tw_351) (fun _ h9 => h9) rfl (by decide +kernel) rfl rfl (ft := vN 32) rfl (Or.inr ⟨_, rfl, h_q_1⟩) (by decide) dX9_sentence_46 (fun ws H locs hw n_k_7 hF9 => ?_)
    have m_u_2 := FLD.over hF9 m_u_2 (by decide)
    have m_u_3 := FLD.over hF9 m_u_3 (by decide)
    have m_u_4 := FLD.over hF9 m_u_4 (by decide)
    have m_fv := FLD.over hF9 m_fv (by decide)
    have m_pv := FLD.over hF9 m_pv (by decide)
    have m_on := FLD.over hF9 m_on (by decide)
    have m_lf := FLD.over hF9 m_lf (by decide)
    have x_BYX_p0_gdT := BYX.over hF9 x_BYX_p0_gdT (by decide)
    have x_WKX_p0 := WKX.over hF9 x_WKX_p0 (by decide)
    have x_GWX_p0_gdq := GWX.over hF9 x_GWX_p0_gdq (by decide)
    have x_HE_gdq_gdg_gdo_gdA_gdB_false_false := HE.over hF9 x_HE_gdq_gdg_gdo_gdA_gdB_false_false (by decide)
    have x_EQF_p0 := EQF.over hF9 x_EQF_p0 (by decide)
    have x_TLX_p0_0 := TLX.over hF9 x_TLX_p0_0 (by decide)
    have x_LFS_p0_gdT_gh_gdR_gdN := FLD.over hF9 x_LFS_p0_gdT_gh_gdR_gdN (by decide)
    refine lv_aload_n hx hb dX9_sentence_49 rfl (lv_at hl 0 rfl) ?_
    refine tg_memN (ci := 5) (C := RX5) (T := TX5) (N := 5) hx hb hts inX5 hown hK hw 4 m_on rfl (by decide) (hSD.nest tn_956) (fun _ h9 => h9) dX9_sentence_50 ?_
    subst hQ
    exact W.iret (v := on) hx hb hr (fun t ht hW => ⟨⟨on, (Pn, ws), rfl, ⟨⟨r_on.to (by decide), (fun h0 => trivial), (fun h0 => trivial), ⟨x_TLX_p0_0, (hSA.1 c_31), x_LFS_p0_gdT_gh_gdR_gdN, trivial⟩, (fun _ => trivial), (fun _ => trivial)⟩, hw.2.2.2.2.2.2, hw.1, hw.2.2.2.2.1⟩, by rw [ht]; exact hw.2.1, va_K.moved hW.alike hK, hw.2.2.1⟩, hw.2.2.2.1.F ht⟩) hw.2.2.2.1.2.2 dX9_sentence_53
  · have r_fv : RI fv 1 4 := rc_neL r_fv rl_0 (ti_ne c_31) (by decide)
    refine lv_iconst (v := (-1)) hx hb dX9_sentence_34 (by decide) ?_
    refine lv_aload_n hx hb dX9_sentence_35 rfl (lv_at hl 1 rfl) ?_
    refine tg_mem (ci := 9) (C := RX9) (T := TX9) (N := 15) hx hb hts inX9 hown hK hw 0 m_u_2 rfl (by decide) (hts _ tw_346) (fun _ h9 => h9) dX9_sentence_36 ?_
    refine tg_memN (ci := 7) (C := RX7) (T := TX7) (N := 12) hx hb hts inX7 hown hK hw 11 m_pv rfl (by decide) (hSD.nest tn_107) (fun _ h9 => h9) dX9_sentence_39 ?_
    refine lv_isub hx hb dX9_sentence_42 (lv_topi (fun v_8 e_v_8 => ?_))
    obtain ⟨t_v_8, r_v_8⟩ := tq_sub (lo := (-2147483648)) (hi := 2147483647) rl_m1 r_pv (by decide +kernel) e_v_8
    have t_v_8 : v_8.toInt = (-1) - pv.toInt := t_v_8
    subst hQ
    exact W.iret (v := v_8) hx hb hr (fun t ht hW => ⟨⟨v_8, (Pn, ws), rfl, ⟨⟨r_v_8.to (by decide), (fun h0 => trivial), (fun h0 => trivial), ⟨x_TLX_p0_0, (e_v_8.trans (hSA.2 c_31)), x_LFS_p0_gdT_gh_gdR_gdN, trivial⟩, (fun _ => trivial), (fun _ => trivial)⟩, hw.2.2.2.2.2.2, hw.1, hw.2.2.2.2.1⟩, by rw [ht]; exact hw.2.1, va_K.moved hW.alike hK, hw.2.2.1⟩, hw.2.2.2.1.F ht⟩) hw.2.2.2.1.2.2 dX9_sentence_43
set_option maxHeartbeats 4000000 in
set_option maxRecDepth 100000 in
theorem c_X10_post__4_p5 (l : Launch) (D : va_G) (cy : Nat → ClassId) (z : Nat → Nat) (sz : Nat) (Ps : PSI) (w0 : va_W) (hT : HT cy GG Ps w0) (p0 : Nat) (gh : Int) (gdT : Nat → Nat) (gdR : Nat → Int32) (gdL : Nat → Int64) (h_p0 : (p0, 55) ∈ Ps) (x_TLM_p0_gh : TLM w0 p0 (gh)) (x_BYM_p0_gdT : BYM Ps w0 p0 gdT) (x_HD_p0_gdR : AX 14 34 (HDp gdR) Ps w0 p0) (x_NAM_p0_gdL : AXL 20 41 (NMp gdL) Ps w0 p0) : Met l yX10_post (Cond.code yX10_post cX10_post 3 (some .int) :: gT) ({ frames := 9, cells := 0, slots := 0, locals := 1800 } : Room) (va_Pc [.ref p0] (PRE D cy z w0 sz)) (va_Qi (fun (r : Int32) (u : va_W) => (RI r (-2147483648) 2147483647 ∧ (r = 0 → True) ∧ (¬ r = 0 → True) ∧ (TLM u p0 (0) ∧ (r = PAN gdT gh) ∧ PXM3 Ps u p0 gdR gdL gdT gh ∧ FLD u p0 10 10 (.int (FAU (SP gdT gh))) ∧ True) ∧ (r.toInt < 0 → True) ∧ (0 ≤ r.toInt → True)) ∧ HT cy GG Ps u ∧ FR wr_X10_post__4 wa_X10_post__4 Ps w0 u) (BB D cy (va_A w0 sz) (fun (u : va_W) => u)) (va_A w0 sz)) 0 0 (va_A w0 sz) := by
  refine Met.ofP (φ := ∃ o, OV vw_MODEL Ps w0 p0 o ∧ RXT o gdT gh.toNat) (fun a st hv => ?_) (fun hφ => ?_)
  · obtain ⟨-, -, -, -, hD0, -⟩ := hv
    exact md_full hT hD0 x_TLM_p0_gh x_BYM_p0_gdT h_p0
  · obtain ⟨s0, o_p0, hφ⟩ := hφ
    refine Met.monoQ (c_X10_post__4 l D cy z sz Ps w0 hT p0 gdR gdL s0 h_p0 x_HD_p0_gdR x_NAM_p0_gdL o_p0) (fun a st oc t hq => ?_)
    obtain ⟨⟨r, u, e1, ⟨⟨hC9, hD9, hA9, hB9, hfn, hp⟩, hT1, hF1⟩, hB⟩, hF⟩ := hq
    exact ⟨⟨r, u, e1, ⟨⟨hp.1, fun _ => trivial, fun _ => trivial, ⟨hp.2.2.2.1.1, hfn.2.1.symm.trans (po_ hφ).1, pxm3_ hB.2.2 (po_ hφ) (po3_ hφ) hfn.1 hA9 hB9 hC9 hD9, (by have z9 := hfn.1.1 10 (by decide); rw [fp_ hφ] at z9; exact z9), trivial⟩, fun _ => trivial, fun _ => trivial⟩, hT1, hF1⟩, hB⟩, hF⟩
set_option maxHeartbeats 4000000 in
set_option maxRecDepth 100000 in
theorem c_X10_sentence__4_s5 (l : Launch) (D : va_G) (cy : Nat → ClassId) (z : Nat → Nat) (sz : Nat) (Ps : PSI) (w0 : va_W) (hT : HT cy GG Ps w0) (p0 : Nat) (gh : Int) (gdT : Nat → Nat) (gdR : Nat → Int32) (gdN : Nat → Nat) (gdL : Nat → Int64) (h_p0 : (p0, 55) ∈ Ps) (x_TLM_p0_gh : TLM w0 p0 (gh)) (x_BYM_p0_gdT : BYM Ps w0 p0 gdT) (x_HD_p0_gdR : AX 14 34 (HDp gdR) Ps w0 p0) (x_NAM_p0_gdL : AXL 20 41 (NMp gdL) Ps w0 p0) (x_NLP_gdR_gdN_gdL : (NLC gdR gdN gdL)) : Met l yX10_sentence (Cond.code yX10_sentence cX10_sentence 2 (some .int) :: gT) ({ frames := 39, cells := 0, slots := 0, locals := 7800 } : Room) (va_Pc [.ref p0] (PRE D cy z w0 sz)) (va_Qi (fun (r : Int32) (u : va_W) => (RI r (-2147483648) 2147483647 ∧ (r = 0 → True) ∧ (¬ r = 0 → True) ∧ (TLM u p0 (0) ∧ AX 14 34 (HDp gdR) Ps u p0 ∧ (r = SSA gdT gh gdR gdN) ∧ FLD u p0 10 10 (.int (FAU (sSent gdT (Int.toNat gh) 200 gdR gdN))) ∧ True) ∧ (r.toInt < 0 → True) ∧ (0 ≤ r.toInt → True)) ∧ HT cy GG Ps u ∧ FR wr_X10_sentence__4 wa_X10_sentence__4 Ps w0 u) (BB D cy (va_A w0 sz) (fun (u : va_W) => u)) (va_A w0 sz)) 0 0 (va_A w0 sz) := by
  refine Met.ofP (φ := ∃ o, OV vw_M2 Ps w0 p0 o ∧ RXT o gdT gh.toNat ∧ SNM o gdR gdN) (fun a st hv => ?_) (fun hφ => ?_)
  · obtain ⟨-, -, -, -, hD0, -⟩ := hv
    exact md_full2 hT hD0 x_TLM_p0_gh x_BYM_p0_gdT x_HD_p0_gdR x_NAM_p0_gdL x_NLP_gdR_gdN_gdL h_p0
  · obtain ⟨s0, o_p0, hφ⟩ := hφ
    refine Met.monoQ (c_X10_sentence__4 l D cy z sz Ps w0 hT p0 gdR s0 h_p0 x_HD_p0_gdR o_p0) (fun a st oc t hq => ?_)
    obtain ⟨⟨r, u, e1, ⟨⟨hH9, hfn, hp⟩, hT1, hF1⟩, hB⟩, hF⟩ := hq
    exact ⟨⟨r, u, e1, ⟨⟨hp.1, fun _ => trivial, fun _ => trivial, ⟨hp.2.2.2.1.1, hH9, hfn.2.1.symm.trans (rsent_ hφ.1 hφ.2), (by have z9 := hfn.1.1 10 (by decide); rw [fsent_ hφ.1 hφ.2] at z9; exact z9), trivial⟩, fun _ => trivial, fun _ => trivial⟩, hT1, hF1⟩, hB⟩, hF⟩
set_option maxHeartbeats 4000000 in
set_option maxRecDepth 100000 in
theorem c_X10_readBookLine__1_s5 (l : Launch) (D : va_G) (cy : Nat → ClassId) (z : Nat → Nat) (sz : Nat) (Ps : PSI) (w0 : va_W) (hT : HT cy GG Ps w0) (p0 : Nat) (gh : Int) (gdT : Nat → Nat) (gdR : Nat → Int32) (gdN : Nat → Nat) (h_p0 : (p0, 55) ∈ Ps) (x_LNS_p0 : LNS Ps w0 p0) (x_BKN_p0_gdT_gh_gdR_gdN : BKN Ps w0 p0 gdT gh gdR gdN) : Met l yX10_readBookLine (Cond.code yX10_readBookLine cX10_readBookLine 6 (some .boolean) :: gT) ({ frames := 7, cells := 0, slots := 0, locals := 1400 } : Room) (va_Pc [.ref p0] (PRE D cy z w0 sz)) (va_Qi (fun (r : Int32) (u : va_W) => (RI r 0 1 ∧ (r = 0 → FLD u p0 10 10 (.int (FAU (SBK gdT gh gdR gdN))) ∧ True) ∧ (¬ r = 0 → (∃ v9 : Int32, FLD u p0 10 42 (.int v9) ∧ RI v9 0 39) ∧ LNG Ps u p0 ∧ BKT Ps u p0 gdT gh gdR gdN ∧ True)) ∧ HT cy GG Ps u ∧ FR wr_X10_readBookLine__1 wa_X10_readBookLine__1 Ps w0 u) (BB D cy (va_A w0 sz) (fun (u : va_W) => u)) (va_A w0 sz)) 0 0 (va_A w0 sz) := by
  refine Met.ofP (φ := ∃ o, OV vw_M5 Ps w0 p0 o ∧ ¬ o.1 7 = 0 ∧ BKQ o gdT gh gdR gdN 0) (fun a st hv => ?_) (fun hφ => ?_)
  · obtain ⟨-, -, -, -, hD0, -⟩ := hv
    exact x_BKN_p0_gdT_gh_gdR_gdN
  · obtain ⟨s0, o_p0, hφ⟩ := hφ
    refine Met.monoQ (c_X10_readBookLine__1 l D cy z sz Ps w0 hT p0 s0 h_p0 x_LNS_p0 o_p0) (fun a st oc t hq => ?_)
    obtain ⟨⟨r, u, e1, ⟨⟨hfn, hp⟩, hT1, hF1⟩, hB⟩, hF⟩ := hq
    have hR9 := bkr_ hφ.1 hφ.2 rfl hfn.1 hfn.2.1
    exact ⟨⟨r, u, e1, ⟨⟨hp.1, fun e9 => ⟨hR9.1 e9, trivial⟩, fun e9 => ⟨(hp.2.2 e9).1, (hp.2.2 e9).2.1, hR9.2 e9, trivial⟩⟩, hT1, hF1⟩, hB⟩, hF⟩
abbrev wr_X10_isIn__22 : List (Nat × Nat) := []
abbrev wa_X10_isIn__22 : List Nat := []
set_option maxHeartbeats 4000000 in
set_option maxRecDepth 100000 in
theorem c_X10_isIn__22 (l : Launch) (D : va_G) (cy : Nat → ClassId) (z : Nat → Nat) (sz : Nat) (Ps : PSI) (w0 : va_W) (hT : HT cy GG Ps w0) (p0 : Int32) (p1 : Int32) (p2 : Int32) (r_p0 : RI p0 (-2147483648) 2147483647) (r_p1 : RI p1 0 0) (r_p2 : RI p2 1 1) : Met l yX10_isIn (Cond.code yX10_isIn cX10_isIn 3 (some .boolean) :: gT) ({ frames := 0, cells := 0, slots := 0, locals := 200 } : Room) (va_Pc [.int p0, .int p1, .int p2] (PRE D cy z w0 sz)) (va_Qi (fun (r : Int32) (u : Unit) => ((f_X10_isIn__14 p0 p1 p2) = r ∧ True) ∧ (RI r 0 1 ∧ (r = 0 → ¬ (0 ≤ Int32.toInt p0 ∧ Int32.toInt p0 ≤ 1) ∧ True) ∧ (¬ r = 0 → RI p0 0 1 ∧ (0 ≤ Int32.toInt p0 ∧ Int32.toInt p0 ≤ 1) ∧ True))) (BB D cy (va_A w0 sz) (fun (u : Unit) => w0)) (va_A w0 sz)) 0 0 (va_A w0 sz) := by
  refine Met.ofW (cc := cX10_isIn) (maxL := 3) (ret := (some .boolean)) (by decide) rfl ?_
  intro p e s m args below meth c s₁ B hml hv
  obtain ⟨rfl, hsz, hP, hK, hD0, hSD⟩ := hv
  have hx := B.exec
  have hb := B.bytes
  have hr := B.returns
  have hlocks := B.notSynchronized
  have hts : ∀ w ∈ gT, w.before _ s = true := fun w h => atoms_spec (ws := Cond.code yX10_isIn cX10_isIn 3 (some .boolean) :: gT) B.pre w (List.mem_cons_of_mem _ h)
  have hown : s.vm.findClass RX10 = some m.cls := findClass_of_methodNamed B.named
  subst hsz
  have hD := hD0.self (sz := s.heap.size)
  generalize hAe : va_A w0 s.heap.size = A at hD hSD ⊢
  have hA : ∀ q : Nat, s.heap.size ≤ q → A q := fun q h => by rw [← hAe]; exact Or.inr h
  have hl := lv_entry ([.int p0, .int p1, .int p2]) (n := 3) (Nat.le_of_ble_eq_true rfl)
  rw [lg_entry_eq]
  generalize (lg_sl ([.int p0, .int p1, .int p2]) ++ List.replicate (3 - (lg_sl ([.int p0, .int p1, .int p2])).length) Slot.unset).toArray = ls at hl ⊢
  have hl : lv_has ls 3 [(0, .int p0), (1, .int p1), (2, .int p2)] := hl
  refine nameQ (fun Q hQ => ?_)
  have hw : WD D cy GG A s wr_X10_isIn__22 wa_X10_isIn__22 Ps w0 Ps w0 s.heap [] := ⟨hT, hP, hD, va_S.rf, FR.rf, hT.1, [], (List.append_nil _).symm⟩
  obtain ⟨R9, hR⟩ : ∃ q9 : Int32, f_X10_isIn__14 p0 p1 p2 = q9 := ⟨_, rfl⟩
  have hE := hR
  refine lv_iload_n hx hb dX10_isIn_0 rfl (lv_at hl 0 rfl) ?_
  refine lv_iload_n hx hb dX10_isIn_1 rfl (lv_at hl 1 rfl) ?_
  refine lv_icmp_lt (tgt := 14) hx hb dX10_isIn_2 (by decide) (fun c_2 => ?_) (fun c_2 => ?_)
  · have r_p0 : RI p0 (-2147483648) (-1) := rc_lt1 r_p0 r_p1 (ti_lt c_2) (by decide)
    have x_IMG0_p0 : ¬ (0 ≤ Int32.toInt p0 ∧ Int32.toInt p0 ≤ 1) := by have k1 := r_p0.1; have k2 := r_p0.2; omega
    refine lv_iconst (v := 0) hx hb dX10_isIn_14 (by decide) ?_
    simp only [f_X10_isIn__14, ↓reduceIte, eq_true c_2] at hE
    subst hQ
    exact W.zret (v := 0) hx hb hr (rfl) (fun t ht hW => ⟨⟨0, (), rfl, ⟨⟨(by rw [hR, ← hE]), trivial⟩, rl_0.to (by decide), (fun h0 => ⟨x_IMG0_p0, trivial⟩), (fun h0 => absurd rfl h0)⟩, by rw [ht]; exact hw.2.1, va_K.moved hW.alike hK, hw.2.2.1⟩, hw.2.2.2.1.F ht⟩) hw.2.2.2.1.2.2 dX10_isIn_15
  · have r_p0 : RI p0 0 2147483647 := rc_le2 r_p1 r_p0 (ti_nlt c_2) (by decide)
    refine lv_iload_n hx hb dX10_isIn_5 rfl (lv_at hl 0 rfl) ?_
    refine lv_iload_n hx hb dX10_isIn_6 rfl (lv_at hl 2 rfl) ?_
    refine lv_icmp_gt (tgt := 14) hx hb dX10_isIn_7 (by decide) (fun c_7 => ?_) (fun c_7 => ?_)
    · have r_p0 : RI p0 2 2147483647 := rc_lt2 r_p2 r_p0 (ti_lt c_7) (by decide)
      have x_IMG0_p0 : ¬ (0 ≤ Int32.toInt p0 ∧ Int32.toInt p0 ≤ 1) := by have k1 := r_p0.1; have k2 := r_p0.2; omega
      refine lv_iconst (v := 0) hx hb dX10_isIn_14 (by decide) ?_
      simp only [f_X10_isIn__14, ↓reduceIte, eq_false c_2, eq_true c_7] at hE
      subst hQ
      exact W.zret (v := 0) hx hb hr (rfl) (fun t ht hW => ⟨⟨0, (), rfl, ⟨⟨(by rw [hR, ← hE]), trivial⟩, rl_0.to (by decide), (fun h0 => ⟨x_IMG0_p0, trivial⟩), (fun h0 => absurd rfl h0)⟩, by rw [ht]; exact hw.2.1, va_K.moved hW.alike hK, hw.2.2.1⟩, hw.2.2.2.1.F ht⟩) hw.2.2.2.1.2.2 dX10_isIn_15
    · have r_p0 : RI p0 0 1 := rc_le1 r_p0 r_p2 (ti_nlt c_7) (by decide)
      have x_IMG1_p0 : (0 ≤ Int32.toInt p0 ∧ Int32.toInt p0 ≤ 1) := by have k1 := r_p0.1; have k2 := r_p0.2; omega
      refine lv_iconst (v := 1) hx hb dX10_isIn_10 (by decide) ?_
      refine lv_goto (tgt := 15) hx hb dX10_isIn_11 (by decide) ?_
      simp only [f_X10_isIn__14, ↓reduceIte, eq_false c_2, eq_false c_7] at hE
      subst hQ
      exact W.zret (v := 1) hx hb hr (rfl) (fun t ht hW => ⟨⟨1, (), rfl, ⟨⟨(by rw [hR, ← hE]), trivial⟩, rl_1.to (by decide), (fun h0 => absurd h0 (by decide)), (fun h0 => ⟨r_p0, x_IMG1_p0, trivial⟩)⟩, by rw [ht]; exact hw.2.1, va_K.moved hW.alike hK, hw.2.2.1⟩, hw.2.2.2.1.F ht⟩) hw.2.2.2.1.2.2 dX10_isIn_15
abbrev wr_X10_begin__11 : List (Nat × Nat) := [(10, 0), (10, 2), (10, 3), (10, 4), (10, 5), (10, 6), (10, 7), (10, 8), (10, 9), (10, 10), (10, 12)]
abbrev wa_X10_begin__11 : List Nat := []
set_option maxHeartbeats 4000000 in
set_option maxRecDepth 100000 in
theorem c_X10_begin__11 (l : Launch) (D : va_G) (cy : Nat → ClassId) (z : Nat → Nat) (sz : Nat) (Ps : PSI) (w0 : va_W) (hT : HT cy GG Ps w0) (p0 : Nat) (p1 : Int32) (s0 : OS) (h_p0 : (p0, 55) ∈ Ps) (r_p1 : RI p1 400 400) (o_p0 : OV vw_M5 Ps w0 p0 s0) : Met l yX10_begin (Cond.code yX10_begin cX10_begin 2 none :: gT) ({ frames := 3, cells := 0, slots := 0, locals := 600 } : Room) (va_Pc [.ref p0, .int p1] (PRE D cy z w0 sz)) (va_Qv (fun (u : va_W) => ((OV vw_M5 Ps u p0 ((f_X10_begin__4 p1 s0)) ∧ True) ∧ ((∃ v9 : Int32, FLD u p0 10 2 (.int v9) ∧ RI v9 0 0) ∧ TLM u p0 (0) ∧ True)) ∧ HT cy GG Ps u ∧ FR wr_X10_begin__11 wa_X10_begin__11 Ps w0 u) (BB D cy (va_A w0 sz) (fun (u : va_W) => u)) (va_A w0 sz)) 0 0 (va_A w0 sz) := by
  refine Met.ofW (cc := cX10_begin) (maxL := 2) (ret := none) (by decide) rfl ?_
  intro p e s m args below meth c s₁ B hml hv
  obtain ⟨rfl, hsz, hP, hK, hD0, hSD⟩ := hv
  have hx := B.exec
  have hb := B.bytes
  have hr := B.returns
  have hlocks := B.notSynchronized
  have hts : ∀ w ∈ gT, w.before _ s = true := fun w h => atoms_spec (ws := Cond.code yX10_begin cX10_begin 2 none :: gT) B.pre w (List.mem_cons_of_mem _ h)
  have hown : s.vm.findClass RX10 = some m.cls := findClass_of_methodNamed B.named
  subst hsz
  have hD := hD0.self (sz := s.heap.size)
  generalize hAe : va_A w0 s.heap.size = A at hD hSD ⊢
  have hA : ∀ q : Nat, s.heap.size ≤ q → A q := fun q h => by rw [← hAe]; exact Or.inr h
  have hl := lv_entry ([.ref p0, .int p1]) (n := 2) (Nat.le_of_ble_eq_true rfl)
  rw [lg_entry_eq]
  generalize (lg_sl ([.ref p0, .int p1]) ++ List.replicate (2 - (lg_sl ([.ref p0, .int p1])).length) Slot.unset).toArray = ls at hl ⊢
  have hl : lv_has ls 2 [(0, .ref p0), (1, .int p1)] := hl
  refine nameQ (fun Q hQ => ?_)
  have hw : WD D cy GG A s wr_X10_begin__11 wa_X10_begin__11 Ps w0 Ps w0 s.heap [] := ⟨hT, hP, hD, va_S.rf, FR.rf, hT.1, [], (List.append_nil _).symm⟩
  obtain ⟨R9, hR⟩ : ∃ q9 : OS, f_X10_begin__4 p1 s0 = q9 := ⟨_, rfl⟩
  have hE := hR
  refine lv_aload_n hx hb dX10_begin_0 rfl (lv_at hl 0 rfl) ?_
  refine lv_iconst (v := 0) hx hb dX10_begin_1 (by decide) ?_
  refine tg_put (ci := 10) (ts := ty_MODEL) (v := .int 0) (ty := .int) (C := RX10) (T := TX10) (N := 49) hx hb hts inX10 tyX10 tyX10_ok nmX10 hown hK hw h_p0 rfl rfl 0 (by decide) (hts _ tw_1137) (fun _ h9 => h9) rfl (by decide +kernel) rfl rfl (ft := vI (-2147483648) 2147483647) rfl ⟨_, rfl, (rl_0.to (by decide))⟩ (by decide) dX10_begin_2 (fun ws H locs hw n_k_1 hF9 => ?_)
  obtain ⟨sg_2, q_sg_2⟩ : ∃ q9 : OS, sI s0 0 (0 : Int32) = q9 := ⟨_, rfl⟩
  have o_p0 : OV vw_M5 Ps ws p0 sg_2 := by rw [← q_sg_2]; exact OV.putI (V := vw_M5) hF9 n_k_1 o_p0 (by decide)
  refine lv_aload_n hx hb dX10_begin_5 rfl (lv_at hl 0 rfl) ?_
  refine lv_aload_n hx hb dX10_begin_6 rfl (lv_at hl 0 rfl) ?_
  refine tk_i (va_runV (As := []) (rest := [.ref p0]) ⟨hx, hb, hml, hown, hts⟩ (c_X10_take__5 l D cy z H.size Ps ws hw.1 p0 sg_2 h_p0 o_p0) (cwV 0 hts (gV tw_1294 tw_1296 ts_39 tw_15 tw_1297) rfl rfl rfl (by decide +kernel) ⟨Nat.le_of_ble_eq_true rfl, Nat.le_of_ble_eq_true rfl⟩) (tg_preV hw hK hSD hA (ci := 10) (q := (RX10, TX10, 49)) rfl h_p0 rfl) rfl rfl hl.1 rfl (lv_room (Nat.le_of_ble_eq_true rfl)) dX10_begin_7 ⟨Nat.le_of_ble_eq_true rfl, Nat.le_of_ble_eq_true rfl⟩) hw hA ⟨by decide, by decide⟩ (fun v_3 ws H locs hp_v_3 hw hF9 => ?_)
  have n_k_1 := FLD.over hF9 n_k_1 (by decide)
  obtain ⟨hfn, hp_v_3⟩ := hp_v_3
  obtain ⟨sg_4, q_sg_4⟩ : ∃ q9 : OS, (f_X10_take__1 sg_2).1 = q9 := ⟨_, rfl⟩
  have o_p0 : OV vw_M5 Ps ws p0 sg_4 := by rw [← q_sg_4]; exact hfn.1
  have q_v_3 : (f_X10_take__1 sg_2).2 = v_3 := hfn.2.1
  have r_v_3 : RI v_3 0 940 := hp_v_3.1
  by_cases c9_v_3 : v_3 = 0
  · have r_v_3 : RI v_3 0 0 := by rw [c9_v_3]; exact rl_0
    obtain ⟨v_5, m_v_5, r_v_5⟩ := ((hp_v_3.2.1 c9_v_3).1)
    have x_TLM_p0_0 := ((hp_v_3.2.1 c9_v_3).2.1)
    refine tg_put (ci := 10) (ts := ty_MODEL) (v := .int v_3) (ty := .int) (C := RX10) (T := TX10) (N := 49) hx hb hts inX10 tyX10 tyX10_ok nmX10 hown hK hw h_p0 rfl rfl 3 (by decide) (hts _ tw_1140) (fun _ h9 => h9) rfl (by decide +kernel) rfl rfl (ft := vI 0 940) rfl ⟨_, rfl, (r_v_3.to (by decide))⟩ (by decide) dX10_begin_10 (fun ws H locs hw n_k_6 hF9 => ?_)
    have n_k_1 := FLD.over hF9 n_k_1 (by decide)
    have m_v_5 := FLD.over hF9 m_v_5 (by decide)
    have x_TLM_p0_0 := TLM.over hF9 x_TLM_p0_0 (by decide)
    obtain ⟨sg_7, q_sg_7⟩ : ∃ q9 : OS, sI sg_4 3 v_3 = q9 := ⟨_, rfl⟩
    have o_p0 : OV vw_M5 Ps ws p0 sg_7 := by rw [← q_sg_7]; exact OV.putI (V := vw_M5) hF9 n_k_6 o_p0 (by decide)
    refine lv_aload_n hx hb dX10_begin_13 rfl (lv_at hl 0 rfl) ?_
    refine lv_iload_n hx hb dX10_begin_14 rfl (lv_at hl 1 rfl) ?_
    refine tg_put (ci := 10) (ts := ty_MODEL) (v := .int p1) (ty := .int) (C := RX10) (T := TX10) (N := 49) hx hb hts inX10 tyX10 tyX10_ok nmX10 hown hK hw h_p0 rfl rfl 4 (by decide) (hts _ tw_1141) (fun _ h9 => h9) rfl (by decide +kernel) rfl rfl (ft := vI (-2147483648) 2147483647) rfl ⟨_, rfl, (r_p1.to (by decide))⟩ (by decide) dX10_begin_15 (fun ws H locs hw n_k_8 hF9 => ?_)
    have n_k_1 := FLD.over hF9 n_k_1 (by decide)
    have m_v_5 := FLD.over hF9 m_v_5 (by decide)
    have n_k_6 := FLD.over hF9 n_k_6 (by decide)
    have x_TLM_p0_0 := TLM.over hF9 x_TLM_p0_0 (by decide)
    obtain ⟨sg_9, q_sg_9⟩ : ∃ q9 : OS, sI sg_7 4 p1 = q9 := ⟨_, rfl⟩
    have o_p0 : OV vw_M5 Ps ws p0 sg_9 := by rw [← q_sg_9]; exact OV.putI (V := vw_M5) hF9 n_k_8 o_p0 (by decide)
    refine lv_aload_n hx hb dX10_begin_18 rfl (lv_at hl 0 rfl) ?_
    refine lv_iconst (v := 0) hx hb dX10_begin_19 (by decide) ?_
    refine tg_put (ci := 10) (ts := ty_MODEL) (v := .int 0) (ty := .int) (C := RX10) (T := TX10) (N := 49) hx hb hts inX10 tyX10 tyX10_ok nmX10 hown hK hw h_p0 rfl rfl 10 (by decide) (hts _ tw_1147) (fun _ h9 => h9) rfl (by decide +kernel) rfl rfl (ft := vI (-2147483648) 2147483647) rfl ⟨_, rfl, (rl_0.to (by decide))⟩ (by decide) dX10_begin_20 (fun ws H locs hw n_k_10 hF9 => ?_)
    have n_k_1 := FLD.over hF9 n_k_1 (by decide)
    have m_v_5 := FLD.over hF9 m_v_5 (by decide)
    have n_k_6 := FLD.over hF9 n_k_6 (by decide)
    have n_k_8 := FLD.over hF9 n_k_8 (by decide)
    have x_TLM_p0_0 := TLM.over hF9 x_TLM_p0_0 (by decide)
    obtain ⟨sg_11, q_sg_11⟩ : ∃ q9 : OS, sI sg_9 10 (0 : Int32) = q9 := ⟨_, rfl⟩
    have o_p0 : OV vw_M5 Ps ws p0 sg_11 := by rw [← q_sg_11]; exact OV.putI (V := vw_M5) hF9 n_k_10 o_p0 (by decide)
    refine lv_aload_n hx hb dX10_begin_23 rfl (lv_at hl 0 rfl) ?_
    refine lv_iconst (v := 0) hx hb dX10_begin_24 (by decide) ?_
    refine tg_put (ci := 10) (ts := ty_MODEL) (v := .int 0) (ty := .int) (C := RX10) (T := TX10) (N := 49) hx hb hts inX10 tyX10 tyX10_ok nmX10 hown hK hw h_p0 rfl rfl 5 (by decide) (hts _ tw_1142) (fun _ h9 => h9) rfl (by decide +kernel) rfl rfl (ft := vI 0 940) rfl ⟨_, rfl, (rl_0.to (by decide))⟩ (by decide) dX10_begin_25 (fun ws H locs hw n_k_12 hF9 => ?_)
    have n_k_1 := FLD.over hF9 n_k_1 (by decide)
    have m_v_5 := FLD.over hF9 m_v_5 (by decide)
    have n_k_6 := FLD.over hF9 n_k_6 (by decide)
    have n_k_8 := FLD.over hF9 n_k_8 (by decide)
    have n_k_10 := FLD.over hF9 n_k_10 (by decide)
    have x_TLM_p0_0 := TLM.over hF9 x_TLM_p0_0 (by decide)
    obtain ⟨sg_13, q_sg_13⟩ : ∃ q9 : OS, sI sg_11 5 (0 : Int32) = q9 := ⟨_, rfl⟩
    have o_p0 : OV vw_M5 Ps ws p0 sg_13 := by rw [← q_sg_13]; exact OV.putI (V := vw_M5) hF9 n_k_12 o_p0 (by decide)
    refine lv_aload_n hx hb dX10_begin_28 rfl (lv_at hl 0 rfl) ?_
    refine tk_v (va_runV (As := []) (rest := []) ⟨hx, hb, hml, hown, hts⟩ (c_X10_go__5 l D cy z H.size Ps ws hw.1 p0 sg_13 h_p0 o_p0) (cwV 0 hts (gV tw_1298 tw_1300 ts_40 tw_15 tw_1301) rfl rfl rfl (by decide +kernel) ⟨Nat.le_of_ble_eq_true rfl, Nat.le_of_ble_eq_true rfl⟩) (tg_preV hw hK hSD hA (ci := 10) (q := (RX10, TX10, 49)) rfl h_p0 rfl) rfl rfl hl.1 rfl (lv_room (Nat.le_of_ble_eq_true rfl)) dX10_begin_29 ⟨Nat.le_of_ble_eq_true rfl, Nat.le_of_ble_eq_true rfl⟩) hw hA ⟨by decide, by decide⟩ (fun ws H locs hp_v_14 hw hF9 => ?_)
    have n_k_1 := FLD.over hF9 n_k_1 (by decide)
    have m_v_5 := FLD.over hF9 m_v_5 (by decide)
    have n_k_6 := FLD.over hF9 n_k_6 (by decide)
    have n_k_8 := FLD.over hF9 n_k_8 (by decide)
    have n_k_10 := FLD.over hF9 n_k_10 (by decide)
    have x_TLM_p0_0 := TLM.over hF9 x_TLM_p0_0 (by decide)
    obtain ⟨hfn, hp_v_14⟩ := hp_v_14
    obtain ⟨sg_15, q_sg_15⟩ : ∃ q9 : OS, (f_X10_go__2 sg_13) = q9 := ⟨_, rfl⟩
    have o_p0 : OV vw_M5 Ps ws p0 sg_15 := by rw [← q_sg_15]; exact hfn.1
    simp only [f_X10_begin__4, ↓reduceIte, q_sg_2, q_sg_4, q_v_3, eq_true c9_v_3, q_sg_7, q_sg_9, q_sg_11, q_sg_13, q_sg_15] at hE
    subst hQ
    exact W.vret hx hb hr (fun t ht hW => ⟨⟨ws, rfl, ⟨⟨⟨(by rw [hR, ← hE]; exact o_p0), trivial⟩, ⟨⟨_, m_v_5, r_v_5⟩, x_TLM_p0_0, trivial⟩⟩, hw.1, hw.2.2.2.2.1⟩, by rw [ht]; exact hw.2.1, va_K.moved hW.alike hK, hw.2.2.1⟩, hw.2.2.2.1.F ht⟩) hw.2.2.2.1.2.2 dX10_begin_32
  · have r_v_3 : RI v_3 1 940 := rc_neL r_v_3 rl_0 (ti_ne c9_v_3) (by decide)
    obtain ⟨v_16, m_v_16, r_v_16⟩ := ((hp_v_3.2.2 c9_v_3).1)
    have x_TLM_p0_0 := ((hp_v_3.2.2 c9_v_3).2.1)
    refine tg_put (ci := 10) (ts := ty_MODEL) (v := .int v_3) (ty := .int) (C := RX10) (T := TX10) (N := 49) hx hb hts inX10 tyX10 tyX10_ok nmX10 hown hK hw h_p0 rfl rfl 3 (by decide) (hts _ tw_1140) (fun _ h9 => h9) rfl (by decide +kernel) rfl rfl (ft := vI 0 940) rfl ⟨_, rfl, (r_v_3.to (by decide))⟩ (by decide) dX10_begin_10 (fun ws H locs hw n_k_17 hF9 => ?_)
    have n_k_1 := FLD.over hF9 n_k_1 (by decide)
    have m_v_16 := FLD.over hF9 m_v_16 (by decide)
    have x_TLM_p0_0 := TLM.over hF9 x_TLM_p0_0 (by decide)
    obtain ⟨sg_18, q_sg_18⟩ : ∃ q9 : OS, sI sg_4 3 v_3 = q9 := ⟨_, rfl⟩
    have o_p0 : OV vw_M5 Ps ws p0 sg_18 := by rw [← q_sg_18]; exact OV.putI (V := vw_M5) hF9 n_k_17 o_p0 (by decide)
    refine lv_aload_n hx hb dX10_begin_13 rfl (lv_at hl 0 rfl) ?_
    refine lv_iload_n hx hb dX10_begin_14 rfl (lv_at hl 1 rfl) ?_
    refine tg_put (ci := 10) (ts := ty_MODEL) (v := .int p1) (ty := .int) (C := RX10) (T := TX10) (N := 49) hx hb hts inX10 tyX10 tyX10_ok nmX10 hown hK hw h_p0 rfl rfl 4 (by decide) (hts _ tw_1141) (fun _ h9 => h9) rfl (by decide +kernel) rfl rfl (ft := vI (-2147483648) 2147483647) rfl ⟨_, rfl, (r_p1.to (by decide))⟩ (by decide) dX10_begin_15 (fun ws H locs hw n_k_19 hF9 => ?_)
    have n_k_1 := FLD.over hF9 n_k_1 (by decide)
    have m_v_16 := FLD.over hF9 m_v_16 (by decide)
    have n_k_17 := FLD.over hF9 n_k_17 (by decide)
    have x_TLM_p0_0 := TLM.over hF9 x_TLM_p0_0 (by decide)
    obtain ⟨sg_20, q_sg_20⟩ : ∃ q9 : OS, sI sg_18 4 p1 = q9 := ⟨_, rfl⟩
    have o_p0 : OV vw_M5 Ps ws p0 sg_20 := by rw [← q_sg_20]; exact OV.putI (V := vw_M5) hF9 n_k_19 o_p0 (by decide)
    refine lv_aload_n hx hb dX10_begin_18 rfl (lv_at hl 0 rfl) ?_
    refine lv_iconst (v := 0) hx hb dX10_begin_19 (by decide) ?_
    refine tg_put (ci := 10) (ts := ty_MODEL) (v := .int 0) (ty := .int) (C := RX10) (T := TX10) (N := 49) hx hb hts inX10 tyX10 tyX10_ok nmX10 hown hK hw h_p0 rfl rfl 10 (by decide) (hts _ tw_1147) (fun _ h9 => h9) rfl (by decide +kernel) rfl rfl (ft := vI (-2147483648) 2147483647) rfl ⟨_, rfl, (rl_0.to (by decide))⟩ (by decide) dX10_begin_20 (fun ws H locs hw n_k_21 hF9 => ?_)
    have n_k_1 := FLD.over hF9 n_k_1 (by decide)
    have m_v_16 := FLD.over hF9 m_v_16 (by decide)
    have n_k_17 := FLD.over hF9 n_k_17 (by decide)
    have n_k_19 := FLD.over hF9 n_k_19 (by decide)
    have x_TLM_p0_0 := TLM.over hF9 x_TLM_p0_0 (by decide)
    obtain ⟨sg_22, q_sg_22⟩ : ∃ q9 : OS, sI sg_20 10 (0 : Int32) = q9 := ⟨_, rfl⟩
    have o_p0 : OV vw_M5 Ps ws p0 sg_22 := by rw [← q_sg_22]; exact OV.putI (V := vw_M5) hF9 n_k_21 o_p0 (by decide)
    refine lv_aload_n hx hb dX10_begin_23 rfl (lv_at hl 0 rfl) ?_
    refine lv_iconst (v := 0) hx hb dX10_begin_24 (by decide) ?_
    refine tg_put (ci := 10) (ts := ty_MODEL) (v := .int 0) (ty := .int) (C := RX10) (T := TX10) (N := 49) hx hb hts inX10 tyX10 tyX10_ok nmX10 hown hK hw h_p0 rfl rfl 5 (by decide) (hts _ tw_1142) (fun _ h9 => h9) rfl (by decide +kernel) rfl rfl (ft := vI 0 940) rfl ⟨_, rfl, (rl_0.to (by decide))⟩ (by decide) dX10_begin_25 (fun ws H locs hw n_k_23 hF9 => ?_)
    have n_k_1 := FLD.over hF9 n_k_1 (by decide)
    have m_v_16 := FLD.over hF9 m_v_16 (by decide)
    have n_k_17 := FLD.over hF9 n_k_17 (by decide)
    have n_k_19 := FLD.over hF9 n_k_19 (by decide)
    have n_k_21 := FLD.over hF9 n_k_21 (by decide)
    have x_TLM_p0_0 := TLM.over hF9 x_TLM_p0_0 (by decide)
    obtain ⟨sg_24, q_sg_24⟩ : ∃ q9 : OS, sI sg_22 5 (0 : Int32) = q9 := ⟨_, rfl⟩
    have o_p0 : OV vw_M5 Ps ws p0 sg_24 := by rw [← q_sg_24]; exact OV.putI (V := vw_M5) hF9 n_k_23 o_p0 (by decide)
    refine lv_aload_n hx hb dX10_begin_28 rfl (lv_at hl 0 rfl) ?_
    refine tk_v (va_runV (As := []) (rest := []) ⟨hx, hb, hml, hown, hts⟩ (c_X10_go__5 l D cy z H.size Ps ws hw.1 p0 sg_24 h_p0 o_p0) (cwV 0 hts (gV tw_1298 tw_1300 ts_40 tw_15 tw_1301) rfl rfl rfl (by decide +kernel) ⟨Nat.le_of_ble_eq_true rfl, Nat.le_of_ble_eq_true rfl⟩) (tg_preV hw hK hSD hA (ci := 10) (q := (RX10, TX10, 49)) rfl h_p0 rfl) rfl rfl hl.1 rfl (lv_room (Nat.le_of_ble_eq_true rfl)) dX10_begin_29 ⟨Nat.le_of_ble_eq_true rfl, Nat.le_of_ble_eq_true rfl⟩) hw hA ⟨by decide, by decide⟩ (fun ws H locs hp_v_25 hw hF9 => ?_)
    have n_k_1 := FLD.over hF9 n_k_1 (by decide)
    have m_v_16 := FLD.over hF9 m_v_16 (by decide)
    have n_k_17 := FLD.over hF9 n_k_17 (by decide)
    have n_k_19 := FLD.over hF9 n_k_19 (by decide)
    have n_k_21 := FLD.over hF9 n_k_21 (by decide)
    have x_TLM_p0_0 := TLM.over hF9 x_TLM_p0_0 (by decide)
    obtain ⟨hfn, hp_v_25⟩ := hp_v_25
    obtain ⟨sg_26, q_sg_26⟩ : ∃ q9 : OS, (f_X10_go__2 sg_24) = q9 := ⟨_, rfl⟩
    have o_p0 : OV vw_M5 Ps ws p0 sg_26 := by rw [← q_sg_26]; exact hfn.1
    simp only [f_X10_begin__4, ↓reduceIte, q_sg_2, q_sg_4, q_v_3, eq_false c9_v_3, q_sg_18, q_sg_20, q_sg_22, q_sg_24, q_sg_26] at hE
    subst hQ
    exact W.vret hx hb hr (fun t ht hW => ⟨⟨ws, rfl, ⟨⟨⟨(by rw [hR, ← hE]; exact o_p0), trivial⟩, ⟨⟨_, m_v_16, r_v_16⟩, x_TLM_p0_0, trivial⟩⟩, hw.1, hw.2.2.2.2.1⟩, by rw [ht]; exact hw.2.1, va_K.moved hW.alike hK, hw.2.2.1⟩, hw.2.2.2.1.F ht⟩) hw.2.2.2.1.2.2 dX10_begin_32
abbrev wr_X10_book__3 : List (Nat × Nat) := [(10, 0), (10, 2), (10, 3), (10, 4), (10, 5), (10, 6), (10, 7), (10, 8), (10, 9), (10, 10), (10, 11), (10, 12), (10, 13), (10, 25), (10, 42), (10, 43)]
abbrev wa_X10_book__3 : List Nat := [34, 37, 38, 46, 52, 53]
set_option maxHeartbeats 4000000 in
set_option maxRecDepth 100000 in
theorem c_X10_book__3 (l : Launch) (D : va_G) (cy : Nat → ClassId) (z : Nat → Nat) (sz : Nat) (Ps : PSI) (w0 : va_W) (hT : HT cy GG Ps w0) (p0 : Nat) (p1 : Int32) (gh : Int) (gdT : Nat → Nat) (gdR : Nat → Int32) (gdN : Nat → Nat) (gdL : Nat → Int64) (gdf : Int32) (h_p0 : (p0, 55) ∈ Ps) (r_p1 : RI p1 (-2147483648) 2147483647) (x_TLM_p0_gh : TLM w0 p0 (gh)) (x_BYM_p0_gdT : BYM Ps w0 p0 gdT) (x_HD_p0_gdR : AX 14 34 (HDp gdR) Ps w0 p0) (x_NAM_p0_gdL : AXL 20 41 (NMp gdL) Ps w0 p0) (x_NLP_gdR_gdN_gdL : (NLC gdR gdN gdL)) (x_MF_p0_gdf : FLD w0 p0 10 10 (.int gdf)) : Met l yX10_book (Cond.code yX10_book cX10_book 4 (some .int) :: gT) ({ frames := 8, cells := 0, slots := 0, locals := 1600 } : Room) (va_Pc [.ref p0, .int p1] (PRE D cy z w0 sz)) (va_Qi (fun (r : Int32) (u : va_W) => ((AX 14 34 (HDp gdR) Ps u p0) ∧ (RI r (-2147483648) 2147483647 ∧ (r = 0 → True) ∧ (¬ r = 0 → True) ∧ (BKM u p0 p1 (gh) ∧ (((0 ≤ Int32.toInt p1 ∧ Int32.toInt p1 ≤ 1) → FLD u p0 10 10 (.int (FAU (SBK gdT gh gdR gdN)))) ∧ (¬ (0 ≤ Int32.toInt p1 ∧ Int32.toInt p1 ≤ 1) → FLD u p0 10 10 (.int gdf))) ∧ True) ∧ (r.toInt < 0 → True) ∧ (0 ≤ r.toInt → True))) ∧ HT cy GG Ps u ∧ FR wr_X10_book__3 wa_X10_book__3 Ps w0 u) (BB D cy (va_A w0 sz) (fun (u : va_W) => u)) (va_A w0 sz)) 0 0 (va_A w0 sz) := by
  refine Met.ofW (cc := cX10_book) (maxL := 4) (ret := (some .int)) (by decide) rfl ?_
  intro p e s m args below meth c s₁ B hml hv
  obtain ⟨rfl, hsz, hP, hK, hD0, hSD⟩ := hv
  have hx := B.exec
  have hb := B.bytes
  have hr := B.returns
  have hlocks := B.notSynchronized
  have hts : ∀ w ∈ gT, w.before _ s = true := fun w h => atoms_spec (ws := Cond.code yX10_book cX10_book 4 (some .int) :: gT) B.pre w (List.mem_cons_of_mem _ h)
  have hown : s.vm.findClass RX10 = some m.cls := findClass_of_methodNamed B.named
  subst hsz
  have hD := hD0.self (sz := s.heap.size)
  generalize hAe : va_A w0 s.heap.size = A at hD hSD ⊢
  have hA : ∀ q : Nat, s.heap.size ≤ q → A q := fun q h => by rw [← hAe]; exact Or.inr h
  have hl := lv_entry ([.ref p0, .int p1]) (n := 4) (Nat.le_of_ble_eq_true rfl)
  rw [lg_entry_eq]
  generalize (lg_sl ([.ref p0, .int p1]) ++ List.replicate (4 - (lg_sl ([.ref p0, .int p1])).length) Slot.unset).toArray = ls at hl ⊢
  have hl : lv_has ls 4 [(0, .ref p0), (1, .int p1)] := hl
  refine nameQ (fun Q hQ => ?_)
  have hw : WD D cy GG A s wr_X10_book__3 wa_X10_book__3 Ps w0 Ps w0 s.heap [] := ⟨hT, hP, hD, va_S.rf, FR.rf, hT.1, [], (List.append_nil _).symm⟩
  have B103 : ∀ (x2 : Int32) (x3 : Int32) (z0_2 : Int32) (z0_7 : Int32) (z0_42 : Int32) (ws : va_W) (H : Heap) (locs : List Loc) (ls : Array Slot), RI p1 0 1 → RI x2 0 40 → RI x3 0 61 → RI z0_2 0 0 → FLD ws p0 10 2 (.int z0_2) → RI z0_7 0 0 → FLD ws p0 10 7 (.int z0_7) → RI z0_42 0 40 → FLD ws p0 10 42 (.int z0_42) → BYM Ps ws p0 gdT → AX 14 34 (HDp gdR) Ps ws p0 → (0 ≤ Int32.toInt p1 ∧ Int32.toInt p1 ≤ 1) → LNS Ps ws p0 → FLD ws p0 10 10 (.int (FAU (SBK gdT gh gdR gdN))) → AXL 20 41 (NMp gdL) Ps ws p0 → (NLC gdR gdN gdL) → TLM ws p0 (0) → WD D cy GG A s wr_X10_book__3 wa_X10_book__3 Ps w0 Ps ws H locs → lv_has ls 4 [(0, .ref p0), (1, .int p1), (2, .int x2), (3, .int x3)] → W p l e (headSpec (Cond.code yX10_book cX10_book 4 (some .int) :: gT) ({ frames := 8, cells := 0, slots := 0, locals := 1600 } : Room)).room s m ([.ref p0, .int p1] : List Value).toArray below meth c H locs 0 0 Q (F0 m 103 ls []) := by
    intro x2 x3 z0_2 z0_7 z0_42 ws H locs ls r_p1 r_x2 r_x3 r_z0_2 m_z0_2 r_z0_7 m_z0_7 r_z0_42 m_z0_42 x_BYM_p0_gdT x_HD_p0_gdR x_IMG1_p1 x_LNS_p0 x_MFB_p0_gdT_gh_gdR_gdN x_NAM_p0_gdL x_NLP_gdR_gdN_gdL x_TLM_p0_0 hw hl
    refine lv_aload_n hx hb dX10_book_103 rfl (lv_at hl 0 rfl) ?_
    refine tg_get (ci := 10) (ts := ty_MODEL) (C := RX10) (T := TX10) (N := 49) hx hb hts inX10 hown hK hw h_p0 rfl rfl 41 (by decide) (hts _ tw_1178) (fun _ h9 => h9) (ft := vR 53) rfl dX10_book_104 (fun u_1 hv_u_1 m_u_1 => ?_)
    obtain ⟨vu_1, rfl, h_vu_1⟩ := hv_u_1
    refine lv_iconst (v := 0) hx hb dX10_book_107 (by decide) ?_
    refine lv_iload_n hx hb dX10_book_108 rfl (lv_at hl 3 rfl) ?_
    refine tg_iast hx hb hK hw h_vu_1 rfl 0 0 rl_0 (by decide) r_x3 (by exact fun _ _ _ => by decide) (fun _ _ _ _ _ => trivial) (by decide) dX10_book_109 (fun ws H locs hw hF9 hU9 => ?_)
    have x_BYM_p0_gdT := BYM.over hF9 x_BYM_p0_gdT (by decide)
    have x_HD_p0_gdR := AX.over hF9 x_HD_p0_gdR (by decide)
    have x_LNS_p0 := LNS.over hF9 x_LNS_p0 (by decide)
    have x_MFB_p0_gdT_gh_gdR_gdN := FLD.over hF9 x_MFB_p0_gdT_gh_gdR_gdN (by decide)
    have x_NAM_p0_gdL := AXL.over hF9 x_NAM_p0_gdL (by decide)
    have x_TLM_p0_0 := TLM.over hF9 x_TLM_p0_0 (by decide)
    have m_z0_2 := FLD.over hF9 m_z0_2 (by decide)
    have m_z0_7 := FLD.over hF9 m_z0_7 (by decide)
    have m_z0_42 := FLD.over hF9 m_z0_42 (by decide)
    have m_u_1 := FLD.over hF9 m_u_1 (by decide)
    refine lv_aload_n hx hb dX10_book_110 rfl (lv_at hl 0 rfl) ?_
    refine tg_mem (ci := 10) (C := RX10) (T := TX10) (N := 49) hx hb hts inX10 hown hK hw 41 m_u_1 rfl (by decide) (hts _ tw_1178) (fun _ h9 => h9) dX10_book_111 ?_
    refine lv_iconst (v := 1) hx hb dX10_book_114 (by decide) ?_
    refine lv_iload_n hx hb dX10_book_115 rfl (lv_at hl 2 rfl) ?_
    refine tg_iast hx hb hK hw h_vu_1 rfl 1 1 rl_1 (by decide) r_x2 (by exact fun _ _ _ => by decide) (fun _ _ _ _ _ => trivial) (by decide) dX10_book_116 (fun ws H locs hw hF9 hU9 => ?_)
    have x_BYM_p0_gdT := BYM.over hF9 x_BYM_p0_gdT (by decide)
    have x_HD_p0_gdR := AX.over hF9 x_HD_p0_gdR (by decide)
    have x_LNS_p0 := LNS.over hF9 x_LNS_p0 (by decide)
    have x_MFB_p0_gdT_gh_gdR_gdN := FLD.over hF9 x_MFB_p0_gdT_gh_gdR_gdN (by decide)
    have x_NAM_p0_gdL := AXL.over hF9 x_NAM_p0_gdL (by decide)
    have x_TLM_p0_0 := TLM.over hF9 x_TLM_p0_0 (by decide)
    have m_z0_2 := FLD.over hF9 m_z0_2 (by decide)
    have m_z0_7 := FLD.over hF9 m_z0_7 (by decide)
    have m_z0_42 := FLD.over hF9 m_z0_42 (by decide)
    have m_u_1 := FLD.over hF9 m_u_1 (by decide)
    refine lv_aload_n hx hb dX10_book_117 rfl (lv_at hl 0 rfl) ?_
    refine tg_mem (ci := 10) (C := RX10) (T := TX10) (N := 49) hx hb hts inX10 hown hK hw 41 m_u_1 rfl (by decide) (hts _ tw_1178) (fun _ h9 => h9) dX10_book_118 ?_
    refine lv_iconst (v := 2) hx hb dX10_book_121 (by decide) ?_
    refine lv_aload_n hx hb dX10_book_122 rfl (lv_at hl 0 rfl) ?_
    refine tg_get (ci := 10) (ts := ty_MODEL) (C := RX10) (T := TX10) (N := 49) hx hb hts inX10 hown hK hw h_p0 rfl rfl 14 (by decide) (hts _ tw_1151) (fun _ h9 => h9) (ft := vR 34) rfl dX10_book_123 (fun u_2 hv_u_2 m_u_2 => ?_)
    obtain ⟨vu_2, rfl, h_vu_2⟩ := hv_u_2
    refine lv_bipush (v := 84) hx hb dX10_book_126 (by decide) ?_
    refine tg_iald (lo := (-2147483648)) (hi := 2147483647) hx hb hK hw h_vu_2 rfl 84 84 rl_84 (by decide) (by decide +kernel) dX10_book_128 (fun v_3 r_v_3 m_v_3 o_v_3 => ?_)
    have hw8 := hw
    refine tg_iast hx hb hK hw h_vu_1 rfl 2 2 rl_2 (by decide) r_v_3 (by exact fun _ _ _ => by decide) (fun _ _ _ _ _ => trivial) (by decide) dX10_book_129 (fun ws H locs hw hF9 hU9 => ?_)
    have m_v_3 := AEL.over hw8 hF9 h_vu_2 m_v_3 (by decide)
    have x_BYM_p0_gdT := BYM.over hF9 x_BYM_p0_gdT (by decide)
    have x_HD_p0_gdR := AX.over hF9 x_HD_p0_gdR (by decide)
    have x_LNS_p0 := LNS.over hF9 x_LNS_p0 (by decide)
    have x_MFB_p0_gdT_gh_gdR_gdN := FLD.over hF9 x_MFB_p0_gdT_gh_gdR_gdN (by decide)
    have x_NAM_p0_gdL := AXL.over hF9 x_NAM_p0_gdL (by decide)
    have x_TLM_p0_0 := TLM.over hF9 x_TLM_p0_0 (by decide)
    have m_z0_2 := FLD.over hF9 m_z0_2 (by decide)
    have m_z0_7 := FLD.over hF9 m_z0_7 (by decide)
    have m_z0_42 := FLD.over hF9 m_z0_42 (by decide)
    have m_u_1 := FLD.over hF9 m_u_1 (by decide)
    have m_u_2 := FLD.over hF9 m_u_2 (by decide)
    refine lv_aload_n hx hb dX10_book_130 rfl (lv_at hl 0 rfl) ?_
    refine tg_mem (ci := 10) (C := RX10) (T := TX10) (N := 49) hx hb hts inX10 hown hK hw 41 m_u_1 rfl (by decide) (hts _ tw_1178) (fun _ h9 => h9) dX10_book_131 ?_
    refine lv_iconst (v := 3) hx hb dX10_book_134 (by decide) ?_
    refine lv_aload_n hx hb dX10_book_135 rfl (lv_at hl 0 rfl) ?_
    refine tk_ir (va_runV (As := []) (rest := [.int 3, .ref vu_1]) ⟨hx, hb, hml, hown, hts⟩ (c_X10_nothings l D cy z H.size Ps ws hw.1 p0 h_p0) (cwV 0 hts (gV tw_1485 tw_1487 ts_74 tw_15 tw_1488) rfl rfl rfl (by decide +kernel) ⟨Nat.le_of_ble_eq_true rfl, Nat.le_of_ble_eq_true rfl⟩) (tg_preV hw hK hSD hA (ci := 10) (q := (RX10, TX10, 49)) rfl h_p0 rfl) rfl rfl hl.1 rfl (lv_room (Nat.le_of_ble_eq_true rfl)) dX10_book_136 ⟨Nat.le_of_ble_eq_true rfl, Nat.le_of_ble_eq_true rfl⟩) hw hA (fun v_4  H locs hp_v_4 hw => ?_)
    have r_v_4 : RI v_4 (-2147483648) 2147483647 := hp_v_4.1
    have hw8 := hw
    refine tg_iast hx hb hK hw h_vu_1 rfl 3 3 rl_3 (by decide) r_v_4 (by exact fun _ _ _ => by decide) (fun _ _ _ _ _ => trivial) (by decide) dX10_book_139 (fun ws H locs hw hF9 hU9 => ?_)
    have m_v_3 := AEL.over hw8 hF9 h_vu_2 m_v_3 (by decide)
    have x_BYM_p0_gdT := BYM.over hF9 x_BYM_p0_gdT (by decide)
    have x_HD_p0_gdR := AX.over hF9 x_HD_p0_gdR (by decide)
    have x_LNS_p0 := LNS.over hF9 x_LNS_p0 (by decide)
    have x_MFB_p0_gdT_gh_gdR_gdN := FLD.over hF9 x_MFB_p0_gdT_gh_gdR_gdN (by decide)
    have x_NAM_p0_gdL := AXL.over hF9 x_NAM_p0_gdL (by decide)
    have x_TLM_p0_0 := TLM.over hF9 x_TLM_p0_0 (by decide)
    have m_z0_2 := FLD.over hF9 m_z0_2 (by decide)
    have m_z0_7 := FLD.over hF9 m_z0_7 (by decide)
    have m_z0_42 := FLD.over hF9 m_z0_42 (by decide)
    have m_u_1 := FLD.over hF9 m_u_1 (by decide)
    have m_u_2 := FLD.over hF9 m_u_2 (by decide)
    refine lv_aload_n hx hb dX10_book_140 rfl (lv_at hl 0 rfl) ?_
    refine lv_iconst (v := 1) hx hb dX10_book_141 (by decide) ?_
    have hw8 := hw
    refine tg_put (ci := 10) (ts := ty_MODEL) (v := .int 1) (ty := .boolean) (C := RX10) (T := TX10) (N := 49) hx hb hts inX10 tyX10 tyX10_ok nmX10 hown hK hw h_p0 rfl rfl 43 (by decide) (hts _ tw_1180) (fun _ h9 => h9) rfl (by decide +kernel) rfl rfl (ft := vI 0 1) rfl ⟨_, rfl, (rl_1.to (by decide))⟩ (by decide) dX10_book_142 (fun ws H locs hw n_k_5 hF9 => ?_)
    have m_v_3 := AEL.over hw8 hF9 h_vu_2 m_v_3 (by decide)
    have m_z0_2 := FLD.over hF9 m_z0_2 (by decide)
    have m_z0_7 := FLD.over hF9 m_z0_7 (by decide)
    have m_z0_42 := FLD.over hF9 m_z0_42 (by decide)
    have m_u_1 := FLD.over hF9 m_u_1 (by decide)
    have m_u_2 := FLD.over hF9 m_u_2 (by decide)
    have x_BYM_p0_gdT := BYM.over hF9 x_BYM_p0_gdT (by decide)
    have x_HD_p0_gdR := AX.over hF9 x_HD_p0_gdR (by decide)
    have x_LNS_p0 := LNS.over hF9 x_LNS_p0 (by decide)
    have x_MFB_p0_gdT_gh_gdR_gdN := FLD.over hF9 x_MFB_p0_gdT_gh_gdR_gdN (by decide)
    have x_NAM_p0_gdL := AXL.over hF9 x_NAM_p0_gdL (by decide)
    have x_TLM_p0_0 := TLM.over hF9 x_TLM_p0_0 (by decide)
    refine lv_aload_n hx hb dX10_book_145 rfl (lv_at hl 0 rfl) ?_
    refine lv_iload_n hx hb dX10_book_146 rfl (lv_at hl 1 rfl) ?_
    refine lv_iconst (v := 1) hx hb dX10_book_147 (by decide) ?_
    refine lv_icmp_ne (tgt := 159) hx hb dX10_book_148 (by decide) (fun c_148 => ?_) (fun c_148 => ?_)
    · have r_p1 : RI p1 0 0 := rc_neU r_p1 rl_1 (ti_ne c_148) (by decide)
      refine lv_iconst (v := 0) hx hb dX10_book_159 (by decide) ?_
      have hw8 := hw
      refine tk_v (va_runV (As := [.int 0]) (rest := []) ⟨hx, hb, hml, hown, hts⟩ (c_X10_stay__1 l D cy z H.size Ps ws hw.1 p0 0 (gdR) h_p0 (rl_0.to (by decide)) x_HD_p0_gdR) (cwV 1 hts (gV tw_1739 tw_1741 ts_110 tw_15 tw_1742) rfl rfl rfl (by decide +kernel) ⟨Nat.le_of_ble_eq_true rfl, Nat.le_of_ble_eq_true rfl⟩) (tg_preV hw hK hSD hA (ci := 10) (q := (RX10, TX10, 49)) rfl h_p0 rfl) rfl rfl hl.1 rfl (lv_room (Nat.le_of_ble_eq_true rfl)) dX10_book_160 ⟨Nat.le_of_ble_eq_true rfl, Nat.le_of_ble_eq_true rfl⟩) hw hA ⟨by decide, by decide⟩ (fun ws H locs hp_v_6 hw hF9 => ?_)
      have m_z0_2 := FLD.over hF9 m_z0_2 (by decide)
      have m_z0_7 := FLD.over hF9 m_z0_7 (by decide)
      have m_z0_42 := FLD.over hF9 m_z0_42 (by decide)
      have m_u_1 := FLD.over hF9 m_u_1 (by decide)
      have m_u_2 := FLD.over hF9 m_u_2 (by decide)
      have n_k_5 := FLD.over hF9 n_k_5 (by decide)
      have x_BYM_p0_gdT := BYM.over hF9 x_BYM_p0_gdT (by decide)
      have x_LNS_p0 := LNS.over hF9 x_LNS_p0 (by decide)
      have x_MFB_p0_gdT_gh_gdR_gdN := FLD.over hF9 x_MFB_p0_gdT_gh_gdR_gdN (by decide)
      have x_NAM_p0_gdL := AXL.over hF9 x_NAM_p0_gdL (by decide)
      have x_TLM_p0_0 := TLM.over hF9 x_TLM_p0_0 (by decide)
      obtain ⟨x_HD_p0_gdR, hp_v_6⟩ := hp_v_6
      refine lv_iload_n hx hb dX10_book_163 rfl (lv_at hl 3 rfl) ?_
      refine lv_if_ne (tgt := 171) hx hb dX10_book_164 (by decide) (fun c_164 => ?_) (fun c_164 => ?_)
      · have r_x3 : RI x3 1 61 := rc_neL r_x3 rl_0 (ti_ne c_164) (by decide)
        refine lv_iload_n hx hb dX10_book_171 rfl (lv_at hl 2 rfl) ?_
        subst hQ
        exact W.iret (v := x2) hx hb hr (fun t ht hW => ⟨⟨x2, ws, rfl, ⟨⟨x_HD_p0_gdR, r_x2.to (by decide), (fun h0 => trivial), (fun h0 => trivial), ⟨⟨fun _ => x_TLM_p0_0, fun h9 => absurd x_IMG1_p1 h9⟩, ⟨fun _ => x_MFB_p0_gdT_gh_gdR_gdN, fun h9 => absurd x_IMG1_p1 h9⟩, trivial⟩, (fun _ => trivial), (fun _ => trivial)⟩, hw.1, hw.2.2.2.2.1⟩, by rw [ht]; exact hw.2.1, va_K.moved hW.alike hK, hw.2.2.1⟩, hw.2.2.2.1.F ht⟩) hw.2.2.2.1.2.2 dX10_book_172
      · have r_x3 : RI x3 0 0 := rc_eq1 r_x3 rl_0 (ti_eq c_164) (by decide)
        refine lv_iconst (v := (-1)) hx hb dX10_book_167 (by decide) ?_
        refine lv_goto (tgt := 172) hx hb dX10_book_168 (by decide) ?_
        subst hQ
        exact W.iret (v := (-1)) hx hb hr (fun t ht hW => ⟨⟨(-1), ws, rfl, ⟨⟨x_HD_p0_gdR, rl_m1.to (by decide), (fun _ => trivial), (fun h0 => trivial), ⟨⟨fun _ => x_TLM_p0_0, fun h9 => absurd x_IMG1_p1 h9⟩, ⟨fun _ => x_MFB_p0_gdT_gh_gdR_gdN, fun h9 => absurd x_IMG1_p1 h9⟩, trivial⟩, (fun _ => trivial), (fun _ => trivial)⟩, hw.1, hw.2.2.2.2.1⟩, by rw [ht]; exact hw.2.1, va_K.moved hW.alike hK, hw.2.2.1⟩, hw.2.2.2.1.F ht⟩) hw.2.2.2.1.2.2 dX10_book_172
    · have r_p1 : RI p1 1 1 := rc_eq1 r_p1 rl_1 (ti_eq c_148) (by decide)
      refine lv_iload_n hx hb dX10_book_151 rfl (lv_at hl 2 rfl) ?_
      refine lv_if_le (tgt := 159) hx hb dX10_book_152 (by decide) (fun c_152 => ?_) (fun c_152 => ?_)
      · have r_x2 : RI x2 0 0 := rc_le1 r_x2 rl_0 (ti_le c_152) (by decide)
        refine lv_iconst (v := 0) hx hb dX10_book_159 (by decide) ?_
        have hw8 := hw
        refine tk_v (va_runV (As := [.int 0]) (rest := []) ⟨hx, hb, hml, hown, hts⟩ (c_X10_stay__1 l D cy z H.size Ps ws hw.1 p0 0 (gdR) h_p0 (rl_0.to (by decide)) x_HD_p0_gdR) (cwV 1 hts (gV tw_1739 tw_1741 ts_110 tw_15 tw_1742) rfl rfl rfl (by decide +kernel) ⟨Nat.le_of_ble_eq_true rfl, Nat.le_of_ble_eq_true rfl⟩) (tg_preV hw hK hSD hA (ci := 10) (q := (RX10, TX10, 49)) rfl h_p0 rfl) rfl rfl hl.1 rfl (lv_room (Nat.le_of_ble_eq_true rfl)) dX10_book_160 ⟨Nat.le_of_ble_eq_true rfl, Nat.le_of_ble_eq_true rfl⟩) hw hA ⟨by decide, by decide⟩ (fun ws H locs hp_v_7 hw hF9 => ?_)
        have m_z0_2 := FLD.over hF9 m_z0_2 (by decide)
        have m_z0_7 := FLD.over hF9 m_z0_7 (by decide)
        have m_z0_42 := FLD.over hF9 m_z0_42 (by decide)
        have m_u_1 := FLD.over hF9 m_u_1 (by decide)
        have m_u_2 := FLD.over hF9 m_u_2 (by decide)
        have n_k_5 := FLD.over hF9 n_k_5 (by decide)
        have x_BYM_p0_gdT := BYM.over hF9 x_BYM_p0_gdT (by decide)
        have x_LNS_p0 := LNS.over hF9 x_LNS_p0 (by decide)
        have x_MFB_p0_gdT_gh_gdR_gdN := FLD.over hF9 x_MFB_p0_gdT_gh_gdR_gdN (by decide)
        have x_NAM_p0_gdL := AXL.over hF9 x_NAM_p0_gdL (by decide)
        have x_TLM_p0_0 := TLM.over hF9 x_TLM_p0_0 (by decide)
        obtain ⟨x_HD_p0_gdR, hp_v_7⟩ := hp_v_7
        refine lv_iload_n hx hb dX10_book_163 rfl (lv_at hl 3 rfl) ?_
        refine lv_if_ne (tgt := 171) hx hb dX10_book_164 (by decide) (fun c_164 => ?_) (fun c_164 => ?_)
        · have r_x3 : RI x3 1 61 := rc_neL r_x3 rl_0 (ti_ne c_164) (by decide)
          refine lv_iload_n hx hb dX10_book_171 rfl (lv_at hl 2 rfl) ?_
          subst hQ
          exact W.iret (v := x2) hx hb hr (fun t ht hW => ⟨⟨x2, ws, rfl, ⟨⟨x_HD_p0_gdR, r_x2.to (by decide), (fun h0 => trivial), (fun _ => trivial), ⟨⟨fun _ => x_TLM_p0_0, fun h9 => absurd x_IMG1_p1 h9⟩, ⟨fun _ => x_MFB_p0_gdT_gh_gdR_gdN, fun h9 => absurd x_IMG1_p1 h9⟩, trivial⟩, (fun _ => trivial), (fun _ => trivial)⟩, hw.1, hw.2.2.2.2.1⟩, by rw [ht]; exact hw.2.1, va_K.moved hW.alike hK, hw.2.2.1⟩, hw.2.2.2.1.F ht⟩) hw.2.2.2.1.2.2 dX10_book_172
        · have r_x3 : RI x3 0 0 := rc_eq1 r_x3 rl_0 (ti_eq c_164) (by decide)
          refine lv_iconst (v := (-1)) hx hb dX10_book_167 (by decide) ?_
          refine lv_goto (tgt := 172) hx hb dX10_book_168 (by decide) ?_
          subst hQ
          exact W.iret (v := (-1)) hx hb hr (fun t ht hW => ⟨⟨(-1), ws, rfl, ⟨⟨x_HD_p0_gdR, rl_m1.to (by decide), (fun _ => trivial), (fun h0 => trivial), ⟨⟨fun _ => x_TLM_p0_0, fun h9 => absurd x_IMG1_p1 h9⟩, ⟨fun _ => x_MFB_p0_gdT_gh_gdR_gdN, fun h9 => absurd x_IMG1_p1 h9⟩, trivial⟩, (fun _ => trivial), (fun _ => trivial)⟩, hw.1, hw.2.2.2.2.1⟩, by rw [ht]; exact hw.2.1, va_K.moved hW.alike hK, hw.2.2.1⟩, hw.2.2.2.1.F ht⟩) hw.2.2.2.1.2.2 dX10_book_172
      · have r_x2 : RI x2 1 40 := rc_lt2 rl_0 r_x2 (ti_nle c_152) (by decide)
        refine lv_iconst (v := 1) hx hb dX10_book_155 (by decide) ?_
        refine lv_goto (tgt := 160) hx hb dX10_book_156 (by decide) ?_
        have hw8 := hw
        refine tk_v (va_runV (As := [.int 1]) (rest := []) ⟨hx, hb, hml, hown, hts⟩ (c_X10_stay__1 l D cy z H.size Ps ws hw.1 p0 1 (gdR) h_p0 (rl_1.to (by decide)) x_HD_p0_gdR) (cwV 1 hts (gV tw_1739 tw_1741 ts_110 tw_15 tw_1742) rfl rfl rfl (by decide +kernel) ⟨Nat.le_of_ble_eq_true rfl, Nat.le_of_ble_eq_true rfl⟩) (tg_preV hw hK hSD hA (ci := 10) (q := (RX10, TX10, 49)) rfl h_p0 rfl) rfl rfl hl.1 rfl (lv_room (Nat.le_of_ble_eq_true rfl)) dX10_book_160 ⟨Nat.le_of_ble_eq_true rfl, Nat.le_of_ble_eq_true rfl⟩) hw hA ⟨by decide, by decide⟩ (fun ws H locs hp_v_8 hw hF9 => ?_)
        have m_z0_2 := FLD.over hF9 m_z0_2 (by decide)
        have m_z0_7 := FLD.over hF9 m_z0_7 (by decide)
        have m_z0_42 := FLD.over hF9 m_z0_42 (by decide)
        have m_u_1 := FLD.over hF9 m_u_1 (by decide)
        have m_u_2 := FLD.over hF9 m_u_2 (by decide)
        have n_k_5 := FLD.over hF9 n_k_5 (by decide)
        have x_BYM_p0_gdT := BYM.over hF9 x_BYM_p0_gdT (by decide)
        have x_LNS_p0 := LNS.over hF9 x_LNS_p0 (by decide)
        have x_MFB_p0_gdT_gh_gdR_gdN := FLD.over hF9 x_MFB_p0_gdT_gh_gdR_gdN (by decide)
        have x_NAM_p0_gdL := AXL.over hF9 x_NAM_p0_gdL (by decide)
        have x_TLM_p0_0 := TLM.over hF9 x_TLM_p0_0 (by decide)
        obtain ⟨x_HD_p0_gdR, hp_v_8⟩ := hp_v_8
        refine lv_iload_n hx hb dX10_book_163 rfl (lv_at hl 3 rfl) ?_
        refine lv_if_ne (tgt := 171) hx hb dX10_book_164 (by decide) (fun c_164 => ?_) (fun c_164 => ?_)
        · have r_x3 : RI x3 1 61 := rc_neL r_x3 rl_0 (ti_ne c_164) (by decide)
          refine lv_iload_n hx hb dX10_book_171 rfl (lv_at hl 2 rfl) ?_
          subst hQ
          exact W.iret (v := x2) hx hb hr (fun t ht hW => ⟨⟨x2, ws, rfl, ⟨⟨x_HD_p0_gdR, r_x2.to (by decide), (fun _ => trivial), (fun h0 => trivial), ⟨⟨fun _ => x_TLM_p0_0, fun h9 => absurd x_IMG1_p1 h9⟩, ⟨fun _ => x_MFB_p0_gdT_gh_gdR_gdN, fun h9 => absurd x_IMG1_p1 h9⟩, trivial⟩, (fun _ => trivial), (fun _ => trivial)⟩, hw.1, hw.2.2.2.2.1⟩, by rw [ht]; exact hw.2.1, va_K.moved hW.alike hK, hw.2.2.1⟩, hw.2.2.2.1.F ht⟩) hw.2.2.2.1.2.2 dX10_book_172
        · have r_x3 : RI x3 0 0 := rc_eq1 r_x3 rl_0 (ti_eq c_164) (by decide)
          refine lv_iconst (v := (-1)) hx hb dX10_book_167 (by decide) ?_
          refine lv_goto (tgt := 172) hx hb dX10_book_168 (by decide) ?_
          subst hQ
          exact W.iret (v := (-1)) hx hb hr (fun t ht hW => ⟨⟨(-1), ws, rfl, ⟨⟨x_HD_p0_gdR, rl_m1.to (by decide), (fun _ => trivial), (fun h0 => trivial), ⟨⟨fun _ => x_TLM_p0_0, fun h9 => absurd x_IMG1_p1 h9⟩, ⟨fun _ => x_MFB_p0_gdT_gh_gdR_gdN, fun h9 => absurd x_IMG1_p1 h9⟩, trivial⟩, (fun _ => trivial), (fun _ => trivial)⟩, hw.1, hw.2.2.2.2.1⟩, by rw [ht]; exact hw.2.1, va_K.moved hW.alike hK, hw.2.2.1⟩, hw.2.2.2.1.F ht⟩) hw.2.2.2.1.2.2 dX10_book_172
  have B73 : ∀ (nf : Nat) (x2 : Int32) (x3 : Int32) (z0_2 : Int32) (z0_7 : Int32) (z0_42 : Int32) (ws : va_W) (H : Heap) (locs : List Loc) (ls : Array Slot), 2 * (41 - x2.toInt) + 1 - min x3.toInt 1 < (nf : Int) → RI p1 0 1 → RI x2 0 40 → RI x3 0 61 → RI z0_2 0 0 → FLD ws p0 10 2 (.int z0_2) → RI z0_7 0 0 → FLD ws p0 10 7 (.int z0_7) → RI z0_42 0 40 → FLD ws p0 10 42 (.int z0_42) → BYM Ps ws p0 gdT → AX 14 34 (HDp gdR) Ps ws p0 → (0 ≤ Int32.toInt p1 ∧ Int32.toInt p1 ≤ 1) → LNS Ps ws p0 → FLD ws p0 10 10 (.int (FAU (SBK gdT gh gdR gdN))) → AXL 20 41 (NMp gdL) Ps ws p0 → (NLC gdR gdN gdL) → TLM ws p0 (0) → WD D cy GG A s wr_X10_book__3 wa_X10_book__3 Ps w0 Ps ws H locs → lv_has ls 4 [(0, .ref p0), (1, .int p1), (2, .int x2), (3, .int x3)] → W p l e (headSpec (Cond.code yX10_book cX10_book 4 (some .int) :: gT) ({ frames := 8, cells := 0, slots := 0, locals := 1600 } : Room)).room s m ([.ref p0, .int p1] : List Value).toArray below meth c H locs 0 0 Q (F0 m 73 ls []) := by
    intro nf73
    induction nf73 with
    | zero =>
      intro x2 x3 z0_2 z0_7 z0_42 ws H locs ls hn73 r_p1 r_x2 r_x3 r_z0_2 m_z0_2 r_z0_7 m_z0_7 r_z0_42 m_z0_42 x_BYM_p0_gdT x_HD_p0_gdR x_IMG1_p1 x_LNS_p0 x_MFB_p0_gdT_gh_gdR_gdN x_NAM_p0_gdL x_NLP_gdR_gdN_gdL x_TLM_p0_0 hw hl
      exact absurd hn73 (by have q0 := r_x2.1; have u0 := r_x2.2; have q1 := r_x3.1; have u1 := r_x3.2; omega)
    | succ nf73 ih73 =>
      intro x2 x3 z0_2 z0_7 z0_42 ws H locs ls hn73 r_p1 r_x2 r_x3 r_z0_2 m_z0_2 r_z0_7 m_z0_7 r_z0_42 m_z0_42 x_BYM_p0_gdT x_HD_p0_gdR x_IMG1_p1 x_LNS_p0 x_MFB_p0_gdT_gh_gdR_gdN x_NAM_p0_gdL x_NLP_gdR_gdN_gdL x_TLM_p0_0 hw hl
      refine lv_iload_n hx hb dX10_book_73 rfl (lv_at hl 2 rfl) ?_
      refine lv_aload_n hx hb dX10_book_74 rfl (lv_at hl 0 rfl) ?_
      refine tg_mem (ci := 10) (C := RX10) (T := TX10) (N := 49) hx hb hts inX10 hown hK hw 42 m_z0_42 rfl (by decide) (hts _ tw_1179) (fun _ h9 => h9) dX10_book_75 ?_
      refine lv_icmp_ge (tgt := 103) hx hb dX10_book_78 (by decide) (fun c_78 => ?_) (fun c_78 => ?_)
      · exact B103 x2 x3 z0_2 z0_7 z0_42 ws _ _ ls r_p1 r_x2 r_x3 r_z0_2 m_z0_2 r_z0_7 m_z0_7 r_z0_42 m_z0_42 x_BYM_p0_gdT x_HD_p0_gdR x_IMG1_p1 x_LNS_p0 x_MFB_p0_gdT_gh_gdR_gdN x_NAM_p0_gdL x_NLP_gdR_gdN_gdL x_TLM_p0_0 hw hl
      · have r_x2 : RI x2 0 39 := rc_lt1 r_x2 r_z0_42 (ti_nle c_78) (by decide)
        have r_z0_42 : RI z0_42 1 40 := rc_lt2 r_x2 r_z0_42 (ti_nle c_78) (by decide)
        refine lv_iload_n hx hb dX10_book_81 rfl (lv_at hl 3 rfl) ?_
        refine lv_if_ne (tgt := 103) hx hb dX10_book_82 (by decide) (fun c_82 => ?_) (fun c_82 => ?_)
        · have r_x3 : RI x3 1 61 := rc_neL r_x3 rl_0 (ti_ne c_82) (by decide)
          exact B103 x2 x3 z0_2 z0_7 z0_42 ws _ _ ls r_p1 (r_x2.to (by decide)) (r_x3.to (by decide)) r_z0_2 m_z0_2 r_z0_7 m_z0_7 (r_z0_42.to (by decide)) m_z0_42 x_BYM_p0_gdT x_HD_p0_gdR x_IMG1_p1 x_LNS_p0 x_MFB_p0_gdT_gh_gdR_gdN x_NAM_p0_gdL x_NLP_gdR_gdN_gdL x_TLM_p0_0 hw hl
        · have r_x3 : RI x3 0 0 := rc_eq1 r_x3 rl_0 (ti_eq c_82) (by decide)
          refine lv_aload_n hx hb dX10_book_85 rfl (lv_at hl 0 rfl) ?_
          refine lv_iconst (v := 3) hx hb dX10_book_86 (by decide) ?_
          refine lv_iload_n hx hb dX10_book_87 rfl (lv_at hl 2 rfl) ?_
          refine lv_imul hx hb dX10_book_88 (lv_topi (fun v_9 e_v_9 => ?_))
          obtain ⟨t_v_9, r_v_9⟩ := tq_mul (lo := 0) (hi := 117) rl_3 r_x2 (by decide +kernel) e_v_9
          have t_v_9 : v_9.toInt = 3 * x2.toInt := t_v_9
          have x_GL_p0_v_9 : AX 40 52 (fun f => GLk f (Int32.toNatClampNeg v_9)) Ps ws p0 := LNS.gl (k := x2) hw x_LNS_p0 m_z0_42 r_x2.1 (ti_nle c_78) t_v_9
          refine tk_i (va_runV (As := [.int v_9]) (rest := []) ⟨hx, hb, hml, hown, hts⟩ (c_X10_goBy__1 l D cy z H.size Ps ws hw.1 p0 v_9 (gdR) h_p0 r_v_9 x_GL_p0_v_9 x_HD_p0_gdR) (cwV 1 hts (gV tw_1735 tw_1737 ts_109 tw_15 tw_1738) rfl rfl rfl (by decide +kernel) ⟨Nat.le_of_ble_eq_true rfl, Nat.le_of_ble_eq_true rfl⟩) (tg_preV hw hK hSD hA (ci := 10) (q := (RX10, TX10, 49)) rfl h_p0 rfl) rfl rfl hl.1 rfl (lv_room (Nat.le_of_ble_eq_true rfl)) dX10_book_89 ⟨Nat.le_of_ble_eq_true rfl, Nat.le_of_ble_eq_true rfl⟩) hw hA ⟨by decide, by decide⟩ (fun v_10 ws H locs hp_v_10 hw hF9 => ?_)
          have m_z0_2 := FLD.over hF9 m_z0_2 (by decide)
          have m_z0_7 := FLD.over hF9 m_z0_7 (by decide)
          have m_z0_42 := FLD.over hF9 m_z0_42 (by decide)
          have x_BYM_p0_gdT := BYM.over hF9 x_BYM_p0_gdT (by decide)
          have x_LNS_p0 := LNS.over hF9 x_LNS_p0 (by decide)
          have x_MFB_p0_gdT_gh_gdR_gdN := FLD.over hF9 x_MFB_p0_gdT_gh_gdR_gdN (by decide)
          have x_NAM_p0_gdL := AXL.over hF9 x_NAM_p0_gdL (by decide)
          have x_TLM_p0_0 := TLM.over hF9 x_TLM_p0_0 (by decide)
          have x_GL_p0_v_9 := AX.over hF9 x_GL_p0_v_9 (by decide)
          obtain ⟨x_HD_p0_gdR, hp_v_10⟩ := hp_v_10
          have r_v_10 : RI v_10 0 61 := hp_v_10.1
          refine lv_istore_n (lv' := [(3, .int v_10), (0, .ref p0), (1, .int p1), (2, .int x2)]) hx hb dX10_book_92 rfl hl (by decide) rfl (fun ls hl => ?_)
          refine lv_iload_n hx hb dX10_book_93 rfl (lv_at hl 0 rfl) ?_
          refine lv_if_ne (tgt := 73) hx hb dX10_book_94 (by decide) (fun c_94 => ?_) (fun c_94 => ?_)
          · have r_v_10 : RI v_10 1 61 := rc_neL r_v_10 rl_0 (ti_ne c_94) (by decide)
            exact ih73 x2 v_10 z0_2 z0_7 z0_42 ws _ _ ls (by have q0 := r_x2.1; have u0 := r_x2.2; have q1 := r_v_10.1; have u1 := r_v_10.2; have o1 := r_x3.1; have p1 := r_x3.2; omega) r_p1 (r_x2.to (by decide)) (r_v_10.to (by decide)) r_z0_2 m_z0_2 r_z0_7 m_z0_7 (r_z0_42.to (by decide)) m_z0_42 x_BYM_p0_gdT x_HD_p0_gdR x_IMG1_p1 x_LNS_p0 x_MFB_p0_gdT_gh_gdR_gdN x_NAM_p0_gdL x_NLP_gdR_gdN_gdL x_TLM_p0_0 hw (lv_sub hl [1, 2, 3, 0] rfl)
          · have r_v_10 : RI v_10 0 0 := rc_eq1 r_v_10 rl_0 (ti_eq c_94) (by decide)
            obtain ⟨v_11, e_v_11⟩ : ∃ q9 : Int32, q9 = x2 + Int32.ofInt 1 := ⟨_, rfl⟩
            obtain ⟨t_v_11, r_v_11⟩ := tq_add (lo := 1) (hi := 40) r_x2 (show RI (Int32.ofInt 1) 1 1 by unfold RI; decide +kernel) (by decide +kernel) e_v_11
            have t_v_11 : v_11.toInt = x2.toInt + 1 := t_v_11
            refine lv_iinc (v := v_11) (lv' := [(2, .int v_11), (3, .int v_10), (0, .ref p0), (1, .int p1)]) hx hb dX10_book_97 hl (k := 3) rfl e_v_11.symm (by decide) rfl (fun ls hl => ?_)
            refine lv_goto (tgt := 73) hx hb dX10_book_100 (by decide) ?_
            exact ih73 v_11 v_10 z0_2 z0_7 z0_42 ws _ _ ls (by have q0 := r_v_11.1; have u0 := r_v_11.2; have q1 := r_v_10.1; have u1 := r_v_10.2; have o0 := r_x2.1; have p0 := r_x2.2; have o1 := r_x3.1; have p1 := r_x3.2; omega) r_p1 (r_v_11.to (by decide)) (r_v_10.to (by decide)) r_z0_2 m_z0_2 r_z0_7 m_z0_7 (r_z0_42.to (by decide)) m_z0_42 x_BYM_p0_gdT x_HD_p0_gdR x_IMG1_p1 x_LNS_p0 x_MFB_p0_gdT_gh_gdR_gdN x_NAM_p0_gdL x_NLP_gdR_gdN_gdL x_TLM_p0_0 hw (lv_sub hl [2, 3, 0, 1] rfl)
  have B30 : ∀ (nf : Nat) (z0_2 : Int32) (z0_42 : Int32) (ws : va_W) (H : Heap) (locs : List Loc) (ls : Array Slot), 40 - z0_42.toInt < (nf : Int) → RI p1 0 1 → RI z0_2 0 0 → FLD ws p0 10 2 (.int z0_2) → RI z0_42 0 40 → FLD ws p0 10 42 (.int z0_42) → BKS Ps ws p0 gdT gh gdR gdN → BYM Ps ws p0 gdT → AX 14 34 (HDp gdR) Ps ws p0 → (0 ≤ Int32.toInt p1 ∧ Int32.toInt p1 ≤ 1) → AXL 20 41 (NMp gdL) Ps ws p0 → (NLC gdR gdN gdL) → TLM ws p0 (0) → LNS Ps ws p0 → WD D cy GG A s wr_X10_book__3 wa_X10_book__3 Ps w0 Ps ws H locs → lv_has ls 4 [(0, .ref p0), (1, .int p1)] → W p l e (headSpec (Cond.code yX10_book cX10_book 4 (some .int) :: gT) ({ frames := 8, cells := 0, slots := 0, locals := 1600 } : Room)).room s m ([.ref p0, .int p1] : List Value).toArray below meth c H locs 0 0 Q (F0 m 30 ls []) := by
    intro nf30
    induction nf30 with
    | zero =>
      intro z0_2 z0_42 ws H locs ls hn30 r_p1 r_z0_2 m_z0_2 r_z0_42 m_z0_42 x_BKS_p0_gdT_gh_gdR_gdN x_BYM_p0_gdT x_HD_p0_gdR x_IMG1_p1 x_NAM_p0_gdL x_NLP_gdR_gdN_gdL x_TLM_p0_0 x_LNS_p0 hw hl
      exact absurd hn30 (by have q0 := r_z0_42.1; have u0 := r_z0_42.2; omega)
    | succ nf30 ih30 =>
      intro z0_2 z0_42 ws H locs ls hn30 r_p1 r_z0_2 m_z0_2 r_z0_42 m_z0_42 x_BKS_p0_gdT_gh_gdR_gdN x_BYM_p0_gdT x_HD_p0_gdR x_IMG1_p1 x_NAM_p0_gdL x_NLP_gdR_gdN_gdL x_TLM_p0_0 x_LNS_p0 hw hl
      refine lv_aload_n hx hb dX10_book_30 rfl (lv_at hl 0 rfl) ?_
      refine tg_get (ci := 10) (ts := ty_MODEL) (C := RX10) (T := TX10) (N := 49) hx hb hts inX10 hown hK hw h_p0 rfl rfl 7 (by decide) (hts _ tw_1144) (fun _ h9 => h9) (ft := vI (-2147483648) 2147483647) rfl dX10_book_31 (fun u_12 hv_u_12 m_u_12 => ?_)
      obtain ⟨vu_12, rfl, r_vu_12⟩ := hv_u_12
      refine lv_if_eq (tgt := 65) hx hb dX10_book_34 (by decide) (fun c_34 => ?_) (fun c_34 => ?_)
      · have r_vu_12 : RI vu_12 0 0 := rc_eq1 r_vu_12 rl_0 (ti_eq c_34) (by decide)
        have x_MFB_p0_gdT_gh_gdR_gdN : FLD ws p0 10 10 (.int (FAU (SBK gdT gh gdR gdN))) := BKS.fin hw.2.2.1 x_BKS_p0_gdT_gh_gdR_gdN m_u_12 c_34
        refine lv_aload_n hx hb dX10_book_65 rfl (lv_at hl 0 rfl) ?_
        refine tk_v (va_runV (As := []) (rest := []) ⟨hx, hb, hml, hown, hts⟩ (c_X10_layAside l D cy z H.size Ps ws hw.1 p0 h_p0) (cwV 0 hts (gV tw_1583 tw_1585 ts_88 tw_15 tw_1586) rfl rfl rfl (by decide +kernel) ⟨Nat.le_of_ble_eq_true rfl, Nat.le_of_ble_eq_true rfl⟩) (tg_preV hw hK hSD hA (ci := 10) (q := (RX10, TX10, 49)) rfl h_p0 rfl) rfl rfl hl.1 rfl (lv_room (Nat.le_of_ble_eq_true rfl)) dX10_book_66 ⟨Nat.le_of_ble_eq_true rfl, Nat.le_of_ble_eq_true rfl⟩) hw hA ⟨by decide, by decide⟩ (fun ws H locs hp_v_13 hw hF9 => ?_)
        have m_z0_2 := FLD.over hF9 m_z0_2 (by decide)
        have m_z0_42 := FLD.over hF9 m_z0_42 (by decide)
        have m_u_12 := FLD.over hF9 m_u_12 (by decide)
        have x_BYM_p0_gdT := BYM.over hF9 x_BYM_p0_gdT (by decide)
        have x_HD_p0_gdR := AX.over hF9 x_HD_p0_gdR (by decide)
        have x_NAM_p0_gdL := AXL.over hF9 x_NAM_p0_gdL (by decide)
        have x_TLM_p0_0 := TLM.over hF9 x_TLM_p0_0 (by decide)
        have x_LNS_p0 := LNS.over hF9 x_LNS_p0 (by decide)
        have x_MFB_p0_gdT_gh_gdR_gdN := FLD.over hF9 x_MFB_p0_gdT_gh_gdR_gdN (by decide)
        refine lv_iconst (v := 0) hx hb dX10_book_69 (by decide) ?_
        refine lv_istore_n (lv' := [(2, .int 0), (0, .ref p0), (1, .int p1)]) hx hb dX10_book_70 rfl hl (by decide) rfl (fun ls hl => ?_)
        refine lv_iconst (v := 0) hx hb dX10_book_71 (by decide) ?_
        refine lv_istore_n (lv' := [(3, .int 0), (2, .int 0), (0, .ref p0), (1, .int p1)]) hx hb dX10_book_72 rfl hl (by decide) rfl (fun ls hl => ?_)
        exact B73 4294967298 0 0 z0_2 vu_12 z0_42 ws _ _ ls (by have q0 := rl_0.1; have u0 := rl_0.2; have q1 := rl_0.1; have u1 := rl_0.2; omega) r_p1 (rl_0.to (by decide)) (rl_0.to (by decide)) r_z0_2 m_z0_2 r_vu_12 m_u_12 r_z0_42 m_z0_42 x_BYM_p0_gdT x_HD_p0_gdR x_IMG1_p1 x_LNS_p0 x_MFB_p0_gdT_gh_gdR_gdN x_NAM_p0_gdL x_NLP_gdR_gdN_gdL x_TLM_p0_0 hw (lv_sub hl [2, 3, 1, 0] rfl)
      · have x_BKN_p0_gdT_gh_gdR_gdN : BKN Ps ws p0 gdT gh gdR gdN := BKN.of hw.2.2.1 x_BKS_p0_gdT_gh_gdR_gdN m_u_12 c_34
        refine lv_aload_n hx hb dX10_book_37 rfl (lv_at hl 0 rfl) ?_
        refine tk_i (va_runV (As := []) (rest := []) ⟨hx, hb, hml, hown, hts⟩ (c_X10_readBookLine__1_s5 l D cy z H.size Ps ws hw.1 p0 (gh) (gdT) (gdR) (gdN) h_p0 x_LNS_p0 x_BKN_p0_gdT_gh_gdR_gdN) (cwV 0 hts (gV tw_1711 tw_1713 ts_103 tw_15 tw_1714) rfl rfl rfl (by decide +kernel) ⟨Nat.le_of_ble_eq_true rfl, Nat.le_of_ble_eq_true rfl⟩) (tg_preV hw hK hSD hA (ci := 10) (q := (RX10, TX10, 49)) rfl h_p0 rfl) rfl rfl hl.1 rfl (lv_room (Nat.le_of_ble_eq_true rfl)) dX10_book_38 ⟨Nat.le_of_ble_eq_true rfl, Nat.le_of_ble_eq_true rfl⟩) hw hA ⟨by decide, by decide⟩ (fun v_14 ws H locs hp_v_14 hw hF9 => ?_)
        have m_z0_2 := FLD.over hF9 m_z0_2 (by decide)
        have m_z0_42 := FLD.over hF9 m_z0_42 (by decide)
        have x_BYM_p0_gdT := BYM.over hF9 x_BYM_p0_gdT (by decide)
        have x_HD_p0_gdR := AX.over hF9 x_HD_p0_gdR (by decide)
        have x_NAM_p0_gdL := AXL.over hF9 x_NAM_p0_gdL (by decide)
        have x_TLM_p0_0 := TLM.over hF9 x_TLM_p0_0 (by decide)
        have r_v_14 : RI v_14 0 1 := hp_v_14.1
        by_cases c9_v_14 : v_14 = 0
        · have r_v_14 : RI v_14 0 0 := by rw [c9_v_14]; exact rl_0
          have x_MFB_p0_gdT_gh_gdR_gdN := ((hp_v_14.2.1 c9_v_14).1)
          refine lv_if_ne (tgt := 52) hx hb dX10_book_41 (by decide) (fun c_41 => ?_) (fun c_41 => ?_)
          · exact absurd (r_v_14.eq.trans rl_0.eq.symm) ((ti_ne c_41))
          · refine lv_bipush (v := (-2)) hx hb dX10_book_44 (by decide) ?_
            refine lv_aload_n hx hb dX10_book_46 rfl (lv_at hl 0 rfl) ?_
            refine tg_get (ci := 10) (ts := ty_MODEL) (C := RX10) (T := TX10) (N := 49) hx hb hts inX10 hown hK hw h_p0 rfl rfl 11 (by decide) (hts _ tw_1148) (fun _ h9 => h9) (ft := vI (-2147483648) 2147483647) rfl dX10_book_47 (fun u_15 hv_u_15 m_u_15 => ?_)
            obtain ⟨vu_15, rfl, r_vu_15⟩ := hv_u_15
            refine lv_isub hx hb dX10_book_50 (lv_topi (fun v_16 e_v_16 => ?_))
            have r_v_16 := ri_any v_16
            subst hQ
            exact W.iret (v := v_16) hx hb hr (fun t ht hW => ⟨⟨v_16, ws, rfl, ⟨⟨x_HD_p0_gdR, r_v_16.to (by decide), (fun h0 => trivial), (fun h0 => trivial), ⟨⟨fun _ => x_TLM_p0_0, fun h9 => absurd x_IMG1_p1 h9⟩, ⟨fun _ => x_MFB_p0_gdT_gh_gdR_gdN, fun h9 => absurd x_IMG1_p1 h9⟩, trivial⟩, (fun _ => trivial), (fun _ => trivial)⟩, hw.1, hw.2.2.2.2.1⟩, by rw [ht]; exact hw.2.1, va_K.moved hW.alike hK, hw.2.2.1⟩, hw.2.2.2.1.F ht⟩) hw.2.2.2.1.2.2 dX10_book_51
        · have r_v_14 : RI v_14 1 1 := rc_neL r_v_14 rl_0 (ti_ne c9_v_14) (by decide)
          obtain ⟨v_17, m_v_17, r_v_17⟩ := ((hp_v_14.2.2 c9_v_14).1)
          have e_v_17 : v_17 = z0_42 := by have q9 := FLD.inj hw.2.2.1 m_v_17 m_z0_42; cases q9; rfl
          rw [e_v_17] at r_v_17
          have x_LNG_p0 := ((hp_v_14.2.2 c9_v_14).2.1)
          have x_BKT_p0_gdT_gh_gdR_gdN := ((hp_v_14.2.2 c9_v_14).2.2.1)
          refine lv_if_ne (tgt := 52) hx hb dX10_book_41 (by decide) (fun c_41 => ?_) (fun c_41 => ?_)
          · refine lv_aload_n hx hb dX10_book_52 rfl (lv_at hl 0 rfl) ?_
            refine lv_dup hx hb dX10_book_53 rfl ?_
            refine tg_mem (ci := 10) (C := RX10) (T := TX10) (N := 49) hx hb hts inX10 hown hK hw 42 m_z0_42 rfl (by decide) (hts _ tw_1179) (fun _ h9 => h9) dX10_book_54 ?_
            refine lv_iconst (v := 1) hx hb dX10_book_57 (by decide) ?_
            refine lv_iadd hx hb dX10_book_58 (lv_topi (fun v_18 e_v_18 => ?_))
            obtain ⟨t_v_18, r_v_18⟩ := tq_add (lo := 1) (hi := 40) r_v_17 rl_1 (by decide +kernel) e_v_18
            have t_v_18 : v_18.toInt = z0_42.toInt + 1 := t_v_18
            have hD7 := hw.2.2.1
            have mu8 := m_z0_42
            have x_LA := LNG.get hw x_LNG_p0 m_z0_42
            refine tg_put (ci := 10) (ts := ty_MODEL) (v := .int v_18) (ty := .int) (C := RX10) (T := TX10) (N := 49) hx hb hts inX10 tyX10 tyX10_ok nmX10 hown hK hw h_p0 rfl rfl 42 (by decide) (hts _ tw_1179) (fun _ h9 => h9) rfl (by decide +kernel) rfl rfl (ft := vI 0 40) rfl ⟨_, rfl, (r_v_18.to (by decide))⟩ (by decide) dX10_book_59 (fun ws H locs hw n_k_19 hF9 => ?_)
            have m_z0_2 := FLD.over hF9 m_z0_2 (by decide)
            have x_BYM_p0_gdT := BYM.over hF9 x_BYM_p0_gdT (by decide)
            have x_HD_p0_gdR := AX.over hF9 x_HD_p0_gdR (by decide)
            have x_NAM_p0_gdL := AXL.over hF9 x_NAM_p0_gdL (by decide)
            have x_TLM_p0_0 := TLM.over hF9 x_TLM_p0_0 (by decide)
            have x_LA := AX.over hF9 x_LA (by decide)
            have x_BKS_p0_gdT_gh_gdR_gdN : BKS Ps ws p0 gdT gh gdR gdN := BKT.up hD7 hF9 n_k_19 x_BKT_p0_gdT_gh_gdR_gdN mu8 (by rw [e_v_18])
            have x_LNS_p0 : LNS Ps ws p0 := ⟨_, n_k_19, AX.imp x_LA (fun f9 h9 => fun j9 q9 => h9 j9 (by have k1 := t_v_18; omega))⟩
            refine lv_goto (tgt := 30) hx hb dX10_book_62 (by decide) ?_
            exact ih30 z0_2 v_18 ws _ _ ls (by have q0 := r_v_18.1; have u0 := r_v_18.2; have o0 := r_v_17.1; have p0 := r_v_17.2; omega) r_p1 r_z0_2 m_z0_2 (r_v_18.to (by decide)) n_k_19 x_BKS_p0_gdT_gh_gdR_gdN x_BYM_p0_gdT x_HD_p0_gdR x_IMG1_p1 x_NAM_p0_gdL x_NLP_gdR_gdN_gdL x_TLM_p0_0 x_LNS_p0 hw hl
          · have r_v_14 : RI v_14 1 0 := rc_eq1 r_v_14 rl_0 (ti_eq c_41) (by decide)
            exact (r_v_14.no (by decide)).elim
  refine lv_aload_n hx hb dX10_book_0 rfl (lv_at hl 0 rfl) ?_
  refine lv_iconst (v := 0) hx hb dX10_book_1 (by decide) ?_
  refine tg_put (ci := 10) (ts := ty_MODEL) (v := .int 0) (ty := .int) (C := RX10) (T := TX10) (N := 49) hx hb hts inX10 tyX10 tyX10_ok nmX10 hown hK hw h_p0 rfl rfl 0 (by decide) (hts _ tw_1137) (fun _ h9 => h9) rfl (by decide +kernel) rfl rfl (ft := vI (-2147483648) 2147483647) rfl ⟨_, rfl, (rl_0.to (by decide))⟩ (by decide) dX10_book_2 (fun ws H locs hw n_k_20 hF9 => ?_)
  have x_TLM_p0_gh := TLM.over hF9 x_TLM_p0_gh (by decide)
  have x_BYM_p0_gdT := BYM.over hF9 x_BYM_p0_gdT (by decide)
  have x_HD_p0_gdR := AX.over hF9 x_HD_p0_gdR (by decide)
  have x_NAM_p0_gdL := AXL.over hF9 x_NAM_p0_gdL (by decide)
  have x_MF_p0_gdf := FLD.over hF9 x_MF_p0_gdf (by decide)
  refine lv_iload_n hx hb dX10_book_5 rfl (lv_at hl 1 rfl) ?_
  refine lv_iconst (v := 0) hx hb dX10_book_6 (by decide) ?_
  refine lv_iconst (v := 1) hx hb dX10_book_7 (by decide) ?_
  refine tk_ir (va_runS (As := [.int p1, .int 0, .int 1]) (rest := []) ⟨hx, hb, hml, hown, hts⟩ (c_X10_isIn__22 l D cy z H.size Ps ws hw.1 p1 0 1 r_p1 rl_0 rl_1) (va_cwS 3 hts (gS tw_1359 tw_1360 tw_15 tw_1361) rfl rfl rfl (by decide +kernel) ⟨Nat.le_of_ble_eq_true rfl, Nat.le_of_ble_eq_true rfl⟩) (tg_preS hw hK hSD hA) rfl rfl hl.1 rfl (lv_room (Nat.le_of_ble_eq_true rfl)) dX10_book_8 ⟨Nat.le_of_ble_eq_true rfl, Nat.le_of_ble_eq_true rfl⟩) hw hA (fun v_21  H locs hp_v_21 hw => ?_)
  obtain ⟨hfn, hp_v_21⟩ := hp_v_21
  have hfr_v_21 : (f_X10_isIn__14 p1 (0 : Int32) (1 : Int32)) = v_21 := hfn.1
  have r_v_21 : RI v_21 0 1 := hp_v_21.1
  by_cases c9_v_21 : v_21 = 0
  · have r_v_21 : RI v_21 0 0 := by rw [c9_v_21]; exact rl_0
    have x_IMG0_p1 := ((hp_v_21.2.1 c9_v_21).1)
    refine lv_if_ne (tgt := 18) hx hb dX10_book_11 (by decide) (fun c_11 => ?_) (fun c_11 => ?_)
    · exact absurd (r_v_21.eq.trans rl_0.eq.symm) ((ti_ne c_11))
    · refine lv_sipush (v := (-1000)) hx hb dX10_book_14 (by decide) ?_
      subst hQ
      exact W.iret (v := (-1000)) hx hb hr (fun t ht hW => ⟨⟨(-1000), ws, rfl, ⟨⟨x_HD_p0_gdR, rl_m1000.to (by decide), (fun _ => trivial), (fun h0 => trivial), ⟨⟨fun h9 => absurd h9 x_IMG0_p1, fun _ => x_TLM_p0_gh⟩, ⟨fun h9 => absurd h9 x_IMG0_p1, fun _ => x_MF_p0_gdf⟩, trivial⟩, (fun _ => trivial), (fun _ => trivial)⟩, hw.1, hw.2.2.2.2.1⟩, by rw [ht]; exact hw.2.1, va_K.moved hW.alike hK, hw.2.2.1⟩, hw.2.2.2.1.F ht⟩) hw.2.2.2.1.2.2 dX10_book_17
  · have r_v_21 : RI v_21 1 1 := rc_neL r_v_21 rl_0 (ti_ne c9_v_21) (by decide)
    have r_p1 : RI p1 0 1 := ((hp_v_21.2.2 c9_v_21).1)
    have x_IMG1_p1 := ((hp_v_21.2.2 c9_v_21).2.1)
    refine lv_if_ne (tgt := 18) hx hb dX10_book_11 (by decide) (fun c_11 => ?_) (fun c_11 => ?_)
    · refine lv_aload_n hx hb dX10_book_18 rfl (lv_at hl 0 rfl) ?_
      refine lv_sipush (v := 400) hx hb dX10_book_19 (by decide) ?_
      obtain ⟨so9, o_m, hRX, hSN⟩ := md_full5 hw.1 hw.2.2.1 x_TLM_p0_gh x_BYM_p0_gdT x_HD_p0_gdR x_NAM_p0_gdL x_NLP_gdR_gdN_gdL h_p0
      refine tk_v (va_runV (As := [.int 400]) (rest := []) ⟨hx, hb, hml, hown, hts⟩ (c_X10_begin__11 l D cy z H.size Ps ws hw.1 p0 400 so9 h_p0 rl_400 o_m) (cwV 1 hts (gV tw_1290 tw_1292 ts_38 tw_15 tw_1293) rfl rfl rfl (by decide +kernel) ⟨Nat.le_of_ble_eq_true rfl, Nat.le_of_ble_eq_true rfl⟩) (tg_preV hw hK hSD hA (ci := 10) (q := (RX10, TX10, 49)) rfl h_p0 rfl) rfl rfl hl.1 rfl (lv_room (Nat.le_of_ble_eq_true rfl)) dX10_book_22 ⟨Nat.le_of_ble_eq_true rfl, Nat.le_of_ble_eq_true rfl⟩) hw hA ⟨by decide, by decide⟩ (fun ws H locs hp_v_22 hw hF9 => ?_)
      have x_BYM_p0_gdT := BYM.over hF9 x_BYM_p0_gdT (by decide)
      have x_HD_p0_gdR := AX.over hF9 x_HD_p0_gdR (by decide)
      have x_NAM_p0_gdL := AXL.over hF9 x_NAM_p0_gdL (by decide)
      obtain ⟨hfn, hp_v_22⟩ := hp_v_22
      have o_m : OV vw_M5 Ps ws p0 ((f_X10_begin__4 (400 : Int32) so9)) := hfn.1
      obtain ⟨v_23, m_v_23, r_v_23⟩ := (hp_v_22.1)
      have x_TLM_p0_0 := (hp_v_22.2.1)
      have x_TLM_p0_0 : TLM ws p0 (0) := by obtain ⟨v9, a9, b9⟩ := x_TLM_p0_0; exact ⟨v9, a9, (by omega)⟩
      have hBG := begin_g (lim := 400) hRX (by decide)
      have o_m9 : OV vw_M5 Ps ws p0 ((f_X10_begin__4 (400 : Int32) so9)) := o_m
      refine lv_aload_n hx hb dX10_book_25 rfl (lv_at hl 0 rfl) ?_
      refine lv_iconst (v := 0) hx hb dX10_book_26 (by decide) ?_
      refine tg_put (ci := 10) (ts := ty_MODEL) (v := .int 0) (ty := .int) (C := RX10) (T := TX10) (N := 49) hx hb hts inX10 tyX10 tyX10_ok nmX10 hown hK hw h_p0 rfl rfl 42 (by decide) (hts _ tw_1179) (fun _ h9 => h9) rfl (by decide +kernel) rfl rfl (ft := vI 0 40) rfl ⟨_, rfl, (rl_0.to (by decide))⟩ (by decide) dX10_book_27 (fun ws H locs hw n_k_24 hF9 => ?_)
      have m_v_23 := FLD.over hF9 m_v_23 (by decide)
      have x_BYM_p0_gdT := BYM.over hF9 x_BYM_p0_gdT (by decide)
      have x_HD_p0_gdR := AX.over hF9 x_HD_p0_gdR (by decide)
      have x_NAM_p0_gdL := AXL.over hF9 x_NAM_p0_gdL (by decide)
      have x_TLM_p0_0 := TLM.over hF9 x_TLM_p0_0 (by decide)
      have x_BKS_p0_gdT_gh_gdR_gdN : BKS Ps ws p0 gdT gh gdR gdN := BKS.start hF9 n_k_24 o_m9 hBG.1 (hSN.of (congrFun (congrArg Prod.fst hBG.2.2.1) 14) (congrFun (congrArg Prod.snd hBG.2.2.1) 20)) hBG.2.2.2
      have x_LNS_p0 : LNS Ps ws p0 := ⟨_, n_k_24, AX.imp (lx_true hw h_p0) (fun f9 _ => fun j9 q9 => absurd q9 (by rw [Int32.toInt_zero]; omega))⟩
      exact B30 4294967298 v_23 0 ws _ _ ls (by have q0 := rl_0.1; have u0 := rl_0.2; omega) r_p1 r_v_23 m_v_23 (rl_0.to (by decide)) n_k_24 x_BKS_p0_gdT_gh_gdR_gdN x_BYM_p0_gdT x_HD_p0_gdR x_IMG1_p1 x_NAM_p0_gdL x_NLP_gdR_gdN_gdL x_TLM_p0_0 x_LNS_p0 hw hl
    · have r_v_21 : RI v_21 1 0 := rc_eq1 r_v_21 rl_0 (ti_eq c_11) (by decide)
      exact (r_v_21.no (by decide)).elim
abbrev wr_X9_fault__1 : List (Nat × Nat) := []
abbrev wa_X9_fault__1 : List Nat := []
set_option maxHeartbeats 4000000 in
set_option maxRecDepth 100000 in
theorem c_X9_fault__1 (l : Launch) (D : va_G) (cy : Nat → ClassId) (z : Nat → Nat) (sz : Nat) (Ps : PSI) (w0 : va_W) (hT : HT cy GG Ps w0) (p0 : Nat) (gdf : Int32) (h_p0 : (p0, 33) ∈ Ps) (x_LF_p0_gdf : FLD w0 p0 9 11 (.int gdf)) : Met l yX9_fault (Cond.code yX9_fault cX9_fault 1 (some .int) :: gT) ({ frames := 0, cells := 0, slots := 0, locals := 200 } : Room) (va_Pc [.ref p0] (PRE D cy z w0 sz)) (va_Qi (fun (r : Int32) (u : Unit) => RI r (-2147483648) 2147483647 ∧ (r = 0 → True) ∧ (¬ r = 0 → True) ∧ ((r = gdf) ∧ True) ∧ (r.toInt < 0 → True) ∧ (0 ≤ r.toInt → True)) (BB D cy (va_A w0 sz) (fun (u : Unit) => w0)) (va_A w0 sz)) 0 0 (va_A w0 sz) := by
  refine Met.ofW (cc := cX9_fault) (maxL := 1) (ret := (some .int)) (by decide) rfl ?_
  intro p e s m args below meth c s₁ B hml hv
  obtain ⟨rfl, hsz, hP, hK, hD0, hSD⟩ := hv
  have hx := B.exec
  have hb := B.bytes
  have hr := B.returns
  have hlocks := B.notSynchronized
  have hts : ∀ w ∈ gT, w.before _ s = true := fun w h => atoms_spec (ws := Cond.code yX9_fault cX9_fault 1 (some .int) :: gT) B.pre w (List.mem_cons_of_mem _ h)
  have hown : s.vm.findClass RX9 = some m.cls := findClass_of_methodNamed B.named
  subst hsz
  have hD := hD0.self (sz := s.heap.size)
  generalize hAe : va_A w0 s.heap.size = A at hD hSD ⊢
  have hA : ∀ q : Nat, s.heap.size ≤ q → A q := fun q h => by rw [← hAe]; exact Or.inr h
  have hl := lv_entry ([.ref p0]) (n := 1) (Nat.le_of_ble_eq_true rfl)
  rw [lg_entry_eq]
  generalize (lg_sl ([.ref p0]) ++ List.replicate (1 - (lg_sl ([.ref p0])).length) Slot.unset).toArray = ls at hl ⊢
  have hl : lv_has ls 1 [(0, .ref p0)] := hl
  refine nameQ (fun Q hQ => ?_)
  have hw : WD D cy GG A s wr_X9_fault__1 wa_X9_fault__1 Ps w0 Ps w0 s.heap [] := ⟨hT, hP, hD, va_S.rf, FR.rf, hT.1, [], (List.append_nil _).symm⟩
  refine lv_aload_n hx hb dX9_fault_0 rfl (lv_at hl 0 rfl) ?_
  refine tg_get (ci := 9) (ts := ty_WP) (C := RX9) (T := TX9) (N := 15) hx hb hts inX9 hown hK hw h_p0 rfl rfl 11 (by decide) (hts _ tw_357) (fun _ h9 => h9) (ft := vI (-2147483648) 2147483647) rfl dX9_fault_1 (fun u_1 hv_u_1 m_u_1 => ?_)
  obtain ⟨vu_1, rfl, r_vu_1⟩ := hv_u_1
  subst hQ
  exact W.iret (v := vu_1) hx hb hr (fun t ht hW => ⟨⟨vu_1, (), rfl, ⟨r_vu_1.to (by decide), (fun h0 => trivial), (fun h0 => trivial), ⟨(FLD.eqI hw.2.2.1 x_LF_p0_gdf m_u_1), trivial⟩, (fun _ => trivial), (fun _ => trivial)⟩, by rw [ht]; exact hw.2.1, va_K.moved hW.alike hK, hw.2.2.1⟩, hw.2.2.2.1.F ht⟩) hw.2.2.2.1.2.2 dX9_fault_4
abbrev wr_X10_fault__1 : List (Nat × Nat) := [(10, 0)]
abbrev wa_X10_fault__1 : List Nat := []
set_option maxHeartbeats 4000000 in
set_option maxRecDepth 100000 in
theorem c_X10_fault__1 (l : Launch) (D : va_G) (cy : Nat → ClassId) (z : Nat → Nat) (sz : Nat) (Ps : PSI) (w0 : va_W) (hT : HT cy GG Ps w0) (p0 : Nat) (gdf : Int32) (h_p0 : (p0, 55) ∈ Ps) (x_MF_p0_gdf : FLD w0 p0 10 10 (.int gdf)) : Met l yX10_fault (Cond.code yX10_fault cX10_fault 1 (some .int) :: gT) ({ frames := 0, cells := 0, slots := 0, locals := 200 } : Room) (va_Pc [.ref p0] (PRE D cy z w0 sz)) (va_Qi (fun (r : Int32) (u : va_W) => (RI r (-2147483648) 2147483647 ∧ (r = 0 → True) ∧ (¬ r = 0 → True) ∧ ((r = gdf) ∧ True) ∧ (r.toInt < 0 → True) ∧ (0 ≤ r.toInt → True)) ∧ HT cy GG Ps u ∧ FR wr_X10_fault__1 wa_X10_fault__1 Ps w0 u) (BB D cy (va_A w0 sz) (fun (u : va_W) => u)) (va_A w0 sz)) 0 0 (va_A w0 sz) := by
  refine Met.ofW (cc := cX10_fault) (maxL := 1) (ret := (some .int)) (by decide) rfl ?_
  intro p e s m args below meth c s₁ B hml hv
  obtain ⟨rfl, hsz, hP, hK, hD0, hSD⟩ := hv
  have hx := B.exec
  have hb := B.bytes
  have hr := B.returns
  have hlocks := B.notSynchronized
  have hts : ∀ w ∈ gT, w.before _ s = true := fun w h => atoms_spec (ws := Cond.code yX10_fault cX10_fault 1 (some .int) :: gT) B.pre w (List.mem_cons_of_mem _ h)
  have hown : s.vm.findClass RX10 = some m.cls := findClass_of_methodNamed B.named
  subst hsz
  have hD := hD0.self (sz := s.heap.size)
  generalize hAe : va_A w0 s.heap.size = A at hD hSD ⊢
  have hA : ∀ q : Nat, s.heap.size ≤ q → A q := fun q h => by rw [← hAe]; exact Or.inr h
  have hl := lv_entry ([.ref p0]) (n := 1) (Nat.le_of_ble_eq_true rfl)
  rw [lg_entry_eq]
  generalize (lg_sl ([.ref p0]) ++ List.replicate (1 - (lg_sl ([.ref p0])).length) Slot.unset).toArray = ls at hl ⊢
  have hl : lv_has ls 1 [(0, .ref p0)] := hl
  refine nameQ (fun Q hQ => ?_)
  have hw : WD D cy GG A s wr_X10_fault__1 wa_X10_fault__1 Ps w0 Ps w0 s.heap [] := ⟨hT, hP, hD, va_S.rf, FR.rf, hT.1, [], (List.append_nil _).symm⟩
  refine lv_aload_n hx hb dX10_fault_0 rfl (lv_at hl 0 rfl) ?_
  refine lv_iconst (v := 0) hx hb dX10_fault_1 (by decide) ?_
  refine tg_put (ci := 10) (ts := ty_MODEL) (v := .int 0) (ty := .int) (C := RX10) (T := TX10) (N := 49) hx hb hts inX10 tyX10 tyX10_ok nmX10 hown hK hw h_p0 rfl rfl 0 (by decide) (hts _ tw_1137) (fun _ h9 => h9) rfl (by decide +kernel) rfl rfl (ft := vI (-2147483648) 2147483647) rfl ⟨_, rfl, (rl_0.to (by decide))⟩ (by decide) dX10_fault_2 (fun ws H locs hw n_k_1 hF9 => ?_)
  have x_MF_p0_gdf := FLD.over hF9 x_MF_p0_gdf (by decide)
  refine lv_aload_n hx hb dX10_fault_5 rfl (lv_at hl 0 rfl) ?_
  refine tg_get (ci := 10) (ts := ty_MODEL) (C := RX10) (T := TX10) (N := 49) hx hb hts inX10 hown hK hw h_p0 rfl rfl 10 (by decide) (hts _ tw_1147) (fun _ h9 => h9) (ft := vI (-2147483648) 2147483647) rfl dX10_fault_6 (fun u_2 hv_u_2 m_u_2 => ?_)
  obtain ⟨vu_2, rfl, r_vu_2⟩ := hv_u_2
  subst hQ
  exact W.iret (v := vu_2) hx hb hr (fun t ht hW => ⟨⟨vu_2, ws, rfl, ⟨⟨r_vu_2.to (by decide), (fun h0 => trivial), (fun h0 => trivial), ⟨(FLD.eqI hw.2.2.1 x_MF_p0_gdf m_u_2), trivial⟩, (fun _ => trivial), (fun _ => trivial)⟩, hw.1, hw.2.2.2.2.1⟩, by rw [ht]; exact hw.2.1, va_K.moved hW.alike hK, hw.2.2.1⟩, hw.2.2.2.1.F ht⟩) hw.2.2.2.1.2.2 dX10_fault_9
