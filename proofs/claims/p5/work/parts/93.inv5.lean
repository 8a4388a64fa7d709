/-! class and reference hold the same of the post -/
theorem PDO_0 : PDO OP0 R0 N0 := CP.pdo (CP.new (s2 := dOS) (A := fun _ => 0) (B := fun _ => 0) (C := fun _ => 0) (D := fun _ => -1) P0_OP0 (fun _ _ => rfl) (fun _ _ => rfl) (fun _ _ => rfl) (fun _ _ => rfl))
theorem LKI_pick {v f : Int32} {n : Int} {o oA : OS} {R U : Nat → Int32} (h : ∃ N, PDO o R N) (hA : f ≠ 0 → ∃ N, PDO oA U N) : pick v n 1 f ≠ 0 → ∃ N, PDO (pick v n o oA) (pick v n R U) N := by
  by_cases e : v.toInt = n
  · rw [pick_eq e, pick_eq e, pick_eq e]; exact fun _ => h
  · rw [pick_ne e, pick_ne e, pick_ne e]; exact hA
theorem LK_rest {v a b : Int32} {oA oB : OS} {U V : Nat → Int32} (h : RSP v a b) (hA : a ≠ 0 → ∃ N, PDO oA U N) (hB : b ≠ 0 → ∃ N, PDO oB V N) : ∃ N, PDO (pick v 0 oA oB) (pick v 0 U V) N := by
  rcases h with ⟨e, h⟩ | ⟨e, h⟩
  · rw [pick_eq e, pick_eq e]; exact hA h
  · rw [pick_ne (show v.toInt ≠ 0 by omega), pick_ne (show v.toInt ≠ 0 by omega)]; exact hB h
theorem cnt_eq {k : Int32} {o : OS} {R : Nat → Int32} {g : Int} {r r' : Int32} (hP : ∃ N, PDO o R N) (h : CNT k (o.2.2.1 1) (o.1 5) (o.1 6) g r) (h' : CNT k R (R 4) (R 5) g r') : r = r' := by
  obtain ⟨N, hP⟩ := hP
  rw [hP.2.2.2.1, hP.2.2.2.2] at h
  exact CNT.eq h h' (PDO.many hP)
/-! class and reference hold the same names of the post -/
theorem NLC_0 {L : Nat → Int64} : NLC R0 N0 L := fun s b M q => by
  have e0 : R0 s = 0 := if_neg (by omega)
  have ec : ct R0 s = 0 := by
    show (R0 s).toNatClampNeg = 0
    rw [e0]
    rfl
  rw [ec, e0]
  exact ⟨rfl, Nat.zero_le _, fun k hk => by omega⟩
/-- what is held of an image, where one was taken -/
def LKP (f : Int32) (o : OS) (R : Nat → Int32) (N : Nat → Nat) (L : Nat → Int64) : Prop := f ≠ 0 → PDO o R N ∧ NLC R N L
theorem LKP.none {o : OS} {R : Nat → Int32} {N : Nat → Nat} {L : Nat → Int64} : LKP 0 o R N L := fun h => absurd rfl h
theorem LKP.pk {v f : Int32} {n : Int} {o oA : OS} {R U : Nat → Int32} {N M : Nat → Nat} {L K : Nat → Int64} (h1 : PDO o R N) (h2 : NLC R N L) (hA : LKP f oA U M K) : LKP (pick v n 1 f) (pick v n o oA) (pick v n R U) (pick v n N M) (pick v n L K) := by
  by_cases e : v.toInt = n
  · rw [pick_eq e, pick_eq e, pick_eq e, pick_eq e, pick_eq e]; exact fun _ => ⟨h1, h2⟩
  · rw [pick_ne e, pick_ne e, pick_ne e, pick_ne e, pick_ne e]; exact hA
theorem LKP.rest {v a b : Int32} {oA oB : OS} {U V : Nat → Int32} {N M : Nat → Nat} {L K : Nat → Int64} (h : RSP v a b) (hA : LKP a oA U N L) (hB : LKP b oB V M K) : PDO (pick v 0 oA oB) (pick v 0 U V) (pick v 0 N M) ∧ NLC (pick v 0 U V) (pick v 0 N M) (pick v 0 L K) := by
  rcases h with ⟨e, h⟩ | ⟨e, h⟩
  · rw [pick_eq e, pick_eq e, pick_eq e, pick_eq e]; exact hA h
  · rw [pick_ne (show v.toInt ≠ 0 by omega), pick_ne (show v.toInt ≠ 0 by omega), pick_ne (show v.toInt ≠ 0 by omega), pick_ne (show v.toInt ≠ 0 by omega)]; exact hB h
theorem sgb_0 : (0 : Int32) = sgb 0 := by decide +kernel
