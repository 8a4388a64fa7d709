/-! what the class holds of the post: its worlds, and the views of their posts -/
abbrev NPp (wr : List (Nat × Nat)) (wa : List Nat) : Prop := (∀ k ∈ vw_POST.2.1 ++ vw_POST.2.2.1, (vw_POST.1, k) ∉ wr) ∧ (∀ q ∈ vw_POST.2.2.2.1 ++ vw_POST.2.2.2.2, (vw_POST.1, q.1) ∉ wr ∧ q.2 ∉ wa)
/-- the post of a world has the view o -/
def WR (Ps : PSI) (ws : va_W) (w : Nat) (o : OS) : Prop := ∃ pt, FLD ws w 8 0 (.ref pt) ∧ OV vw_POST Ps ws pt o
/-- a has b's post, no other world has another than before -/
def TKF (w0 ws : va_W) (a b : Nat) : Prop := (∃ pt, FLD w0 b 8 0 (.ref pt) ∧ FLD ws a 8 0 (.ref pt)) ∧ ∀ v pt, v ≠ a → FLD w0 v 8 0 (.ref pt) → FLD ws v 8 0 (.ref pt)
def RFE (ws : va_W) (a : Nat) (i : Int32) (b : Nat) : Prop := ∃ (q : Nat) (cA : ClassId) (n : Nat) (g : Nat → Option Nat), ws[q]? = some (a, .inl (cA, n, .inr (.inr (.inr (.inr g))))) ∧ g i.toNatClampNeg = some b
def QRF (Ps : PSI) (ws : va_W) (a t n : Nat) (g : Nat → Nat) : Prop := ∃ (k : Nat) (cA : ClassId) (m : Nat) (gg : Nat → Option Nat), Ps[k]? = some (a, t) ∧ ws[k]? = some (a, .inl (cA, m, .inr (.inr (.inr (.inr gg))))) ∧ ∀ j, j < n → gg j = some (g j)
/-- which are which: 0 world, 1 trial, 2 history, 3 its worlds, 4 images, 5 and 6 the two, 7 and 8 their worlds; g: the history's worlds -/
def GWX (ws : va_W) (x : Nat) (q : Nat → Nat) : Prop := FLD ws x 9 1 (.ref (q 0)) ∧ FLD ws x 9 2 (.ref (q 1)) ∧ FLD ws x 9 3 (.ref (q 2)) ∧ FLD ws x 9 4 (.ref (q 4))
def GD (q g : Nat → Nat) : Prop := (q 1 ≠ q 0 ∧ q 7 ≠ q 0 ∧ q 8 ≠ q 0 ∧ q 7 ≠ q 1 ∧ q 8 ≠ q 1 ∧ q 7 ≠ q 8 ∧ q 5 ≠ q 6) ∧ ∀ j, j < 9 → g j ≠ q 0 ∧ g j ≠ q 1 ∧ g j ≠ q 7 ∧ g j ≠ q 8
def GQ (Ps : PSI) (ws : va_W) (q g : Nat → Nat) : Prop := FLD ws (q 2) 1 0 (.ref (q 3)) ∧ QRF Ps ws (q 3) 22 9 g ∧ QRF Ps ws (q 4) 23 2 (fun j => q (5 + j)) ∧ FLD ws (q 5) 2 0 (.ref (q 7)) ∧ FLD ws (q 6) 2 0 (.ref (q 8)) ∧ GD q g
def NC (ws : va_W) (h n c : Nat) : Prop := FLD ws h 1 1 (.int (nI n)) ∧ n < 9 ∧ FLD ws h 1 2 (.int (nI c)) ∧ c ≤ 8
def HW (Ps : PSI) (ws : va_W) (q g : Nat → Nat) (o oA oB : OS) (n c : Nat) (p t : Bool) : Prop := WR Ps ws (q 0) o ∧ (∀ m, m < c → WR Ps ws (g ((n + 8 - m) % 9)) o) ∧ (p = true → WR Ps ws (g n) o) ∧ (t = true → WR Ps ws (q 1) o) ∧ WR Ps ws (q 7) oA ∧ WR Ps ws (q 8) oB
/-- world and history; p: a place is prepared, t: trial has the world's post -/
def HE (Ps : PSI) (ws : va_W) (q g : Nat → Nat) (o oA oB : OS) (p t : Bool) : Prop := ∃ n c, NC ws (q 2) n c ∧ HW Ps ws q g o oA oB n c p t
section FACTS48
variable {s : State} {H : Heap} {locs : List Loc} {D : va_G} {cy : Nat → ClassId} {A : Nat → Prop} {ws ws' w0 wx : va_W} {G : Nat → Nat → CTy} {Ps Pq X : PSI} {wr : List (Nat × Nat)} {wa : List Nat} {x a b h v n c : Nat} {q g : Nat → Nat} {o oA oB : OS} {p t p' t' : Bool}
theorem WR.over (hF : FR wr wa Ps ws ws') (hn : (8, 0) ∉ wr ∧ NPp wr wa) (k : WR Ps ws v o) : WR Ps ws' v o := by
  obtain ⟨pt, h1, h2⟩ := k
  exact ⟨pt, FLD.over hF h1 hn.1, OV.over hF h2 hn.2⟩
theorem WR.tk (hD : va_D A w0) (hT : TKF w0 ws a b) (hF : FR wr wa Ps w0 ws) (hn : NPp wr wa) (k : WR Ps w0 b o) : WR Ps ws a o := by
  obtain ⟨pt, h1, h2⟩ := hT.1
  obtain ⟨p2, k1, k2⟩ := k
  cases FLD.inj hD h1 k1
  exact ⟨pt, h2, OV.over hF k2 hn⟩
theorem WR.ne (hT : TKF w0 ws a b) (hF : FR wr wa Ps w0 ws) (hn : NPp wr wa) (hv : v ≠ a) (k : WR Ps w0 v o) : WR Ps ws v o := by
  obtain ⟨p2, k1, k2⟩ := k
  exact ⟨p2, hT.2 v p2 hv k1, OV.over hF k2 hn⟩
theorem TKF.over (hF : FR wr wa Ps ws ws') (k : TKF w0 ws a b) (hn : (8, 0) ∉ wr) : TKF w0 ws' a b := by
  obtain ⟨⟨pt, h1, h2⟩, h3⟩ := k
  exact ⟨⟨pt, h1, FLD.over hF h2 hn⟩, fun v p2 hv k => FLD.over hF (h3 v p2 hv k) hn⟩
theorem QRF.over {u m : Nat} (hF : FR wr wa Ps ws ws') (k : QRF Ps ws a u m g) (hn : u ∉ wa) : QRF Ps ws' a u m g := by
  obtain ⟨i, cA, mm, gg, h1, h2, h3⟩ := k
  obtain ⟨e', f1, -, f3⟩ := hF.2 i a _ h2
  have e := f3 _ rfl _ h1 hn
  subst e
  exact ⟨i, cA, mm, gg, h1, f1, h3⟩
theorem QRF.get {u m : Nat} {i : Int32} (hD : va_D A ws) (k : QRF Ps ws a u m g) (hr : RFE ws a i b) (hi : i.toNatClampNeg < m) : b = g i.toNatClampNeg := by
  obtain ⟨j, cA, mm, gg, h1, h2, h3⟩ := k
  obtain ⟨j', cB, n', g', k1, k2⟩ := hr
  have e := hD.1 j j' _ _ h2 k1 rfl
  subst e
  cases h2.symm.trans k1
  exact Option.some.inj (k2.symm.trans (h3 _ hi))
theorem GWX.over (hF : FR wr wa Ps ws ws') (k : GWX ws x q) (hn : (9, 1) ∉ wr ∧ (9, 2) ∉ wr ∧ (9, 3) ∉ wr ∧ (9, 4) ∉ wr) : GWX ws' x q := ⟨FLD.over hF k.1 hn.1, FLD.over hF k.2.1 hn.2.1, FLD.over hF k.2.2.1 hn.2.2.1, FLD.over hF k.2.2.2 hn.2.2.2⟩
theorem GQ.over (hF : FR wr wa Ps ws ws') (k : GQ Ps ws q g) (hn : (1, 0) ∉ wr ∧ (2, 0) ∉ wr ∧ 22 ∉ wa ∧ 23 ∉ wa) : GQ Ps ws' q g := ⟨FLD.over hF k.1 hn.1, QRF.over hF k.2.1 hn.2.2.1, QRF.over hF k.2.2.1 hn.2.2.2, FLD.over hF k.2.2.2.1 hn.2.1, FLD.over hF k.2.2.2.2.1 hn.2.1, k.2.2.2.2.2⟩
theorem NC.over (hF : FR wr wa Ps ws ws') (k : NC ws h n c) (hn : (1, 1) ∉ wr ∧ (1, 2) ∉ wr) : NC ws' h n c := ⟨FLD.over hF k.1 hn.1, k.2.1, FLD.over hF k.2.2.1 hn.2, k.2.2.2⟩
theorem HW.over (hF : FR wr wa Ps ws ws') (k : HW Ps ws q g o oA oB n c p t) (hn : (8, 0) ∉ wr ∧ NPp wr wa) : HW Ps ws' q g o oA oB n c p t := ⟨WR.over hF hn k.1, fun m hm => WR.over hF hn (k.2.1 m hm), fun e => WR.over hF hn (k.2.2.1 e), fun e => WR.over hF hn (k.2.2.2.1 e), WR.over hF hn k.2.2.2.2.1, WR.over hF hn k.2.2.2.2.2⟩
theorem HE.over (hF : FR wr wa Ps ws ws') (k : HE Ps ws q g o oA oB p t) (hn : ((1, 1) ∉ wr ∧ (1, 2) ∉ wr) ∧ (8, 0) ∉ wr ∧ NPp wr wa) : HE Ps ws' q g o oA oB p t := by
  obtain ⟨n, c, h1, h2⟩ := k
  exact ⟨n, c, NC.over hF h1 hn.1, HW.over hF h2 hn.2⟩
theorem HE.weak (hp : p' = true → p = true) (ht : t' = true → t = true) (k : HE Ps ws q g o oA oB p t) : HE Ps ws q g o oA oB p' t' := by
  obtain ⟨n, c, h1, h2⟩ := k
  exact ⟨n, c, h1, h2.1, h2.2.1, fun e => h2.2.2.1 (hp e), fun e => h2.2.2.2.1 (ht e), h2.2.2.2.2⟩
theorem OV.app {V : VW} (k : OV V Ps ws a o) : OV V (Ps ++ X) (ws ++ wx) a o := by
  refine ⟨fun j hj => FLD.app (k.1 j hj), fun j hj => FLD.app (k.2.1 j hj), fun z hz => ?_, fun z hz => ?_⟩
  · obtain ⟨r, h1, h2⟩ := k.2.2.1 z hz
    exact ⟨r, FLD.app h1, ARR.app h2⟩
  · obtain ⟨r, h1, h2⟩ := k.2.2.2 z hz
    exact ⟨r, FLD.app h1, ARL.app h2⟩
theorem WR.app (k : WR Ps ws v o) : WR (Ps ++ X) (ws ++ wx) v o := by
  obtain ⟨pt, h1, h2⟩ := k
  exact ⟨pt, FLD.app h1, OV.app h2⟩
theorem QRF.app {u m : Nat} (k : QRF Ps ws a u m g) : QRF (Ps ++ X) (ws ++ wx) a u m g := by
  obtain ⟨i, cA, mm, gg, h1, h2, h3⟩ := k
  exact ⟨i, cA, mm, gg, gapp h1, gapp h2, h3⟩
theorem GWX.app (k : GWX ws x q) : GWX (ws ++ wx) x q := ⟨FLD.app k.1, FLD.app k.2.1, FLD.app k.2.2.1, FLD.app k.2.2.2⟩
theorem GQ.app (k : GQ Ps ws q g) : GQ (Ps ++ X) (ws ++ wx) q g := ⟨FLD.app k.1, QRF.app k.2.1, QRF.app k.2.2.1, FLD.app k.2.2.2.1, FLD.app k.2.2.2.2.1, k.2.2.2.2.2⟩
theorem HW.app (k : HW Ps ws q g o oA oB n c p t) : HW (Ps ++ X) (ws ++ wx) q g o oA oB n c p t := ⟨WR.app k.1, fun m hm => WR.app (k.2.1 m hm), fun e => WR.app (k.2.2.1 e), fun e => WR.app (k.2.2.2.1 e), WR.app k.2.2.2.2.1, WR.app k.2.2.2.2.2⟩
theorem HE.app (k : HE Ps ws q g o oA oB p t) : HE (Ps ++ X) (ws ++ wx) q g o oA oB p t := by
  obtain ⟨n, c, h1, h2⟩ := k
  exact ⟨n, c, ⟨FLD.app h1.1, h1.2.1, FLD.app h1.2.2.1, h1.2.2.2⟩, HW.app h2⟩
theorem OV.up {V : VW} (hup : ∀ z ∈ Pq, z ∈ Ps) (hw : WD D cy G A s wr wa X w0 Ps ws H locs) (k : OV V Pq ws a o) : OV V Ps ws a o := by
  refine ⟨k.1, k.2.1, fun z hz => ?_, fun z hz => ?_⟩
  · obtain ⟨r, h1, h2⟩ := k.2.2.1 z hz
    exact ⟨r, h1, ARR.up hup hw h2⟩
  · obtain ⟨r, h1, h2⟩ := k.2.2.2 z hz
    exact ⟨r, h1, ARL.up hup hw h2⟩
theorem WR.up (hup : ∀ z ∈ Pq, z ∈ Ps) (hw : WD D cy G A s wr wa X w0 Ps ws H locs) (k : WR Pq ws v o) : WR Ps ws v o := by
  obtain ⟨pt, h1, h2⟩ := k
  exact ⟨pt, h1, OV.up hup hw h2⟩
theorem QRF.up {u m : Nat} (hup : ∀ z ∈ Pq, z ∈ Ps) (hw : WD D cy G A s wr wa X w0 Ps ws H locs) (k : QRF Pq ws a u m g) : QRF Ps ws a u m g := by
  obtain ⟨i, cA, mm, gg, h1, h2, h3⟩ := k
  obtain ⟨k, e, g1, g2, -⟩ := hw.1.find (hup _ (List.mem_of_getElem? h1))
  have eq := hw.2.2.1.1 i k _ _ h2 g2 rfl
  subst eq
  exact ⟨i, cA, mm, gg, g1, h2, h3⟩
theorem GQ.up (hup : ∀ z ∈ Pq, z ∈ Ps) (hw : WD D cy G A s wr wa X w0 Ps ws H locs) (k : GQ Pq ws q g) : GQ Ps ws q g := ⟨k.1, QRF.up hup hw k.2.1, QRF.up hup hw k.2.2.1, k.2.2.2.1, k.2.2.2.2.1, k.2.2.2.2.2⟩
theorem HE.up (hup : ∀ z ∈ Pq, z ∈ Ps) (hw : WD D cy G A s wr wa X w0 Ps ws H locs) (k : HE Pq ws q g o oA oB p t) : HE Ps ws q g o oA oB p t := by
  obtain ⟨n, c, h1, h2⟩ := k
  exact ⟨n, c, h1, WR.up hup hw h2.1, fun m hm => WR.up hup hw (h2.2.1 m hm), fun e => WR.up hup hw (h2.2.2.1 e), fun e => WR.up hup hw (h2.2.2.2.1 e), WR.up hup hw h2.2.2.2.2.1, WR.up hup hw h2.2.2.2.2.2⟩
theorem m9 (k : Nat) : k % 9 < 9 := Nat.mod_lt _ (by decide)
/-- trial takes the world -/
theorem HE.trial (hD : va_D A ws) (hF : FR wr wa Ps ws ws') (hn : ((1, 1) ∉ wr ∧ (1, 2) ∉ wr) ∧ NPp wr wa) (hd : GD q g) (k : HE Ps ws q g o oA oB p t) (hT : TKF ws ws' (q 1) (q 0)) : HE Ps ws' q g o oA oB p true := by
  obtain ⟨n, c, h1, b1, b2, b3, b4, b5, b6⟩ := k
  obtain ⟨⟨d1, d2, d3, d4, d5, d6, d7⟩, dg⟩ := hd
  have N := hn.2
  exact ⟨n, c, NC.over hF h1 hn.1, WR.ne hT hF N d1.symm b1, fun m hm => WR.ne hT hF N (dg _ (m9 _)).2.1 (b2 m hm), fun e => WR.ne hT hF N (dg n h1.2.1).2.1 (b3 e), fun _ => WR.tk hD hT hF N b1, WR.ne hT hF N d4 b5, WR.ne hT hF N d5 b6⟩
/-- the world takes trial -/
theorem HE.world (hD : va_D A ws) (hF : FR wr wa Ps ws ws') (hn : ((1, 1) ∉ wr ∧ (1, 2) ∉ wr) ∧ NPp wr wa) (hd : GD q g) (k : HE Ps ws q g o oA oB p true) (hT : TKF ws ws' (q 0) (q 1)) : HE Ps ws' q g o oA oB p true := by
  obtain ⟨n, c, h1, b1, b2, b3, b4, b5, b6⟩ := k
  obtain ⟨⟨d1, d2, d3, d4, d5, d6, d7⟩, dg⟩ := hd
  have N := hn.2
  exact ⟨n, c, NC.over hF h1 hn.1, WR.tk hD hT hF N (b4 rfl), fun m hm => WR.ne hT hF N (dg _ (m9 _)).1 (b2 m hm), fun e => WR.ne hT hF N (dg n h1.2.1).1 (b3 e), fun _ => WR.ne hT hF N d1 (b4 rfl), WR.ne hT hF N d2 b5, WR.ne hT hF N d3 b6⟩
/-- a place is prepared -/
theorem HW.prep (hD : va_D A ws) (hF : FR wr wa Ps ws ws') (N : NPp wr wa) (hd : GD q g) (hn : n < 9) (k : HW Ps ws q g o oA oB n c p t) (hT : TKF ws ws' (g n) (q 0)) : HW Ps ws' q g o oA oB n c true t := by
  obtain ⟨b1, b2, b3, b4, b5, b6⟩ := k
  obtain ⟨⟨d1, d2, d3, d4, d5, d6, d7⟩, dg⟩ := hd
  have z := dg n hn
  have any : ∀ j, WR Ps ws j o → WR Ps ws' j o := fun j hj => by
    by_cases e : j = g n
    · rw [e]; exact WR.tk hD hT hF N b1
    · exact WR.ne hT hF N e hj
  exact ⟨any _ b1, fun m hm => any _ (b2 m hm), fun _ => WR.tk hD hT hF N b1, fun e => any _ (b4 e), WR.ne hT hF N z.2.2.1.symm b5, WR.ne hT hF N z.2.2.2.symm b6⟩
theorem HW.keep (hn : n < 9) (hc : c ≤ 8) (k : HW Ps ws q g o oA oB n c true t) : HW Ps ws q g o oA oB ((n + 1) % 9) (min 8 (c + 1)) false t := by
  obtain ⟨b1, b2, b3, b4, b5, b6⟩ := k
  refine ⟨b1, fun m hm => ?_, fun e => (by cases e), b4, b5, b6⟩
  by_cases e : m = 0
  · rw [show ((n + 1) % 9 + 8 - m) % 9 = n by omega]
    exact b3 rfl
  · rw [show ((n + 1) % 9 + 8 - m) % 9 = (n + 8 - (m - 1)) % 9 by omega]
    exact b2 (m - 1) (by omega)
theorem HW.back (hD : va_D A ws) (hF : FR wr wa Ps ws ws') (N : NPp wr wa) (hd : GD q g) (hn : n < 9) (hc : c ≤ 8) (h0 : c ≠ 0) (k : HW Ps ws q g o oA oB n c p t) (hT : TKF ws ws' (q 0) (g ((n + 8) % 9))) : HW Ps ws' q g o oA oB ((n + 8) % 9) (c - 1) false t := by
  obtain ⟨b1, b2, b3, b4, b5, b6⟩ := k
  obtain ⟨⟨d1, d2, d3, d4, d5, d6, d7⟩, dg⟩ := hd
  refine ⟨WR.tk hD hT hF N (b2 0 (by omega)), fun m hm => ?_, fun e => (by cases e), fun e => WR.ne hT hF N d1 (b4 e), WR.ne hT hF N d2 b5, WR.ne hT hF N d3 b6⟩
  rw [show ((n + 8) % 9 + 8 - m) % 9 = (n + 8 - (m + 1)) % 9 by omega]
  exact WR.ne hT hF N (dg _ (m9 _)).1 (b2 (m + 1) (by omega))
theorem HW.none (k : HW Ps ws q g o oA oB n c p t) : HW Ps ws q g o oA oB n 0 p t := ⟨k.1, fun m hm => by omega, k.2.2⟩
theorem GWX.wo (hD : va_D A ws) (k : GWX ws x q) (hf : FLD ws x 9 1 (.ref a)) : a = q 0 := by
  cases FLD.inj hD k.1 hf; rfl
theorem GWX.tr (hD : va_D A ws) (k : GWX ws x q) (hf : FLD ws x 9 2 (.ref a)) : a = q 1 := by
  cases FLD.inj hD k.2.1 hf; rfl
theorem GWX.hi (hD : va_D A ws) (k : GWX ws x q) (hf : FLD ws x 9 3 (.ref a)) : a = q 2 := by
  cases FLD.inj hD k.2.2.1 hf; rfl
theorem GWX.im (hD : va_D A ws) (k : GWX ws x q) (hf : FLD ws x 9 4 (.ref a)) : a = q 4 := by
  cases FLD.inj hD k.2.2.2 hf; rfl
theorem NC.nn {i : Int32} (hD : va_D A ws) (k : NC ws h n c) (hf : FLD ws h 1 1 (.int i)) : i = nI n := by
  cases FLD.inj hD k.1 hf; rfl
theorem NC.cc {i : Int32} (hD : va_D A ws) (k : NC ws h n c) (hf : FLD ws h 1 2 (.int i)) : i = nI c := by
  cases FLD.inj hD k.2.2.1 hf; rfl
/-- the history's world at a place -/
theorem GQ.at {i : Int32} {r k9 : Nat} (hD : va_D A ws) (k : GQ Ps ws q g) (hf : FLD ws (q 2) 1 0 (.ref r)) (he : RFE ws r i b) (hi : i = nI k9) (hk : k9 < 9) : b = g k9 := by
  cases FLD.inj hD k.1 hf
  have e : i.toNatClampNeg = k9 := by rw [hi]; exact nI_clamp (by omega)
  have z := QRF.get hD k.2.1 he (by omega)
  rw [z, e]
theorem FLD.eqI {a ci k : Nat} {i j : Int32} (hD : va_D A ws) (h1 : FLD ws a ci k (.int i)) (h2 : FLD ws a ci k (.int j)) : j = i := by
  cases FLD.inj hD h1 h2; rfl
theorem FLD.other {i a ci k b cj j : Nat} {fs : List Value} {v u : Value} (h : ws[i]? = some (a, .inr (ci, fs))) (hn : b ≠ a) (hf : FLD ws b cj j u) : FLD (ws.set i (a, .inr (ci, fs.set k v))) b cj j u := by
  obtain ⟨r, gs, h1, h2⟩ := hf
  have hq : i ≠ r := fun e => by
    subst e
    rw [h] at h1
    exact hn (congrArg (fun x => x.1) (Option.some.inj h1)).symm
  exact ⟨r, gs, by rw [List.getElem?_set_ne hq]; exact h1, h2⟩
end FACTS48
theorem kp0 {u : Int32} {c : Nat} (e1 : u = nI c) (h0 : ¬ u = 0) : c ≠ 0 := fun e => h0 (by rw [e1, e]; rfl)
theorem nx1 {v v2 v3 : Int32} {n : Nat} (e1 : v = nI n) (hn : n < 9) (e2 : v2 = v + 1) (e3 : v3 = v2 - v2 / 9 * 9) : v3 = nI ((n + 1) % 9) := by
  rw [e3, e2, e1, nI_1]
  exact pk_rem (a := n + 1) (d := 9) (by omega) (by decide) (by decide)
theorem nx8 {v v3 v4 v5 : Int32} {n : Nat} (e1 : v = nI n) (hn : n < 9) (e2 : v3 = v + 9) (e3 : v4 = v3 - 1) (e4 : v5 = v4 - v4 / 9 * 9) : v5 = nI ((n + 8) % 9) := by
  have e5 : v4 = nI (n + 8) := by
    rw [e3, e2, e1, show nI n + (9 : Int32) = nI (n + 8 + 1) from nI_add n 9, nI_pred]
  rw [e4, e5]
  exact pk_rem (a := n + 8) (d := 9) (by omega) (by decide) (by decide)
theorem mn8 {u v6 v7 : Int32} {c : Nat} (e1 : u = nI c) (hc : c ≤ 8) (e2 : v6 = u + 1) (e3 : mjmin 8 v6 = v7) : v7 = nI (min 8 (c + 1)) := by
  rw [← e3, e2, e1, nI_1]
  unfold mjmin
  by_cases q : c + 1 < 8
  · rw [if_pos (show nI (c + 1) < (8 : Int32) from nI_lt (b := 8) q (by decide)), show min 8 (c + 1) = c + 1 by omega]
  · rw [if_neg (show ¬ nI (c + 1) < (8 : Int32) from nI_nlt (b := 8) (by omega) (by omega)), show min 8 (c + 1) = 8 by omega]
    rfl
theorem kp1 {u v : Int32} {c : Nat} (e1 : u = nI c) (h0 : ¬ u = 0) (e2 : v = u - 1) : c ≠ 0 ∧ v = nI (c - 1) := by
  have q : c ≠ 0 := fun e => h0 (by rw [e1, e]; rfl)
  refine ⟨q, ?_⟩
  rw [e2, e1, show nI c = nI (c - 1 + 1) by rw [show c - 1 + 1 = c by omega], nI_pred]
section ROWSH
variable {p : Program} {l : Launch} {e : Env} {R : Room} {s : State} {m : MethodId} {args : Array Value} {below : List Frame} {meth : Method} {c : Code} {H : Heap} {locs : List Loc} {cells slots : Nat} {Q : State → Prop}
variable {cc : ByteArray} {pc : Nat} {ls : Array Slot} {rest : List Value} {D : va_G} {cy : Nat → ClassId} {z : Nat → Nat} {A : Nat → Prop} {a : Nat} {ws w0 : va_W} {G : Nat → Nat → CTy} {Ps P0 : PSI} {wr : List (Nat × Nat)} {wa : List Nat}
theorem tg_putE (hexec : p.tables.exec = Jvm.exec) (hb : c.code = cc) {own ref C : String} {T : u_T} {N ci index : Nat} (hts : ∀ w ∈ gT, w.before args s = true) (hin : ∀ w ∈ u_ws C T N, w ∈ gT) (ty0 : Nat → FieldType) (hty : ∀ k, k < N → parseFieldDescriptor (T k).2.2.1 = some (ty0 k)) (hnm : ∀ a, a < N → ∀ b, b < N → a ≠ b → (T a).2.1 ≠ (T b).2.1) (hown : s.vm.findClass own = some m.cls) (hK : va_K D classes (TY cy) s) (hw : WD D cy G A s wr wa P0 w0 Ps ws H locs) {t : Nat} (ha : (a, t) ∈ Ps) {ts : List VT} (hG : G a t = .inl (ci, ts)) (hc : classes[ci]? = some (C, T, N)) (k : Nat) (hk : k < N) (hlink : (Cond.fieldLink own index ref (T k).2.1 (T k).2.2.1).before args s = true) (hsame : ∀ x, s.fieldFound? (T k).1 (T k).2.1 (T k).2.2.1 = some x → s.fieldFound? ref (T k).2.1 (T k).2.2.1 = some x) (hfin : (T k).2.2.2 = false) {ty : FieldType} {v : Value} (hd : parseFieldDescriptor (T k).2.2.1 = some ty) (hn : narrow ty v = v) (hfit : fits ty v = true) {ft : VT} (hft : ts[k]? = some ft) (hv : vok Ps ft v) (hm : (ci, k) ∈ wr) (hdg : decode cc pc = .ok (.putfield index, 3))
    (kk : ∀ (ws1 : va_W) (H1 : Heap) (locs1 : List Loc), WD D cy G A s wr wa P0 w0 Ps ws1 H1 locs1 → FLD ws1 a ci k v → FR [(ci, k)] [] Ps ws ws1 → (∀ (b9 : Nat) (u9 : Value), b9 ≠ a → FLD ws b9 ci k u9 → FLD ws1 b9 ci k u9) → W p l e R s m args below meth c H1 locs1 cells slots Q (F0 m (pc + 3) ls rest)) : W p l e R s m args below meth c H locs cells slots Q (F0 m pc ls (v :: .ref a :: rest)) := by
  obtain ⟨q, e1, h1, h2, h3⟩ := hw.1.find ha
  have h9 := h3
  rw [hG] at h9
  obtain ⟨fs, rfl, h4⟩ := h9
  obtain ⟨v0, h5, -⟩ := h4 k ft hft
  have hl := (List.getElem?_eq_some_iff.mp h5).1
  obtain ⟨w1, w2, w3, w4, w5, w6, w7⟩ := hw
  exact va_put hexec hb hts hin ty0 hty hnm hown hK w2 w3 w4 q h2 hc k hk hlink hsame hfin hd hn hfit hl hdg (fun H1 locs1 a1 a2 a3 => kk _ H1 locs1 ⟨w1.set h1 (tg_cokput hG hft hv h4), a1, a2, a3, w5.put h2 hm, w6, w7⟩ (FLD.put h2 hl) (FR.rf.put h2 List.mem_cons_self) (fun b9 u9 hn9 hf9 => FLD.other h2 hn9 hf9))
theorem tg_aaldE (hexec : p.tables.exec = Jvm.exec) (hb : c.code = cc) (hK : va_K D classes (TY cy) s) (hw : WD D cy G A s wr wa P0 w0 Ps ws H locs) {t n t0 u : Nat} {C : String} {el : Nat → Nat} (ha : (a, t) ∈ Ps) (hG : G a t = .inr (.inr (.inr (t0, n, el)))) (ht0 : (TY cy)[t0]? = some (cy t0, .object C)) {i : Int32} {x y : Int} (AA BB : Nat) (hi0 : RI i x y) (hab : (AA : Int) ≤ x ∧ y ≤ (BB : Int) ∧ BB < n) (hel : ∀ j, j < BB + 1 → AA ≤ j → el j = u) (hdg : decode cc pc = .ok (.aaload, 1))
    (kk : ∀ b : Nat, (b, u) ∈ Ps → RFE ws a i b → W p l e R s m args below meth c H locs cells slots Q (F0 m (pc + 1) ls (.ref b :: rest))) : W p l e R s m args below meth c H locs cells slots Q (F0 m pc ls (.int i :: .ref a :: rest)) := by
  obtain ⟨q, e1, -, h2, h3⟩ := hw.1.find ha
  rw [hG] at h3
  obtain ⟨g, rfl, h4⟩ := h3
  obtain ⟨g1, g2, g3⟩ := tg_idx hi0 hab
  obtain ⟨b, h5, h6⟩ := h4 i.toNatClampNeg (by show _ < n; omega)
  rw [show ((t0, n, el) : Nat × Nat × (Nat → Nat)).2.2 i.toNatClampNeg = u from hel _ (by omega) g2] at h6
  refine va_aldq hexec hb hK hw.2.1 q t0 h2 ht0 g1 hdg ?_
  rw [h5]
  exact kk b h6 ⟨q, _, _, g, h2, h5⟩
end ROWSH
abbrev wr_X8_takeFrom__1 : List (Nat × Nat) := [(8, 0), (8, 1)]
abbrev wa_X8_takeFrom__1 : List Nat := [8, 9, 10, 11, 12, 13]
set_option maxHeartbeats 4000000 in
set_option maxRecDepth 100000 in
theorem c_X8_takeFrom__1 (l : Launch) (D : va_G) (cy : Nat → ClassId) (z : Nat → Nat) (sz : Nat) (Ps : PSI) (w0 : va_W) (hT : HT cy GG Ps w0) (p0 : Nat) (p1 : Nat) (h_p0 : (p0, 24) ∈ Ps) (h_p1 : (p1, 24) ∈ Ps) : Met l yX8_takeFrom (Cond.code yX8_takeFrom cX8_takeFrom 2 none :: gT) ({ frames := 2, cells := 0, slots := 0, locals := 400 } : Room) (va_Pc [.ref p0, .ref p1] (PRE D cy z w0 sz)) (va_Qv (fun (u : va_W) => (TKF w0 u p0 p1 ∧ True) ∧ HT cy GG Ps u ∧ FR wr_X8_takeFrom__1 wa_X8_takeFrom__1 Ps w0 u) (BB D cy (va_A w0 sz) (fun (u : va_W) => u)) (va_A w0 sz)) 0 0 (va_A w0 sz) := by
  refine Met.ofW (cc := cX8_takeFrom) (maxL := 2) (ret := none) (by decide) rfl ?_
  intro p e s m args below meth c s₁ B hml hv
  obtain ⟨rfl, hsz, hP, hK, hD0, hSD⟩ := hv
  have hx := B.exec
  have hb := B.bytes
  have hr := B.returns
  have hlocks := B.notSynchronized
  have hts : ∀ w ∈ gT, w.before _ s = true := fun w h => atoms_spec (ws := Cond.code yX8_takeFrom cX8_takeFrom 2 none :: gT) B.pre w (List.mem_cons_of_mem _ h)
  have hown : s.vm.findClass RX8 = some m.cls := findClass_of_methodNamed B.named
  subst hsz
  have hD := hD0.self (sz := s.heap.size)
  generalize hAe : va_A w0 s.heap.size = A at hD hSD ⊢
  have hA : ∀ q : Nat, s.heap.size ≤ q → A q := fun q h => by rw [← hAe]; exact Or.inr h
  have hl := lv_entry ([.ref p0, .ref p1]) (n := 2) (Nat.le_of_ble_eq_true rfl)
  rw [lg_entry_eq]
  generalize (lg_sl ([.ref p0, .ref p1]) ++ List.replicate (2 - (lg_sl ([.ref p0, .ref p1])).length) Slot.unset).toArray = ls at hl ⊢
  have hl : lv_has ls 2 [(0, .ref p0), (1, .ref p1)] := hl
  refine nameQ (fun Q hQ => ?_)
  have hw : WD D cy GG A s wr_X8_takeFrom__1 wa_X8_takeFrom__1 Ps w0 Ps w0 s.heap [] := ⟨hT, hP, hD, va_S.rf, FR.rf, hT.1, [], (List.append_nil _).symm⟩
  refine lv_aload_n hx hb dX8_takeFrom_0 rfl (lv_at hl 0 rfl) ?_
  refine lv_aload_n hx hb dX8_takeFrom_1 rfl (lv_at hl 1 rfl) ?_
  refine tg_get (ci := 8) (ts := ty_WORLD) (C := RX8) (T := TX8) (N := 13) hx hb hts inX8 hown hK hw h_p1 rfl rfl 0 (by decide) (hts _ tw_247) (fun _ h9 => h9) (ft := vR 25) rfl dX8_takeFrom_2 (fun u_1 hv_u_1 m_u_1 => ?_)
  obtain ⟨vu_1, rfl, h_vu_1⟩ := hv_u_1
  refine tg_putE (ci := 8) (ts := ty_WORLD) (v := .ref vu_1) (ty := .object "WonderParcels$Post") (C := RX8) (T := TX8) (N := 13) hx hb hts inX8 tyX8 tyX8_ok nmX8 hown hK hw h_p0 rfl rfl 0 (by decide) (hts _ tw_247) (fun _ h9 => h9) rfl (by decide +kernel) rfl rfl (ft := vR 25) rfl ⟨_, rfl, h_vu_1⟩ (by decide) dX8_takeFrom_5 (fun ws H locs hw n_k_2 hF9 hO9 => ?_)
  have x_TKF_p0_p1 : TKF w0 ws p0 p1 := ⟨⟨_, m_u_1, n_k_2⟩, fun v9 p9 h9 k9 => hO9 v9 _ h9 k9⟩
  refine lv_aload_n hx hb dX8_takeFrom_8 rfl (lv_at hl 0 rfl) ?_
  refine lv_aload_n hx hb dX8_takeFrom_9 rfl (lv_at hl 1 rfl) ?_
  refine tg_get (ci := 8) (ts := ty_WORLD) (C := RX8) (T := TX8) (N := 13) hx hb hts inX8 hown hK hw h_p1 rfl rfl 1 (by decide) (hts _ tw_250) (fun _ h9 => h9) (ft := vI (-2147483648) 2147483647) rfl dX8_takeFrom_10 (fun u_3 hv_u_3 m_u_3 => ?_)
  obtain ⟨vu_3, rfl, r_vu_3⟩ := hv_u_3
  refine tg_put (ci := 8) (ts := ty_WORLD) (v := .int vu_3) (ty := .int) (C := RX8) (T := TX8) (N := 13) hx hb hts inX8 tyX8 tyX8_ok nmX8 hown hK hw h_p0 rfl rfl 1 (by decide) (hts _ tw_250) (fun _ h9 => h9) rfl (by decide +kernel) rfl rfl (ft := vI (-2147483648) 2147483647) rfl ⟨_, rfl, r_vu_3⟩ (by decide) dX8_takeFrom_13 (fun ws H locs hw n_k_4 hF9 => ?_)
  have x_TKF_p0_p1 := TKF.over hF9 x_TKF_p0_p1 (by decide)
  refine lv_aload_n hx hb dX8_takeFrom_16 rfl (lv_at hl 1 rfl) ?_
  refine tg_get (ci := 8) (ts := ty_WORLD) (C := RX8) (T := TX8) (N := 13) hx hb hts inX8 hown hK hw h_p1 rfl rfl 2 (by decide) (hts _ tw_252) (fun _ h9 => h9) (ft := vR 8) rfl dX8_takeFrom_17 (fun u_5 hv_u_5 m_u_5 => ?_)
  obtain ⟨vu_5, rfl, h_vu_5⟩ := hv_u_5
  refine lv_iconst (v := 0) hx hb dX8_takeFrom_20 (by decide) ?_
  refine lv_aload_n hx hb dX8_takeFrom_21 rfl (lv_at hl 0 rfl) ?_
  refine tg_get (ci := 8) (ts := ty_WORLD) (C := RX8) (T := TX8) (N := 13) hx hb hts inX8 hown hK hw h_p0 rfl rfl 2 (by decide) (hts _ tw_252) (fun _ h9 => h9) (ft := vR 8) rfl dX8_takeFrom_22 (fun u_6 hv_u_6 m_u_6 => ?_)
  obtain ⟨vu_6, rfl, h_vu_6⟩ := hv_u_6
  refine lv_iconst (v := 0) hx hb dX8_takeFrom_25 (by decide) ?_
  refine lv_aload_n hx hb dX8_takeFrom_26 rfl (lv_at hl 0 rfl) ?_
  refine tg_mem (ci := 8) (C := RX8) (T := TX8) (N := 13) hx hb hts inX8 hown hK hw 2 m_u_6 rfl (by decide) (hts _ tw_252) (fun _ h9 => h9) dX8_takeFrom_27 ?_
  refine tg_alenI (t0 := 1) (v := 36) hx hb hK hw h_vu_6 rfl rfl rfl dX8_takeFrom_30 ?_
  refine tg_copy (lo := (-2147483648)) (hi := 2147483647) (lo2 := (-2147483648)) (hi2 := 2147483647) hx hb (hml.trans hl.1.symm) hown (hts _ tw_525) (hts _ tw_527) (hts _ tw_526) (hts _ tw_17) hK hw h_vu_5 h_vu_6 rfl rfl (by decide) rl_36 (by decide) (by decide) (Nat.le_of_ble_eq_true rfl) (Nat.le_of_ble_eq_true rfl) dX8_takeFrom_31 (fun ws H locs hw hF9 => ?_)
  have x_TKF_p0_p1 := TKF.over hF9 x_TKF_p0_p1 (by decide)
  have n_k_4 := FLD.over hF9 n_k_4 (by decide)
  have m_u_5 := FLD.over hF9 m_u_5 (by decide)
  have m_u_6 := FLD.over hF9 m_u_6 (by decide)
  refine lv_aload_n hx hb dX8_takeFrom_34 rfl (lv_at hl 1 rfl) ?_
  refine tg_get (ci := 8) (ts := ty_WORLD) (C := RX8) (T := TX8) (N := 13) hx hb hts inX8 hown hK hw h_p1 rfl rfl 3 (by decide) (hts _ tw_253) (fun _ h9 => h9) (ft := vR 9) rfl dX8_takeFrom_35 (fun u_7 hv_u_7 m_u_7 => ?_)
  obtain ⟨vu_7, rfl, h_vu_7⟩ := hv_u_7
  refine lv_iconst (v := 0) hx hb dX8_takeFrom_38 (by decide) ?_
  refine lv_aload_n hx hb dX8_takeFrom_39 rfl (lv_at hl 0 rfl) ?_
  refine tg_get (ci := 8) (ts := ty_WORLD) (C := RX8) (T := TX8) (N := 13) hx hb hts inX8 hown hK hw h_p0 rfl rfl 3 (by decide) (hts _ tw_253) (fun _ h9 => h9) (ft := vR 9) rfl dX8_takeFrom_40 (fun u_8 hv_u_8 m_u_8 => ?_)
  obtain ⟨vu_8, rfl, h_vu_8⟩ := hv_u_8
  refine lv_iconst (v := 0) hx hb dX8_takeFrom_43 (by decide) ?_
  refine lv_aload_n hx hb dX8_takeFrom_44 rfl (lv_at hl 0 rfl) ?_
  refine tg_mem (ci := 8) (C := RX8) (T := TX8) (N := 13) hx hb hts inX8 hown hK hw 3 m_u_8 rfl (by decide) (hts _ tw_253) (fun _ h9 => h9) dX8_takeFrom_45 ?_
  refine tg_alenI (t0 := 1) (v := 6) hx hb hK hw h_vu_8 rfl rfl rfl dX8_takeFrom_48 ?_
  refine tg_copy (lo := (-2147483648)) (hi := 2147483647) (lo2 := (-2147483648)) (hi2 := 2147483647) hx hb (hml.trans hl.1.symm) hown (hts _ tw_525) (hts _ tw_527) (hts _ tw_526) (hts _ tw_17) hK hw h_vu_7 h_vu_8 rfl rfl (by decide) rl_6 (by decide) (by decide) (Nat.le_of_ble_eq_true rfl) (Nat.le_of_ble_eq_true rfl) dX8_takeFrom_49 (fun ws H locs hw hF9 => ?_)
  have x_TKF_p0_p1 := TKF.over hF9 x_TKF_p0_p1 (by decide)
  have n_k_4 := FLD.over hF9 n_k_4 (by decide)
  have m_u_5 := FLD.over hF9 m_u_5 (by decide)
  have m_u_6 := FLD.over hF9 m_u_6 (by decide)
  have m_u_7 := FLD.over hF9 m_u_7 (by decide)
  have m_u_8 := FLD.over hF9 m_u_8 (by decide)
  refine lv_aload_n hx hb dX8_takeFrom_52 rfl (lv_at hl 1 rfl) ?_
  refine tg_get (ci := 8) (ts := ty_WORLD) (C := RX8) (T := TX8) (N := 13) hx hb hts inX8 hown hK hw h_p1 rfl rfl 4 (by decide) (hts _ tw_257) (fun _ h9 => h9) (ft := vR 10) rfl dX8_takeFrom_53 (fun u_9 hv_u_9 m_u_9 => ?_)
  obtain ⟨vu_9, rfl, h_vu_9⟩ := hv_u_9
  refine lv_iconst (v := 0) hx hb dX8_takeFrom_56 (by decide) ?_
  refine lv_aload_n hx hb dX8_takeFrom_57 rfl (lv_at hl 0 rfl) ?_
  refine tg_get (ci := 8) (ts := ty_WORLD) (C := RX8) (T := TX8) (N := 13) hx hb hts inX8 hown hK hw h_p0 rfl rfl 4 (by decide) (hts _ tw_257) (fun _ h9 => h9) (ft := vR 10) rfl dX8_takeFrom_58 (fun u_10 hv_u_10 m_u_10 => ?_)
  obtain ⟨vu_10, rfl, h_vu_10⟩ := hv_u_10
  refine lv_iconst (v := 0) hx hb dX8_takeFrom_61 (by decide) ?_
  refine lv_aload_n hx hb dX8_takeFrom_62 rfl (lv_at hl 0 rfl) ?_
  refine tg_mem (ci := 8) (C := RX8) (T := TX8) (N := 13) hx hb hts inX8 hown hK hw 4 m_u_10 rfl (by decide) (hts _ tw_257) (fun _ h9 => h9) dX8_takeFrom_63 ?_
  refine tg_alenI (t0 := 1) (v := 6) hx hb hK hw h_vu_10 rfl rfl rfl dX8_takeFrom_66 ?_
  refine tg_copy (lo := (-2147483648)) (hi := 2147483647) (lo2 := (-2147483648)) (hi2 := 2147483647) hx hb (hml.trans hl.1.symm) hown (hts _ tw_525) (hts _ tw_527) (hts _ tw_526) (hts _ tw_17) hK hw h_vu_9 h_vu_10 rfl rfl (by decide) rl_6 (by decide) (by decide) (Nat.le_of_ble_eq_true rfl) (Nat.le_of_ble_eq_true rfl) dX8_takeFrom_67 (fun ws H locs hw hF9 => ?_)
  have x_TKF_p0_p1 := TKF.over hF9 x_TKF_p0_p1 (by decide)
  have n_k_4 := FLD.over hF9 n_k_4 (by decide)
  have m_u_5 := FLD.over hF9 m_u_5 (by decide)
  have m_u_6 := FLD.over hF9 m_u_6 (by decide)
  have m_u_7 := FLD.over hF9 m_u_7 (by decide)
  have m_u_8 := FLD.over hF9 m_u_8 (by decide)
  have m_u_9 := FLD.over hF9 m_u_9 (by decide)
  have m_u_10 := FLD.over hF9 m_u_10 (by decide)
  refine lv_aload_n hx hb dX8_takeFrom_70 rfl (lv_at hl 1 rfl) ?_
  refine tg_get (ci := 8) (ts := ty_WORLD) (C := RX8) (T := TX8) (N := 13) hx hb hts inX8 hown hK hw h_p1 rfl rfl 5 (by decide) (hts _ tw_260) (fun _ h9 => h9) (ft := vR 10) rfl dX8_takeFrom_71 (fun u_11 hv_u_11 m_u_11 => ?_)
  obtain ⟨vu_11, rfl, h_vu_11⟩ := hv_u_11
  refine lv_iconst (v := 0) hx hb dX8_takeFrom_74 (by decide) ?_
  refine lv_aload_n hx hb dX8_takeFrom_75 rfl (lv_at hl 0 rfl) ?_
  refine tg_get (ci := 8) (ts := ty_WORLD) (C := RX8) (T := TX8) (N := 13) hx hb hts inX8 hown hK hw h_p0 rfl rfl 5 (by decide) (hts _ tw_260) (fun _ h9 => h9) (ft := vR 10) rfl dX8_takeFrom_76 (fun u_12 hv_u_12 m_u_12 => ?_)
  obtain ⟨vu_12, rfl, h_vu_12⟩ := hv_u_12
  refine lv_iconst (v := 0) hx hb dX8_takeFrom_79 (by decide) ?_
  refine lv_aload_n hx hb dX8_takeFrom_80 rfl (lv_at hl 0 rfl) ?_
  refine tg_mem (ci := 8) (C := RX8) (T := TX8) (N := 13) hx hb hts inX8 hown hK hw 5 m_u_12 rfl (by decide) (hts _ tw_260) (fun _ h9 => h9) dX8_takeFrom_81 ?_
  refine tg_alenI (t0 := 1) (v := 6) hx hb hK hw h_vu_12 rfl rfl rfl dX8_takeFrom_84 ?_
  refine tg_copy (lo := (-2147483648)) (hi := 2147483647) (lo2 := (-2147483648)) (hi2 := 2147483647) hx hb (hml.trans hl.1.symm) hown (hts _ tw_525) (hts _ tw_527) (hts _ tw_526) (hts _ tw_17) hK hw h_vu_11 h_vu_12 rfl rfl (by decide) rl_6 (by decide) (by decide) (Nat.le_of_ble_eq_true rfl) (Nat.le_of_ble_eq_true rfl) dX8_takeFrom_85 (fun ws H locs hw hF9 => ?_)
  have x_TKF_p0_p1 := TKF.over hF9 x_TKF_p0_p1 (by decide)
  have n_k_4 := FLD.over hF9 n_k_4 (by decide)
  have m_u_5 := FLD.over hF9 m_u_5 (by decide)
  have m_u_6 := FLD.over hF9 m_u_6 (by decide)
  have m_u_7 := FLD.over hF9 m_u_7 (by decide)
  have m_u_8 := FLD.over hF9 m_u_8 (by decide)
  have m_u_9 := FLD.over hF9 m_u_9 (by decide)
  have m_u_10 := FLD.over hF9 m_u_10 (by decide)
  have m_u_11 := FLD.over hF9 m_u_11 (by decide)
  have m_u_12 := FLD.over hF9 m_u_12 (by decide)
  refine lv_aload_n hx hb dX8_takeFrom_88 rfl (lv_at hl 1 rfl) ?_
  refine tg_get (ci := 8) (ts := ty_WORLD) (C := RX8) (T := TX8) (N := 13) hx hb hts inX8 hown hK hw h_p1 rfl rfl 6 (by decide) (hts _ tw_262) (fun _ h9 => h9) (ft := vR 10) rfl dX8_takeFrom_89 (fun u_13 hv_u_13 m_u_13 => ?_)
  obtain ⟨vu_13, rfl, h_vu_13⟩ := hv_u_13
  refine lv_iconst (v := 0) hx hb dX8_takeFrom_92 (by decide) ?_
  refine lv_aload_n hx hb dX8_takeFrom_93 rfl (lv_at hl 0 rfl) ?_
  refine tg_get (ci := 8) (ts := ty_WORLD) (C := RX8) (T := TX8) (N := 13) hx hb hts inX8 hown hK hw h_p0 rfl rfl 6 (by decide) (hts _ tw_262) (fun _ h9 => h9) (ft := vR 10) rfl dX8_takeFrom_94 (fun u_14 hv_u_14 m_u_14 => ?_)
  obtain ⟨vu_14, rfl, h_vu_14⟩ := hv_u_14
  refine lv_iconst (v := 0) hx hb dX8_takeFrom_97 (by decide) ?_
  refine lv_aload_n hx hb dX8_takeFrom_98 rfl (lv_at hl 0 rfl) ?_
  refine tg_mem (ci := 8) (C := RX8) (T := TX8) (N := 13) hx hb hts inX8 hown hK hw 6 m_u_14 rfl (by decide) (hts _ tw_262) (fun _ h9 => h9) dX8_takeFrom_99 ?_
  refine tg_alenI (t0 := 1) (v := 6) hx hb hK hw h_vu_14 rfl rfl rfl dX8_takeFrom_102 ?_
  refine tg_copy (lo := (-2147483648)) (hi := 2147483647) (lo2 := (-2147483648)) (hi2 := 2147483647) hx hb (hml.trans hl.1.symm) hown (hts _ tw_525) (hts _ tw_527) (hts _ tw_526) (hts _ tw_17) hK hw h_vu_13 h_vu_14 rfl rfl (by decide) rl_6 (by decide) (by decide) (Nat.le_of_ble_eq_true rfl) (Nat.le_of_ble_eq_true rfl) dX8_takeFrom_103 (fun ws H locs hw hF9 => ?_)
  have x_TKF_p0_p1 := TKF.over hF9 x_TKF_p0_p1 (by decide)
  have n_k_4 := FLD.over hF9 n_k_4 (by decide)
  have m_u_5 := FLD.over hF9 m_u_5 (by decide)
  have m_u_6 := FLD.over hF9 m_u_6 (by decide)
  have m_u_7 := FLD.over hF9 m_u_7 (by decide)
  have m_u_8 := FLD.over hF9 m_u_8 (by decide)
  have m_u_9 := FLD.over hF9 m_u_9 (by decide)
  have m_u_10 := FLD.over hF9 m_u_10 (by decide)
  have m_u_11 := FLD.over hF9 m_u_11 (by decide)
  have m_u_12 := FLD.over hF9 m_u_12 (by decide)
  have m_u_13 := FLD.over hF9 m_u_13 (by decide)
  have m_u_14 := FLD.over hF9 m_u_14 (by decide)
  refine lv_aload_n hx hb dX8_takeFrom_106 rfl (lv_at hl 1 rfl) ?_
  refine tg_get (ci := 8) (ts := ty_WORLD) (C := RX8) (T := TX8) (N := 13) hx hb hts inX8 hown hK hw h_p1 rfl rfl 7 (by decide) (hts _ tw_265) (fun _ h9 => h9) (ft := vR 11) rfl dX8_takeFrom_107 (fun u_15 hv_u_15 m_u_15 => ?_)
  obtain ⟨vu_15, rfl, h_vu_15⟩ := hv_u_15
  refine lv_iconst (v := 0) hx hb dX8_takeFrom_110 (by decide) ?_
  refine lv_aload_n hx hb dX8_takeFrom_111 rfl (lv_at hl 0 rfl) ?_
  refine tg_get (ci := 8) (ts := ty_WORLD) (C := RX8) (T := TX8) (N := 13) hx hb hts inX8 hown hK hw h_p0 rfl rfl 7 (by decide) (hts _ tw_265) (fun _ h9 => h9) (ft := vR 11) rfl dX8_takeFrom_112 (fun u_16 hv_u_16 m_u_16 => ?_)
  obtain ⟨vu_16, rfl, h_vu_16⟩ := hv_u_16
  refine lv_iconst (v := 0) hx hb dX8_takeFrom_115 (by decide) ?_
  refine lv_aload_n hx hb dX8_takeFrom_116 rfl (lv_at hl 0 rfl) ?_
  refine tg_mem (ci := 8) (C := RX8) (T := TX8) (N := 13) hx hb hts inX8 hown hK hw 7 m_u_16 rfl (by decide) (hts _ tw_265) (fun _ h9 => h9) dX8_takeFrom_117 ?_
  refine tg_alenI (t0 := 1) (v := 8) hx hb hK hw h_vu_16 rfl rfl rfl dX8_takeFrom_120 ?_
  refine tg_copy (lo := 0) (hi := 5) (lo2 := 0) (hi2 := 5) hx hb (hml.trans hl.1.symm) hown (hts _ tw_525) (hts _ tw_527) (hts _ tw_526) (hts _ tw_17) hK hw h_vu_15 h_vu_16 rfl rfl (by decide) rl_8 (by decide) (by decide) (Nat.le_of_ble_eq_true rfl) (Nat.le_of_ble_eq_true rfl) dX8_takeFrom_121 (fun ws H locs hw hF9 => ?_)
  have x_TKF_p0_p1 := TKF.over hF9 x_TKF_p0_p1 (by decide)
  have n_k_4 := FLD.over hF9 n_k_4 (by decide)
  have m_u_5 := FLD.over hF9 m_u_5 (by decide)
  have m_u_6 := FLD.over hF9 m_u_6 (by decide)
  have m_u_7 := FLD.over hF9 m_u_7 (by decide)
  have m_u_8 := FLD.over hF9 m_u_8 (by decide)
  have m_u_9 := FLD.over hF9 m_u_9 (by decide)
  have m_u_10 := FLD.over hF9 m_u_10 (by decide)
  have m_u_11 := FLD.over hF9 m_u_11 (by decide)
  have m_u_12 := FLD.over hF9 m_u_12 (by decide)
  have m_u_13 := FLD.over hF9 m_u_13 (by decide)
  have m_u_14 := FLD.over hF9 m_u_14 (by decide)
  have m_u_15 := FLD.over hF9 m_u_15 (by decide)
  have m_u_16 := FLD.over hF9 m_u_16 (by decide)
  refine lv_aload_n hx hb dX8_takeFrom_124 rfl (lv_at hl 1 rfl) ?_
  refine tg_get (ci := 8) (ts := ty_WORLD) (C := RX8) (T := TX8) (N := 13) hx hb hts inX8 hown hK hw h_p1 rfl rfl 8 (by decide) (hts _ tw_268) (fun _ h9 => h9) (ft := vR 12) rfl dX8_takeFrom_125 (fun u_17 hv_u_17 m_u_17 => ?_)
  obtain ⟨vu_17, rfl, h_vu_17⟩ := hv_u_17
  refine lv_iconst (v := 0) hx hb dX8_takeFrom_128 (by decide) ?_
  refine lv_aload_n hx hb dX8_takeFrom_129 rfl (lv_at hl 0 rfl) ?_
  refine tg_get (ci := 8) (ts := ty_WORLD) (C := RX8) (T := TX8) (N := 13) hx hb hts inX8 hown hK hw h_p0 rfl rfl 8 (by decide) (hts _ tw_268) (fun _ h9 => h9) (ft := vR 12) rfl dX8_takeFrom_130 (fun u_18 hv_u_18 m_u_18 => ?_)
  obtain ⟨vu_18, rfl, h_vu_18⟩ := hv_u_18
  refine lv_iconst (v := 0) hx hb dX8_takeFrom_133 (by decide) ?_
  refine lv_aload_n hx hb dX8_takeFrom_134 rfl (lv_at hl 0 rfl) ?_
  refine tg_mem (ci := 8) (C := RX8) (T := TX8) (N := 13) hx hb hts inX8 hown hK hw 8 m_u_18 rfl (by decide) (hts _ tw_268) (fun _ h9 => h9) dX8_takeFrom_135 ?_
  refine tg_alenI (t0 := 1) (v := 8) hx hb hK hw h_vu_18 rfl rfl rfl dX8_takeFrom_138 ?_
  refine tg_copy (lo := (-1)) (hi := 5) (lo2 := (-1)) (hi2 := 5) hx hb (hml.trans hl.1.symm) hown (hts _ tw_525) (hts _ tw_527) (hts _ tw_526) (hts _ tw_17) hK hw h_vu_17 h_vu_18 rfl rfl (by decide) rl_8 (by decide) (by decide) (Nat.le_of_ble_eq_true rfl) (Nat.le_of_ble_eq_true rfl) dX8_takeFrom_139 (fun ws H locs hw hF9 => ?_)
  have x_TKF_p0_p1 := TKF.over hF9 x_TKF_p0_p1 (by decide)
  have n_k_4 := FLD.over hF9 n_k_4 (by decide)
  have m_u_5 := FLD.over hF9 m_u_5 (by decide)
  have m_u_6 := FLD.over hF9 m_u_6 (by decide)
  have m_u_7 := FLD.over hF9 m_u_7 (by decide)
  have m_u_8 := FLD.over hF9 m_u_8 (by decide)
  have m_u_9 := FLD.over hF9 m_u_9 (by decide)
  have m_u_10 := FLD.over hF9 m_u_10 (by decide)
  have m_u_11 := FLD.over hF9 m_u_11 (by decide)
  have m_u_12 := FLD.over hF9 m_u_12 (by decide)
  have m_u_13 := FLD.over hF9 m_u_13 (by decide)
  have m_u_14 := FLD.over hF9 m_u_14 (by decide)
  have m_u_15 := FLD.over hF9 m_u_15 (by decide)
  have m_u_16 := FLD.over hF9 m_u_16 (by decide)
  have m_u_17 := FLD.over hF9 m_u_17 (by decide)
  have m_u_18 := FLD.over hF9 m_u_18 (by decide)
  refine lv_aload_n hx hb dX8_takeFrom_142 rfl (lv_at hl 1 rfl) ?_
  refine tg_get (ci := 8) (ts := ty_WORLD) (C := RX8) (T := TX8) (N := 13) hx hb hts inX8 hown hK hw h_p1 rfl rfl 9 (by decide) (hts _ tw_271) (fun _ h9 => h9) (ft := vR 13) rfl dX8_takeFrom_143 (fun u_19 hv_u_19 m_u_19 => ?_)
  obtain ⟨vu_19, rfl, h_vu_19⟩ := hv_u_19
  refine lv_iconst (v := 0) hx hb dX8_takeFrom_146 (by decide) ?_
  refine lv_aload_n hx hb dX8_takeFrom_147 rfl (lv_at hl 0 rfl) ?_
  refine tg_get (ci := 8) (ts := ty_WORLD) (C := RX8) (T := TX8) (N := 13) hx hb hts inX8 hown hK hw h_p0 rfl rfl 9 (by decide) (hts _ tw_271) (fun _ h9 => h9) (ft := vR 13) rfl dX8_takeFrom_148 (fun u_20 hv_u_20 m_u_20 => ?_)
  obtain ⟨vu_20, rfl, h_vu_20⟩ := hv_u_20
  refine lv_iconst (v := 0) hx hb dX8_takeFrom_151 (by decide) ?_
  refine lv_aload_n hx hb dX8_takeFrom_152 rfl (lv_at hl 0 rfl) ?_
  refine tg_mem (ci := 8) (C := RX8) (T := TX8) (N := 13) hx hb hts inX8 hown hK hw 9 m_u_20 rfl (by decide) (hts _ tw_271) (fun _ h9 => h9) dX8_takeFrom_153 ?_
  refine tg_alenI (t0 := 1) (v := 8) hx hb hK hw h_vu_20 rfl rfl rfl dX8_takeFrom_156 ?_
  refine tg_copy (lo := (-2147483648)) (hi := 2147483647) (lo2 := (-2147483648)) (hi2 := 2147483647) hx hb (hml.trans hl.1.symm) hown (hts _ tw_525) (hts _ tw_527) (hts _ tw_526) (hts _ tw_17) hK hw h_vu_19 h_vu_20 rfl rfl (by decide) rl_8 (by decide) (by decide) (Nat.le_of_ble_eq_true rfl) (Nat.le_of_ble_eq_true rfl) dX8_takeFrom_157 (fun ws H locs hw hF9 => ?_)
  have x_TKF_p0_p1 := TKF.over hF9 x_TKF_p0_p1 (by decide)
  have n_k_4 := FLD.over hF9 n_k_4 (by decide)
  have m_u_5 := FLD.over hF9 m_u_5 (by decide)
  have m_u_6 := FLD.over hF9 m_u_6 (by decide)
  have m_u_7 := FLD.over hF9 m_u_7 (by decide)
  have m_u_8 := FLD.over hF9 m_u_8 (by decide)
  have m_u_9 := FLD.over hF9 m_u_9 (by decide)
  have m_u_10 := FLD.over hF9 m_u_10 (by decide)
  have m_u_11 := FLD.over hF9 m_u_11 (by decide)
  have m_u_12 := FLD.over hF9 m_u_12 (by decide)
  have m_u_13 := FLD.over hF9 m_u_13 (by decide)
  have m_u_14 := FLD.over hF9 m_u_14 (by decide)
  have m_u_15 := FLD.over hF9 m_u_15 (by decide)
  have m_u_16 := FLD.over hF9 m_u_16 (by decide)
  have m_u_17 := FLD.over hF9 m_u_17 (by decide)
  have m_u_18 := FLD.over hF9 m_u_18 (by decide)
  have m_u_19 := FLD.over hF9 m_u_19 (by decide)
  have m_u_20 := FLD.over hF9 m_u_20 (by decide)
  refine lv_aload_n hx hb dX8_takeFrom_160 rfl (lv_at hl 1 rfl) ?_
  refine tg_get (ci := 8) (ts := ty_WORLD) (C := RX8) (T := TX8) (N := 13) hx hb hts inX8 hown hK hw h_p1 rfl rfl 10 (by decide) (hts _ tw_273) (fun _ h9 => h9) (ft := vR 13) rfl dX8_takeFrom_161 (fun u_21 hv_u_21 m_u_21 => ?_)
  obtain ⟨vu_21, rfl, h_vu_21⟩ := hv_u_21
  refine lv_iconst (v := 0) hx hb dX8_takeFrom_164 (by decide) ?_
  refine lv_aload_n hx hb dX8_takeFrom_165 rfl (lv_at hl 0 rfl) ?_
  refine tg_get (ci := 8) (ts := ty_WORLD) (C := RX8) (T := TX8) (N := 13) hx hb hts inX8 hown hK hw h_p0 rfl rfl 10 (by decide) (hts _ tw_273) (fun _ h9 => h9) (ft := vR 13) rfl dX8_takeFrom_166 (fun u_22 hv_u_22 m_u_22 => ?_)
  obtain ⟨vu_22, rfl, h_vu_22⟩ := hv_u_22
  refine lv_iconst (v := 0) hx hb dX8_takeFrom_169 (by decide) ?_
  refine lv_aload_n hx hb dX8_takeFrom_170 rfl (lv_at hl 0 rfl) ?_
  refine tg_mem (ci := 8) (C := RX8) (T := TX8) (N := 13) hx hb hts inX8 hown hK hw 10 m_u_22 rfl (by decide) (hts _ tw_273) (fun _ h9 => h9) dX8_takeFrom_171 ?_
  refine tg_alenI (t0 := 1) (v := 8) hx hb hK hw h_vu_22 rfl rfl rfl dX8_takeFrom_174 ?_
  refine tg_copy (lo := (-2147483648)) (hi := 2147483647) (lo2 := (-2147483648)) (hi2 := 2147483647) hx hb (hml.trans hl.1.symm) hown (hts _ tw_525) (hts _ tw_527) (hts _ tw_526) (hts _ tw_17) hK hw h_vu_21 h_vu_22 rfl rfl (by decide) rl_8 (by decide) (by decide) (Nat.le_of_ble_eq_true rfl) (Nat.le_of_ble_eq_true rfl) dX8_takeFrom_175 (fun ws H locs hw hF9 => ?_)
  have x_TKF_p0_p1 := TKF.over hF9 x_TKF_p0_p1 (by decide)
  have n_k_4 := FLD.over hF9 n_k_4 (by decide)
  have m_u_5 := FLD.over hF9 m_u_5 (by decide)
  have m_u_6 := FLD.over hF9 m_u_6 (by decide)
  have m_u_7 := FLD.over hF9 m_u_7 (by decide)
  have m_u_8 := FLD.over hF9 m_u_8 (by decide)
  have m_u_9 := FLD.over hF9 m_u_9 (by decide)
  have m_u_10 := FLD.over hF9 m_u_10 (by decide)
  have m_u_11 := FLD.over hF9 m_u_11 (by decide)
  have m_u_12 := FLD.over hF9 m_u_12 (by decide)
  have m_u_13 := FLD.over hF9 m_u_13 (by decide)
  have m_u_14 := FLD.over hF9 m_u_14 (by decide)
  have m_u_15 := FLD.over hF9 m_u_15 (by decide)
  have m_u_16 := FLD.over hF9 m_u_16 (by decide)
  have m_u_17 := FLD.over hF9 m_u_17 (by decide)
  have m_u_18 := FLD.over hF9 m_u_18 (by decide)
  have m_u_19 := FLD.over hF9 m_u_19 (by decide)
  have m_u_20 := FLD.over hF9 m_u_20 (by decide)
  have m_u_21 := FLD.over hF9 m_u_21 (by decide)
  have m_u_22 := FLD.over hF9 m_u_22 (by decide)
  subst hQ
  exact W.vret hx hb hr (fun t ht hW => ⟨⟨ws, rfl, ⟨⟨x_TKF_p0_p1, trivial⟩, hw.1, hw.2.2.2.2.1⟩, by rw [ht]; exact hw.2.1, va_K.moved hW.alike hK, hw.2.2.1⟩, hw.2.2.2.1.F ht⟩) hw.2.2.2.1.2.2 dX8_takeFrom_178
abbrev wr_X1_prepare__1 : List (Nat × Nat) := [(8, 0), (8, 1)]
abbrev wa_X1_prepare__1 : List Nat := [8, 9, 10, 11, 12, 13]
set_option maxHeartbeats 4000000 in
set_option maxRecDepth 100000 in
theorem c_X1_prepare__1 (l : Launch) (D : va_G) (cy : Nat → ClassId) (z : Nat → Nat) (sz : Nat) (Ps : PSI) (w0 : va_W) (hT : HT cy GG Ps w0) (p0 : Nat) (p1 : Nat) (gdq : Nat → Nat) (gdg : Nat → Nat) (gdo : OS) (gdA : OS) (gdB : OS) (gdp : Bool) (gdt : Bool) (h_p0 : (p0, 27) ∈ Ps) (h_p1 : (p1, 24) ∈ Ps) (x_AT_p0_gdq_2 : (p0 = gdq 2)) (x_AT_p1_gdq_0 : (p1 = gdq 0)) (x_GQ_gdq_gdg : GQ Ps w0 gdq gdg) (x_HE_gdq_gdg_gdo_gdA_gdB_gdp_gdt : HE Ps w0 gdq gdg gdo gdA gdB gdp gdt) : Met l yX1_prepare (Cond.code yX1_prepare cX1_prepare 2 none :: gT) ({ frames := 3, cells := 0, slots := 0, locals := 600 } : Room) (va_Pc [.ref p0, .ref p1] (PRE D cy z w0 sz)) (va_Qv (fun (u : va_W) => (HE Ps u gdq gdg gdo gdA gdB true gdt ∧ True) ∧ HT cy GG Ps u ∧ FR wr_X1_prepare__1 wa_X1_prepare__1 Ps w0 u) (BB D cy (va_A w0 sz) (fun (u : va_W) => u)) (va_A w0 sz)) 0 0 (va_A w0 sz) := by
  refine Met.ofW (cc := cX1_prepare) (maxL := 2) (ret := none) (by decide) rfl ?_
  intro p e s m args below meth c s₁ B hml hv
  obtain ⟨rfl, hsz, hP, hK, hD0, hSD⟩ := hv
  have hx := B.exec
  have hb := B.bytes
  have hr := B.returns
  have hlocks := B.notSynchronized
  have hts : ∀ w ∈ gT, w.before _ s = true := fun w h => atoms_spec (ws := Cond.code yX1_prepare cX1_prepare 2 none :: gT) B.pre w (List.mem_cons_of_mem _ h)
  have hown : s.vm.findClass RX1 = some m.cls := findClass_of_methodNamed B.named
  subst hsz
  have hD := hD0.self (sz := s.heap.size)
  generalize hAe : va_A w0 s.heap.size = A at hD hSD ⊢
  have hA : ∀ q : Nat, s.heap.size ≤ q → A q := fun q h => by rw [← hAe]; exact Or.inr h
  have hl := lv_entry ([.ref p0, .ref p1]) (n := 2) (Nat.le_of_ble_eq_true rfl)
  rw [lg_entry_eq]
  generalize (lg_sl ([.ref p0, .ref p1]) ++ List.replicate (2 - (lg_sl ([.ref p0, .ref p1])).length) Slot.unset).toArray = ls at hl ⊢
  have hl : lv_has ls 2 [(0, .ref p0), (1, .ref p1)] := hl
  refine nameQ (fun Q hQ => ?_)
  have hw : WD D cy GG A s wr_X1_prepare__1 wa_X1_prepare__1 Ps w0 Ps w0 s.heap [] := ⟨hT, hP, hD, va_S.rf, FR.rf, hT.1, [], (List.append_nil _).symm⟩
  obtain ⟨n9, c9, hNC, hHW⟩ := id x_HE_gdq_gdg_gdo_gdA_gdB_gdp_gdt
  have x_HW_gdq_gdg_gdo_gdA_gdB_n9_c9_gdp_gdt : HW Ps w0 gdq gdg gdo gdA gdB n9 c9 gdp gdt := hHW
  refine lv_aload_n hx hb dX1_prepare_0 rfl (lv_at hl 0 rfl) ?_
  refine tg_get (ci := 1) (ts := ty_HIST) (C := RX1) (T := TX1) (N := 3) hx hb hts inX1 hown hK hw h_p0 rfl rfl 0 (by decide) (hts _ tw_313) (fun _ h9 => h9) (ft := vR 22) rfl dX1_prepare_1 (fun u_1 hv_u_1 m_u_1 => ?_)
  obtain ⟨vu_1, rfl, h_vu_1⟩ := hv_u_1
  refine lv_aload_n hx hb dX1_prepare_4 rfl (lv_at hl 0 rfl) ?_
  refine tg_get (ci := 1) (ts := ty_HIST) (C := RX1) (T := TX1) (N := 3) hx hb hts inX1 hown hK hw h_p0 rfl rfl 1 (by decide) (hts _ tw_314) (fun _ h9 => h9) (ft := vI 0 8) rfl dX1_prepare_5 (fun u_2 hv_u_2 m_u_2 => ?_)
  obtain ⟨vu_2, rfl, r_vu_2⟩ := hv_u_2
  have en9 : vu_2 = nI n9 := NC.nn hw.2.2.1 hNC (by rw [← x_AT_p0_gdq_2]; exact m_u_2)
  refine tg_aaldE (u := 24) hx hb hK hw h_vu_1 rfl rfl 0 8 r_vu_2 (by decide) (fun _ _ _ => rfl) dX1_prepare_8 (fun b_3 h_b_3 e_b_3 => ?_)
  have eb9 : b_3 = gdg n9 := GQ.at hw.2.2.1 x_GQ_gdq_gdg (by rw [← x_AT_p0_gdq_2]; exact m_u_1) e_b_3 en9 hNC.2.1
  refine lv_aload_n hx hb dX1_prepare_9 rfl (lv_at hl 1 rfl) ?_
  have hD8 := hw.2.2.1
  refine tk_v (va_runV (As := [.ref p1]) (rest := []) ⟨hx, hb, hml, hown, hts⟩ (c_X8_takeFrom__1 l D cy z s.heap.size Ps w0 hw.1 b_3 p1 h_b_3 h_p1) (cwV 1 hts (gV tw_610 tw_522 tw_523 tw_12 tw_524) rfl rfl rfl (by decide +kernel) ⟨Nat.le_of_ble_eq_true rfl, Nat.le_of_ble_eq_true rfl⟩) (tg_preV hw hK hSD hA (ci := 8) (q := (RX8, TX8, 13)) rfl h_b_3 rfl) rfl rfl hl.1 rfl (lv_room (Nat.le_of_ble_eq_true rfl)) dX1_prepare_10 ⟨Nat.le_of_ble_eq_true rfl, Nat.le_of_ble_eq_true rfl⟩) hw hA ⟨by decide, by decide⟩ (fun ws H locs hp_v_4 hw hF9 => ?_)
  have m_u_1 := FLD.over hF9 m_u_1 (by decide)
  have m_u_2 := FLD.over hF9 m_u_2 (by decide)
  have x_GQ_gdq_gdg := GQ.over hF9 x_GQ_gdq_gdg (by decide)
  have x_TKF_b_3_p1 := (hp_v_4.1)
  have x_HE_gdq_gdg_gdo_gdA_gdB_true_gdt : HE Ps ws gdq gdg gdo gdA gdB true gdt := ⟨n9, c9, NC.over hF9 hNC (by decide), HW.prep hD8 hF9 (by decide) x_GQ_gdq_gdg.2.2.2.2.2 hNC.2.1 hHW (by rw [← eb9, ← x_AT_p1_gdq_0]; exact x_TKF_b_3_p1)⟩
  subst hQ
  exact W.vret hx hb hr (fun t ht hW => ⟨⟨ws, rfl, ⟨⟨x_HE_gdq_gdg_gdo_gdA_gdB_true_gdt, trivial⟩, hw.1, hw.2.2.2.2.1⟩, by rw [ht]; exact hw.2.1, va_K.moved hW.alike hK, hw.2.2.1⟩, hw.2.2.2.1.F ht⟩) hw.2.2.2.1.2.2 dX1_prepare_13
abbrev wr_X1_keep__1 : List (Nat × Nat) := [(1, 1), (1, 2)]
abbrev wa_X1_keep__1 : List Nat := []
set_option maxHeartbeats 4000000 in
set_option maxRecDepth 100000 in
theorem c_X1_keep__1 (l : Launch) (D : va_G) (cy : Nat → ClassId) (z : Nat → Nat) (sz : Nat) (Ps : PSI) (w0 : va_W) (hT : HT cy GG Ps w0) (p0 : Nat) (gdq : Nat → Nat) (gdg : Nat → Nat) (gdo : OS) (gdA : OS) (gdB : OS) (gdt : Bool) (h_p0 : (p0, 27) ∈ Ps) (x_AT_p0_gdq_2 : (p0 = gdq 2)) (x_HE_gdq_gdg_gdo_gdA_gdB_true_gdt : HE Ps w0 gdq gdg gdo gdA gdB true gdt) : Met l yX1_keep (Cond.code yX1_keep cX1_keep 1 none :: gT) ({ frames := 2, cells := 0, slots := 0, locals := 400 } : Room) (va_Pc [.ref p0] (PRE D cy z w0 sz)) (va_Qv (fun (u : va_W) => (HE Ps u gdq gdg gdo gdA gdB false gdt ∧ True) ∧ HT cy GG Ps u ∧ FR wr_X1_keep__1 wa_X1_keep__1 Ps w0 u) (BB D cy (va_A w0 sz) (fun (u : va_W) => u)) (va_A w0 sz)) 0 0 (va_A w0 sz) := by
  refine Met.ofW (cc := cX1_keep) (maxL := 1) (ret := none) (by decide) rfl ?_
  intro p e s m args below meth c s₁ B hml hv
  obtain ⟨rfl, hsz, hP, hK, hD0, hSD⟩ := hv
  have hx := B.exec
  have hb := B.bytes
  have hr := B.returns
  have hlocks := B.notSynchronized
  have hts : ∀ w ∈ gT, w.before _ s = true := fun w h => atoms_spec (ws := Cond.code yX1_keep cX1_keep 1 none :: gT) B.pre w (List.mem_cons_of_mem _ h)
  have hown : s.vm.findClass RX1 = some m.cls := findClass_of_methodNamed B.named
  subst hsz
  have hD := hD0.self (sz := s.heap.size)
  generalize hAe : va_A w0 s.heap.size = A at hD hSD ⊢
  have hA : ∀ q : Nat, s.heap.size ≤ q → A q := fun q h => by rw [← hAe]; exact Or.inr h
  have hl := lv_entry ([.ref p0]) (n := 1) (Nat.le_of_ble_eq_true rfl)
  rw [lg_entry_eq]
  generalize (lg_sl ([.ref p0]) ++ List.replicate (1 - (lg_sl ([.ref p0])).length) Slot.unset).toArray = ls at hl ⊢
  have hl : lv_has ls 1 [(0, .ref p0)] := hl
  refine nameQ (fun Q hQ => ?_)
  have hw : WD D cy GG A s wr_X1_keep__1 wa_X1_keep__1 Ps w0 Ps w0 s.heap [] := ⟨hT, hP, hD, va_S.rf, FR.rf, hT.1, [], (List.append_nil _).symm⟩
  obtain ⟨n9, c9, hNC, hHW⟩ := id x_HE_gdq_gdg_gdo_gdA_gdB_true_gdt
  have x_HW_gdq_gdg_gdo_gdA_gdB_n9_c9_true_gdt : HW Ps w0 gdq gdg gdo gdA gdB n9 c9 true gdt := hHW
  have x_KF2_gdq_2_c9 : FLD w0 (gdq 2) 1 2 (.int (nI c9)) := hNC.2.2.1
  refine lv_aload_n hx hb dX1_keep_0 rfl (lv_at hl 0 rfl) ?_
  refine lv_aload_n hx hb dX1_keep_1 rfl (lv_at hl 0 rfl) ?_
  refine tg_get (ci := 1) (ts := ty_HIST) (C := RX1) (T := TX1) (N := 3) hx hb hts inX1 hown hK hw h_p0 rfl rfl 1 (by decide) (hts _ tw_314) (fun _ h9 => h9) (ft := vI 0 8) rfl dX1_keep_2 (fun u_1 hv_u_1 m_u_1 => ?_)
  obtain ⟨vu_1, rfl, r_vu_1⟩ := hv_u_1
  have en9 : vu_1 = nI n9 := NC.nn hw.2.2.1 hNC (by rw [← x_AT_p0_gdq_2]; exact m_u_1)
  refine lv_iconst (v := 1) hx hb dX1_keep_5 (by decide) ?_
  refine lv_iadd hx hb dX1_keep_6 (lv_topi (fun v_2 e_v_2 => ?_))
  obtain ⟨t_v_2, r_v_2⟩ := tq_add (lo := 1) (hi := 9) r_vu_1 rl_1 (by decide +kernel) e_v_2
  have t_v_2 : v_2.toInt = vu_1.toInt + 1 := t_v_2
  refine lv_bipush (v := 9) hx hb dX1_keep_7 (by decide) ?_
  refine lv_irem hx hb dX1_keep_9 (ri_ne0 rl_9 (by decide)) (lv_topi (fun v_3 e_v_3 => ?_))
  have r_v_3 : RI v_3 0 8 := by rw [e_v_3]; exact ri_rem (b := 9) (r_v_2.to (by decide)) rl_9 (by decide)
  refine tg_put (ci := 1) (ts := ty_HIST) (v := .int v_3) (ty := .int) (C := RX1) (T := TX1) (N := 3) hx hb hts inX1 tyX1 tyX1_ok nmX1 hown hK hw h_p0 rfl rfl 1 (by decide) (hts _ tw_314) (fun _ h9 => h9) rfl (by decide +kernel) rfl rfl (ft := vI 0 8) rfl ⟨_, rfl, r_v_3⟩ (by decide) dX1_keep_10 (fun ws H locs hw n_k_4 hF9 => ?_)
  have x_HW_gdq_gdg_gdo_gdA_gdB_n9_c9_true_gdt := HW.over hF9 x_HW_gdq_gdg_gdo_gdA_gdB_n9_c9_true_gdt (by decide)
  have x_KF2_gdq_2_c9 := FLD.over hF9 x_KF2_gdq_2_c9 (by decide)
  refine lv_aload_n hx hb dX1_keep_13 rfl (lv_at hl 0 rfl) ?_
  refine lv_bipush (v := 8) hx hb dX1_keep_14 (by decide) ?_
  refine lv_aload_n hx hb dX1_keep_16 rfl (lv_at hl 0 rfl) ?_
  refine tg_get (ci := 1) (ts := ty_HIST) (C := RX1) (T := TX1) (N := 3) hx hb hts inX1 hown hK hw h_p0 rfl rfl 2 (by decide) (hts _ tw_315) (fun _ h9 => h9) (ft := vI (-2147483648) 2147483647) rfl dX1_keep_17 (fun u_5 hv_u_5 m_u_5 => ?_)
  obtain ⟨vu_5, rfl, r_vu_5⟩ := hv_u_5
  have ec9 : vu_5 = nI c9 := FLD.eqI hw.2.2.1 x_KF2_gdq_2_c9 (by rw [← x_AT_p0_gdq_2]; exact m_u_5)
  refine lv_iconst (v := 1) hx hb dX1_keep_20 (by decide) ?_
  refine lv_iadd hx hb dX1_keep_21 (lv_topi (fun v_6 e_v_6 => ?_))
  have r_v_6 := ri_any v_6
  refine va_mmin hx hb (hml.trans hl.1.symm) hown (hts _ tw_623) (hts _ tw_486) (hts _ tw_16) (hts _ tw_487) (Nat.le_of_ble_eq_true rfl) (Nat.le_of_ble_eq_true rfl) (Nat.le_of_ble_eq_true rfl) (Nat.le_of_ble_eq_true rfl) dX1_keep_22 (lv_topi (fun v_7 e_v_7 => ?_))
  have r_v_7 : RI v_7 (-2147483648) 8 := by rw [e_v_7]; exact ri_min rl_8 r_v_6 (by decide)
  refine tg_put (ci := 1) (ts := ty_HIST) (v := .int v_7) (ty := .int) (C := RX1) (T := TX1) (N := 3) hx hb hts inX1 tyX1 tyX1_ok nmX1 hown hK hw h_p0 rfl rfl 2 (by decide) (hts _ tw_315) (fun _ h9 => h9) rfl (by decide +kernel) rfl rfl (ft := vI (-2147483648) 2147483647) rfl ⟨_, rfl, (r_v_7.to (by decide))⟩ (by decide) dX1_keep_25 (fun ws H locs hw n_k_8 hF9 => ?_)
  have n_k_4 := FLD.over hF9 n_k_4 (by decide)
  have x_HW_gdq_gdg_gdo_gdA_gdB_n9_c9_true_gdt := HW.over hF9 x_HW_gdq_gdg_gdo_gdA_gdB_n9_c9_true_gdt (by decide)
  have x_HE_gdq_gdg_gdo_gdA_gdB_false_gdt : HE Ps ws gdq gdg gdo gdA gdB false gdt := ⟨(n9 + 1) % 9, min 8 (c9 + 1), ⟨by rw [← nx1 en9 hNC.2.1 e_v_2 e_v_3, ← x_AT_p0_gdq_2]; exact n_k_4, m9 _, by rw [← mn8 ec9 hNC.2.2.2 e_v_6 (show mjmin 8 v_6 = v_7 from e_v_7.symm), ← x_AT_p0_gdq_2]; exact n_k_8, Nat.min_le_left _ _⟩, HW.keep hNC.2.1 hNC.2.2.2 x_HW_gdq_gdg_gdo_gdA_gdB_n9_c9_true_gdt⟩
  subst hQ
  exact W.vret hx hb hr (fun t ht hW => ⟨⟨ws, rfl, ⟨⟨x_HE_gdq_gdg_gdo_gdA_gdB_false_gdt, trivial⟩, hw.1, hw.2.2.2.2.1⟩, by rw [ht]; exact hw.2.1, va_K.moved hW.alike hK, hw.2.2.1⟩, hw.2.2.2.1.F ht⟩) hw.2.2.2.1.2.2 dX1_keep_28
abbrev wr_X9_book__2 : List (Nat × Nat) := [(0, 3), (0, 4), (1, 1), (1, 2), (7, 2), (7, 3), (7, 4), (7, 5), (7, 6), (7, 7), (7, 8), (7, 9), (7, 10), (7, 11), (8, 0), (8, 1), (9, 11)]
abbrev wa_X9_book__2 : List Nat := [8, 9, 10, 11, 12, 13, 14, 15, 18, 19, 20]
set_option maxHeartbeats 4000000 in
set_option maxRecDepth 100000 in
theorem c_X9_book__2 (l : Launch) (D : va_G) (cy : Nat → ClassId) (z : Nat → Nat) (sz : Nat) (Ps : PSI) (w0 : va_W) (hT : HT cy GG Ps w0) (p0 : Nat) (p1 : Int32) (gh : Int) (gdq : Nat → Nat) (gdg : Nat → Nat) (gdo : OS) (gdA : OS) (gdB : OS) (h_p0 : (p0, 33) ∈ Ps) (r_p1 : RI p1 (-2147483648) 2147483647) (x_TLX_p0_gh : TLX w0 p0 (gh)) (x_GWX_p0_gdq : GWX w0 p0 gdq) (x_GQ_gdq_gdg : GQ Ps w0 gdq gdg) (x_HE_gdq_gdg_gdo_gdA_gdB_false_false : HE Ps w0 gdq gdg gdo gdA gdB false false) : Met l yX9_book (Cond.code yX9_book cX9_book 3 (some .int) :: gT) ({ frames := 8, cells := 0, slots := 0, locals := 1600 } : Room) (va_Pc [.ref p0, .int p1] (PRE D cy z w0 sz)) (va_Qi (fun (r : Int32) (u : va_W) => (RI r (-2147483648) 2147483647 ∧ (r = 0 → True) ∧ (¬ r = 0 → True) ∧ (BKX u p0 p1 (gh) ∧ HE Ps u gdq gdg gdo gdA gdB false false ∧ True) ∧ (r.toInt < 0 → True) ∧ (0 ≤ r.toInt → True)) ∧ HT cy GG Ps u ∧ FR wr_X9_book__2 wa_X9_book__2 Ps w0 u) (BB D cy (va_A w0 sz) (fun (u : va_W) => u)) (va_A w0 sz)) 0 0 (va_A w0 sz) := by
  refine Met.ofW (cc := cX9_book) (maxL := 3) (ret := (some .int)) (by decide) rfl ?_
  intro p e s m args below meth c s₁ B hml hv
  obtain ⟨rfl, hsz, hP, hK, hD0, hSD⟩ := hv
  have hx := B.exec
  have hb := B.bytes
  have hr := B.returns
  have hlocks := B.notSynchronized
  have hts : ∀ w ∈ gT, w.before _ s = true := fun w h => atoms_spec (ws := Cond.code yX9_book cX9_book 3 (some .int) :: gT) B.pre w (List.mem_cons_of_mem _ h)
  have hown : s.vm.findClass RX9 = some m.cls := findClass_of_methodNamed B.named
  subst hsz
  have hD := hD0.self (sz := s.heap.size)
  generalize hAe : va_A w0 s.heap.size = A at hD hSD ⊢
  have hA : ∀ q : Nat, s.heap.size ≤ q → A q := fun q h => by rw [← hAe]; exact Or.inr h
  have hl := lv_entry ([.ref p0, .int p1]) (n := 3) (Nat.le_of_ble_eq_true rfl)
  rw [lg_entry_eq]
  generalize (lg_sl ([.ref p0, .int p1]) ++ List.replicate (3 - (lg_sl ([.ref p0, .int p1])).length) Slot.unset).toArray = ls at hl ⊢
  have hl : lv_has ls 3 [(0, .ref p0), (1, .int p1)] := hl
  refine nameQ (fun Q hQ => ?_)
  have hw : WD D cy GG A s wr_X9_book__2 wa_X9_book__2 Ps w0 Ps w0 s.heap [] := ⟨hT, hP, hD, va_S.rf, FR.rf, hT.1, [], (List.append_nil _).symm⟩
  have B156 : ∀ (x2 : Int32) (z0_11 : Int32) (ws : va_W) (H : Heap) (locs : List Loc) (ls : Array Slot), RI p1 0 1 → RI x2 (-2147483648) 2147483647 → RI z0_11 0 0 → FLD ws p0 9 11 (.int z0_11) → EQF ws p0 → GQ Ps ws gdq gdg → GWX ws p0 gdq → HE Ps ws gdq gdg gdo gdA gdB false true → TLX ws p0 (0) → WD D cy GG A s wr_X9_book__2 wa_X9_book__2 Ps w0 Ps ws H locs → lv_has ls 3 [(0, .ref p0), (1, .int p1), (2, .int x2)] → W p l e (headSpec (Cond.code yX9_book cX9_book 3 (some .int) :: gT) ({ frames := 8, cells := 0, slots := 0, locals := 1600 } : Room)).room s m ([.ref p0, .int p1] : List Value).toArray below meth c H locs 0 0 Q (F0 m 156 ls []) := by
    intro x2 z0_11 ws H locs ls r_p1 r_x2 r_z0_11 m_z0_11 x_EQF_p0 x_GQ_gdq_gdg x_GWX_p0_gdq x_HE_gdq_gdg_gdo_gdA_gdB_false_true x_TLX_p0_0 hw hl
    refine lv_iload_n hx hb dX9_book_156 rfl (lv_at hl 2 rfl) ?_
    refine lv_if_ne (tgt := 164) hx hb dX9_book_157 (by decide) (fun c_157 => ?_) (fun c_157 => ?_)
    · refine lv_aload_n hx hb dX9_book_164 rfl (lv_at hl 0 rfl) ?_
      refine tg_get (ci := 9) (ts := ty_WP) (C := RX9) (T := TX9) (N := 15) hx hb hts inX9 hown hK hw h_p0 rfl rfl 6 (by decide) (hts _ tw_352) (fun _ h9 => h9) (ft := vR 31) rfl dX9_book_165 (fun u_1 hv_u_1 m_u_1 => ?_)
      obtain ⟨vu_1, rfl, h_vu_1⟩ := hv_u_1
      refine tg_getN (ci := 0) (ts := ty_BOOK) (C := RX0) (T := TX0) (N := 5) hx hb hts inX0 hown hK hw h_vu_1 rfl rfl 4 (by decide) (hSD.nest tn_147) (fun _ h9 => h9) (ft := vI (-2147483648) 2147483647) rfl dX9_book_168 (fun u_2 hv_u_2 m_u_2 => ?_)
      obtain ⟨vu_2, rfl, r_vu_2⟩ := hv_u_2
      subst hQ
      exact W.iret (v := vu_2) hx hb hr (fun t ht hW => ⟨⟨vu_2, ws, rfl, ⟨⟨r_vu_2.to (by decide), (fun h0 => trivial), (fun h0 => trivial), ⟨⟨fun _ => x_TLX_p0_0, fun h9 => absurd ⟨by have k1 := r_p1.1; omega, by have k1 := r_p1.2; omega⟩ h9⟩, (HE.weak (fun e9 => e9) (fun e9 => by cases e9) x_HE_gdq_gdg_gdo_gdA_gdB_false_true), trivial⟩, (fun _ => trivial), (fun _ => trivial)⟩, hw.1, hw.2.2.2.2.1⟩, by rw [ht]; exact hw.2.1, va_K.moved hW.alike hK, hw.2.2.1⟩, hw.2.2.2.1.F ht⟩) hw.2.2.2.1.2.2 dX9_book_171
    · have r_x2 : RI x2 0 0 := rc_eq1 r_x2 rl_0 (ti_eq c_157) (by decide)
      refine lv_iconst (v := (-1)) hx hb dX9_book_160 (by decide) ?_
      refine lv_goto (tgt := 171) hx hb dX9_book_161 (by decide) ?_
      subst hQ
      exact W.iret (v := (-1)) hx hb hr (fun t ht hW => ⟨⟨(-1), ws, rfl, ⟨⟨rl_m1.to (by decide), (fun _ => trivial), (fun h0 => trivial), ⟨⟨fun _ => x_TLX_p0_0, fun h9 => absurd ⟨by have k1 := r_p1.1; omega, by have k1 := r_p1.2; omega⟩ h9⟩, (HE.weak (fun e9 => e9) (fun e9 => by cases e9) x_HE_gdq_gdg_gdo_gdA_gdB_false_true), trivial⟩, (fun _ => trivial), (fun _ => trivial)⟩, hw.1, hw.2.2.2.2.1⟩, by rw [ht]; exact hw.2.1, va_K.moved hW.alike hK, hw.2.2.1⟩, hw.2.2.2.1.F ht⟩) hw.2.2.2.1.2.2 dX9_book_171
  refine lv_iload_n hx hb dX9_book_0 rfl (lv_at hl 1 rfl) ?_
  refine lv_if_eq (tgt := 13) hx hb dX9_book_1 (by decide) (fun c_1 => ?_) (fun c_1 => ?_)
  · have r_p1 : RI p1 0 0 := rc_eq1 r_p1 rl_0 (ti_eq c_1) (by decide)
    refine lv_aload_n hx hb dX9_book_13 rfl (lv_at hl 0 rfl) ?_
    refine tg_get (ci := 9) (ts := ty_WP) (C := RX9) (T := TX9) (N := 15) hx hb hts inX9 hown hK hw h_p0 rfl rfl 6 (by decide) (hts _ tw_352) (fun _ h9 => h9) (ft := vR 31) rfl dX9_book_14 (fun u_3 hv_u_3 m_u_3 => ?_)
    obtain ⟨vu_3, rfl, h_vu_3⟩ := hv_u_3
    refine lv_aload_n hx hb dX9_book_17 rfl (lv_at hl 0 rfl) ?_
    refine tg_get (ci := 9) (ts := ty_WP) (C := RX9) (T := TX9) (N := 15) hx hb hts inX9 hown hK hw h_p0 rfl rfl 0 (by decide) (hts _ tw_346) (fun _ h9 => h9) (ft := vR 26) rfl dX9_book_18 (fun u_4 hv_u_4 m_u_4 => ?_)
    obtain ⟨vu_4, rfl, h_vu_4⟩ := hv_u_4
    refine lv_aload_n hx hb dX9_book_21 rfl (lv_at hl 0 rfl) ?_
    refine tg_get (ci := 9) (ts := ty_WP) (C := RX9) (T := TX9) (N := 15) hx hb hts inX9 hown hK hw h_p0 rfl rfl 1 (by decide) (hts _ tw_347) (fun _ h9 => h9) (ft := vR 24) rfl dX9_book_22 (fun u_5 hv_u_5 m_u_5 => ?_)
    obtain ⟨vu_5, rfl, h_vu_5⟩ := hv_u_5
    refine tg_getN (ci := 8) (ts := ty_WORLD) (C := RX8) (T := TX8) (N := 13) hx hb hts inX8 hown hK hw h_vu_5 rfl rfl 0 (by decide) (hSD.nest tn_249) (fun _ h9 => h9) (ft := vR 25) rfl dX9_book_25 (fun u_6 hv_u_6 m_u_6 => ?_)
    obtain ⟨vu_6, rfl, h_vu_6⟩ := hv_u_6
    refine tk_v (va_runV (As := [.ref vu_4, .ref vu_6]) (rest := []) ⟨hx, hb, hml, hown, hts⟩ (c_X0_read l D cy z s.heap.size Ps w0 hw.1 vu_3 vu_4 vu_6 h_vu_3 h_vu_4 h_vu_6) (cwV 2 hts (gV tw_886 tw_887 tw_888 tw_7 tw_889) rfl rfl rfl (by decide +kernel) ⟨Nat.le_of_ble_eq_true rfl, Nat.le_of_ble_eq_true rfl⟩) (tg_preV hw hK hSD hA (ci := 0) (q := (RX0, TX0, 5)) rfl h_vu_3 rfl) rfl rfl hl.1 rfl (lv_room (Nat.le_of_ble_eq_true rfl)) dX9_book_28 ⟨Nat.le_of_ble_eq_true rfl, Nat.le_of_ble_eq_true rfl⟩) hw hA ⟨by decide, by decide⟩ (fun ws H locs hp_v_7 hw hF9 => ?_)
    have m_u_3 := FLD.over hF9 m_u_3 (by decide)
    have m_u_4 := FLD.over hF9 m_u_4 (by decide)
    have m_u_5 := FLD.over hF9 m_u_5 (by decide)
    have m_u_6 := FLD.over hF9 m_u_6 (by decide)
    have x_TLX_p0_gh := TLX.over hF9 x_TLX_p0_gh (by decide)
    have x_GWX_p0_gdq := GWX.over hF9 x_GWX_p0_gdq (by decide)
    have x_GQ_gdq_gdg := GQ.over hF9 x_GQ_gdq_gdg (by decide)
    have x_HE_gdq_gdg_gdo_gdA_gdB_false_false := HE.over hF9 x_HE_gdq_gdg_gdo_gdA_gdB_false_false (by decide)
    have x_JB_vu_4_vu_3 := (hp_v_7.1)
    refine lv_aload_n hx hb dX9_book_31 rfl (lv_at hl 0 rfl) ?_
    refine tk_v (va_runV (As := []) (rest := []) ⟨hx, hb, hml, hown, hts⟩ (c_X9_noteFault__2 l D cy z H.size Ps ws hw.1 p0 h_p0) (cwV 0 hts (gV tw_517 tw_519 ts_9 tw_1 tw_520) rfl rfl rfl (by decide +kernel) ⟨Nat.le_of_ble_eq_true rfl, Nat.le_of_ble_eq_true rfl⟩) (tg_preV hw hK hSD hA (ci := 9) (q := (RX9, TX9, 15)) rfl h_p0 rfl) rfl rfl hl.1 rfl (lv_room (Nat.le_of_ble_eq_true rfl)) dX9_book_32 ⟨Nat.le_of_ble_eq_true rfl, Nat.le_of_ble_eq_true rfl⟩) hw hA ⟨by decide, by decide⟩ (fun ws H locs hp_v_8 hw hF9 => ?_)
    have m_u_3 := FLD.over hF9 m_u_3 (by decide)
    have m_u_4 := FLD.over hF9 m_u_4 (by decide)
    have m_u_5 := FLD.over hF9 m_u_5 (by decide)
    have m_u_6 := FLD.over hF9 m_u_6 (by decide)
    have x_GWX_p0_gdq := GWX.over hF9 x_GWX_p0_gdq (by decide)
    have x_GQ_gdq_gdg := GQ.over hF9 x_GQ_gdq_gdg (by decide)
    have x_HE_gdq_gdg_gdo_gdA_gdB_false_false := HE.over hF9 x_HE_gdq_gdg_gdo_gdA_gdB_false_false (by decide)
    have x_JB_vu_4_vu_3 := JB.over hF9 x_JB_vu_4_vu_3 (by decide)
    have x_EQF_p0 := (hp_v_8.1)
    have x_TLX_p0_0 := (hp_v_8.2.1)
    refine lv_aload_n hx hb dX9_book_35 rfl (lv_at hl 0 rfl) ?_
    refine tg_get (ci := 9) (ts := ty_WP) (C := RX9) (T := TX9) (N := 15) hx hb hts inX9 hown hK hw h_p0 rfl rfl 11 (by decide) (hts _ tw_357) (fun _ h9 => h9) (ft := vI (-2147483648) 2147483647) rfl dX9_book_36 (fun u_9 hv_u_9 m_u_9 => ?_)
    obtain ⟨vu_9, rfl, r_vu_9⟩ := hv_u_9
    refine lv_if_eq (tgt := 53) hx hb dX9_book_39 (by decide) (fun c_39 => ?_) (fun c_39 => ?_)
    · have r_vu_9 : RI vu_9 0 0 := rc_eq1 r_vu_9 rl_0 (ti_eq c_39) (by decide)
      have x_BG_vu_3 : BG Ps ws vu_3 := JB.bg hw x_JB_vu_4_vu_3 x_EQF_p0 m_u_4 m_u_9 r_vu_9
      refine lv_aload_n hx hb dX9_book_53 rfl (lv_at hl 0 rfl) ?_
      refine tg_get (ci := 9) (ts := ty_WP) (C := RX9) (T := TX9) (N := 15) hx hb hts inX9 hown hK hw h_p0 rfl rfl 2 (by decide) (hts _ tw_348) (fun _ h9 => h9) (ft := vR 24) rfl dX9_book_54 (fun u_10 hv_u_10 m_u_10 => ?_)
      obtain ⟨vu_10, rfl, h_vu_10⟩ := hv_u_10
      refine lv_aload_n hx hb dX9_book_57 rfl (lv_at hl 0 rfl) ?_
      refine tg_mem (ci := 9) (C := RX9) (T := TX9) (N := 15) hx hb hts inX9 hown hK hw 1 m_u_5 rfl (by decide) (hts _ tw_347) (fun _ h9 => h9) dX9_book_58 ?_
      have hD8 := hw.2.2.1
      refine tk_v (va_runV (As := [.ref vu_5]) (rest := []) ⟨hx, hb, hml, hown, hts⟩ (c_X8_takeFrom__1 l D cy z H.size Ps ws hw.1 vu_10 vu_5 h_vu_10 h_vu_5) (cwV 1 hts (gV tw_521 tw_522 tw_523 tw_12 tw_524) rfl rfl rfl (by decide +kernel) ⟨Nat.le_of_ble_eq_true rfl, Nat.le_of_ble_eq_true rfl⟩) (tg_preV hw hK hSD hA (ci := 8) (q := (RX8, TX8, 13)) rfl h_vu_10 rfl) rfl rfl hl.1 rfl (lv_room (Nat.le_of_ble_eq_true rfl)) dX9_book_61 ⟨Nat.le_of_ble_eq_true rfl, Nat.le_of_ble_eq_true rfl⟩) hw hA ⟨by decide, by decide⟩ (fun ws H locs hp_v_11 hw hF9 => ?_)
      have m_u_3 := FLD.over hF9 m_u_3 (by decide)
      have m_u_4 := FLD.over hF9 m_u_4 (by decide)
      have m_u_5 := FLD.over hF9 m_u_5 (by decide)
      have m_u_9 := FLD.over hF9 m_u_9 (by decide)
      have m_u_10 := FLD.over hF9 m_u_10 (by decide)
      have x_GWX_p0_gdq := GWX.over hF9 x_GWX_p0_gdq (by decide)
      have x_GQ_gdq_gdg := GQ.over hF9 x_GQ_gdq_gdg (by decide)
      have x_JB_vu_4_vu_3 := JB.over hF9 x_JB_vu_4_vu_3 (by decide)
      have x_EQF_p0 := EQF.over hF9 x_EQF_p0 (by decide)
      have x_TLX_p0_0 := TLX.over hF9 x_TLX_p0_0 (by decide)
      have x_BG_vu_3 := B3.over hF9 x_BG_vu_3 (by decide)
      have x_TKF_vu_10_vu_5 := (hp_v_11.1)
      have x_HE_gdq_gdg_gdo_gdA_gdB_false_true : HE Ps ws gdq gdg gdo gdA gdB false true := HE.trial hD8 hF9 (by decide) x_GQ_gdq_gdg.2.2.2.2.2 x_HE_gdq_gdg_gdo_gdA_gdB_false_false (by rw [← GWX.tr hw.2.2.1 x_GWX_p0_gdq m_u_10, ← GWX.wo hw.2.2.1 x_GWX_p0_gdq m_u_5]; exact x_TKF_vu_10_vu_5)
      refine lv_aload_n hx hb dX9_book_64 rfl (lv_at hl 0 rfl) ?_
      refine tg_mem (ci := 9) (C := RX9) (T := TX9) (N := 15) hx hb hts inX9 hown hK hw 6 m_u_3 rfl (by decide) (hts _ tw_352) (fun _ h9 => h9) dX9_book_65 ?_
      refine lv_aload_n hx hb dX9_book_68 rfl (lv_at hl 0 rfl) ?_
      refine tg_mem (ci := 9) (C := RX9) (T := TX9) (N := 15) hx hb hts inX9 hown hK hw 2 m_u_10 rfl (by decide) (hts _ tw_348) (fun _ h9 => h9) dX9_book_69 ?_
      refine tk_i (va_runV (As := [.ref vu_10]) (rest := []) ⟨hx, hb, hml, hown, hts⟩ (c_X0_liveIn l D cy z H.size Ps ws hw.1 vu_3 vu_10 h_vu_3 h_vu_10 x_BG_vu_3) (cwV 1 hts (gV tw_914 tw_915 tw_916 tw_7 tw_917) rfl rfl rfl (by decide +kernel) ⟨Nat.le_of_ble_eq_true rfl, Nat.le_of_ble_eq_true rfl⟩) (tg_preV hw hK hSD hA (ci := 0) (q := (RX0, TX0, 5)) rfl h_vu_3 rfl) rfl rfl hl.1 rfl (lv_room (Nat.le_of_ble_eq_true rfl)) dX9_book_72 ⟨Nat.le_of_ble_eq_true rfl, Nat.le_of_ble_eq_true rfl⟩) hw hA ⟨by decide, by decide⟩ (fun v_12 ws H locs hp_v_12 hw hF9 => ?_)
      have m_u_3 := FLD.over hF9 m_u_3 (by decide)
      have m_u_4 := FLD.over hF9 m_u_4 (by decide)
      have m_u_5 := FLD.over hF9 m_u_5 (by decide)
      have m_u_9 := FLD.over hF9 m_u_9 (by decide)
      have m_u_10 := FLD.over hF9 m_u_10 (by decide)
      have x_GWX_p0_gdq := GWX.over hF9 x_GWX_p0_gdq (by decide)
      have x_GQ_gdq_gdg := GQ.over hF9 x_GQ_gdq_gdg (by decide)
      have x_JB_vu_4_vu_3 := JB.over hF9 x_JB_vu_4_vu_3 (by decide)
      have x_EQF_p0 := EQF.over hF9 x_EQF_p0 (by decide)
      have x_TLX_p0_0 := TLX.over hF9 x_TLX_p0_0 (by decide)
      have x_BG_vu_3 := B3.over hF9 x_BG_vu_3 (by decide)
      have x_HE_gdq_gdg_gdo_gdA_gdB_false_true := HE.over hF9 x_HE_gdq_gdg_gdo_gdA_gdB_false_true (by decide)
      have r_v_12 : RI v_12 (-2147483648) 2147483647 := hp_v_12.1
      by_cases c9_v_12 : v_12 = 0
      · have r_v_12 : RI v_12 0 0 := by rw [c9_v_12]; exact rl_0
        refine lv_istore_n (lv' := [(2, .int v_12), (0, .ref p0), (1, .int p1)]) hx hb dX9_book_75 rfl hl (by decide) rfl (fun ls hl => ?_)
        refine lv_aload_n hx hb dX9_book_76 rfl (lv_at hl 1 rfl) ?_
        refine tg_get (ci := 9) (ts := ty_WP) (C := RX9) (T := TX9) (N := 15) hx hb hts inX9 hown hK hw h_p0 rfl rfl 7 (by decide) (hts _ tw_353) (fun _ h9 => h9) (ft := vR 15) rfl dX9_book_77 (fun u_13 hv_u_13 m_u_13 => ?_)
        obtain ⟨vu_13, rfl, h_vu_13⟩ := hv_u_13
        refine lv_iconst (v := 0) hx hb dX9_book_80 (by decide) ?_
        refine lv_iload_n hx hb dX9_book_81 rfl (lv_at hl 0 rfl) ?_
        refine tg_iast hx hb hK hw h_vu_13 rfl 0 0 rl_0 (by decide) r_v_12 (by exact fun _ _ _ => by decide) (fun _ _ _ _ _ => trivial) (by decide) dX9_book_82 (fun ws H locs hw hF9 hU9 => ?_)
        have x_GWX_p0_gdq := GWX.over hF9 x_GWX_p0_gdq (by decide)
        have x_GQ_gdq_gdg := GQ.over hF9 x_GQ_gdq_gdg (by decide)
        have x_JB_vu_4_vu_3 := JB.over hF9 x_JB_vu_4_vu_3 (by decide)
        have x_EQF_p0 := EQF.over hF9 x_EQF_p0 (by decide)
        have x_TLX_p0_0 := TLX.over hF9 x_TLX_p0_0 (by decide)
        have x_BG_vu_3 := B3.over hF9 x_BG_vu_3 (by decide)
        have x_HE_gdq_gdg_gdo_gdA_gdB_false_true := HE.over hF9 x_HE_gdq_gdg_gdo_gdA_gdB_false_true (by decide)
        have m_u_3 := FLD.over hF9 m_u_3 (by decide)
        have m_u_4 := FLD.over hF9 m_u_4 (by decide)
        have m_u_5 := FLD.over hF9 m_u_5 (by decide)
        have m_u_9 := FLD.over hF9 m_u_9 (by decide)
        have m_u_10 := FLD.over hF9 m_u_10 (by decide)
        have m_u_13 := FLD.over hF9 m_u_13 (by decide)
        refine lv_aload_n hx hb dX9_book_83 rfl (lv_at hl 1 rfl) ?_
        refine tg_mem (ci := 9) (C := RX9) (T := TX9) (N := 15) hx hb hts inX9 hown hK hw 7 m_u_13 rfl (by decide) (hts _ tw_353) (fun _ h9 => h9) dX9_book_84 ?_
        refine lv_iconst (v := 1) hx hb dX9_book_87 (by decide) ?_
        refine lv_aload_n hx hb dX9_book_88 rfl (lv_at hl 1 rfl) ?_
        refine tg_mem (ci := 9) (C := RX9) (T := TX9) (N := 15) hx hb hts inX9 hown hK hw 6 m_u_3 rfl (by decide) (hts _ tw_352) (fun _ h9 => h9) dX9_book_89 ?_
        refine tg_getN (ci := 0) (ts := ty_BOOK) (C := RX0) (T := TX0) (N := 5) hx hb hts inX0 hown hK hw h_vu_3 rfl rfl 4 (by decide) (hSD.nest tn_147) (fun _ h9 => h9) (ft := vI (-2147483648) 2147483647) rfl dX9_book_92 (fun u_14 hv_u_14 m_u_14 => ?_)
        obtain ⟨vu_14, rfl, r_vu_14⟩ := hv_u_14
        refine tg_iast hx hb hK hw h_vu_13 rfl 1 1 rl_1 (by decide) r_vu_14 (by exact fun _ _ _ => by decide) (fun _ _ _ _ _ => trivial) (by decide) dX9_book_95 (fun ws H locs hw hF9 hU9 => ?_)
        have x_GWX_p0_gdq := GWX.over hF9 x_GWX_p0_gdq (by decide)
        have x_GQ_gdq_gdg := GQ.over hF9 x_GQ_gdq_gdg (by decide)
        have x_JB_vu_4_vu_3 := JB.over hF9 x_JB_vu_4_vu_3 (by decide)
        have x_EQF_p0 := EQF.over hF9 x_EQF_p0 (by decide)
        have x_TLX_p0_0 := TLX.over hF9 x_TLX_p0_0 (by decide)
        have x_BG_vu_3 := B3.over hF9 x_BG_vu_3 (by decide)
        have x_HE_gdq_gdg_gdo_gdA_gdB_false_true := HE.over hF9 x_HE_gdq_gdg_gdo_gdA_gdB_false_true (by decide)
        have m_u_3 := FLD.over hF9 m_u_3 (by decide)
        have m_u_4 := FLD.over hF9 m_u_4 (by decide)
        have m_u_5 := FLD.over hF9 m_u_5 (by decide)
        have m_u_9 := FLD.over hF9 m_u_9 (by decide)
        have m_u_10 := FLD.over hF9 m_u_10 (by decide)
        have m_u_13 := FLD.over hF9 m_u_13 (by decide)
        have m_u_14 := FLD.over hF9 m_u_14 (by decide)
        refine lv_aload_n hx hb dX9_book_96 rfl (lv_at hl 1 rfl) ?_
        refine tg_mem (ci := 9) (C := RX9) (T := TX9) (N := 15) hx hb hts inX9 hown hK hw 7 m_u_13 rfl (by decide) (hts _ tw_353) (fun _ h9 => h9) dX9_book_97 ?_
        refine lv_iconst (v := 2) hx hb dX9_book_100 (by decide) ?_
        refine lv_aload_n hx hb dX9_book_101 rfl (lv_at hl 1 rfl) ?_
        refine tg_mem (ci := 9) (C := RX9) (T := TX9) (N := 15) hx hb hts inX9 hown hK hw 2 m_u_10 rfl (by decide) (hts _ tw_348) (fun _ h9 => h9) dX9_book_102 ?_
        refine tg_getN (ci := 8) (ts := ty_WORLD) (C := RX8) (T := TX8) (N := 13) hx hb hts inX8 hown hK hw h_vu_10 rfl rfl 1 (by decide) (hSD.nest tn_251) (fun _ h9 => h9) (ft := vI (-2147483648) 2147483647) rfl dX9_book_105 (fun u_15 hv_u_15 m_u_15 => ?_)
        obtain ⟨vu_15, rfl, r_vu_15⟩ := hv_u_15
        refine tg_iast hx hb hK hw h_vu_13 rfl 2 2 rl_2 (by decide) r_vu_15 (by exact fun _ _ _ => by decide) (fun _ _ _ _ _ => trivial) (by decide) dX9_book_108 (fun ws H locs hw hF9 hU9 => ?_)
        have x_GWX_p0_gdq := GWX.over hF9 x_GWX_p0_gdq (by decide)
        have x_GQ_gdq_gdg := GQ.over hF9 x_GQ_gdq_gdg (by decide)
        have x_JB_vu_4_vu_3 := JB.over hF9 x_JB_vu_4_vu_3 (by decide)
        have x_EQF_p0 := EQF.over hF9 x_EQF_p0 (by decide)
        have x_TLX_p0_0 := TLX.over hF9 x_TLX_p0_0 (by decide)
        have x_BG_vu_3 := B3.over hF9 x_BG_vu_3 (by decide)
        have x_HE_gdq_gdg_gdo_gdA_gdB_false_true := HE.over hF9 x_HE_gdq_gdg_gdo_gdA_gdB_false_true (by decide)
        have m_u_3 := FLD.over hF9 m_u_3 (by decide)
        have m_u_4 := FLD.over hF9 m_u_4 (by decide)
        have m_u_5 := FLD.over hF9 m_u_5 (by decide)
        have m_u_9 := FLD.over hF9 m_u_9 (by decide)
        have m_u_10 := FLD.over hF9 m_u_10 (by decide)
        have m_u_13 := FLD.over hF9 m_u_13 (by decide)
        have m_u_14 := FLD.over hF9 m_u_14 (by decide)
        have m_u_15 := FLD.over hF9 m_u_15 (by decide)
        refine lv_aload_n hx hb dX9_book_109 rfl (lv_at hl 1 rfl) ?_
        refine tg_mem (ci := 9) (C := RX9) (T := TX9) (N := 15) hx hb hts inX9 hown hK hw 7 m_u_13 rfl (by decide) (hts _ tw_353) (fun _ h9 => h9) dX9_book_110 ?_
        refine lv_iconst (v := 3) hx hb dX9_book_113 (by decide) ?_
        refine lv_aload_n hx hb dX9_book_114 rfl (lv_at hl 1 rfl) ?_
        refine tg_mem (ci := 9) (C := RX9) (T := TX9) (N := 15) hx hb hts inX9 hown hK hw 2 m_u_10 rfl (by decide) (hts _ tw_348) (fun _ h9 => h9) dX9_book_115 ?_
        refine tk_ir (va_runV (As := []) (rest := [.int 3, .ref vu_13]) ⟨hx, hb, hml, hown, hts⟩ (c_X8_whichAreNothing l D cy z H.size Ps ws hw.1 vu_10 h_vu_10) (cwV 0 hts (gV tw_565 tw_566 tw_567 tw_12 tw_568) rfl rfl rfl (by decide +kernel) ⟨Nat.le_of_ble_eq_true rfl, Nat.le_of_ble_eq_true rfl⟩) (tg_preV hw hK hSD hA (ci := 8) (q := (RX8, TX8, 13)) rfl h_vu_10 rfl) rfl rfl hl.1 rfl (lv_room (Nat.le_of_ble_eq_true rfl)) dX9_book_118 ⟨Nat.le_of_ble_eq_true rfl, Nat.le_of_ble_eq_true rfl⟩) hw hA (fun v_16  H locs hp_v_16 hw => ?_)
        have r_v_16 : RI v_16 (-2147483648) 2147483647 := hp_v_16.1
        refine tg_iast hx hb hK hw h_vu_13 rfl 3 3 rl_3 (by decide) r_v_16 (by exact fun _ _ _ => by decide) (fun _ _ _ _ _ => trivial) (by decide) dX9_book_121 (fun ws H locs hw hF9 hU9 => ?_)
        have x_GWX_p0_gdq := GWX.over hF9 x_GWX_p0_gdq (by decide)
        have x_GQ_gdq_gdg := GQ.over hF9 x_GQ_gdq_gdg (by decide)
        have x_JB_vu_4_vu_3 := JB.over hF9 x_JB_vu_4_vu_3 (by decide)
        have x_EQF_p0 := EQF.over hF9 x_EQF_p0 (by decide)
        have x_TLX_p0_0 := TLX.over hF9 x_TLX_p0_0 (by decide)
        have x_BG_vu_3 := B3.over hF9 x_BG_vu_3 (by decide)
        have x_HE_gdq_gdg_gdo_gdA_gdB_false_true := HE.over hF9 x_HE_gdq_gdg_gdo_gdA_gdB_false_true (by decide)
        have m_u_3 := FLD.over hF9 m_u_3 (by decide)
        have m_u_4 := FLD.over hF9 m_u_4 (by decide)
        have m_u_5 := FLD.over hF9 m_u_5 (by decide)
        have m_u_9 := FLD.over hF9 m_u_9 (by decide)
        have m_u_10 := FLD.over hF9 m_u_10 (by decide)
        have m_u_13 := FLD.over hF9 m_u_13 (by decide)
        have m_u_14 := FLD.over hF9 m_u_14 (by decide)
        have m_u_15 := FLD.over hF9 m_u_15 (by decide)
        refine lv_iload_n hx hb dX9_book_122 rfl (lv_at hl 2 rfl) ?_
        refine lv_iconst (v := 1) hx hb dX9_book_123 (by decide) ?_
        refine lv_icmp_ne (tgt := 156) hx hb dX9_book_124 (by decide) (fun c_124 => ?_) (fun c_124 => ?_)
        · exact B156 v_12 vu_9 ws _ _ ls (r_p1.to (by decide)) (r_v_12.to (by decide)) r_vu_9 m_u_9 x_EQF_p0 x_GQ_gdq_gdg x_GWX_p0_gdq x_HE_gdq_gdg_gdo_gdA_gdB_false_true x_TLX_p0_0 hw (lv_sub hl [1, 2, 0] rfl)
        · have r_p1 : RI p1 1 0 := rc_eq1 r_p1 rl_1 (ti_eq c_124) (by decide)
          exact (r_p1.no (by decide)).elim
      · obtain ⟨v_17, m_v_17, r_v_17⟩ := ((hp_v_12.2.2 c9_v_12).1)
        refine lv_istore_n (lv' := [(2, .int v_12), (0, .ref p0), (1, .int p1)]) hx hb dX9_book_75 rfl hl (by decide) rfl (fun ls hl => ?_)
        refine lv_aload_n hx hb dX9_book_76 rfl (lv_at hl 1 rfl) ?_
        refine tg_get (ci := 9) (ts := ty_WP) (C := RX9) (T := TX9) (N := 15) hx hb hts inX9 hown hK hw h_p0 rfl rfl 7 (by decide) (hts _ tw_353) (fun _ h9 => h9) (ft := vR 15) rfl dX9_book_77 (fun u_18 hv_u_18 m_u_18 => ?_)
        obtain ⟨vu_18, rfl, h_vu_18⟩ := hv_u_18
        refine lv_iconst (v := 0) hx hb dX9_book_80 (by decide) ?_
        refine lv_iload_n hx hb dX9_book_81 rfl (lv_at hl 0 rfl) ?_
        refine tg_iast hx hb hK hw h_vu_18 rfl 0 0 rl_0 (by decide) r_v_12 (by exact fun _ _ _ => by decide) (fun _ _ _ _ _ => trivial) (by decide) dX9_book_82 (fun ws H locs hw hF9 hU9 => ?_)
        have x_GWX_p0_gdq := GWX.over hF9 x_GWX_p0_gdq (by decide)
        have x_GQ_gdq_gdg := GQ.over hF9 x_GQ_gdq_gdg (by decide)
        have x_JB_vu_4_vu_3 := JB.over hF9 x_JB_vu_4_vu_3 (by decide)
        have x_EQF_p0 := EQF.over hF9 x_EQF_p0 (by decide)
        have x_TLX_p0_0 := TLX.over hF9 x_TLX_p0_0 (by decide)
        have x_BG_vu_3 := B3.over hF9 x_BG_vu_3 (by decide)
        have x_HE_gdq_gdg_gdo_gdA_gdB_false_true := HE.over hF9 x_HE_gdq_gdg_gdo_gdA_gdB_false_true (by decide)
        have m_u_3 := FLD.over hF9 m_u_3 (by decide)
        have m_u_4 := FLD.over hF9 m_u_4 (by decide)
        have m_u_5 := FLD.over hF9 m_u_5 (by decide)
        have m_u_9 := FLD.over hF9 m_u_9 (by decide)
        have m_u_10 := FLD.over hF9 m_u_10 (by decide)
        have m_v_17 := FLD.over hF9 m_v_17 (by decide)
        have m_u_18 := FLD.over hF9 m_u_18 (by decide)
        refine lv_aload_n hx hb dX9_book_83 rfl (lv_at hl 1 rfl) ?_
        refine tg_mem (ci := 9) (C := RX9) (T := TX9) (N := 15) hx hb hts inX9 hown hK hw 7 m_u_18 rfl (by decide) (hts _ tw_353) (fun _ h9 => h9) dX9_book_84 ?_
        refine lv_iconst (v := 1) hx hb dX9_book_87 (by decide) ?_
        refine lv_aload_n hx hb dX9_book_88 rfl (lv_at hl 1 rfl) ?_
        refine tg_mem (ci := 9) (C := RX9) (T := TX9) (N := 15) hx hb hts inX9 hown hK hw 6 m_u_3 rfl (by decide) (hts _ tw_352) (fun _ h9 => h9) dX9_book_89 ?_
        refine tg_getN (ci := 0) (ts := ty_BOOK) (C := RX0) (T := TX0) (N := 5) hx hb hts inX0 hown hK hw h_vu_3 rfl rfl 4 (by decide) (hSD.nest tn_147) (fun _ h9 => h9) (ft := vI (-2147483648) 2147483647) rfl dX9_book_92 (fun u_19 hv_u_19 m_u_19 => ?_)
        obtain ⟨vu_19, rfl, r_vu_19⟩ := hv_u_19
        refine tg_iast hx hb hK hw h_vu_18 rfl 1 1 rl_1 (by decide) r_vu_19 (by exact fun _ _ _ => by decide) (fun _ _ _ _ _ => trivial) (by decide) dX9_book_95 (fun ws H locs hw hF9 hU9 => ?_)
        have x_GWX_p0_gdq := GWX.over hF9 x_GWX_p0_gdq (by decide)
        have x_GQ_gdq_gdg := GQ.over hF9 x_GQ_gdq_gdg (by decide)
        have x_JB_vu_4_vu_3 := JB.over hF9 x_JB_vu_4_vu_3 (by decide)
        have x_EQF_p0 := EQF.over hF9 x_EQF_p0 (by decide)
        have x_TLX_p0_0 := TLX.over hF9 x_TLX_p0_0 (by decide)
        have x_BG_vu_3 := B3.over hF9 x_BG_vu_3 (by decide)
        have x_HE_gdq_gdg_gdo_gdA_gdB_false_true := HE.over hF9 x_HE_gdq_gdg_gdo_gdA_gdB_false_true (by decide)
        have m_u_3 := FLD.over hF9 m_u_3 (by decide)
        have m_u_4 := FLD.over hF9 m_u_4 (by decide)
        have m_u_5 := FLD.over hF9 m_u_5 (by decide)
        have m_u_9 := FLD.over hF9 m_u_9 (by decide)
        have m_u_10 := FLD.over hF9 m_u_10 (by decide)
        have m_v_17 := FLD.over hF9 m_v_17 (by decide)
        have m_u_18 := FLD.over hF9 m_u_18 (by decide)
        have m_u_19 := FLD.over hF9 m_u_19 (by decide)
        refine lv_aload_n hx hb dX9_book_96 rfl (lv_at hl 1 rfl) ?_
        refine tg_mem (ci := 9) (C := RX9) (T := TX9) (N := 15) hx hb hts inX9 hown hK hw 7 m_u_18 rfl (by decide) (hts _ tw_353) (fun _ h9 => h9) dX9_book_97 ?_
        refine lv_iconst (v := 2) hx hb dX9_book_100 (by decide) ?_
        refine lv_aload_n hx hb dX9_book_101 rfl (lv_at hl 1 rfl) ?_
        refine tg_mem (ci := 9) (C := RX9) (T := TX9) (N := 15) hx hb hts inX9 hown hK hw 2 m_u_10 rfl (by decide) (hts _ tw_348) (fun _ h9 => h9) dX9_book_102 ?_
        refine tg_getN (ci := 8) (ts := ty_WORLD) (C := RX8) (T := TX8) (N := 13) hx hb hts inX8 hown hK hw h_vu_10 rfl rfl 1 (by decide) (hSD.nest tn_251) (fun _ h9 => h9) (ft := vI (-2147483648) 2147483647) rfl dX9_book_105 (fun u_20 hv_u_20 m_u_20 => ?_)
        obtain ⟨vu_20, rfl, r_vu_20⟩ := hv_u_20
        refine tg_iast hx hb hK hw h_vu_18 rfl 2 2 rl_2 (by decide) r_vu_20 (by exact fun _ _ _ => by decide) (fun _ _ _ _ _ => trivial) (by decide) dX9_book_108 (fun ws H locs hw hF9 hU9 => ?_)
        have x_GWX_p0_gdq := GWX.over hF9 x_GWX_p0_gdq (by decide)
        have x_GQ_gdq_gdg := GQ.over hF9 x_GQ_gdq_gdg (by decide)
        have x_JB_vu_4_vu_3 := JB.over hF9 x_JB_vu_4_vu_3 (by decide)
        have x_EQF_p0 := EQF.over hF9 x_EQF_p0 (by decide)
        have x_TLX_p0_0 := TLX.over hF9 x_TLX_p0_0 (by decide)
        have x_BG_vu_3 := B3.over hF9 x_BG_vu_3 (by decide)
        have x_HE_gdq_gdg_gdo_gdA_gdB_false_true := HE.over hF9 x_HE_gdq_gdg_gdo_gdA_gdB_false_true (by decide)
        have m_u_3 := FLD.over hF9 m_u_3 (by decide)
        have m_u_4 := FLD.over hF9 m_u_4 (by decide)
        have m_u_5 := FLD.over hF9 m_u_5 (by decide)
        have m_u_9 := FLD.over hF9 m_u_9 (by decide)
        have m_u_10 := FLD.over hF9 m_u_10 (by decide)
        have m_v_17 := FLD.over hF9 m_v_17 (by decide)
        have m_u_18 := FLD.over hF9 m_u_18 (by decide)
        have m_u_19 := FLD.over hF9 m_u_19 (by decide)
        have m_u_20 := FLD.over hF9 m_u_20 (by decide)
        refine lv_aload_n hx hb dX9_book_109 rfl (lv_at hl 1 rfl) ?_
        refine tg_mem (ci := 9) (C := RX9) (T := TX9) (N := 15) hx hb hts inX9 hown hK hw 7 m_u_18 rfl (by decide) (hts _ tw_353) (fun _ h9 => h9) dX9_book_110 ?_
        refine lv_iconst (v := 3) hx hb dX9_book_113 (by decide) ?_
        refine lv_aload_n hx hb dX9_book_114 rfl (lv_at hl 1 rfl) ?_
        refine tg_mem (ci := 9) (C := RX9) (T := TX9) (N := 15) hx hb hts inX9 hown hK hw 2 m_u_10 rfl (by decide) (hts _ tw_348) (fun _ h9 => h9) dX9_book_115 ?_
        refine tk_ir (va_runV (As := []) (rest := [.int 3, .ref vu_18]) ⟨hx, hb, hml, hown, hts⟩ (c_X8_whichAreNothing l D cy z H.size Ps ws hw.1 vu_10 h_vu_10) (cwV 0 hts (gV tw_565 tw_566 tw_567 tw_12 tw_568) rfl rfl rfl (by decide +kernel) ⟨Nat.le_of_ble_eq_true rfl, Nat.le_of_ble_eq_true rfl⟩) (tg_preV hw hK hSD hA (ci := 8) (q := (RX8, TX8, 13)) rfl h_vu_10 rfl) rfl rfl hl.1 rfl (lv_room (Nat.le_of_ble_eq_true rfl)) dX9_book_118 ⟨Nat.le_of_ble_eq_true rfl, Nat.le_of_ble_eq_true rfl⟩) hw hA (fun v_21  H locs hp_v_21 hw => ?_)
        have r_v_21 : RI v_21 (-2147483648) 2147483647 := hp_v_21.1
        refine tg_iast hx hb hK hw h_vu_18 rfl 3 3 rl_3 (by decide) r_v_21 (by exact fun _ _ _ => by decide) (fun _ _ _ _ _ => trivial) (by decide) dX9_book_121 (fun ws H locs hw hF9 hU9 => ?_)
        have x_GWX_p0_gdq := GWX.over hF9 x_GWX_p0_gdq (by decide)
        have x_GQ_gdq_gdg := GQ.over hF9 x_GQ_gdq_gdg (by decide)
        have x_JB_vu_4_vu_3 := JB.over hF9 x_JB_vu_4_vu_3 (by decide)
        have x_EQF_p0 := EQF.over hF9 x_EQF_p0 (by decide)
        have x_TLX_p0_0 := TLX.over hF9 x_TLX_p0_0 (by decide)
        have x_BG_vu_3 := B3.over hF9 x_BG_vu_3 (by decide)
        have x_HE_gdq_gdg_gdo_gdA_gdB_false_true := HE.over hF9 x_HE_gdq_gdg_gdo_gdA_gdB_false_true (by decide)
        have m_u_3 := FLD.over hF9 m_u_3 (by decide)
        have m_u_4 := FLD.over hF9 m_u_4 (by decide)
        have m_u_5 := FLD.over hF9 m_u_5 (by decide)
        have m_u_9 := FLD.over hF9 m_u_9 (by decide)
        have m_u_10 := FLD.over hF9 m_u_10 (by decide)
        have m_v_17 := FLD.over hF9 m_v_17 (by decide)
        have m_u_18 := FLD.over hF9 m_u_18 (by decide)
        have m_u_19 := FLD.over hF9 m_u_19 (by decide)
        have m_u_20 := FLD.over hF9 m_u_20 (by decide)
        refine lv_iload_n hx hb dX9_book_122 rfl (lv_at hl 2 rfl) ?_
        refine lv_iconst (v := 1) hx hb dX9_book_123 (by decide) ?_
        refine lv_icmp_ne (tgt := 156) hx hb dX9_book_124 (by decide) (fun c_124 => ?_) (fun c_124 => ?_)
        · exact B156 v_12 vu_9 ws _ _ ls (r_p1.to (by decide)) r_v_12 r_vu_9 m_u_9 x_EQF_p0 x_GQ_gdq_gdg x_GWX_p0_gdq x_HE_gdq_gdg_gdo_gdA_gdB_false_true x_TLX_p0_0 hw (lv_sub hl [1, 2, 0] rfl)
        · have r_p1 : RI p1 1 0 := rc_eq1 r_p1 rl_1 (ti_eq c_124) (by decide)
          exact (r_p1.no (by decide)).elim
    · refine lv_bipush (v := (-2)) hx hb dX9_book_42 (by decide) ?_
      refine lv_aload_n hx hb dX9_book_44 rfl (lv_at hl 0 rfl) ?_
      refine tg_mem (ci := 9) (C := RX9) (T := TX9) (N := 15) hx hb hts inX9 hown hK hw 0 m_u_4 rfl (by decide) (hts _ tw_346) (fun _ h9 => h9) dX9_book_45 ?_
      refine tg_getN (ci := 7) (ts := ty_TAPE) (C := RX7) (T := TX7) (N := 12) hx hb hts inX7 hown hK hw h_vu_4 rfl rfl 11 (by decide) (hSD.nest tn_107) (fun _ h9 => h9) (ft := vI (-2147483648) 2147483647) rfl dX9_book_48 (fun u_22 hv_u_22 m_u_22 => ?_)
      obtain ⟨vu_22, rfl, r_vu_22⟩ := hv_u_22
      refine lv_isub hx hb dX9_book_51 (lv_topi (fun v_23 e_v_23 => ?_))
      have r_v_23 := ri_any v_23
      subst hQ
      exact W.iret (v := v_23) hx hb hr (fun t ht hW => ⟨⟨v_23, ws, rfl, ⟨⟨r_v_23.to (by decide), (fun h0 => trivial), (fun h0 => trivial), ⟨⟨fun _ => x_TLX_p0_0, fun h9 => absurd ⟨by have k1 := r_p1.1; omega, by have k1 := r_p1.2; omega⟩ h9⟩, x_HE_gdq_gdg_gdo_gdA_gdB_false_false, trivial⟩, (fun _ => trivial), (fun _ => trivial)⟩, hw.1, hw.2.2.2.2.1⟩, by rw [ht]; exact hw.2.1, va_K.moved hW.alike hK, hw.2.2.1⟩, hw.2.2.2.1.F ht⟩) hw.2.2.2.1.2.2 dX9_book_52
  · refine lv_iload_n hx hb dX9_book_4 rfl (lv_at hl 1 rfl) ?_
    refine lv_iconst (v := 1) hx hb dX9_book_5 (by decide) ?_
    refine lv_icmp_eq (tgt := 13) hx hb dX9_book_6 (by decide) (fun c_6 => ?_) (fun c_6 => ?_)
    · have r_p1 : RI p1 1 1 := rc_eq1 r_p1 rl_1 (ti_eq c_6) (by decide)
      refine lv_aload_n hx hb dX9_book_13 rfl (lv_at hl 0 rfl) ?_
      refine tg_get (ci := 9) (ts := ty_WP) (C := RX9) (T := TX9) (N := 15) hx hb hts inX9 hown hK hw h_p0 rfl rfl 6 (by decide) (hts _ tw_352) (fun _ h9 => h9) (ft := vR 31) rfl dX9_book_14 (fun u_24 hv_u_24 m_u_24 => ?_)
      obtain ⟨vu_24, rfl, h_vu_24⟩ := hv_u_24
      refine lv_aload_n hx hb dX9_book_17 rfl (lv_at hl 0 rfl) ?_
      refine tg_get (ci := 9) (ts := ty_WP) (C := RX9) (T := TX9) (N := 15) hx hb hts inX9 hown hK hw h_p0 rfl rfl 0 (by decide) (hts _ tw_346) (fun _ h9 => h9) (ft := vR 26) rfl dX9_book_18 (fun u_25 hv_u_25 m_u_25 => ?_)
      obtain ⟨vu_25, rfl, h_vu_25⟩ := hv_u_25
      refine lv_aload_n hx hb dX9_book_21 rfl (lv_at hl 0 rfl) ?_
      refine tg_get (ci := 9) (ts := ty_WP) (C := RX9) (T := TX9) (N := 15) hx hb hts inX9 hown hK hw h_p0 rfl rfl 1 (by decide) (hts _ tw_347) (fun _ h9 => h9) (ft := vR 24) rfl dX9_book_22 (fun u_26 hv_u_26 m_u_26 => ?_)
      obtain ⟨vu_26, rfl, h_vu_26⟩ := hv_u_26
      refine tg_getN (ci := 8) (ts := ty_WORLD) (C := RX8) (T := TX8) (N := 13) hx hb hts inX8 hown hK hw h_vu_26 rfl rfl 0 (by decide) (hSD.nest tn_249) (fun _ h9 => h9) (ft := vR 25) rfl dX9_book_25 (fun u_27 hv_u_27 m_u_27 => ?_)
      obtain ⟨vu_27, rfl, h_vu_27⟩ := hv_u_27
      refine tk_v (va_runV (As := [.ref vu_25, .ref vu_27]) (rest := []) ⟨hx, hb, hml, hown, hts⟩ (c_X0_read l D cy z s.heap.size Ps w0 hw.1 vu_24 vu_25 vu_27 h_vu_24 h_vu_25 h_vu_27) (cwV 2 hts (gV tw_886 tw_887 tw_888 tw_7 tw_889) rfl rfl rfl (by decide +kernel) ⟨Nat.le_of_ble_eq_true rfl, Nat.le_of_ble_eq_true rfl⟩) (tg_preV hw hK hSD hA (ci := 0) (q := (RX0, TX0, 5)) rfl h_vu_24 rfl) rfl rfl hl.1 rfl (lv_room (Nat.le_of_ble_eq_true rfl)) dX9_book_28 ⟨Nat.le_of_ble_eq_true rfl, Nat.le_of_ble_eq_true rfl⟩) hw hA ⟨by decide, by decide⟩ (fun ws H locs hp_v_28 hw hF9 => ?_)
      have m_u_24 := FLD.over hF9 m_u_24 (by decide)
      have m_u_25 := FLD.over hF9 m_u_25 (by decide)
      have m_u_26 := FLD.over hF9 m_u_26 (by decide)
      have m_u_27 := FLD.over hF9 m_u_27 (by decide)
      have x_TLX_p0_gh := TLX.over hF9 x_TLX_p0_gh (by decide)
      have x_GWX_p0_gdq := GWX.over hF9 x_GWX_p0_gdq (by decide)
      have x_GQ_gdq_gdg := GQ.over hF9 x_GQ_gdq_gdg (by decide)
      have x_HE_gdq_gdg_gdo_gdA_gdB_false_false := HE.over hF9 x_HE_gdq_gdg_gdo_gdA_gdB_false_false (by decide)
      have x_JB_vu_25_vu_24 := (hp_v_28.1)
      refine lv_aload_n hx hb dX9_book_31 rfl (lv_at hl 0 rfl) ?_
      refine tk_v (va_runV (As := []) (rest := []) ⟨hx, hb, hml, hown, hts⟩ (c_X9_noteFault__2 l D cy z H.size Ps ws hw.1 p0 h_p0) (cwV 0 hts (gV tw_517 tw_519 ts_9 tw_1 tw_520) rfl rfl rfl (by decide +kernel) ⟨Nat.le_of_ble_eq_true rfl, Nat.le_of_ble_eq_true rfl⟩) (tg_preV hw hK hSD hA (ci := 9) (q := (RX9, TX9, 15)) rfl h_p0 rfl) rfl rfl hl.1 rfl (lv_room (Nat.le_of_ble_eq_true rfl)) dX9_book_32 ⟨Nat.le_of_ble_eq_true rfl, Nat.le_of_ble_eq_true rfl⟩) hw hA ⟨by decide, by decide⟩ (fun ws H locs hp_v_29 hw hF9 => ?_)
      have m_u_24 := FLD.over hF9 m_u_24 (by decide)
      have m_u_25 := FLD.over hF9 m_u_25 (by decide)
      have m_u_26 := FLD.over hF9 m_u_26 (by decide)
      have m_u_27 := FLD.over hF9 m_u_27 (by decide)
      have x_GWX_p0_gdq := GWX.over hF9 x_GWX_p0_gdq (by decide)
      have x_GQ_gdq_gdg := GQ.over hF9 x_GQ_gdq_gdg (by decide)
      have x_HE_gdq_gdg_gdo_gdA_gdB_false_false := HE.over hF9 x_HE_gdq_gdg_gdo_gdA_gdB_false_false (by decide)
      have x_JB_vu_25_vu_24 := JB.over hF9 x_JB_vu_25_vu_24 (by decide)
      have x_EQF_p0 := (hp_v_29.1)
      have x_TLX_p0_0 := (hp_v_29.2.1)
      refine lv_aload_n hx hb dX9_book_35 rfl (lv_at hl 0 rfl) ?_
      refine tg_get (ci := 9) (ts := ty_WP) (C := RX9) (T := TX9) (N := 15) hx hb hts inX9 hown hK hw h_p0 rfl rfl 11 (by decide) (hts _ tw_357) (fun _ h9 => h9) (ft := vI (-2147483648) 2147483647) rfl dX9_book_36 (fun u_30 hv_u_30 m_u_30 => ?_)
      obtain ⟨vu_30, rfl, r_vu_30⟩ := hv_u_30
      refine lv_if_eq (tgt := 53) hx hb dX9_book_39 (by decide) (fun c_39 => ?_) (fun c_39 => ?_)
      · have r_vu_30 : RI vu_30 0 0 := rc_eq1 r_vu_30 rl_0 (ti_eq c_39) (by decide)
        have x_BG_vu_24 : BG Ps ws vu_24 := JB.bg hw x_JB_vu_25_vu_24 x_EQF_p0 m_u_25 m_u_30 r_vu_30
        refine lv_aload_n hx hb dX9_book_53 rfl (lv_at hl 0 rfl) ?_
        refine tg_get (ci := 9) (ts := ty_WP) (C := RX9) (T := TX9) (N := 15) hx hb hts inX9 hown hK hw h_p0 rfl rfl 2 (by decide) (hts _ tw_348) (fun _ h9 => h9) (ft := vR 24) rfl dX9_book_54 (fun u_31 hv_u_31 m_u_31 => ?_)
        obtain ⟨vu_31, rfl, h_vu_31⟩ := hv_u_31
        refine lv_aload_n hx hb dX9_book_57 rfl (lv_at hl 0 rfl) ?_
        refine tg_mem (ci := 9) (C := RX9) (T := TX9) (N := 15) hx hb hts inX9 hown hK hw 1 m_u_26 rfl (by decide) (hts _ tw_347) (fun _ h9 => h9) dX9_book_58 ?_
        have hD8 := hw.2.2.1
        refine tk_v (va_runV (As := [.ref vu_26]) (rest := []) ⟨hx, hb, hml, hown, hts⟩ (c_X8_takeFrom__1 l D cy z H.size Ps ws hw.1 vu_31 vu_26 h_vu_31 h_vu_26) (cwV 1 hts (gV tw_521 tw_522 tw_523 tw_12 tw_524) rfl rfl rfl (by decide +kernel) ⟨Nat.le_of_ble_eq_true rfl, Nat.le_of_ble_eq_true rfl⟩) (tg_preV hw hK hSD hA (ci := 8) (q := (RX8, TX8, 13)) rfl h_vu_31 rfl) rfl rfl hl.1 rfl (lv_room (Nat.le_of_ble_eq_true rfl)) dX9_book_61 ⟨Nat.le_of_ble_eq_true rfl, Nat.le_of_ble_eq_true rfl⟩) hw hA ⟨by decide, by decide⟩ (fun ws H locs hp_v_32 hw hF9 => ?_)
        have m_u_24 := FLD.over hF9 m_u_24 (by decide)
        have m_u_25 := FLD.over hF9 m_u_25 (by decide)
        have m_u_26 := FLD.over hF9 m_u_26 (by decide)
        have m_u_30 := FLD.over hF9 m_u_30 (by decide)
        have m_u_31 := FLD.over hF9 m_u_31 (by decide)
        have x_GWX_p0_gdq := GWX.over hF9 x_GWX_p0_gdq (by decide)
        have x_GQ_gdq_gdg := GQ.over hF9 x_GQ_gdq_gdg (by decide)
        have x_JB_vu_25_vu_24 := JB.over hF9 x_JB_vu_25_vu_24 (by decide)
        have x_EQF_p0 := EQF.over hF9 x_EQF_p0 (by decide)
        have x_TLX_p0_0 := TLX.over hF9 x_TLX_p0_0 (by decide)
        have x_BG_vu_24 := B3.over hF9 x_BG_vu_24 (by decide)
        have x_TKF_vu_31_vu_26 := (hp_v_32.1)
        have x_HE_gdq_gdg_gdo_gdA_gdB_false_true : HE Ps ws gdq gdg gdo gdA gdB false true := HE.trial hD8 hF9 (by decide) x_GQ_gdq_gdg.2.2.2.2.2 x_HE_gdq_gdg_gdo_gdA_gdB_false_false (by rw [← GWX.tr hw.2.2.1 x_GWX_p0_gdq m_u_31, ← GWX.wo hw.2.2.1 x_GWX_p0_gdq m_u_26]; exact x_TKF_vu_31_vu_26)
        refine lv_aload_n hx hb dX9_book_64 rfl (lv_at hl 0 rfl) ?_
        refine tg_mem (ci := 9) (C := RX9) (T := TX9) (N := 15) hx hb hts inX9 hown hK hw 6 m_u_24 rfl (by decide) (hts _ tw_352) (fun _ h9 => h9) dX9_book_65 ?_
        refine lv_aload_n hx hb dX9_book_68 rfl (lv_at hl 0 rfl) ?_
        refine tg_mem (ci := 9) (C := RX9) (T := TX9) (N := 15) hx hb hts inX9 hown hK hw 2 m_u_31 rfl (by decide) (hts _ tw_348) (fun _ h9 => h9) dX9_book_69 ?_
        refine tk_i (va_runV (As := [.ref vu_31]) (rest := []) ⟨hx, hb, hml, hown, hts⟩ (c_X0_liveIn l D cy z H.size Ps ws hw.1 vu_24 vu_31 h_vu_24 h_vu_31 x_BG_vu_24) (cwV 1 hts (gV tw_914 tw_915 tw_916 tw_7 tw_917) rfl rfl rfl (by decide +kernel) ⟨Nat.le_of_ble_eq_true rfl, Nat.le_of_ble_eq_true rfl⟩) (tg_preV hw hK hSD hA (ci := 0) (q := (RX0, TX0, 5)) rfl h_vu_24 rfl) rfl rfl hl.1 rfl (lv_room (Nat.le_of_ble_eq_true rfl)) dX9_book_72 ⟨Nat.le_of_ble_eq_true rfl, Nat.le_of_ble_eq_true rfl⟩) hw hA ⟨by decide, by decide⟩ (fun v_33 ws H locs hp_v_33 hw hF9 => ?_)
        have m_u_24 := FLD.over hF9 m_u_24 (by decide)
        have m_u_25 := FLD.over hF9 m_u_25 (by decide)
        have m_u_26 := FLD.over hF9 m_u_26 (by decide)
        have m_u_30 := FLD.over hF9 m_u_30 (by decide)
        have m_u_31 := FLD.over hF9 m_u_31 (by decide)
        have x_GWX_p0_gdq := GWX.over hF9 x_GWX_p0_gdq (by decide)
        have x_GQ_gdq_gdg := GQ.over hF9 x_GQ_gdq_gdg (by decide)
        have x_JB_vu_25_vu_24 := JB.over hF9 x_JB_vu_25_vu_24 (by decide)
        have x_EQF_p0 := EQF.over hF9 x_EQF_p0 (by decide)
        have x_TLX_p0_0 := TLX.over hF9 x_TLX_p0_0 (by decide)
        have x_BG_vu_24 := B3.over hF9 x_BG_vu_24 (by decide)
        have x_HE_gdq_gdg_gdo_gdA_gdB_false_true := HE.over hF9 x_HE_gdq_gdg_gdo_gdA_gdB_false_true (by decide)
        have r_v_33 : RI v_33 (-2147483648) 2147483647 := hp_v_33.1
        by_cases c9_v_33 : v_33 = 0
        · have r_v_33 : RI v_33 0 0 := by rw [c9_v_33]; exact rl_0
          refine lv_istore_n (lv' := [(2, .int v_33), (0, .ref p0), (1, .int p1)]) hx hb dX9_book_75 rfl hl (by decide) rfl (fun ls hl => ?_)
          refine lv_aload_n hx hb dX9_book_76 rfl (lv_at hl 1 rfl) ?_
          refine tg_get (ci := 9) (ts := ty_WP) (C := RX9) (T := TX9) (N := 15) hx hb hts inX9 hown hK hw h_p0 rfl rfl 7 (by decide) (hts _ tw_353) (fun _ h9 => h9) (ft := vR 15) rfl dX9_book_77 (fun u_34 hv_u_34 m_u_34 => ?_)
          obtain ⟨vu_34, rfl, h_vu_34⟩ := hv_u_34
          refine lv_iconst (v := 0) hx hb dX9_book_80 (by decide) ?_
          refine lv_iload_n hx hb dX9_book_81 rfl (lv_at hl 0 rfl) ?_
          refine tg_iast hx hb hK hw h_vu_34 rfl 0 0 rl_0 (by decide) r_v_33 (by exact fun _ _ _ => by decide) (fun _ _ _ _ _ => trivial) (by decide) dX9_book_82 (fun ws H locs hw hF9 hU9 => ?_)
          have x_GWX_p0_gdq := GWX.over hF9 x_GWX_p0_gdq (by decide)
          have x_GQ_gdq_gdg := GQ.over hF9 x_GQ_gdq_gdg (by decide)
          have x_JB_vu_25_vu_24 := JB.over hF9 x_JB_vu_25_vu_24 (by decide)
          have x_EQF_p0 := EQF.over hF9 x_EQF_p0 (by decide)
          have x_TLX_p0_0 := TLX.over hF9 x_TLX_p0_0 (by decide)
          have x_BG_vu_24 := B3.over hF9 x_BG_vu_24 (by decide)
          have x_HE_gdq_gdg_gdo_gdA_gdB_false_true := HE.over hF9 x_HE_gdq_gdg_gdo_gdA_gdB_false_true (by decide)
          have m_u_24 := FLD.over hF9 m_u_24 (by decide)
          have m_u_25 := FLD.over hF9 m_u_25 (by decide)
          have m_u_26 := FLD.over hF9 m_u_26 (by decide)
          have m_u_30 := FLD.over hF9 m_u_30 (by decide)
          have m_u_31 := FLD.over hF9 m_u_31 (by decide)
          have m_u_34 := FLD.over hF9 m_u_34 (by decide)
          refine lv_aload_n hx hb dX9_book_83 rfl (lv_at hl 1 rfl) ?_
          refine tg_mem (ci := 9) (C := RX9) (T := TX9) (N := 15) hx hb hts inX9 hown hK hw 7 m_u_34 rfl (by decide) (hts _ tw_353) (fun _ h9 => h9) dX9_book_84 ?_
          refine lv_iconst (v := 1) hx hb dX9_book_87 (by decide) ?_
          refine lv_aload_n hx hb dX9_book_88 rfl (lv_at hl 1 rfl) ?_
          refine tg_mem (ci := 9) (C := RX9) (T := TX9) (N := 15) hx hb hts inX9 hown hK hw 6 m_u_24 rfl (by decide) (hts _ tw_352) (fun _ h9 => h9) dX9_book_89 ?_
          refine tg_getN (ci := 0) (ts := ty_BOOK) (C := RX0) (T := TX0) (N := 5) hx hb hts inX0 hown hK hw h_vu_24 rfl rfl 4 (by decide) (hSD.nest tn_147) (fun _ h9 => h9) (ft := vI (-2147483648) 2147483647) rfl dX9_book_92 (fun u_35 hv_u_35 m_u_35 => ?_)
          obtain ⟨vu_35, rfl, r_vu_35⟩ := hv_u_35
          refine tg_iast hx hb hK hw h_vu_34 rfl 1 1 rl_1 (by decide) r_vu_35 (by exact fun _ _ _ => by decide) (fun _ _ _ _ _ => trivial) (by decide) dX9_book_95 (fun ws H locs hw hF9 hU9 => ?_)
          have x_GWX_p0_gdq := GWX.over hF9 x_GWX_p0_gdq (by decide)
          have x_GQ_gdq_gdg := GQ.over hF9 x_GQ_gdq_gdg (by decide)
          have x_JB_vu_25_vu_24 := JB.over hF9 x_JB_vu_25_vu_24 (by decide)
          have x_EQF_p0 := EQF.over hF9 x_EQF_p0 (by decide)
          have x_TLX_p0_0 := TLX.over hF9 x_TLX_p0_0 (by decide)
          have x_BG_vu_24 := B3.over hF9 x_BG_vu_24 (by decide)
          have x_HE_gdq_gdg_gdo_gdA_gdB_false_true := HE.over hF9 x_HE_gdq_gdg_gdo_gdA_gdB_false_true (by decide)
          have m_u_24 := FLD.over hF9 m_u_24 (by decide)
          have m_u_25 := FLD.over hF9 m_u_25 (by decide)
          have m_u_26 := FLD.over hF9 m_u_26 (by decide)
          have m_u_30 := FLD.over hF9 m_u_30 (by decide)
          have m_u_31 := FLD.over hF9 m_u_31 (by decide)
          have m_u_34 := FLD.over hF9 m_u_34 (by decide)
          have m_u_35 := FLD.over hF9 m_u_35 (by decide)
          refine lv_aload_n hx hb dX9_book_96 rfl (lv_at hl 1 rfl) ?_
          refine tg_mem (ci := 9) (C := RX9) (T := TX9) (N := 15) hx hb hts inX9 hown hK hw 7 m_u_34 rfl (by decide) (hts _ tw_353) (fun _ h9 => h9) dX9_book_97 ?_
          refine lv_iconst (v := 2) hx hb dX9_book_100 (by decide) ?_
          refine lv_aload_n hx hb dX9_book_101 rfl (lv_at hl 1 rfl) ?_
          refine tg_mem (ci := 9) (C := RX9) (T := TX9) (N := 15) hx hb hts inX9 hown hK hw 2 m_u_31 rfl (by decide) (hts _ tw_348) (fun _ h9 => h9) dX9_book_102 ?_
          refine tg_getN (ci := 8) (ts := ty_WORLD) (C := RX8) (T := TX8) (N := 13) hx hb hts inX8 hown hK hw h_vu_31 rfl rfl 1 (by decide) (hSD.nest tn_251) (fun _ h9 => h9) (ft := vI (-2147483648) 2147483647) rfl dX9_book_105 (fun u_36 hv_u_36 m_u_36 => ?_)
          obtain ⟨vu_36, rfl, r_vu_36⟩ := hv_u_36
          refine tg_iast hx hb hK hw h_vu_34 rfl 2 2 rl_2 (by decide) r_vu_36 (by exact fun _ _ _ => by decide) (fun _ _ _ _ _ => trivial) (by decide) dX9_book_108 (fun ws H locs hw hF9 hU9 => ?_)
          have x_GWX_p0_gdq := GWX.over hF9 x_GWX_p0_gdq (by decide)
          have x_GQ_gdq_gdg := GQ.over hF9 x_GQ_gdq_gdg (by decide)
          have x_JB_vu_25_vu_24 := JB.over hF9 x_JB_vu_25_vu_24 (by decide)
          have x_EQF_p0 := EQF.over hF9 x_EQF_p0 (by decide)
          have x_TLX_p0_0 := TLX.over hF9 x_TLX_p0_0 (by decide)
          have x_BG_vu_24 := B3.over hF9 x_BG_vu_24 (by decide)
          have x_HE_gdq_gdg_gdo_gdA_gdB_false_true := HE.over hF9 x_HE_gdq_gdg_gdo_gdA_gdB_false_true (by decide)
          have m_u_24 := FLD.over hF9 m_u_24 (by decide)
          have m_u_25 := FLD.over hF9 m_u_25 (by decide)
          have m_u_26 := FLD.over hF9 m_u_26 (by decide)
          have m_u_30 := FLD.over hF9 m_u_30 (by decide)
          have m_u_31 := FLD.over hF9 m_u_31 (by decide)
          have m_u_34 := FLD.over hF9 m_u_34 (by decide)
          have m_u_35 := FLD.over hF9 m_u_35 (by decide)
          have m_u_36 := FLD.over hF9 m_u_36 (by decide)
          refine lv_aload_n hx hb dX9_book_109 rfl (lv_at hl 1 rfl) ?_
          refine tg_mem (ci := 9) (C := RX9) (T := TX9) (N := 15) hx hb hts inX9 hown hK hw 7 m_u_34 rfl (by decide) (hts _ tw_353) (fun _ h9 => h9) dX9_book_110 ?_
          refine lv_iconst (v := 3) hx hb dX9_book_113 (by decide) ?_
          refine lv_aload_n hx hb dX9_book_114 rfl (lv_at hl 1 rfl) ?_
          refine tg_mem (ci := 9) (C := RX9) (T := TX9) (N := 15) hx hb hts inX9 hown hK hw 2 m_u_31 rfl (by decide) (hts _ tw_348) (fun _ h9 => h9) dX9_book_115 ?_
          refine tk_ir (va_runV (As := []) (rest := [.int 3, .ref vu_34]) ⟨hx, hb, hml, hown, hts⟩ (c_X8_whichAreNothing l D cy z H.size Ps ws hw.1 vu_31 h_vu_31) (cwV 0 hts (gV tw_565 tw_566 tw_567 tw_12 tw_568) rfl rfl rfl (by decide +kernel) ⟨Nat.le_of_ble_eq_true rfl, Nat.le_of_ble_eq_true rfl⟩) (tg_preV hw hK hSD hA (ci := 8) (q := (RX8, TX8, 13)) rfl h_vu_31 rfl) rfl rfl hl.1 rfl (lv_room (Nat.le_of_ble_eq_true rfl)) dX9_book_118 ⟨Nat.le_of_ble_eq_true rfl, Nat.le_of_ble_eq_true rfl⟩) hw hA (fun v_37  H locs hp_v_37 hw => ?_)
          have r_v_37 : RI v_37 (-2147483648) 2147483647 := hp_v_37.1
          refine tg_iast hx hb hK hw h_vu_34 rfl 3 3 rl_3 (by decide) r_v_37 (by exact fun _ _ _ => by decide) (fun _ _ _ _ _ => trivial) (by decide) dX9_book_121 (fun ws H locs hw hF9 hU9 => ?_)
          have x_GWX_p0_gdq := GWX.over hF9 x_GWX_p0_gdq (by decide)
          have x_GQ_gdq_gdg := GQ.over hF9 x_GQ_gdq_gdg (by decide)
          have x_JB_vu_25_vu_24 := JB.over hF9 x_JB_vu_25_vu_24 (by decide)
          have x_EQF_p0 := EQF.over hF9 x_EQF_p0 (by decide)
          have x_TLX_p0_0 := TLX.over hF9 x_TLX_p0_0 (by decide)
          have x_BG_vu_24 := B3.over hF9 x_BG_vu_24 (by decide)
          have x_HE_gdq_gdg_gdo_gdA_gdB_false_true := HE.over hF9 x_HE_gdq_gdg_gdo_gdA_gdB_false_true (by decide)
          have m_u_24 := FLD.over hF9 m_u_24 (by decide)
          have m_u_25 := FLD.over hF9 m_u_25 (by decide)
          have m_u_26 := FLD.over hF9 m_u_26 (by decide)
          have m_u_30 := FLD.over hF9 m_u_30 (by decide)
          have m_u_31 := FLD.over hF9 m_u_31 (by decide)
          have m_u_34 := FLD.over hF9 m_u_34 (by decide)
          have m_u_35 := FLD.over hF9 m_u_35 (by decide)
          have m_u_36 := FLD.over hF9 m_u_36 (by decide)
          refine lv_iload_n hx hb dX9_book_122 rfl (lv_at hl 2 rfl) ?_
          refine lv_iconst (v := 1) hx hb dX9_book_123 (by decide) ?_
          refine lv_icmp_ne (tgt := 156) hx hb dX9_book_124 (by decide) (fun c_124 => ?_) (fun c_124 => ?_)
          · exact absurd (r_p1.eq.trans rl_1.eq.symm) ((ti_ne c_124))
          · refine lv_aload_n hx hb dX9_book_127 rfl (lv_at hl 1 rfl) ?_
            refine tg_get (ci := 9) (ts := ty_WP) (C := RX9) (T := TX9) (N := 15) hx hb hts inX9 hown hK hw h_p0 rfl rfl 3 (by decide) (hts _ tw_349) (fun _ h9 => h9) (ft := vR 27) rfl dX9_book_128 (fun u_38 hv_u_38 m_u_38 => ?_)
            obtain ⟨vu_38, rfl, h_vu_38⟩ := hv_u_38
            refine lv_aload_n hx hb dX9_book_131 rfl (lv_at hl 1 rfl) ?_
            refine tg_mem (ci := 9) (C := RX9) (T := TX9) (N := 15) hx hb hts inX9 hown hK hw 1 m_u_26 rfl (by decide) (hts _ tw_347) (fun _ h9 => h9) dX9_book_132 ?_
            have x_AT_vu_38_gdq_2 : (vu_38 = gdq 2) := GWX.hi hw.2.2.1 x_GWX_p0_gdq m_u_38
            have x_AT_vu_26_gdq_0 : (vu_26 = gdq 0) := GWX.wo hw.2.2.1 x_GWX_p0_gdq m_u_26
            refine tk_v (va_runV (As := [.ref vu_26]) (rest := []) ⟨hx, hb, hml, hown, hts⟩ (c_X1_prepare__1 l D cy z H.size Ps ws hw.1 vu_38 vu_26 (gdq) (gdg) (gdo) (gdA) (gdB) (false) (true) h_vu_38 h_vu_26 x_AT_vu_38_gdq_2 x_AT_vu_26_gdq_0 x_GQ_gdq_gdg x_HE_gdq_gdg_gdo_gdA_gdB_false_true) (cwV 1 hts (gV tw_606 tw_607 tw_608 tw_13 tw_609) rfl rfl rfl (by decide +kernel) ⟨Nat.le_of_ble_eq_true rfl, Nat.le_of_ble_eq_true rfl⟩) (tg_preV hw hK hSD hA (ci := 1) (q := (RX1, TX1, 3)) rfl h_vu_38 rfl) rfl rfl hl.1 rfl (lv_room (Nat.le_of_ble_eq_true rfl)) dX9_book_135 ⟨Nat.le_of_ble_eq_true rfl, Nat.le_of_ble_eq_true rfl⟩) hw hA ⟨by decide, by decide⟩ (fun ws H locs hp_v_39 hw hF9 => ?_)
            have m_u_24 := FLD.over hF9 m_u_24 (by decide)
            have m_u_25 := FLD.over hF9 m_u_25 (by decide)
            have m_u_26 := FLD.over hF9 m_u_26 (by decide)
            have m_u_30 := FLD.over hF9 m_u_30 (by decide)
            have m_u_31 := FLD.over hF9 m_u_31 (by decide)
            have m_u_34 := FLD.over hF9 m_u_34 (by decide)
            have m_u_35 := FLD.over hF9 m_u_35 (by decide)
            have m_u_38 := FLD.over hF9 m_u_38 (by decide)
            have x_GWX_p0_gdq := GWX.over hF9 x_GWX_p0_gdq (by decide)
            have x_GQ_gdq_gdg := GQ.over hF9 x_GQ_gdq_gdg (by decide)
            have x_JB_vu_25_vu_24 := JB.over hF9 x_JB_vu_25_vu_24 (by decide)
            have x_EQF_p0 := EQF.over hF9 x_EQF_p0 (by decide)
            have x_TLX_p0_0 := TLX.over hF9 x_TLX_p0_0 (by decide)
            have x_BG_vu_24 := B3.over hF9 x_BG_vu_24 (by decide)
            have x_HE_gdq_gdg_gdo_gdA_gdB_true_true := (hp_v_39.1)
            refine lv_aload_n hx hb dX9_book_138 rfl (lv_at hl 1 rfl) ?_
            refine tg_mem (ci := 9) (C := RX9) (T := TX9) (N := 15) hx hb hts inX9 hown hK hw 3 m_u_38 rfl (by decide) (hts _ tw_349) (fun _ h9 => h9) dX9_book_139 ?_
            refine tk_v (va_runV (As := []) (rest := []) ⟨hx, hb, hml, hown, hts⟩ (c_X1_keep__1 l D cy z H.size Ps ws hw.1 vu_38 (gdq) (gdg) (gdo) (gdA) (gdB) (true) h_vu_38 x_AT_vu_38_gdq_2 x_HE_gdq_gdg_gdo_gdA_gdB_true_true) (cwV 0 hts (gV tw_619 tw_620 tw_621 tw_13 tw_622) rfl rfl rfl (by decide +kernel) ⟨Nat.le_of_ble_eq_true rfl, Nat.le_of_ble_eq_true rfl⟩) (tg_preV hw hK hSD hA (ci := 1) (q := (RX1, TX1, 3)) rfl h_vu_38 rfl) rfl rfl hl.1 rfl (lv_room (Nat.le_of_ble_eq_true rfl)) dX9_book_142 ⟨Nat.le_of_ble_eq_true rfl, Nat.le_of_ble_eq_true rfl⟩) hw hA ⟨by decide, by decide⟩ (fun ws H locs hp_v_40 hw hF9 => ?_)
            have m_u_24 := FLD.over hF9 m_u_24 (by decide)
            have m_u_25 := FLD.over hF9 m_u_25 (by decide)
            have m_u_26 := FLD.over hF9 m_u_26 (by decide)
            have m_u_30 := FLD.over hF9 m_u_30 (by decide)
            have m_u_31 := FLD.over hF9 m_u_31 (by decide)
            have m_u_34 := FLD.over hF9 m_u_34 (by decide)
            have m_u_35 := FLD.over hF9 m_u_35 (by decide)
            have m_u_38 := FLD.over hF9 m_u_38 (by decide)
            have x_GWX_p0_gdq := GWX.over hF9 x_GWX_p0_gdq (by decide)
            have x_GQ_gdq_gdg := GQ.over hF9 x_GQ_gdq_gdg (by decide)
            have x_JB_vu_25_vu_24 := JB.over hF9 x_JB_vu_25_vu_24 (by decide)
            have x_EQF_p0 := EQF.over hF9 x_EQF_p0 (by decide)
            have x_TLX_p0_0 := TLX.over hF9 x_TLX_p0_0 (by decide)
            have x_BG_vu_24 := B3.over hF9 x_BG_vu_24 (by decide)
            have x_HE_gdq_gdg_gdo_gdA_gdB_false_true := (hp_v_40.1)
            refine lv_aload_n hx hb dX9_book_145 rfl (lv_at hl 1 rfl) ?_
            refine tg_mem (ci := 9) (C := RX9) (T := TX9) (N := 15) hx hb hts inX9 hown hK hw 1 m_u_26 rfl (by decide) (hts _ tw_347) (fun _ h9 => h9) dX9_book_146 ?_
            refine lv_aload_n hx hb dX9_book_149 rfl (lv_at hl 1 rfl) ?_
            refine tg_mem (ci := 9) (C := RX9) (T := TX9) (N := 15) hx hb hts inX9 hown hK hw 2 m_u_31 rfl (by decide) (hts _ tw_348) (fun _ h9 => h9) dX9_book_150 ?_
            have hD8 := hw.2.2.1
            refine tk_v (va_runV (As := [.ref vu_31]) (rest := []) ⟨hx, hb, hml, hown, hts⟩ (c_X8_takeFrom__1 l D cy z H.size Ps ws hw.1 vu_26 vu_31 h_vu_26 h_vu_31) (cwV 1 hts (gV tw_521 tw_522 tw_523 tw_12 tw_524) rfl rfl rfl (by decide +kernel) ⟨Nat.le_of_ble_eq_true rfl, Nat.le_of_ble_eq_true rfl⟩) (tg_preV hw hK hSD hA (ci := 8) (q := (RX8, TX8, 13)) rfl h_vu_26 rfl) rfl rfl hl.1 rfl (lv_room (Nat.le_of_ble_eq_true rfl)) dX9_book_153 ⟨Nat.le_of_ble_eq_true rfl, Nat.le_of_ble_eq_true rfl⟩) hw hA ⟨by decide, by decide⟩ (fun ws H locs hp_v_41 hw hF9 => ?_)
            have m_u_24 := FLD.over hF9 m_u_24 (by decide)
            have m_u_25 := FLD.over hF9 m_u_25 (by decide)
            have m_u_26 := FLD.over hF9 m_u_26 (by decide)
            have m_u_30 := FLD.over hF9 m_u_30 (by decide)
            have m_u_31 := FLD.over hF9 m_u_31 (by decide)
            have m_u_34 := FLD.over hF9 m_u_34 (by decide)
            have m_u_35 := FLD.over hF9 m_u_35 (by decide)
            have m_u_38 := FLD.over hF9 m_u_38 (by decide)
            have x_GWX_p0_gdq := GWX.over hF9 x_GWX_p0_gdq (by decide)
            have x_GQ_gdq_gdg := GQ.over hF9 x_GQ_gdq_gdg (by decide)
            have x_JB_vu_25_vu_24 := JB.over hF9 x_JB_vu_25_vu_24 (by decide)
            have x_EQF_p0 := EQF.over hF9 x_EQF_p0 (by decide)
            have x_TLX_p0_0 := TLX.over hF9 x_TLX_p0_0 (by decide)
            have x_BG_vu_24 := B3.over hF9 x_BG_vu_24 (by decide)
            have x_TKF_vu_26_vu_31 := (hp_v_41.1)
            have x_HE_gdq_gdg_gdo_gdA_gdB_false_true : HE Ps ws gdq gdg gdo gdA gdB false true := HE.world hD8 hF9 (by decide) x_GQ_gdq_gdg.2.2.2.2.2 x_HE_gdq_gdg_gdo_gdA_gdB_false_true (by rw [← GWX.wo hw.2.2.1 x_GWX_p0_gdq m_u_26, ← GWX.tr hw.2.2.1 x_GWX_p0_gdq m_u_31]; exact x_TKF_vu_26_vu_31)
            exact B156 v_33 vu_30 ws _ _ ls (r_p1.to (by decide)) (r_v_33.to (by decide)) r_vu_30 m_u_30 x_EQF_p0 x_GQ_gdq_gdg x_GWX_p0_gdq x_HE_gdq_gdg_gdo_gdA_gdB_false_true x_TLX_p0_0 hw (lv_sub hl [1, 2, 0] rfl)
        · obtain ⟨v_42, m_v_42, r_v_42⟩ := ((hp_v_33.2.2 c9_v_33).1)
          refine lv_istore_n (lv' := [(2, .int v_33), (0, .ref p0), (1, .int p1)]) hx hb dX9_book_75 rfl hl (by decide) rfl (fun ls hl => ?_)
          refine lv_aload_n hx hb dX9_book_76 rfl (lv_at hl 1 rfl) ?_
          refine tg_get (ci := 9) (ts := ty_WP) (C := RX9) (T := TX9) (N := 15) hx hb hts inX9 hown hK hw h_p0 rfl rfl 7 (by decide) (hts _ tw_353) (fun _ h9 => h9) (ft := vR 15) rfl dX9_book_77 (fun u_43 hv_u_43 m_u_43 => ?_)
          obtain ⟨vu_43, rfl, h_vu_43⟩ := hv_u_43
          refine lv_iconst (v := 0) hx hb dX9_book_80 (by decide) ?_
          refine lv_iload_n hx hb dX9_book_81 rfl (lv_at hl 0 rfl) ?_
          refine tg_iast hx hb hK hw h_vu_43 rfl 0 0 rl_0 (by decide) r_v_33 (by exact fun _ _ _ => by decide) (fun _ _ _ _ _ => trivial) (by decide) dX9_book_82 (fun ws H locs hw hF9 hU9 => ?_)
          have x_GWX_p0_gdq := GWX.over hF9 x_GWX_p0_gdq (by decide)
          have x_GQ_gdq_gdg := GQ.over hF9 x_GQ_gdq_gdg (by decide)
          have x_JB_vu_25_vu_24 := JB.over hF9 x_JB_vu_25_vu_24 (by decide)
          have x_EQF_p0 := EQF.over hF9 x_EQF_p0 (by decide)
          have x_TLX_p0_0 := TLX.over hF9 x_TLX_p0_0 (by decide)
          have x_BG_vu_24 := B3.over hF9 x_BG_vu_24 (by decide)
          have x_HE_gdq_gdg_gdo_gdA_gdB_false_true := HE.over hF9 x_HE_gdq_gdg_gdo_gdA_gdB_false_true (by decide)
          have m_u_24 := FLD.over hF9 m_u_24 (by decide)
          have m_u_25 := FLD.over hF9 m_u_25 (by decide)
          have m_u_26 := FLD.over hF9 m_u_26 (by decide)
          have m_u_30 := FLD.over hF9 m_u_30 (by decide)
          have m_u_31 := FLD.over hF9 m_u_31 (by decide)
          have m_v_42 := FLD.over hF9 m_v_42 (by decide)
          have m_u_43 := FLD.over hF9 m_u_43 (by decide)
          refine lv_aload_n hx hb dX9_book_83 rfl (lv_at hl 1 rfl) ?_
          refine tg_mem (ci := 9) (C := RX9) (T := TX9) (N := 15) hx hb hts inX9 hown hK hw 7 m_u_43 rfl (by decide) (hts _ tw_353) (fun _ h9 => h9) dX9_book_84 ?_
          refine lv_iconst (v := 1) hx hb dX9_book_87 (by decide) ?_
          refine lv_aload_n hx hb dX9_book_88 rfl (lv_at hl 1 rfl) ?_
          refine tg_mem (ci := 9) (C := RX9) (T := TX9) (N := 15) hx hb hts inX9 hown hK hw 6 m_u_24 rfl (by decide) (hts _ tw_352) (fun _ h9 => h9) dX9_book_89 ?_
          refine tg_getN (ci := 0) (ts := ty_BOOK) (C := RX0) (T := TX0) (N := 5) hx hb hts inX0 hown hK hw h_vu_24 rfl rfl 4 (by decide) (hSD.nest tn_147) (fun _ h9 => h9) (ft := vI (-2147483648) 2147483647) rfl dX9_book_92 (fun u_44 hv_u_44 m_u_44 => ?_)
          obtain ⟨vu_44, rfl, r_vu_44⟩ := hv_u_44
          refine tg_iast hx hb hK hw h_vu_43 rfl 1 1 rl_1 (by decide) r_vu_44 (by exact fun _ _ _ => by decide) (fun _ _ _ _ _ => trivial) (by decide) dX9_book_95 (fun ws H locs hw hF9 hU9 => ?_)
          have x_GWX_p0_gdq := GWX.over hF9 x_GWX_p0_gdq (by decide)
          have x_GQ_gdq_gdg := GQ.over hF9 x_GQ_gdq_gdg (by decide)
          have x_JB_vu_25_vu_24 := JB.over hF9 x_JB_vu_25_vu_24 (by decide)
          have x_EQF_p0 := EQF.over hF9 x_EQF_p0 (by decide)
          have x_TLX_p0_0 := TLX.over hF9 x_TLX_p0_0 (by decide)
          have x_BG_vu_24 := B3.over hF9 x_BG_vu_24 (by decide)
          have x_HE_gdq_gdg_gdo_gdA_gdB_false_true := HE.over hF9 x_HE_gdq_gdg_gdo_gdA_gdB_false_true (by decide)
          have m_u_24 := FLD.over hF9 m_u_24 (by decide)
          have m_u_25 := FLD.over hF9 m_u_25 (by decide)
          have m_u_26 := FLD.over hF9 m_u_26 (by decide)
          have m_u_30 := FLD.over hF9 m_u_30 (by decide)
          have m_u_31 := FLD.over hF9 m_u_31 (by decide)
          have m_v_42 := FLD.over hF9 m_v_42 (by decide)
          have m_u_43 := FLD.over hF9 m_u_43 (by decide)
          have m_u_44 := FLD.over hF9 m_u_44 (by decide)
          refine lv_aload_n hx hb dX9_book_96 rfl (lv_at hl 1 rfl) ?_
          refine tg_mem (ci := 9) (C := RX9) (T := TX9) (N := 15) hx hb hts inX9 hown hK hw 7 m_u_43 rfl (by decide) (hts _ tw_353) (fun _ h9 => h9) dX9_book_97 ?_
          refine lv_iconst (v := 2) hx hb dX9_book_100 (by decide) ?_
          refine lv_aload_n hx hb dX9_book_101 rfl (lv_at hl 1 rfl) ?_
          refine tg_mem (ci := 9) (C := RX9) (T := TX9) (N := 15) hx hb hts inX9 hown hK hw 2 m_u_31 rfl (by decide) (hts _ tw_348) (fun _ h9 => h9) dX9_book_102 ?_
          refine tg_getN (ci := 8) (ts := ty_WORLD) (C := RX8) (T := TX8) (N := 13) hx hb hts inX8 hown hK hw h_vu_31 rfl rfl 1 (by decide) (hSD.nest tn_251) (fun _ h9 => h9) (ft := vI (-2147483648) 2147483647) rfl dX9_book_105 (fun u_45 hv_u_45 m_u_45 => ?_)
          obtain ⟨vu_45, rfl, r_vu_45⟩ := hv_u_45
          refine tg_iast hx hb hK hw h_vu_43 rfl 2 2 rl_2 (by decide) r_vu_45 (by exact fun _ _ _ => by decide) (fun _ _ _ _ _ => trivial) (by decide) dX9_book_108 (fun ws H locs hw hF9 hU9 => ?_)
          have x_GWX_p0_gdq := GWX.over hF9 x_GWX_p0_gdq (by decide)
          have x_GQ_gdq_gdg := GQ.over hF9 x_GQ_gdq_gdg (by decide)
          have x_JB_vu_25_vu_24 := JB.over hF9 x_JB_vu_25_vu_24 (by decide)
          have x_EQF_p0 := EQF.over hF9 x_EQF_p0 (by decide)
          have x_TLX_p0_0 := TLX.over hF9 x_TLX_p0_0 (by decide)
          have x_BG_vu_24 := B3.over hF9 x_BG_vu_24 (by decide)
          have x_HE_gdq_gdg_gdo_gdA_gdB_false_true := HE.over hF9 x_HE_gdq_gdg_gdo_gdA_gdB_false_true (by decide)
          have m_u_24 := FLD.over hF9 m_u_24 (by decide)
          have m_u_25 := FLD.over hF9 m_u_25 (by decide)
          have m_u_26 := FLD.over hF9 m_u_26 (by decide)
          have m_u_30 := FLD.over hF9 m_u_30 (by decide)
          have m_u_31 := FLD.over hF9 m_u_31 (by decide)
          have m_v_42 := FLD.over hF9 m_v_42 (by decide)
          have m_u_43 := FLD.over hF9 m_u_43 (by decide)
          have m_u_44 := FLD.over hF9 m_u_44 (by decide)
          have m_u_45 := FLD.over hF9 m_u_45 (by decide)
          refine lv_aload_n hx hb dX9_book_109 rfl (lv_at hl 1 rfl) ?_
          refine tg_mem (ci := 9) (C := RX9) (T := TX9) (N := 15) hx hb hts inX9 hown hK hw 7 m_u_43 rfl (by decide) (hts _ tw_353) (fun _ h9 => h9) dX9_book_110 ?_
          refine lv_iconst (v := 3) hx hb dX9_book_113 (by decide) ?_
          refine lv_aload_n hx hb dX9_book_114 rfl (lv_at hl 1 rfl) ?_
          refine tg_mem (ci := 9) (C := RX9) (T := TX9) (N := 15) hx hb hts inX9 hown hK hw 2 m_u_31 rfl (by decide) (hts _ tw_348) (fun _ h9 => h9) dX9_book_115 ?_
          refine tk_ir (va_runV (As := []) (rest := [.int 3, .ref vu_43]) ⟨hx, hb, hml, hown, hts⟩ (c_X8_whichAreNothing l D cy z H.size Ps ws hw.1 vu_31 h_vu_31) (cwV 0 hts (gV tw_565 tw_566 tw_567 tw_12 tw_568) rfl rfl rfl (by decide +kernel) ⟨Nat.le_of_ble_eq_true rfl, Nat.le_of_ble_eq_true rfl⟩) (tg_preV hw hK hSD hA (ci := 8) (q := (RX8, TX8, 13)) rfl h_vu_31 rfl) rfl rfl hl.1 rfl (lv_room (Nat.le_of_ble_eq_true rfl)) dX9_book_118 ⟨Nat.le_of_ble_eq_true rfl, Nat.le_of_ble_eq_true rfl⟩) hw hA (fun v_46  H locs hp_v_46 hw => ?_)
          have r_v_46 : RI v_46 (-2147483648) 2147483647 := hp_v_46.1
          refine tg_iast hx hb hK hw h_vu_43 rfl 3 3 rl_3 (by decide) r_v_46 (by exact fun _ _ _ => by decide) (fun _ _ _ _ _ => trivial) (by decide) dX9_book_121 (fun ws H locs hw hF9 hU9 => ?_)
          have x_GWX_p0_gdq := GWX.over hF9 x_GWX_p0_gdq (by decide)
          have x_GQ_gdq_gdg := GQ.over hF9 x_GQ_gdq_gdg (by decide)
          have x_JB_vu_25_vu_24 := JB.over hF9 x_JB_vu_25_vu_24 (by decide)
          have x_EQF_p0 := EQF.over hF9 x_EQF_p0 (by decide)
          have x_TLX_p0_0 := TLX.over hF9 x_TLX_p0_0 (by decide)
          have x_BG_vu_24 := B3.over hF9 x_BG_vu_24 (by decide)
          have x_HE_gdq_gdg_gdo_gdA_gdB_false_true := HE.over hF9 x_HE_gdq_gdg_gdo_gdA_gdB_false_true (by decide)
          have m_u_24 := FLD.over hF9 m_u_24 (by decide)
          have m_u_25 := FLD.over hF9 m_u_25 (by decide)
          have m_u_26 := FLD.over hF9 m_u_26 (by decide)
          have m_u_30 := FLD.over hF9 m_u_30 (by decide)
          have m_u_31 := FLD.over hF9 m_u_31 (by decide)
          have m_v_42 := FLD.over hF9 m_v_42 (by decide)
          have m_u_43 := FLD.over hF9 m_u_43 (by decide)
          have m_u_44 := FLD.over hF9 m_u_44 (by decide)
          have m_u_45 := FLD.over hF9 m_u_45 (by decide)
          refine lv_iload_n hx hb dX9_book_122 rfl (lv_at hl 2 rfl) ?_
          refine lv_iconst (v := 1) hx hb dX9_book_123 (by decide) ?_
          refine lv_icmp_ne (tgt := 156) hx hb dX9_book_124 (by decide) (fun c_124 => ?_) (fun c_124 => ?_)
          · exact absurd (r_p1.eq.trans rl_1.eq.symm) ((ti_ne c_124))
          · refine lv_aload_n hx hb dX9_book_127 rfl (lv_at hl 1 rfl) ?_
            refine tg_get (ci := 9) (ts := ty_WP) (C := RX9) (T := TX9) (N := 15) hx hb hts inX9 hown hK hw h_p0 rfl rfl 3 (by decide) (hts _ tw_349) (fun _ h9 => h9) (ft := vR 27) rfl dX9_book_128 (fun u_47 hv_u_47 m_u_47 => ?_)
            obtain ⟨vu_47, rfl, h_vu_47⟩ := hv_u_47
            refine lv_aload_n hx hb dX9_book_131 rfl (lv_at hl 1 rfl) ?_
            refine tg_mem (ci := 9) (C := RX9) (T := TX9) (N := 15) hx hb hts inX9 hown hK hw 1 m_u_26 rfl (by decide) (hts _ tw_347) (fun _ h9 => h9) dX9_book_132 ?_
            have x_AT_vu_47_gdq_2 : (vu_47 = gdq 2) := GWX.hi hw.2.2.1 x_GWX_p0_gdq m_u_47
            have x_AT_vu_26_gdq_0 : (vu_26 = gdq 0) := GWX.wo hw.2.2.1 x_GWX_p0_gdq m_u_26
            refine tk_v (va_runV (As := [.ref vu_26]) (rest := []) ⟨hx, hb, hml, hown, hts⟩ (c_X1_prepare__1 l D cy z H.size Ps ws hw.1 vu_47 vu_26 (gdq) (gdg) (gdo) (gdA) (gdB) (false) (true) h_vu_47 h_vu_26 x_AT_vu_47_gdq_2 x_AT_vu_26_gdq_0 x_GQ_gdq_gdg x_HE_gdq_gdg_gdo_gdA_gdB_false_true) (cwV 1 hts (gV tw_606 tw_607 tw_608 tw_13 tw_609) rfl rfl rfl (by decide +kernel) ⟨Nat.le_of_ble_eq_true rfl, Nat.le_of_ble_eq_true rfl⟩) (tg_preV hw hK hSD hA (ci := 1) (q := (RX1, TX1, 3)) rfl h_vu_47 rfl) rfl rfl hl.1 rfl (lv_room (Nat.le_of_ble_eq_true rfl)) dX9_book_135 ⟨Nat.le_of_ble_eq_true rfl, Nat.le_of_ble_eq_true rfl⟩) hw hA ⟨by decide, by decide⟩ (fun ws H locs hp_v_48 hw hF9 => ?_)
            have m_u_24 := FLD.over hF9 m_u_24 (by decide)
            have m_u_25 := FLD.over hF9 m_u_25 (by decide)
            have m_u_26 := FLD.over hF9 m_u_26 (by decide)
            have m_u_30 := FLD.over hF9 m_u_30 (by decide)
            have m_u_31 := FLD.over hF9 m_u_31 (by decide)
            have m_v_42 := FLD.over hF9 m_v_42 (by decide)
            have m_u_43 := FLD.over hF9 m_u_43 (by decide)
            have m_u_44 := FLD.over hF9 m_u_44 (by decide)
            have m_u_47 := FLD.over hF9 m_u_47 (by decide)
            have x_GWX_p0_gdq := GWX.over hF9 x_GWX_p0_gdq (by decide)
            have x_GQ_gdq_gdg := GQ.over hF9 x_GQ_gdq_gdg (by decide)
            have x_JB_vu_25_vu_24 := JB.over hF9 x_JB_vu_25_vu_24 (by decide)
            have x_EQF_p0 := EQF.over hF9 x_EQF_p0 (by decide)
            have x_TLX_p0_0 := TLX.over hF9 x_TLX_p0_0 (by decide)
            have x_BG_vu_24 := B3.over hF9 x_BG_vu_24 (by decide)
            have x_HE_gdq_gdg_gdo_gdA_gdB_true_true := (hp_v_48.1)
            refine lv_aload_n hx hb dX9_book_138 rfl (lv_at hl 1 rfl) ?_
            refine tg_mem (ci := 9) (C := RX9) (T := TX9) (N := 15) hx hb hts inX9 hown hK hw 3 m_u_47 rfl (by decide) (hts _ tw_349) (fun _ h9 => h9) dX9_book_139 ?_
            refine tk_v (va_runV (As := []) (rest := []) ⟨hx, hb, hml, hown, hts⟩ (c_X1_keep__1 l D cy z H.size Ps ws hw.1 vu_47 (gdq) (gdg) (gdo) (gdA) (gdB) (true) h_vu_47 x_AT_vu_47_gdq_2 x_HE_gdq_gdg_gdo_gdA_gdB_true_true) (cwV 0 hts (gV tw_619 tw_620 tw_621 tw_13 tw_622) rfl rfl rfl (by decide +kernel) ⟨Nat.le_of_ble_eq_true rfl, Nat.le_of_ble_eq_true rfl⟩) (tg_preV hw hK hSD hA (ci := 1) (q := (RX1, TX1, 3)) rfl h_vu_47 rfl) rfl rfl hl.1 rfl (lv_room (Nat.le_of_ble_eq_true rfl)) dX9_book_142 ⟨Nat.le_of_ble_eq_true rfl, Nat.le_of_ble_eq_true rfl⟩) hw hA ⟨by decide, by decide⟩ (fun ws H locs hp_v_49 hw hF9 => ?_)
            have m_u_24 := FLD.over hF9 m_u_24 (by decide)
            have m_u_25 := FLD.over hF9 m_u_25 (by decide)
            have m_u_26 := FLD.over hF9 m_u_26 (by decide)
            have m_u_30 := FLD.over hF9 m_u_30 (by decide)
            have m_u_31 := FLD.over hF9 m_u_31 (by decide)
            have m_v_42 := FLD.over hF9 m_v_42 (by decide)
            have m_u_43 := FLD.over hF9 m_u_43 (by decide)
            have m_u_44 := FLD.over hF9 m_u_44 (by decide)
            have m_u_47 := FLD.over hF9 m_u_47 (by decide)
            have x_GWX_p0_gdq := GWX.over hF9 x_GWX_p0_gdq (by decide)
            have x_GQ_gdq_gdg := GQ.over hF9 x_GQ_gdq_gdg (by decide)
            have x_JB_vu_25_vu_24 := JB.over hF9 x_JB_vu_25_vu_24 (by decide)
            have x_EQF_p0 := EQF.over hF9 x_EQF_p0 (by decide)
            have x_TLX_p0_0 := TLX.over hF9 x_TLX_p0_0 (by decide)
            have x_BG_vu_24 := B3.over hF9 x_BG_vu_24 (by decide)
            have x_HE_gdq_gdg_gdo_gdA_gdB_false_true := (hp_v_49.1)
            refine lv_aload_n hx hb dX9_book_145 rfl (lv_at hl 1 rfl) ?_
            refine tg_mem (ci := 9) (C := RX9) (T := TX9) (N := 15) hx hb hts inX9 hown hK hw 1 m_u_26 rfl (by decide) (hts _ tw_347) (fun _ h9 => h9) dX9_book_146 ?_
            refine lv_aload_n hx hb dX9_book_149 rfl (lv_at hl 1 rfl) ?_
            refine tg_mem (ci := 9) (C := RX9) (T := TX9) (N := 15) hx hb hts inX9 hown hK hw 2 m_u_31 rfl (by decide) (hts _ tw_348) (fun _ h9 => h9) dX9_book_150 ?_
            have hD8 := hw.2.2.1
            refine tk_v (va_runV (As := [.ref vu_31]) (rest := []) ⟨hx, hb, hml, hown, hts⟩ (c_X8_takeFrom__1 l D cy z H.size Ps ws hw.1 vu_26 vu_31 h_vu_26 h_vu_31) (cwV 1 hts (gV tw_521 tw_522 tw_523 tw_12 tw_524) rfl rfl rfl (by decide +kernel) ⟨Nat.le_of_ble_eq_true rfl, Nat.le_of_ble_eq_true rfl⟩) (tg_preV hw hK hSD hA (ci := 8) (q := (RX8, TX8, 13)) rfl h_vu_26 rfl) rfl rfl hl.1 rfl (lv_room (Nat.le_of_ble_eq_true rfl)) dX9_book_153 ⟨Nat.le_of_ble_eq_true rfl, Nat.le_of_ble_eq_true rfl⟩) hw hA ⟨by decide, by decide⟩ (fun ws H locs hp_v_50 hw hF9 => ?_)
            have m_u_24 := FLD.over hF9 m_u_24 (by decide)
            have m_u_25 := FLD.over hF9 m_u_25 (by decide)
            have m_u_26 := FLD.over hF9 m_u_26 (by decide)
            have m_u_30 := FLD.over hF9 m_u_30 (by decide)
            have m_u_31 := FLD.over hF9 m_u_31 (by decide)
            have m_v_42 := FLD.over hF9 m_v_42 (by decide)
            have m_u_43 := FLD.over hF9 m_u_43 (by decide)
            have m_u_44 := FLD.over hF9 m_u_44 (by decide)
            have m_u_47 := FLD.over hF9 m_u_47 (by decide)
            have x_GWX_p0_gdq := GWX.over hF9 x_GWX_p0_gdq (by decide)
            have x_GQ_gdq_gdg := GQ.over hF9 x_GQ_gdq_gdg (by decide)
            have x_JB_vu_25_vu_24 := JB.over hF9 x_JB_vu_25_vu_24 (by decide)
            have x_EQF_p0 := EQF.over hF9 x_EQF_p0 (by decide)
            have x_TLX_p0_0 := TLX.over hF9 x_TLX_p0_0 (by decide)
            have x_BG_vu_24 := B3.over hF9 x_BG_vu_24 (by decide)
            have x_TKF_vu_26_vu_31 := (hp_v_50.1)
            have x_HE_gdq_gdg_gdo_gdA_gdB_false_true : HE Ps ws gdq gdg gdo gdA gdB false true := HE.world hD8 hF9 (by decide) x_GQ_gdq_gdg.2.2.2.2.2 x_HE_gdq_gdg_gdo_gdA_gdB_false_true (by rw [← GWX.wo hw.2.2.1 x_GWX_p0_gdq m_u_26, ← GWX.tr hw.2.2.1 x_GWX_p0_gdq m_u_31]; exact x_TKF_vu_26_vu_31)
            exact B156 v_33 vu_30 ws _ _ ls (r_p1.to (by decide)) r_v_33 r_vu_30 m_u_30 x_EQF_p0 x_GQ_gdq_gdg x_GWX_p0_gdq x_HE_gdq_gdg_gdo_gdA_gdB_false_true x_TLX_p0_0 hw (lv_sub hl [1, 2, 0] rfl)
      · refine lv_bipush (v := (-2)) hx hb dX9_book_42 (by decide) ?_
        refine lv_aload_n hx hb dX9_book_44 rfl (lv_at hl 0 rfl) ?_
        refine tg_mem (ci := 9) (C := RX9) (T := TX9) (N := 15) hx hb hts inX9 hown hK hw 0 m_u_25 rfl (by decide) (hts _ tw_346) (fun _ h9 => h9) dX9_book_45 ?_
        refine tg_getN (ci := 7) (ts := ty_TAPE) (C := RX7) (T := TX7) (N := 12) hx hb hts inX7 hown hK hw h_vu_25 rfl rfl 11 (by decide) (hSD.nest tn_107) (fun _ h9 => h9) (ft := vI (-2147483648) 2147483647) rfl dX9_book_48 (fun u_51 hv_u_51 m_u_51 => ?_)
        obtain ⟨vu_51, rfl, r_vu_51⟩ := hv_u_51
        refine lv_isub hx hb dX9_book_51 (lv_topi (fun v_52 e_v_52 => ?_))
        have r_v_52 := ri_any v_52
        subst hQ
        exact W.iret (v := v_52) hx hb hr (fun t ht hW => ⟨⟨v_52, ws, rfl, ⟨⟨r_v_52.to (by decide), (fun h0 => trivial), (fun h0 => trivial), ⟨⟨fun _ => x_TLX_p0_0, fun h9 => absurd ⟨by have k1 := r_p1.1; omega, by have k1 := r_p1.2; omega⟩ h9⟩, x_HE_gdq_gdg_gdo_gdA_gdB_false_false, trivial⟩, (fun _ => trivial), (fun _ => trivial)⟩, hw.1, hw.2.2.2.2.1⟩, by rw [ht]; exact hw.2.1, va_K.moved hW.alike hK, hw.2.2.1⟩, hw.2.2.2.1.F ht⟩) hw.2.2.2.1.2.2 dX9_book_52
    · have x_IMG0_p1 : ¬ (0 ≤ Int32.toInt p1 ∧ Int32.toInt p1 ≤ 1) := (fun h9 => by have k1 := ti_ne c_1; have k2 := ti_ne c_6; have k3 : Int32.toInt 0 = 0 := (by decide); have k4 : Int32.toInt 1 = 1 := (by decide); omega)
      refine lv_sipush (v := (-1000)) hx hb dX9_book_9 (by decide) ?_
      subst hQ
      exact W.iret (v := (-1000)) hx hb hr (fun t ht hW => ⟨⟨(-1000), w0, rfl, ⟨⟨rl_m1000.to (by decide), (fun _ => trivial), (fun h0 => trivial), ⟨⟨fun h9 => absurd h9 x_IMG0_p1, fun _ => x_TLX_p0_gh⟩, x_HE_gdq_gdg_gdo_gdA_gdB_false_false, trivial⟩, (fun _ => trivial), (fun _ => trivial)⟩, hw.1, hw.2.2.2.2.1⟩, by rw [ht]; exact hw.2.1, va_K.moved hW.alike hK, hw.2.2.1⟩, hw.2.2.2.1.F ht⟩) hw.2.2.2.1.2.2 dX9_book_12
abbrev wr_X9_keptIfDone__1 : List (Nat × Nat) := [(1, 1), (1, 2)]
abbrev wa_X9_keptIfDone__1 : List Nat := []
set_option maxHeartbeats 4000000 in
set_option maxRecDepth 100000 in
theorem c_X9_keptIfDone__1 (l : Launch) (D : va_G) (cy : Nat → ClassId) (z : Nat → Nat) (sz : Nat) (Ps : PSI) (w0 : va_W) (hT : HT cy GG Ps w0) (p0 : Nat) (p1 : Int32) (gdq : Nat → Nat) (gdg : Nat → Nat) (gdo : OS) (gdA : OS) (gdB : OS) (gdt : Bool) (h_p0 : (p0, 33) ∈ Ps) (r_p1 : RI p1 (-2147483648) 2147483647) (x_GWX_p0_gdq : GWX w0 p0 gdq) (x_GQ_gdq_gdg : GQ Ps w0 gdq gdg) (x_HE_gdq_gdg_gdo_gdA_gdB_true_gdt : HE Ps w0 gdq gdg gdo gdA gdB true gdt) : Met l yX9_keptIfDone (Cond.code yX9_keptIfDone cX9_keptIfDone 2 (some .int) :: gT) ({ frames := 3, cells := 0, slots := 0, locals := 600 } : Room) (va_Pc [.ref p0, .int p1] (PRE D cy z w0 sz)) (va_Qi (fun (r : Int32) (u : va_W) => (RI r (-2147483648) 2147483647 ∧ (r = 0 → True) ∧ (¬ r = 0 → True) ∧ (HE Ps u gdq gdg gdo gdA gdB false gdt ∧ True) ∧ (r.toInt < 0 → True) ∧ (0 ≤ r.toInt → True)) ∧ HT cy GG Ps u ∧ FR wr_X9_keptIfDone__1 wa_X9_keptIfDone__1 Ps w0 u) (BB D cy (va_A w0 sz) (fun (u : va_W) => u)) (va_A w0 sz)) 0 0 (va_A w0 sz) := by
  refine Met.ofW (cc := cX9_keptIfDone) (maxL := 2) (ret := (some .int)) (by decide) rfl ?_
  intro p e s m args below meth c s₁ B hml hv
  obtain ⟨rfl, hsz, hP, hK, hD0, hSD⟩ := hv
  have hx := B.exec
  have hb := B.bytes
  have hr := B.returns
  have hlocks := B.notSynchronized
  have hts : ∀ w ∈ gT, w.before _ s = true := fun w h => atoms_spec (ws := Cond.code yX9_keptIfDone cX9_keptIfDone 2 (some .int) :: gT) B.pre w (List.mem_cons_of_mem _ h)
  have hown : s.vm.findClass RX9 = some m.cls := findClass_of_methodNamed B.named
  subst hsz
  have hD := hD0.self (sz := s.heap.size)
  generalize hAe : va_A w0 s.heap.size = A at hD hSD ⊢
  have hA : ∀ q : Nat, s.heap.size ≤ q → A q := fun q h => by rw [← hAe]; exact Or.inr h
  have hl := lv_entry ([.ref p0, .int p1]) (n := 2) (Nat.le_of_ble_eq_true rfl)
  rw [lg_entry_eq]
  generalize (lg_sl ([.ref p0, .int p1]) ++ List.replicate (2 - (lg_sl ([.ref p0, .int p1])).length) Slot.unset).toArray = ls at hl ⊢
  have hl : lv_has ls 2 [(0, .ref p0), (1, .int p1)] := hl
  refine nameQ (fun Q hQ => ?_)
  have hw : WD D cy GG A s wr_X9_keptIfDone__1 wa_X9_keptIfDone__1 Ps w0 Ps w0 s.heap [] := ⟨hT, hP, hD, va_S.rf, FR.rf, hT.1, [], (List.append_nil _).symm⟩
  refine lv_iload_n hx hb dX9_keptIfDone_0 rfl (lv_at hl 1 rfl) ?_
  refine lv_if_ne (tgt := 11) hx hb dX9_keptIfDone_1 (by decide) (fun c_1 => ?_) (fun c_1 => ?_)
  · refine lv_iload_n hx hb dX9_keptIfDone_11 rfl (lv_at hl 1 rfl) ?_
    subst hQ
    exact W.iret (v := p1) hx hb hr (fun t ht hW => ⟨⟨p1, w0, rfl, ⟨⟨r_p1.to (by decide), (fun h0 => trivial), (fun h0 => trivial), ⟨(HE.weak (fun e9 => by cases e9) (fun e9 => e9) x_HE_gdq_gdg_gdo_gdA_gdB_true_gdt), trivial⟩, (fun _ => trivial), (fun _ => trivial)⟩, hw.1, hw.2.2.2.2.1⟩, by rw [ht]; exact hw.2.1, va_K.moved hW.alike hK, hw.2.2.1⟩, hw.2.2.2.1.F ht⟩) hw.2.2.2.1.2.2 dX9_keptIfDone_12
  · have r_p1 : RI p1 0 0 := rc_eq1 r_p1 rl_0 (ti_eq c_1) (by decide)
    refine lv_aload_n hx hb dX9_keptIfDone_4 rfl (lv_at hl 0 rfl) ?_
    refine tg_get (ci := 9) (ts := ty_WP) (C := RX9) (T := TX9) (N := 15) hx hb hts inX9 hown hK hw h_p0 rfl rfl 3 (by decide) (hts _ tw_349) (fun _ h9 => h9) (ft := vR 27) rfl dX9_keptIfDone_5 (fun u_1 hv_u_1 m_u_1 => ?_)
    obtain ⟨vu_1, rfl, h_vu_1⟩ := hv_u_1
    have x_AT_vu_1_gdq_2 : (vu_1 = gdq 2) := GWX.hi hw.2.2.1 x_GWX_p0_gdq m_u_1
    refine tk_v (va_runV (As := []) (rest := []) ⟨hx, hb, hml, hown, hts⟩ (c_X1_keep__1 l D cy z s.heap.size Ps w0 hw.1 vu_1 (gdq) (gdg) (gdo) (gdA) (gdB) (gdt) h_vu_1 x_AT_vu_1_gdq_2 x_HE_gdq_gdg_gdo_gdA_gdB_true_gdt) (cwV 0 hts (gV tw_619 tw_620 tw_621 tw_13 tw_622) rfl rfl rfl (by decide +kernel) ⟨Nat.le_of_ble_eq_true rfl, Nat.le_of_ble_eq_true rfl⟩) (tg_preV hw hK hSD hA (ci := 1) (q := (RX1, TX1, 3)) rfl h_vu_1 rfl) rfl rfl hl.1 rfl (lv_room (Nat.le_of_ble_eq_true rfl)) dX9_keptIfDone_8 ⟨Nat.le_of_ble_eq_true rfl, Nat.le_of_ble_eq_true rfl⟩) hw hA ⟨by decide, by decide⟩ (fun ws H locs hp_v_2 hw hF9 => ?_)
    have m_u_1 := FLD.over hF9 m_u_1 (by decide)
    have x_GWX_p0_gdq := GWX.over hF9 x_GWX_p0_gdq (by decide)
    have x_GQ_gdq_gdg := GQ.over hF9 x_GQ_gdq_gdg (by decide)
    have x_HE_gdq_gdg_gdo_gdA_gdB_false_gdt := (hp_v_2.1)
    refine lv_iload_n hx hb dX9_keptIfDone_11 rfl (lv_at hl 1 rfl) ?_
    subst hQ
    exact W.iret (v := p1) hx hb hr (fun t ht hW => ⟨⟨p1, ws, rfl, ⟨⟨r_p1.to (by decide), (fun h0 => trivial), (fun _ => trivial), ⟨x_HE_gdq_gdg_gdo_gdA_gdB_false_gdt, trivial⟩, (fun _ => trivial), (fun _ => trivial)⟩, hw.1, hw.2.2.2.2.1⟩, by rw [ht]; exact hw.2.1, va_K.moved hW.alike hK, hw.2.2.1⟩, hw.2.2.2.1.F ht⟩) hw.2.2.2.1.2.2 dX9_keptIfDone_12
abbrev wr_X9_carry__1 : List (Nat × Nat) := [(1, 1), (1, 2), (8, 0), (8, 1)]
abbrev wa_X9_carry__1 : List Nat := [8, 9, 10, 11, 12, 13]
set_option maxHeartbeats 4000000 in
set_option maxRecDepth 100000 in
theorem c_X9_carry__1 (l : Launch) (D : va_G) (cy : Nat → ClassId) (z : Nat → Nat) (sz : Nat) (Ps : PSI) (w0 : va_W) (hT : HT cy GG Ps w0) (p0 : Nat) (p1 : Int32) (p2 : Int32) (gdq : Nat → Nat) (gdg : Nat → Nat) (gdo : OS) (gdA : OS) (gdB : OS) (h_p0 : (p0, 33) ∈ Ps) (r_p1 : RI p1 (-2147483648) 2147483647) (r_p2 : RI p2 (-2147483648) 2147483647) (x_GWX_p0_gdq : GWX w0 p0 gdq) (x_GQ_gdq_gdg : GQ Ps w0 gdq gdg) (x_HE_gdq_gdg_gdo_gdA_gdB_false_false : HE Ps w0 gdq gdg gdo gdA gdB false false) : Met l yX9_carry (Cond.code yX9_carry cX9_carry 3 (some .int) :: gT) ({ frames := 4, cells := 0, slots := 0, locals := 800 } : Room) (va_Pc [.ref p0, .int p1, .int p2] (PRE D cy z w0 sz)) (va_Qi (fun (r : Int32) (u : va_W) => (RI r (-2147483648) 2147483647 ∧ (r = 0 → True) ∧ (¬ r = 0 → True) ∧ (HE Ps u gdq gdg gdo gdA gdB false false ∧ True) ∧ (r.toInt < 0 → True) ∧ (0 ≤ r.toInt → True)) ∧ HT cy GG Ps u ∧ FR wr_X9_carry__1 wa_X9_carry__1 Ps w0 u) (BB D cy (va_A w0 sz) (fun (u : va_W) => u)) (va_A w0 sz)) 0 0 (va_A w0 sz) := by
  refine Met.ofW (cc := cX9_carry) (maxL := 3) (ret := (some .int)) (by decide) rfl ?_
  intro p e s m args below meth c s₁ B hml hv
  obtain ⟨rfl, hsz, hP, hK, hD0, hSD⟩ := hv
  have hx := B.exec
  have hb := B.bytes
  have hr := B.returns
  have hlocks := B.notSynchronized
  have hts : ∀ w ∈ gT, w.before _ s = true := fun w h => atoms_spec (ws := Cond.code yX9_carry cX9_carry 3 (some .int) :: gT) B.pre w (List.mem_cons_of_mem _ h)
  have hown : s.vm.findClass RX9 = some m.cls := findClass_of_methodNamed B.named
  subst hsz
  have hD := hD0.self (sz := s.heap.size)
  generalize hAe : va_A w0 s.heap.size = A at hD hSD ⊢
  have hA : ∀ q : Nat, s.heap.size ≤ q → A q := fun q h => by rw [← hAe]; exact Or.inr h
  have hl := lv_entry ([.ref p0, .int p1, .int p2]) (n := 3) (Nat.le_of_ble_eq_true rfl)
  rw [lg_entry_eq]
  generalize (lg_sl ([.ref p0, .int p1, .int p2]) ++ List.replicate (3 - (lg_sl ([.ref p0, .int p1, .int p2])).length) Slot.unset).toArray = ls at hl ⊢
  have hl : lv_has ls 3 [(0, .ref p0), (1, .int p1), (2, .int p2)] := hl
  refine nameQ (fun Q hQ => ?_)
  have hw : WD D cy GG A s wr_X9_carry__1 wa_X9_carry__1 Ps w0 Ps w0 s.heap [] := ⟨hT, hP, hD, va_S.rf, FR.rf, hT.1, [], (List.append_nil _).symm⟩
  refine lv_aload_n hx hb dX9_carry_0 rfl (lv_at hl 0 rfl) ?_
  refine lv_iconst (v := 2) hx hb dX9_carry_1 (by decide) ?_
  refine lv_iload_n hx hb dX9_carry_2 rfl (lv_at hl 1 rfl) ?_
  refine tk_ir (va_runV (As := [.int 2, .int p1]) (rest := []) ⟨hx, hb, hml, hown, hts⟩ (c_X9_isOf l D cy z s.heap.size Ps w0 hw.1 p0 2 p1 h_p0 rl_2 r_p1) (cwV 2 hts (gV tw_540 tw_542 ts_10 tw_1 tw_543) rfl rfl rfl (by decide +kernel) ⟨Nat.le_of_ble_eq_true rfl, Nat.le_of_ble_eq_true rfl⟩) (tg_preV hw hK hSD hA (ci := 9) (q := (RX9, TX9, 15)) rfl h_p0 rfl) rfl rfl hl.1 rfl (lv_room (Nat.le_of_ble_eq_true rfl)) dX9_carry_3 ⟨Nat.le_of_ble_eq_true rfl, Nat.le_of_ble_eq_true rfl⟩) hw hA (fun v_1  H locs hp_v_1 hw => ?_)
  have r_v_1 : RI v_1 0 1 := hp_v_1.1
  refine lv_if_eq (tgt := 18) hx hb dX9_carry_6 (by decide) (fun c_6 => ?_) (fun c_6 => ?_)
  · have r_v_1 : RI v_1 0 0 := rc_eq1 r_v_1 rl_0 (ti_eq c_6) (by decide)
    refine lv_iconst (v := (-1)) hx hb dX9_carry_18 (by decide) ?_
    subst hQ
    exact W.iret (v := (-1)) hx hb hr (fun t ht hW => ⟨⟨(-1), w0, rfl, ⟨⟨rl_m1.to (by decide), (fun _ => trivial), (fun h0 => trivial), ⟨x_HE_gdq_gdg_gdo_gdA_gdB_false_false, trivial⟩, (fun _ => trivial), (fun _ => trivial)⟩, hw.1, hw.2.2.2.2.1⟩, by rw [ht]; exact hw.2.1, va_K.moved hW.alike hK, hw.2.2.1⟩, hw.2.2.2.1.F ht⟩) hw.2.2.2.1.2.2 dX9_carry_19
  · have r_v_1 : RI v_1 1 1 := rc_neL r_v_1 rl_0 (ti_ne c_6) (by decide)
    have r_p1 : RI p1 0 5 := ((hp_v_1.2.2 c_6).1)
    refine lv_aload_n hx hb dX9_carry_9 rfl (lv_at hl 0 rfl) ?_
    refine lv_iconst (v := 1) hx hb dX9_carry_10 (by decide) ?_
    refine lv_iload_n hx hb dX9_carry_11 rfl (lv_at hl 2 rfl) ?_
    refine tk_ir (va_runV (As := [.int 1, .int p2]) (rest := []) ⟨hx, hb, hml, hown, hts⟩ (c_X9_isOf__1 l D cy z H.size Ps w0 hw.1 p0 1 p2 h_p0 rl_1 r_p2) (cwV 2 hts (gV tw_540 tw_542 ts_10 tw_1 tw_543) rfl rfl rfl (by decide +kernel) ⟨Nat.le_of_ble_eq_true rfl, Nat.le_of_ble_eq_true rfl⟩) (tg_preV hw hK hSD hA (ci := 9) (q := (RX9, TX9, 15)) rfl h_p0 rfl) rfl rfl hl.1 rfl (lv_room (Nat.le_of_ble_eq_true rfl)) dX9_carry_12 ⟨Nat.le_of_ble_eq_true rfl, Nat.le_of_ble_eq_true rfl⟩) hw hA (fun v_2  H locs hp_v_2 hw => ?_)
    have r_v_2 : RI v_2 0 1 := hp_v_2.1
    refine lv_if_ne (tgt := 20) hx hb dX9_carry_15 (by decide) (fun c_15 => ?_) (fun c_15 => ?_)
    · have r_v_2 : RI v_2 1 1 := rc_neL r_v_2 rl_0 (ti_ne c_15) (by decide)
      have r_p2 : RI p2 0 3 := ((hp_v_2.2.2 c_15).1)
      refine lv_aload_n hx hb dX9_carry_20 rfl (lv_at hl 0 rfl) ?_
      refine tg_get (ci := 9) (ts := ty_WP) (C := RX9) (T := TX9) (N := 15) hx hb hts inX9 hown hK hw h_p0 rfl rfl 3 (by decide) (hts _ tw_349) (fun _ h9 => h9) (ft := vR 27) rfl dX9_carry_21 (fun u_3 hv_u_3 m_u_3 => ?_)
      obtain ⟨vu_3, rfl, h_vu_3⟩ := hv_u_3
      refine lv_aload_n hx hb dX9_carry_24 rfl (lv_at hl 0 rfl) ?_
      refine tg_get (ci := 9) (ts := ty_WP) (C := RX9) (T := TX9) (N := 15) hx hb hts inX9 hown hK hw h_p0 rfl rfl 1 (by decide) (hts _ tw_347) (fun _ h9 => h9) (ft := vR 24) rfl dX9_carry_25 (fun u_4 hv_u_4 m_u_4 => ?_)
      obtain ⟨vu_4, rfl, h_vu_4⟩ := hv_u_4
      have x_AT_vu_3_gdq_2 : (vu_3 = gdq 2) := GWX.hi hw.2.2.1 x_GWX_p0_gdq m_u_3
      have x_AT_vu_4_gdq_0 : (vu_4 = gdq 0) := GWX.wo hw.2.2.1 x_GWX_p0_gdq m_u_4
      refine tk_v (va_runV (As := [.ref vu_4]) (rest := []) ⟨hx, hb, hml, hown, hts⟩ (c_X1_prepare__1 l D cy z H.size Ps w0 hw.1 vu_3 vu_4 (gdq) (gdg) (gdo) (gdA) (gdB) (false) (false) h_vu_3 h_vu_4 x_AT_vu_3_gdq_2 x_AT_vu_4_gdq_0 x_GQ_gdq_gdg x_HE_gdq_gdg_gdo_gdA_gdB_false_false) (cwV 1 hts (gV tw_606 tw_607 tw_608 tw_13 tw_609) rfl rfl rfl (by decide +kernel) ⟨Nat.le_of_ble_eq_true rfl, Nat.le_of_ble_eq_true rfl⟩) (tg_preV hw hK hSD hA (ci := 1) (q := (RX1, TX1, 3)) rfl h_vu_3 rfl) rfl rfl hl.1 rfl (lv_room (Nat.le_of_ble_eq_true rfl)) dX9_carry_28 ⟨Nat.le_of_ble_eq_true rfl, Nat.le_of_ble_eq_true rfl⟩) hw hA ⟨by decide, by decide⟩ (fun ws H locs hp_v_5 hw hF9 => ?_)
      have m_u_3 := FLD.over hF9 m_u_3 (by decide)
      have m_u_4 := FLD.over hF9 m_u_4 (by decide)
      have x_GWX_p0_gdq := GWX.over hF9 x_GWX_p0_gdq (by decide)
      have x_GQ_gdq_gdg := GQ.over hF9 x_GQ_gdq_gdg (by decide)
      have x_HE_gdq_gdg_gdo_gdA_gdB_true_false := (hp_v_5.1)
      refine lv_aload_n hx hb dX9_carry_31 rfl (lv_at hl 0 rfl) ?_
      refine lv_aload_n hx hb dX9_carry_32 rfl (lv_at hl 0 rfl) ?_
      refine tg_mem (ci := 9) (C := RX9) (T := TX9) (N := 15) hx hb hts inX9 hown hK hw 1 m_u_4 rfl (by decide) (hts _ tw_347) (fun _ h9 => h9) dX9_carry_33 ?_
      refine lv_iload_n hx hb dX9_carry_36 rfl (lv_at hl 1 rfl) ?_
      refine lv_iload_n hx hb dX9_carry_37 rfl (lv_at hl 2 rfl) ?_
      refine tk_i (va_runV (As := [.int p1, .int p2]) (rest := [.ref p0]) ⟨hx, hb, hml, hown, hts⟩ (c_X8_carryTo l D cy z H.size Ps ws hw.1 vu_4 p1 p2 h_vu_4 r_p1 (r_p2.to (by decide))) (cwV 2 hts (gV tw_669 tw_670 tw_671 tw_12 tw_672) rfl rfl rfl (by decide +kernel) ⟨Nat.le_of_ble_eq_true rfl, Nat.le_of_ble_eq_true rfl⟩) (tg_preV hw hK hSD hA (ci := 8) (q := (RX8, TX8, 13)) rfl h_vu_4 rfl) rfl rfl hl.1 rfl (lv_room (Nat.le_of_ble_eq_true rfl)) dX9_carry_38 ⟨Nat.le_of_ble_eq_true rfl, Nat.le_of_ble_eq_true rfl⟩) hw hA ⟨by decide, by decide⟩ (fun v_6 ws H locs hp_v_6 hw hF9 => ?_)
      have m_u_3 := FLD.over hF9 m_u_3 (by decide)
      have m_u_4 := FLD.over hF9 m_u_4 (by decide)
      have x_GWX_p0_gdq := GWX.over hF9 x_GWX_p0_gdq (by decide)
      have x_GQ_gdq_gdg := GQ.over hF9 x_GQ_gdq_gdg (by decide)
      have x_HE_gdq_gdg_gdo_gdA_gdB_true_false := HE.over hF9 x_HE_gdq_gdg_gdo_gdA_gdB_true_false (by decide)
      have r_v_6 : RI v_6 0 2 := hp_v_6.1
      refine tk_i (va_runV (As := [.int v_6]) (rest := []) ⟨hx, hb, hml, hown, hts⟩ (c_X9_keptIfDone__1 l D cy z H.size Ps ws hw.1 p0 v_6 (gdq) (gdg) (gdo) (gdA) (gdB) (false) h_p0 (r_v_6.to (by decide)) x_GWX_p0_gdq x_GQ_gdq_gdg x_HE_gdq_gdg_gdo_gdA_gdB_true_false) (cwV 1 hts (gV tw_615 tw_617 ts_12 tw_1 tw_618) rfl rfl rfl (by decide +kernel) ⟨Nat.le_of_ble_eq_true rfl, Nat.le_of_ble_eq_true rfl⟩) (tg_preV hw hK hSD hA (ci := 9) (q := (RX9, TX9, 15)) rfl h_p0 rfl) rfl rfl hl.1 rfl (lv_room (Nat.le_of_ble_eq_true rfl)) dX9_carry_41 ⟨Nat.le_of_ble_eq_true rfl, Nat.le_of_ble_eq_true rfl⟩) hw hA ⟨by decide, by decide⟩ (fun v_7 ws H locs hp_v_7 hw hF9 => ?_)
      have m_u_3 := FLD.over hF9 m_u_3 (by decide)
      have m_u_4 := FLD.over hF9 m_u_4 (by decide)
      have x_GWX_p0_gdq := GWX.over hF9 x_GWX_p0_gdq (by decide)
      have x_GQ_gdq_gdg := GQ.over hF9 x_GQ_gdq_gdg (by decide)
      have r_v_7 : RI v_7 (-2147483648) 2147483647 := hp_v_7.1
      have x_HE_gdq_gdg_gdo_gdA_gdB_false_false := hp_v_7.2.2.2.1.1
      subst hQ
      exact W.iret (v := v_7) hx hb hr (fun t ht hW => ⟨⟨v_7, ws, rfl, ⟨⟨r_v_7.to (by decide), (fun h0 => trivial), (fun h0 => trivial), ⟨x_HE_gdq_gdg_gdo_gdA_gdB_false_false, trivial⟩, (fun _ => trivial), (fun _ => trivial)⟩, hw.1, hw.2.2.2.2.1⟩, by rw [ht]; exact hw.2.1, va_K.moved hW.alike hK, hw.2.2.1⟩, hw.2.2.2.1.F ht⟩) hw.2.2.2.1.2.2 dX9_carry_44
    · have r_v_2 : RI v_2 0 0 := rc_eq1 r_v_2 rl_0 (ti_eq c_15) (by decide)
      refine lv_iconst (v := (-1)) hx hb dX9_carry_18 (by decide) ?_
      subst hQ
      exact W.iret (v := (-1)) hx hb hr (fun t ht hW => ⟨⟨(-1), w0, rfl, ⟨⟨rl_m1.to (by decide), (fun _ => trivial), (fun h0 => trivial), ⟨x_HE_gdq_gdg_gdo_gdA_gdB_false_false, trivial⟩, (fun _ => trivial), (fun _ => trivial)⟩, hw.1, hw.2.2.2.2.1⟩, by rw [ht]; exact hw.2.1, va_K.moved hW.alike hK, hw.2.2.1⟩, hw.2.2.2.1.F ht⟩) hw.2.2.2.1.2.2 dX9_carry_19
abbrev wr_X9_keptIfSome__1 : List (Nat × Nat) := [(1, 1), (1, 2)]
abbrev wa_X9_keptIfSome__1 : List Nat := []
set_option maxHeartbeats 4000000 in
set_option maxRecDepth 100000 in
theorem c_X9_keptIfSome__1 (l : Launch) (D : va_G) (cy : Nat → ClassId) (z : Nat → Nat) (sz : Nat) (Ps : PSI) (w0 : va_W) (hT : HT cy GG Ps w0) (p0 : Nat) (p1 : Int32) (gdq : Nat → Nat) (gdg : Nat → Nat) (gdo : OS) (gdA : OS) (gdB : OS) (gdt : Bool) (h_p0 : (p0, 33) ∈ Ps) (r_p1 : RI p1 (-2147483648) 2147483647) (x_GWX_p0_gdq : GWX w0 p0 gdq) (x_GQ_gdq_gdg : GQ Ps w0 gdq gdg) (x_HE_gdq_gdg_gdo_gdA_gdB_true_gdt : HE Ps w0 gdq gdg gdo gdA gdB true gdt) : Met l yX9_keptIfSome (Cond.code yX9_keptIfSome cX9_keptIfSome 2 (some .int) :: gT) ({ frames := 3, cells := 0, slots := 0, locals := 600 } : Room) (va_Pc [.ref p0, .int p1] (PRE D cy z w0 sz)) (va_Qi (fun (r : Int32) (u : va_W) => (RI r (-2147483648) 2147483647 ∧ (r = 0 → True) ∧ (¬ r = 0 → True) ∧ (HE Ps u gdq gdg gdo gdA gdB false gdt ∧ True) ∧ (r.toInt < 0 → True) ∧ (0 ≤ r.toInt → True)) ∧ HT cy GG Ps u ∧ FR wr_X9_keptIfSome__1 wa_X9_keptIfSome__1 Ps w0 u) (BB D cy (va_A w0 sz) (fun (u : va_W) => u)) (va_A w0 sz)) 0 0 (va_A w0 sz) := by
  refine Met.ofW (cc := cX9_keptIfSome) (maxL := 2) (ret := (some .int)) (by decide) rfl ?_
  intro p e s m args below meth c s₁ B hml hv
  obtain ⟨rfl, hsz, hP, hK, hD0, hSD⟩ := hv
  have hx := B.exec
  have hb := B.bytes
  have hr := B.returns
  have hlocks := B.notSynchronized
  have hts : ∀ w ∈ gT, w.before _ s = true := fun w h => atoms_spec (ws := Cond.code yX9_keptIfSome cX9_keptIfSome 2 (some .int) :: gT) B.pre w (List.mem_cons_of_mem _ h)
  have hown : s.vm.findClass RX9 = some m.cls := findClass_of_methodNamed B.named
  subst hsz
  have hD := hD0.self (sz := s.heap.size)
  generalize hAe : va_A w0 s.heap.size = A at hD hSD ⊢
  have hA : ∀ q : Nat, s.heap.size ≤ q → A q := fun q h => by rw [← hAe]; exact Or.inr h
  have hl := lv_entry ([.ref p0, .int p1]) (n := 2) (Nat.le_of_ble_eq_true rfl)
  rw [lg_entry_eq]
  generalize (lg_sl ([.ref p0, .int p1]) ++ List.replicate (2 - (lg_sl ([.ref p0, .int p1])).length) Slot.unset).toArray = ls at hl ⊢
  have hl : lv_has ls 2 [(0, .ref p0), (1, .int p1)] := hl
  refine nameQ (fun Q hQ => ?_)
  have hw : WD D cy GG A s wr_X9_keptIfSome__1 wa_X9_keptIfSome__1 Ps w0 Ps w0 s.heap [] := ⟨hT, hP, hD, va_S.rf, FR.rf, hT.1, [], (List.append_nil _).symm⟩
  refine lv_iload_n hx hb dX9_keptIfSome_0 rfl (lv_at hl 1 rfl) ?_
  refine lv_if_le (tgt := 11) hx hb dX9_keptIfSome_1 (by decide) (fun c_1 => ?_) (fun c_1 => ?_)
  · have r_p1 : RI p1 (-2147483648) 0 := rc_le1 r_p1 rl_0 (ti_le c_1) (by decide)
    refine lv_iload_n hx hb dX9_keptIfSome_11 rfl (lv_at hl 1 rfl) ?_
    subst hQ
    exact W.iret (v := p1) hx hb hr (fun t ht hW => ⟨⟨p1, w0, rfl, ⟨⟨r_p1.to (by decide), (fun h0 => trivial), (fun h0 => trivial), ⟨(HE.weak (fun e9 => by cases e9) (fun e9 => e9) x_HE_gdq_gdg_gdo_gdA_gdB_true_gdt), trivial⟩, (fun _ => trivial), (fun _ => trivial)⟩, hw.1, hw.2.2.2.2.1⟩, by rw [ht]; exact hw.2.1, va_K.moved hW.alike hK, hw.2.2.1⟩, hw.2.2.2.1.F ht⟩) hw.2.2.2.1.2.2 dX9_keptIfSome_12
  · have r_p1 : RI p1 1 2147483647 := rc_lt2 rl_0 r_p1 (ti_nle c_1) (by decide)
    refine lv_aload_n hx hb dX9_keptIfSome_4 rfl (lv_at hl 0 rfl) ?_
    refine tg_get (ci := 9) (ts := ty_WP) (C := RX9) (T := TX9) (N := 15) hx hb hts inX9 hown hK hw h_p0 rfl rfl 3 (by decide) (hts _ tw_349) (fun _ h9 => h9) (ft := vR 27) rfl dX9_keptIfSome_5 (fun u_1 hv_u_1 m_u_1 => ?_)
    obtain ⟨vu_1, rfl, h_vu_1⟩ := hv_u_1
    have x_AT_vu_1_gdq_2 : (vu_1 = gdq 2) := GWX.hi hw.2.2.1 x_GWX_p0_gdq m_u_1
    refine tk_v (va_runV (As := []) (rest := []) ⟨hx, hb, hml, hown, hts⟩ (c_X1_keep__1 l D cy z s.heap.size Ps w0 hw.1 vu_1 (gdq) (gdg) (gdo) (gdA) (gdB) (gdt) h_vu_1 x_AT_vu_1_gdq_2 x_HE_gdq_gdg_gdo_gdA_gdB_true_gdt) (cwV 0 hts (gV tw_619 tw_620 tw_621 tw_13 tw_622) rfl rfl rfl (by decide +kernel) ⟨Nat.le_of_ble_eq_true rfl, Nat.le_of_ble_eq_true rfl⟩) (tg_preV hw hK hSD hA (ci := 1) (q := (RX1, TX1, 3)) rfl h_vu_1 rfl) rfl rfl hl.1 rfl (lv_room (Nat.le_of_ble_eq_true rfl)) dX9_keptIfSome_8 ⟨Nat.le_of_ble_eq_true rfl, Nat.le_of_ble_eq_true rfl⟩) hw hA ⟨by decide, by decide⟩ (fun ws H locs hp_v_2 hw hF9 => ?_)
    have m_u_1 := FLD.over hF9 m_u_1 (by decide)
    have x_GWX_p0_gdq := GWX.over hF9 x_GWX_p0_gdq (by decide)
    have x_GQ_gdq_gdg := GQ.over hF9 x_GQ_gdq_gdg (by decide)
    have x_HE_gdq_gdg_gdo_gdA_gdB_false_gdt := (hp_v_2.1)
    refine lv_iload_n hx hb dX9_keptIfSome_11 rfl (lv_at hl 1 rfl) ?_
    subst hQ
    exact W.iret (v := p1) hx hb hr (fun t ht hW => ⟨⟨p1, ws, rfl, ⟨⟨r_p1.to (by decide), (fun _ => trivial), (fun h0 => trivial), ⟨x_HE_gdq_gdg_gdo_gdA_gdB_false_gdt, trivial⟩, (fun _ => trivial), (fun _ => trivial)⟩, hw.1, hw.2.2.2.2.1⟩, by rw [ht]; exact hw.2.1, va_K.moved hW.alike hK, hw.2.2.1⟩, hw.2.2.2.1.F ht⟩) hw.2.2.2.1.2.2 dX9_keptIfSome_12
abbrev wr_X9_days__1 : List (Nat × Nat) := [(1, 1), (1, 2), (8, 0), (8, 1)]
abbrev wa_X9_days__1 : List Nat := [8, 9, 10, 11, 12, 13, 14]
set_option maxHeartbeats 4000000 in
set_option maxRecDepth 100000 in
theorem c_X9_days__1 (l : Launch) (D : va_G) (cy : Nat → ClassId) (z : Nat → Nat) (sz : Nat) (Ps : PSI) (w0 : va_W) (hT : HT cy GG Ps w0) (p0 : Nat) (p1 : Int32) (gdq : Nat → Nat) (gdg : Nat → Nat) (gdo : OS) (gdA : OS) (gdB : OS) (h_p0 : (p0, 33) ∈ Ps) (r_p1 : RI p1 (-2147483648) 2147483647) (x_GWX_p0_gdq : GWX w0 p0 gdq) (x_GQ_gdq_gdg : GQ Ps w0 gdq gdg) (x_HE_gdq_gdg_gdo_gdA_gdB_false_false : HE Ps w0 gdq gdg gdo gdA gdB false false) : Met l yX9_days (Cond.code yX9_days cX9_days 2 (some .int) :: gT) ({ frames := 6, cells := 0, slots := 0, locals := 1200 } : Room) (va_Pc [.ref p0, .int p1] (PRE D cy z w0 sz)) (va_Qi (fun (r : Int32) (u : va_W) => (RI r (-2147483648) 2147483647 ∧ (r = 0 → True) ∧ (¬ r = 0 → True) ∧ (HE Ps u gdq gdg gdo gdA gdB false false ∧ True) ∧ (r.toInt < 0 → True) ∧ (0 ≤ r.toInt → True)) ∧ HT cy GG Ps u ∧ FR wr_X9_days__1 wa_X9_days__1 Ps w0 u) (BB D cy (va_A w0 sz) (fun (u : va_W) => u)) (va_A w0 sz)) 0 0 (va_A w0 sz) := by
  refine Met.ofW (cc := cX9_days) (maxL := 2) (ret := (some .int)) (by decide) rfl ?_
  intro p e s m args below meth c s₁ B hml hv
  obtain ⟨rfl, hsz, hP, hK, hD0, hSD⟩ := hv
  have hx := B.exec
  have hb := B.bytes
  have hr := B.returns
  have hlocks := B.notSynchronized
  have hts : ∀ w ∈ gT, w.before _ s = true := fun w h => atoms_spec (ws := Cond.code yX9_days cX9_days 2 (some .int) :: gT) B.pre w (List.mem_cons_of_mem _ h)
  have hown : s.vm.findClass RX9 = some m.cls := findClass_of_methodNamed B.named
  subst hsz
  have hD := hD0.self (sz := s.heap.size)
  generalize hAe : va_A w0 s.heap.size = A at hD hSD ⊢
  have hA : ∀ q : Nat, s.heap.size ≤ q → A q := fun q h => by rw [← hAe]; exact Or.inr h
  have hl := lv_entry ([.ref p0, .int p1]) (n := 2) (Nat.le_of_ble_eq_true rfl)
  rw [lg_entry_eq]
  generalize (lg_sl ([.ref p0, .int p1]) ++ List.replicate (2 - (lg_sl ([.ref p0, .int p1])).length) Slot.unset).toArray = ls at hl ⊢
  have hl : lv_has ls 2 [(0, .ref p0), (1, .int p1)] := hl
  refine nameQ (fun Q hQ => ?_)
  have hw : WD D cy GG A s wr_X9_days__1 wa_X9_days__1 Ps w0 Ps w0 s.heap [] := ⟨hT, hP, hD, va_S.rf, FR.rf, hT.1, [], (List.append_nil _).symm⟩
  refine lv_iload_n hx hb dX9_days_0 rfl (lv_at hl 1 rfl) ?_
  refine lv_iconst (v := 1) hx hb dX9_days_1 (by decide) ?_
  refine lv_icmp_lt (tgt := 11) hx hb dX9_days_2 (by decide) (fun c_2 => ?_) (fun c_2 => ?_)
  · have r_p1 : RI p1 (-2147483648) 0 := rc_lt1 r_p1 rl_1 (ti_lt c_2) (by decide)
    refine lv_iconst (v := (-1)) hx hb dX9_days_11 (by decide) ?_
    subst hQ
    exact W.iret (v := (-1)) hx hb hr (fun t ht hW => ⟨⟨(-1), w0, rfl, ⟨⟨rl_m1.to (by decide), (fun _ => trivial), (fun h0 => trivial), ⟨x_HE_gdq_gdg_gdo_gdA_gdB_false_false, trivial⟩, (fun _ => trivial), (fun _ => trivial)⟩, hw.1, hw.2.2.2.2.1⟩, by rw [ht]; exact hw.2.1, va_K.moved hW.alike hK, hw.2.2.1⟩, hw.2.2.2.1.F ht⟩) hw.2.2.2.1.2.2 dX9_days_12
  · have r_p1 : RI p1 1 2147483647 := rc_le2 rl_1 r_p1 (ti_nlt c_2) (by decide)
    refine lv_iload_n hx hb dX9_days_5 rfl (lv_at hl 1 rfl) ?_
    refine lv_bipush (v := 60) hx hb dX9_days_6 (by decide) ?_
    refine lv_icmp_le (tgt := 13) hx hb dX9_days_8 (by decide) (fun c_8 => ?_) (fun c_8 => ?_)
    · have r_p1 : RI p1 1 60 := rc_le1 r_p1 rl_60 (ti_le c_8) (by decide)
      refine lv_aload_n hx hb dX9_days_13 rfl (lv_at hl 0 rfl) ?_
      refine tg_get (ci := 9) (ts := ty_WP) (C := RX9) (T := TX9) (N := 15) hx hb hts inX9 hown hK hw h_p0 rfl rfl 3 (by decide) (hts _ tw_349) (fun _ h9 => h9) (ft := vR 27) rfl dX9_days_14 (fun u_1 hv_u_1 m_u_1 => ?_)
      obtain ⟨vu_1, rfl, h_vu_1⟩ := hv_u_1
      refine lv_aload_n hx hb dX9_days_17 rfl (lv_at hl 0 rfl) ?_
      refine tg_get (ci := 9) (ts := ty_WP) (C := RX9) (T := TX9) (N := 15) hx hb hts inX9 hown hK hw h_p0 rfl rfl 1 (by decide) (hts _ tw_347) (fun _ h9 => h9) (ft := vR 24) rfl dX9_days_18 (fun u_2 hv_u_2 m_u_2 => ?_)
      obtain ⟨vu_2, rfl, h_vu_2⟩ := hv_u_2
      have x_AT_vu_1_gdq_2 : (vu_1 = gdq 2) := GWX.hi hw.2.2.1 x_GWX_p0_gdq m_u_1
      have x_AT_vu_2_gdq_0 : (vu_2 = gdq 0) := GWX.wo hw.2.2.1 x_GWX_p0_gdq m_u_2
      refine tk_v (va_runV (As := [.ref vu_2]) (rest := []) ⟨hx, hb, hml, hown, hts⟩ (c_X1_prepare__1 l D cy z s.heap.size Ps w0 hw.1 vu_1 vu_2 (gdq) (gdg) (gdo) (gdA) (gdB) (false) (false) h_vu_1 h_vu_2 x_AT_vu_1_gdq_2 x_AT_vu_2_gdq_0 x_GQ_gdq_gdg x_HE_gdq_gdg_gdo_gdA_gdB_false_false) (cwV 1 hts (gV tw_606 tw_607 tw_608 tw_13 tw_609) rfl rfl rfl (by decide +kernel) ⟨Nat.le_of_ble_eq_true rfl, Nat.le_of_ble_eq_true rfl⟩) (tg_preV hw hK hSD hA (ci := 1) (q := (RX1, TX1, 3)) rfl h_vu_1 rfl) rfl rfl hl.1 rfl (lv_room (Nat.le_of_ble_eq_true rfl)) dX9_days_21 ⟨Nat.le_of_ble_eq_true rfl, Nat.le_of_ble_eq_true rfl⟩) hw hA ⟨by decide, by decide⟩ (fun ws H locs hp_v_3 hw hF9 => ?_)
      have m_u_1 := FLD.over hF9 m_u_1 (by decide)
      have m_u_2 := FLD.over hF9 m_u_2 (by decide)
      have x_GWX_p0_gdq := GWX.over hF9 x_GWX_p0_gdq (by decide)
      have x_GQ_gdq_gdg := GQ.over hF9 x_GQ_gdq_gdg (by decide)
      have x_HE_gdq_gdg_gdo_gdA_gdB_true_false := (hp_v_3.1)
      refine lv_aload_n hx hb dX9_days_24 rfl (lv_at hl 0 rfl) ?_
      refine lv_aload_n hx hb dX9_days_25 rfl (lv_at hl 0 rfl) ?_
      refine tg_mem (ci := 9) (C := RX9) (T := TX9) (N := 15) hx hb hts inX9 hown hK hw 1 m_u_2 rfl (by decide) (hts _ tw_347) (fun _ h9 => h9) dX9_days_26 ?_
      refine lv_iload_n hx hb dX9_days_29 rfl (lv_at hl 1 rfl) ?_
      refine tk_i (va_runV (As := [.int p1]) (rest := [.ref p0]) ⟨hx, hb, hml, hown, hts⟩ (c_X8_goDays l D cy z H.size Ps ws hw.1 vu_2 p1 h_vu_2 (r_p1.to (by decide))) (cwV 1 hts (gV tw_677 tw_678 tw_679 tw_12 tw_680) rfl rfl rfl (by decide +kernel) ⟨Nat.le_of_ble_eq_true rfl, Nat.le_of_ble_eq_true rfl⟩) (tg_preV hw hK hSD hA (ci := 8) (q := (RX8, TX8, 13)) rfl h_vu_2 rfl) rfl rfl hl.1 rfl (lv_room (Nat.le_of_ble_eq_true rfl)) dX9_days_30 ⟨Nat.le_of_ble_eq_true rfl, Nat.le_of_ble_eq_true rfl⟩) hw hA ⟨by decide, by decide⟩ (fun v_4 ws H locs hp_v_4 hw hF9 => ?_)
      have m_u_1 := FLD.over hF9 m_u_1 (by decide)
      have m_u_2 := FLD.over hF9 m_u_2 (by decide)
      have x_GWX_p0_gdq := GWX.over hF9 x_GWX_p0_gdq (by decide)
      have x_GQ_gdq_gdg := GQ.over hF9 x_GQ_gdq_gdg (by decide)
      have x_HE_gdq_gdg_gdo_gdA_gdB_true_false := HE.over hF9 x_HE_gdq_gdg_gdo_gdA_gdB_true_false (by decide)
      have r_v_4 : RI v_4 (-2147483648) 2147483647 := hp_v_4.1
      refine tk_i (va_runV (As := [.int v_4]) (rest := []) ⟨hx, hb, hml, hown, hts⟩ (c_X9_keptIfSome__1 l D cy z H.size Ps ws hw.1 p0 v_4 (gdq) (gdg) (gdo) (gdA) (gdB) (false) h_p0 r_v_4 x_GWX_p0_gdq x_GQ_gdq_gdg x_HE_gdq_gdg_gdo_gdA_gdB_true_false) (cwV 1 hts (gV tw_709 tw_711 ts_17 tw_1 tw_712) rfl rfl rfl (by decide +kernel) ⟨Nat.le_of_ble_eq_true rfl, Nat.le_of_ble_eq_true rfl⟩) (tg_preV hw hK hSD hA (ci := 9) (q := (RX9, TX9, 15)) rfl h_p0 rfl) rfl rfl hl.1 rfl (lv_room (Nat.le_of_ble_eq_true rfl)) dX9_days_33 ⟨Nat.le_of_ble_eq_true rfl, Nat.le_of_ble_eq_true rfl⟩) hw hA ⟨by decide, by decide⟩ (fun v_5 ws H locs hp_v_5 hw hF9 => ?_)
      have m_u_1 := FLD.over hF9 m_u_1 (by decide)
      have m_u_2 := FLD.over hF9 m_u_2 (by decide)
      have x_GWX_p0_gdq := GWX.over hF9 x_GWX_p0_gdq (by decide)
      have x_GQ_gdq_gdg := GQ.over hF9 x_GQ_gdq_gdg (by decide)
      have r_v_5 : RI v_5 (-2147483648) 2147483647 := hp_v_5.1
      have x_HE_gdq_gdg_gdo_gdA_gdB_false_false := hp_v_5.2.2.2.1.1
      subst hQ
      exact W.iret (v := v_5) hx hb hr (fun t ht hW => ⟨⟨v_5, ws, rfl, ⟨⟨r_v_5.to (by decide), (fun h0 => trivial), (fun h0 => trivial), ⟨x_HE_gdq_gdg_gdo_gdA_gdB_false_false, trivial⟩, (fun _ => trivial), (fun _ => trivial)⟩, hw.1, hw.2.2.2.2.1⟩, by rw [ht]; exact hw.2.1, va_K.moved hW.alike hK, hw.2.2.1⟩, hw.2.2.2.1.F ht⟩) hw.2.2.2.1.2.2 dX9_days_36
    · have r_p1 : RI p1 61 2147483647 := rc_lt2 rl_60 r_p1 (ti_nle c_8) (by decide)
      refine lv_iconst (v := (-1)) hx hb dX9_days_11 (by decide) ?_
      subst hQ
      exact W.iret (v := (-1)) hx hb hr (fun t ht hW => ⟨⟨(-1), w0, rfl, ⟨⟨rl_m1.to (by decide), (fun _ => trivial), (fun h0 => trivial), ⟨x_HE_gdq_gdg_gdo_gdA_gdB_false_false, trivial⟩, (fun _ => trivial), (fun _ => trivial)⟩, hw.1, hw.2.2.2.2.1⟩, by rw [ht]; exact hw.2.1, va_K.moved hW.alike hK, hw.2.2.1⟩, hw.2.2.2.1.F ht⟩) hw.2.2.2.1.2.2 dX9_days_12
abbrev wr_X9_drawn__1 : List (Nat × Nat) := [(1, 1), (1, 2), (8, 0), (8, 1), (8, 12)]
abbrev wa_X9_drawn__1 : List Nat := [8, 9, 10, 11, 12, 13, 14]
set_option maxHeartbeats 4000000 in
set_option maxRecDepth 100000 in
theorem c_X9_drawn__1 (l : Launch) (D : va_G) (cy : Nat → ClassId) (z : Nat → Nat) (sz : Nat) (Ps : PSI) (w0 : va_W) (hT : HT cy GG Ps w0) (p0 : Nat) (p1 : Int32) (p2 : Int32) (gdq : Nat → Nat) (gdg : Nat → Nat) (gdo : OS) (gdA : OS) (gdB : OS) (h_p0 : (p0, 33) ∈ Ps) (r_p1 : RI p1 (-2147483648) 2147483647) (r_p2 : RI p2 (-2147483648) 2147483647) (x_GWX_p0_gdq : GWX w0 p0 gdq) (x_GQ_gdq_gdg : GQ Ps w0 gdq gdg) (x_HE_gdq_gdg_gdo_gdA_gdB_false_false : HE Ps w0 gdq gdg gdo gdA gdB false false) : Met l yX9_drawn (Cond.code yX9_drawn cX9_drawn 3 (some .int) :: gT) ({ frames := 6, cells := 0, slots := 0, locals := 1200 } : Room) (va_Pc [.ref p0, .int p1, .int p2] (PRE D cy z w0 sz)) (va_Qi (fun (r : Int32) (u : va_W) => (RI r (-2147483648) 2147483647 ∧ (r = 0 → True) ∧ (¬ r = 0 → True) ∧ (HE Ps u gdq gdg gdo gdA gdB false false ∧ True) ∧ (r.toInt < 0 → True) ∧ (0 ≤ r.toInt → True)) ∧ HT cy GG Ps u ∧ FR wr_X9_drawn__1 wa_X9_drawn__1 Ps w0 u) (BB D cy (va_A w0 sz) (fun (u : va_W) => u)) (va_A w0 sz)) 0 0 (va_A w0 sz) := by
  refine Met.ofW (cc := cX9_drawn) (maxL := 3) (ret := (some .int)) (by decide) rfl ?_
  intro p e s m args below meth c s₁ B hml hv
  obtain ⟨rfl, hsz, hP, hK, hD0, hSD⟩ := hv
  have hx := B.exec
  have hb := B.bytes
  have hr := B.returns
  have hlocks := B.notSynchronized
  have hts : ∀ w ∈ gT, w.before _ s = true := fun w h => atoms_spec (ws := Cond.code yX9_drawn cX9_drawn 3 (some .int) :: gT) B.pre w (List.mem_cons_of_mem _ h)
  have hown : s.vm.findClass RX9 = some m.cls := findClass_of_methodNamed B.named
  subst hsz
  have hD := hD0.self (sz := s.heap.size)
  generalize hAe : va_A w0 s.heap.size = A at hD hSD ⊢
  have hA : ∀ q : Nat, s.heap.size ≤ q → A q := fun q h => by rw [← hAe]; exact Or.inr h
  have hl := lv_entry ([.ref p0, .int p1, .int p2]) (n := 3) (Nat.le_of_ble_eq_true rfl)
  rw [lg_entry_eq]
  generalize (lg_sl ([.ref p0, .int p1, .int p2]) ++ List.replicate (3 - (lg_sl ([.ref p0, .int p1, .int p2])).length) Slot.unset).toArray = ls at hl ⊢
  have hl : lv_has ls 3 [(0, .ref p0), (1, .int p1), (2, .int p2)] := hl
  refine nameQ (fun Q hQ => ?_)
  have hw : WD D cy GG A s wr_X9_drawn__1 wa_X9_drawn__1 Ps w0 Ps w0 s.heap [] := ⟨hT, hP, hD, va_S.rf, FR.rf, hT.1, [], (List.append_nil _).symm⟩
  refine lv_iload_n hx hb dX9_drawn_0 rfl (lv_at hl 1 rfl) ?_
  refine lv_iconst (v := 1) hx hb dX9_drawn_1 (by decide) ?_
  refine lv_icmp_lt (tgt := 26) hx hb dX9_drawn_2 (by decide) (fun c_2 => ?_) (fun c_2 => ?_)
  · have r_p1 : RI p1 (-2147483648) 0 := rc_lt1 r_p1 rl_1 (ti_lt c_2) (by decide)
    refine lv_iconst (v := (-1)) hx hb dX9_drawn_26 (by decide) ?_
    subst hQ
    exact W.iret (v := (-1)) hx hb hr (fun t ht hW => ⟨⟨(-1), w0, rfl, ⟨⟨rl_m1.to (by decide), (fun _ => trivial), (fun h0 => trivial), ⟨x_HE_gdq_gdg_gdo_gdA_gdB_false_false, trivial⟩, (fun _ => trivial), (fun _ => trivial)⟩, hw.1, hw.2.2.2.2.1⟩, by rw [ht]; exact hw.2.1, va_K.moved hW.alike hK, hw.2.2.1⟩, hw.2.2.2.1.F ht⟩) hw.2.2.2.1.2.2 dX9_drawn_27
  · have r_p1 : RI p1 1 2147483647 := rc_le2 rl_1 r_p1 (ti_nlt c_2) (by decide)
    refine lv_iload_n hx hb dX9_drawn_5 rfl (lv_at hl 1 rfl) ?_
    refine lv_bipush (v := 60) hx hb dX9_drawn_6 (by decide) ?_
    refine lv_icmp_gt (tgt := 26) hx hb dX9_drawn_8 (by decide) (fun c_8 => ?_) (fun c_8 => ?_)
    · have r_p1 : RI p1 61 2147483647 := rc_lt2 rl_60 r_p1 (ti_lt c_8) (by decide)
      refine lv_iconst (v := (-1)) hx hb dX9_drawn_26 (by decide) ?_
      subst hQ
      exact W.iret (v := (-1)) hx hb hr (fun t ht hW => ⟨⟨(-1), w0, rfl, ⟨⟨rl_m1.to (by decide), (fun _ => trivial), (fun h0 => trivial), ⟨x_HE_gdq_gdg_gdo_gdA_gdB_false_false, trivial⟩, (fun _ => trivial), (fun _ => trivial)⟩, hw.1, hw.2.2.2.2.1⟩, by rw [ht]; exact hw.2.1, va_K.moved hW.alike hK, hw.2.2.1⟩, hw.2.2.2.1.F ht⟩) hw.2.2.2.1.2.2 dX9_drawn_27
    · have r_p1 : RI p1 1 60 := rc_le1 r_p1 rl_60 (ti_nlt c_8) (by decide)
      refine lv_aload_n hx hb dX9_drawn_11 rfl (lv_at hl 0 rfl) ?_
      refine tg_get (ci := 9) (ts := ty_WP) (C := RX9) (T := TX9) (N := 15) hx hb hts inX9 hown hK hw h_p0 rfl rfl 1 (by decide) (hts _ tw_347) (fun _ h9 => h9) (ft := vR 24) rfl dX9_drawn_12 (fun u_1 hv_u_1 m_u_1 => ?_)
      obtain ⟨vu_1, rfl, h_vu_1⟩ := hv_u_1
      refine tg_getN (ci := 8) (ts := ty_WORLD) (C := RX8) (T := TX8) (N := 13) hx hb hts inX8 hown hK hw h_vu_1 rfl rfl 0 (by decide) (hSD.nest tn_249) (fun _ h9 => h9) (ft := vR 25) rfl dX9_drawn_15 (fun u_2 hv_u_2 m_u_2 => ?_)
      obtain ⟨vu_2, rfl, h_vu_2⟩ := hv_u_2
      refine tg_getN (ci := 3) (ts := ty_POST) (C := RX3) (T := TX3) (N := 9) hx hb hts inX3 hown hK hw h_vu_2 rfl rfl 1 (by decide) (hSD.nest tn_204) (fun _ h9 => h9) (ft := vR 4) rfl dX9_drawn_18 (fun u_3 hv_u_3 m_u_3 => ?_)
      obtain ⟨vu_3, rfl, h_vu_3⟩ := hv_u_3
      refine lv_iconst (v := 3) hx hb dX9_drawn_21 (by decide) ?_
      refine tg_iald (lo := 0) (hi := 8) hx hb hK hw h_vu_3 rfl 3 3 rl_3 (by decide) (by decide +kernel) dX9_drawn_22 (fun v_4 r_v_4 m_v_4 o_v_4 => ?_)
      refine lv_if_ne (tgt := 28) hx hb dX9_drawn_23 (by decide) (fun c_23 => ?_) (fun c_23 => ?_)
      · have r_v_4 : RI v_4 1 8 := rc_neL r_v_4 rl_0 (ti_ne c_23) (by decide)
        refine lv_aload_n hx hb dX9_drawn_28 rfl (lv_at hl 0 rfl) ?_
        refine tg_get (ci := 9) (ts := ty_WP) (C := RX9) (T := TX9) (N := 15) hx hb hts inX9 hown hK hw h_p0 rfl rfl 3 (by decide) (hts _ tw_349) (fun _ h9 => h9) (ft := vR 27) rfl dX9_drawn_29 (fun u_5 hv_u_5 m_u_5 => ?_)
        obtain ⟨vu_5, rfl, h_vu_5⟩ := hv_u_5
        refine lv_aload_n hx hb dX9_drawn_32 rfl (lv_at hl 0 rfl) ?_
        refine tg_mem (ci := 9) (C := RX9) (T := TX9) (N := 15) hx hb hts inX9 hown hK hw 1 m_u_1 rfl (by decide) (hts _ tw_347) (fun _ h9 => h9) dX9_drawn_33 ?_
        have x_AT_vu_5_gdq_2 : (vu_5 = gdq 2) := GWX.hi hw.2.2.1 x_GWX_p0_gdq m_u_5
        have x_AT_vu_1_gdq_0 : (vu_1 = gdq 0) := GWX.wo hw.2.2.1 x_GWX_p0_gdq m_u_1
        have hw8 := hw
        refine tk_v (va_runV (As := [.ref vu_1]) (rest := []) ⟨hx, hb, hml, hown, hts⟩ (c_X1_prepare__1 l D cy z s.heap.size Ps w0 hw.1 vu_5 vu_1 (gdq) (gdg) (gdo) (gdA) (gdB) (false) (false) h_vu_5 h_vu_1 x_AT_vu_5_gdq_2 x_AT_vu_1_gdq_0 x_GQ_gdq_gdg x_HE_gdq_gdg_gdo_gdA_gdB_false_false) (cwV 1 hts (gV tw_606 tw_607 tw_608 tw_13 tw_609) rfl rfl rfl (by decide +kernel) ⟨Nat.le_of_ble_eq_true rfl, Nat.le_of_ble_eq_true rfl⟩) (tg_preV hw hK hSD hA (ci := 1) (q := (RX1, TX1, 3)) rfl h_vu_5 rfl) rfl rfl hl.1 rfl (lv_room (Nat.le_of_ble_eq_true rfl)) dX9_drawn_36 ⟨Nat.le_of_ble_eq_true rfl, Nat.le_of_ble_eq_true rfl⟩) hw hA ⟨by decide, by decide⟩ (fun ws H locs hp_v_6 hw hF9 => ?_)
        have m_v_4 := AEL.over hw8 hF9 h_vu_3 m_v_4 (by decide)
        have m_u_1 := FLD.over hF9 m_u_1 (by decide)
        have m_u_3 := FLD.over hF9 m_u_3 (by decide)
        have m_u_5 := FLD.over hF9 m_u_5 (by decide)
        have x_GWX_p0_gdq := GWX.over hF9 x_GWX_p0_gdq (by decide)
        have x_GQ_gdq_gdg := GQ.over hF9 x_GQ_gdq_gdg (by decide)
        have x_HE_gdq_gdg_gdo_gdA_gdB_true_false := (hp_v_6.1)
        refine lv_aload_n hx hb dX9_drawn_39 rfl (lv_at hl 0 rfl) ?_
        refine lv_aload_n hx hb dX9_drawn_40 rfl (lv_at hl 0 rfl) ?_
        refine tg_mem (ci := 9) (C := RX9) (T := TX9) (N := 15) hx hb hts inX9 hown hK hw 1 m_u_1 rfl (by decide) (hts _ tw_347) (fun _ h9 => h9) dX9_drawn_41 ?_
        refine lv_iload_n hx hb dX9_drawn_44 rfl (lv_at hl 1 rfl) ?_
        refine lv_iload_n hx hb dX9_drawn_45 rfl (lv_at hl 2 rfl) ?_
        have hw8 := hw
        refine tk_i (va_runV (As := [.int p1, .int p2]) (rest := [.ref p0]) ⟨hx, hb, hml, hown, hts⟩ (c_X8_drawDays l D cy z H.size Ps ws hw.1 vu_1 p1 p2 h_vu_1 (r_p1.to (by decide)) r_p2) (cwV 2 hts (gV tw_862 tw_863 tw_864 tw_12 tw_865) rfl rfl rfl (by decide +kernel) ⟨Nat.le_of_ble_eq_true rfl, Nat.le_of_ble_eq_true rfl⟩) (tg_preV hw hK hSD hA (ci := 8) (q := (RX8, TX8, 13)) rfl h_vu_1 rfl) rfl rfl hl.1 rfl (lv_room (Nat.le_of_ble_eq_true rfl)) dX9_drawn_46 ⟨Nat.le_of_ble_eq_true rfl, Nat.le_of_ble_eq_true rfl⟩) hw hA ⟨by decide, by decide⟩ (fun v_7 ws H locs hp_v_7 hw hF9 => ?_)
        have m_v_4 := AEL.over hw8 hF9 h_vu_3 m_v_4 (by decide)
        have m_u_1 := FLD.over hF9 m_u_1 (by decide)
        have m_u_3 := FLD.over hF9 m_u_3 (by decide)
        have m_u_5 := FLD.over hF9 m_u_5 (by decide)
        have x_GWX_p0_gdq := GWX.over hF9 x_GWX_p0_gdq (by decide)
        have x_GQ_gdq_gdg := GQ.over hF9 x_GQ_gdq_gdg (by decide)
        have x_HE_gdq_gdg_gdo_gdA_gdB_true_false := HE.over hF9 x_HE_gdq_gdg_gdo_gdA_gdB_true_false (by decide)
        have r_v_7 : RI v_7 (-2147483648) 2147483647 := hp_v_7.1
        have hw8 := hw
        refine tk_i (va_runV (As := [.int v_7]) (rest := []) ⟨hx, hb, hml, hown, hts⟩ (c_X9_keptIfSome__1 l D cy z H.size Ps ws hw.1 p0 v_7 (gdq) (gdg) (gdo) (gdA) (gdB) (false) h_p0 r_v_7 x_GWX_p0_gdq x_GQ_gdq_gdg x_HE_gdq_gdg_gdo_gdA_gdB_true_false) (cwV 1 hts (gV tw_709 tw_711 ts_17 tw_1 tw_712) rfl rfl rfl (by decide +kernel) ⟨Nat.le_of_ble_eq_true rfl, Nat.le_of_ble_eq_true rfl⟩) (tg_preV hw hK hSD hA (ci := 9) (q := (RX9, TX9, 15)) rfl h_p0 rfl) rfl rfl hl.1 rfl (lv_room (Nat.le_of_ble_eq_true rfl)) dX9_drawn_49 ⟨Nat.le_of_ble_eq_true rfl, Nat.le_of_ble_eq_true rfl⟩) hw hA ⟨by decide, by decide⟩ (fun v_8 ws H locs hp_v_8 hw hF9 => ?_)
        have m_v_4 := AEL.over hw8 hF9 h_vu_3 m_v_4 (by decide)
        have m_u_1 := FLD.over hF9 m_u_1 (by decide)
        have m_u_3 := FLD.over hF9 m_u_3 (by decide)
        have m_u_5 := FLD.over hF9 m_u_5 (by decide)
        have x_GWX_p0_gdq := GWX.over hF9 x_GWX_p0_gdq (by decide)
        have x_GQ_gdq_gdg := GQ.over hF9 x_GQ_gdq_gdg (by decide)
        have r_v_8 : RI v_8 (-2147483648) 2147483647 := hp_v_8.1
        have x_HE_gdq_gdg_gdo_gdA_gdB_false_false := hp_v_8.2.2.2.1.1
        subst hQ
        exact W.iret (v := v_8) hx hb hr (fun t ht hW => ⟨⟨v_8, ws, rfl, ⟨⟨r_v_8.to (by decide), (fun h0 => trivial), (fun h0 => trivial), ⟨x_HE_gdq_gdg_gdo_gdA_gdB_false_false, trivial⟩, (fun _ => trivial), (fun _ => trivial)⟩, hw.1, hw.2.2.2.2.1⟩, by rw [ht]; exact hw.2.1, va_K.moved hW.alike hK, hw.2.2.1⟩, hw.2.2.2.1.F ht⟩) hw.2.2.2.1.2.2 dX9_drawn_52
      · have r_v_4 : RI v_4 0 0 := rc_eq1 r_v_4 rl_0 (ti_eq c_23) (by decide)
        refine lv_iconst (v := (-1)) hx hb dX9_drawn_26 (by decide) ?_
        subst hQ
        exact W.iret (v := (-1)) hx hb hr (fun t ht hW => ⟨⟨(-1), w0, rfl, ⟨⟨rl_m1.to (by decide), (fun _ => trivial), (fun h0 => trivial), ⟨x_HE_gdq_gdg_gdo_gdA_gdB_false_false, trivial⟩, (fun _ => trivial), (fun _ => trivial)⟩, hw.1, hw.2.2.2.2.1⟩, by rw [ht]; exact hw.2.1, va_K.moved hW.alike hK, hw.2.2.1⟩, hw.2.2.2.1.F ht⟩) hw.2.2.2.1.2.2 dX9_drawn_27
abbrev wr_X9_guess__1 : List (Nat × Nat) := [(1, 1), (1, 2), (8, 0), (8, 1)]
abbrev wa_X9_guess__1 : List Nat := [8, 9, 10, 11, 12, 13]
set_option maxHeartbeats 4000000 in
set_option maxRecDepth 100000 in
theorem c_X9_guess__1 (l : Launch) (D : va_G) (cy : Nat → ClassId) (z : Nat → Nat) (sz : Nat) (Ps : PSI) (w0 : va_W) (hT : HT cy GG Ps w0) (p0 : Nat) (p1 : Int32) (p2 : Int32) (gdq : Nat → Nat) (gdg : Nat → Nat) (gdo : OS) (gdA : OS) (gdB : OS) (h_p0 : (p0, 33) ∈ Ps) (r_p1 : RI p1 (-2147483648) 2147483647) (r_p2 : RI p2 (-2147483648) 2147483647) (x_GWX_p0_gdq : GWX w0 p0 gdq) (x_GQ_gdq_gdg : GQ Ps w0 gdq gdg) (x_HE_gdq_gdg_gdo_gdA_gdB_false_false : HE Ps w0 gdq gdg gdo gdA gdB false false) : Met l yX9_guess (Cond.code yX9_guess cX9_guess 4 (some .int) :: gT) ({ frames := 5, cells := 0, slots := 0, locals := 1000 } : Room) (va_Pc [.ref p0, .int p1, .int p2] (PRE D cy z w0 sz)) (va_Qi (fun (r : Int32) (u : va_W) => (RI r (-3) 1 ∧ (r = 0 → True) ∧ (¬ r = 0 → True) ∧ (HE Ps u gdq gdg gdo gdA gdB false false ∧ True) ∧ (r.toInt < 0 → True) ∧ (0 ≤ r.toInt → True)) ∧ HT cy GG Ps u ∧ FR wr_X9_guess__1 wa_X9_guess__1 Ps w0 u) (BB D cy (va_A w0 sz) (fun (u : va_W) => u)) (va_A w0 sz)) 0 0 (va_A w0 sz) := by
  refine Met.ofW (cc := cX9_guess) (maxL := 4) (ret := (some .int)) (by decide) rfl ?_
  intro p e s m args below meth c s₁ B hml hv
  obtain ⟨rfl, hsz, hP, hK, hD0, hSD⟩ := hv
  have hx := B.exec
  have hb := B.bytes
  have hr := B.returns
  have hlocks := B.notSynchronized
  have hts : ∀ w ∈ gT, w.before _ s = true := fun w h => atoms_spec (ws := Cond.code yX9_guess cX9_guess 4 (some .int) :: gT) B.pre w (List.mem_cons_of_mem _ h)
  have hown : s.vm.findClass RX9 = some m.cls := findClass_of_methodNamed B.named
  subst hsz
  have hD := hD0.self (sz := s.heap.size)
  generalize hAe : va_A w0 s.heap.size = A at hD hSD ⊢
  have hA : ∀ q : Nat, s.heap.size ≤ q → A q := fun q h => by rw [← hAe]; exact Or.inr h
  have hl := lv_entry ([.ref p0, .int p1, .int p2]) (n := 4) (Nat.le_of_ble_eq_true rfl)
  rw [lg_entry_eq]
  generalize (lg_sl ([.ref p0, .int p1, .int p2]) ++ List.replicate (4 - (lg_sl ([.ref p0, .int p1, .int p2])).length) Slot.unset).toArray = ls at hl ⊢
  have hl : lv_has ls 4 [(0, .ref p0), (1, .int p1), (2, .int p2)] := hl
  refine nameQ (fun Q hQ => ?_)
  have hw : WD D cy GG A s wr_X9_guess__1 wa_X9_guess__1 Ps w0 Ps w0 s.heap [] := ⟨hT, hP, hD, va_S.rf, FR.rf, hT.1, [], (List.append_nil _).symm⟩
  refine lv_aload_n hx hb dX9_guess_0 rfl (lv_at hl 0 rfl) ?_
  refine lv_iconst (v := 3) hx hb dX9_guess_1 (by decide) ?_
  refine lv_iload_n hx hb dX9_guess_2 rfl (lv_at hl 1 rfl) ?_
  refine tk_ir (va_runV (As := [.int 3, .int p1]) (rest := []) ⟨hx, hb, hml, hown, hts⟩ (c_X9_isOf__2 l D cy z s.heap.size Ps w0 hw.1 p0 3 p1 h_p0 rl_3 r_p1) (cwV 2 hts (gV tw_540 tw_542 ts_10 tw_1 tw_543) rfl rfl rfl (by decide +kernel) ⟨Nat.le_of_ble_eq_true rfl, Nat.le_of_ble_eq_true rfl⟩) (tg_preV hw hK hSD hA (ci := 9) (q := (RX9, TX9, 15)) rfl h_p0 rfl) rfl rfl hl.1 rfl (lv_room (Nat.le_of_ble_eq_true rfl)) dX9_guess_3 ⟨Nat.le_of_ble_eq_true rfl, Nat.le_of_ble_eq_true rfl⟩) hw hA (fun v_1  H locs hp_v_1 hw => ?_)
  have r_v_1 : RI v_1 0 1 := hp_v_1.1
  refine lv_if_eq (tgt := 18) hx hb dX9_guess_6 (by decide) (fun c_6 => ?_) (fun c_6 => ?_)
  · have r_v_1 : RI v_1 0 0 := rc_eq1 r_v_1 rl_0 (ti_eq c_6) (by decide)
    refine lv_iconst (v := (-1)) hx hb dX9_guess_18 (by decide) ?_
    subst hQ
    exact W.iret (v := (-1)) hx hb hr (fun t ht hW => ⟨⟨(-1), w0, rfl, ⟨⟨rl_m1.to (by decide), (fun _ => trivial), (fun h0 => trivial), ⟨x_HE_gdq_gdg_gdo_gdA_gdB_false_false, trivial⟩, (fun _ => trivial), (fun _ => trivial)⟩, hw.1, hw.2.2.2.2.1⟩, by rw [ht]; exact hw.2.1, va_K.moved hW.alike hK, hw.2.2.1⟩, hw.2.2.2.1.F ht⟩) hw.2.2.2.1.2.2 dX9_guess_19
  · have r_v_1 : RI v_1 1 1 := rc_neL r_v_1 rl_0 (ti_ne c_6) (by decide)
    have r_p1 : RI p1 0 7 := ((hp_v_1.2.2 c_6).1)
    refine lv_aload_n hx hb dX9_guess_9 rfl (lv_at hl 0 rfl) ?_
    refine lv_iconst (v := 0) hx hb dX9_guess_10 (by decide) ?_
    refine lv_iload_n hx hb dX9_guess_11 rfl (lv_at hl 2 rfl) ?_
    refine tk_ir (va_runV (As := [.int 0, .int p2]) (rest := []) ⟨hx, hb, hml, hown, hts⟩ (c_X9_isOf__3 l D cy z H.size Ps w0 hw.1 p0 0 p2 h_p0 rl_0 r_p2) (cwV 2 hts (gV tw_540 tw_542 ts_10 tw_1 tw_543) rfl rfl rfl (by decide +kernel) ⟨Nat.le_of_ble_eq_true rfl, Nat.le_of_ble_eq_true rfl⟩) (tg_preV hw hK hSD hA (ci := 9) (q := (RX9, TX9, 15)) rfl h_p0 rfl) rfl rfl hl.1 rfl (lv_room (Nat.le_of_ble_eq_true rfl)) dX9_guess_12 ⟨Nat.le_of_ble_eq_true rfl, Nat.le_of_ble_eq_true rfl⟩) hw hA (fun v_2  H locs hp_v_2 hw => ?_)
    have r_v_2 : RI v_2 0 1 := hp_v_2.1
    refine lv_if_ne (tgt := 20) hx hb dX9_guess_15 (by decide) (fun c_15 => ?_) (fun c_15 => ?_)
    · have r_v_2 : RI v_2 1 1 := rc_neL r_v_2 rl_0 (ti_ne c_15) (by decide)
      have r_p2 : RI p2 0 5 := ((hp_v_2.2.2 c_15).1)
      refine lv_aload_n hx hb dX9_guess_20 rfl (lv_at hl 0 rfl) ?_
      refine tg_get (ci := 9) (ts := ty_WP) (C := RX9) (T := TX9) (N := 15) hx hb hts inX9 hown hK hw h_p0 rfl rfl 1 (by decide) (hts _ tw_347) (fun _ h9 => h9) (ft := vR 24) rfl dX9_guess_21 (fun u_3 hv_u_3 m_u_3 => ?_)
      obtain ⟨vu_3, rfl, h_vu_3⟩ := hv_u_3
      refine lv_iload_n hx hb dX9_guess_24 rfl (lv_at hl 1 rfl) ?_
      refine tk_ir (va_runV (As := [.int p1]) (rest := []) ⟨hx, hb, hml, hown, hts⟩ (c_X8_whyNoGuess l D cy z H.size Ps w0 hw.1 vu_3 p1 h_vu_3 r_p1) (cwV 1 hts (gV tw_644 tw_645 tw_646 tw_12 tw_647) rfl rfl rfl (by decide +kernel) ⟨Nat.le_of_ble_eq_true rfl, Nat.le_of_ble_eq_true rfl⟩) (tg_preV hw hK hSD hA (ci := 8) (q := (RX8, TX8, 13)) rfl h_vu_3 rfl) rfl rfl hl.1 rfl (lv_room (Nat.le_of_ble_eq_true rfl)) dX9_guess_25 ⟨Nat.le_of_ble_eq_true rfl, Nat.le_of_ble_eq_true rfl⟩) hw hA (fun v_4  H locs hp_v_4 hw => ?_)
      have r_v_4 : RI v_4 0 2 := hp_v_4.1
      refine lv_istore_n (lv' := [(3, .int v_4), (0, .ref p0), (1, .int p1), (2, .int p2)]) hx hb dX9_guess_28 rfl hl (by decide) rfl (fun ls hl => ?_)
      refine lv_iload_n hx hb dX9_guess_29 rfl (lv_at hl 0 rfl) ?_
      refine lv_if_eq (tgt := 37) hx hb dX9_guess_30 (by decide) (fun c_30 => ?_) (fun c_30 => ?_)
      · have r_v_4 : RI v_4 0 0 := rc_eq1 r_v_4 rl_0 (ti_eq c_30) (by decide)
        refine lv_aload_n hx hb dX9_guess_37 rfl (lv_at hl 1 rfl) ?_
        refine tg_get (ci := 9) (ts := ty_WP) (C := RX9) (T := TX9) (N := 15) hx hb hts inX9 hown hK hw h_p0 rfl rfl 3 (by decide) (hts _ tw_349) (fun _ h9 => h9) (ft := vR 27) rfl dX9_guess_38 (fun u_5 hv_u_5 m_u_5 => ?_)
        obtain ⟨vu_5, rfl, h_vu_5⟩ := hv_u_5
        refine lv_aload_n hx hb dX9_guess_41 rfl (lv_at hl 1 rfl) ?_
        refine tg_mem (ci := 9) (C := RX9) (T := TX9) (N := 15) hx hb hts inX9 hown hK hw 1 m_u_3 rfl (by decide) (hts _ tw_347) (fun _ h9 => h9) dX9_guess_42 ?_
        have x_AT_vu_5_gdq_2 : (vu_5 = gdq 2) := GWX.hi hw.2.2.1 x_GWX_p0_gdq m_u_5
        have x_AT_vu_3_gdq_0 : (vu_3 = gdq 0) := GWX.wo hw.2.2.1 x_GWX_p0_gdq m_u_3
        refine tk_v (va_runV (As := [.ref vu_3]) (rest := []) ⟨hx, hb, hml, hown, hts⟩ (c_X1_prepare__1 l D cy z H.size Ps w0 hw.1 vu_5 vu_3 (gdq) (gdg) (gdo) (gdA) (gdB) (false) (false) h_vu_5 h_vu_3 x_AT_vu_5_gdq_2 x_AT_vu_3_gdq_0 x_GQ_gdq_gdg x_HE_gdq_gdg_gdo_gdA_gdB_false_false) (cwV 1 hts (gV tw_606 tw_607 tw_608 tw_13 tw_609) rfl rfl rfl (by decide +kernel) ⟨Nat.le_of_ble_eq_true rfl, Nat.le_of_ble_eq_true rfl⟩) (tg_preV hw hK hSD hA (ci := 1) (q := (RX1, TX1, 3)) rfl h_vu_5 rfl) rfl rfl hl.1 rfl (lv_room (Nat.le_of_ble_eq_true rfl)) dX9_guess_45 ⟨Nat.le_of_ble_eq_true rfl, Nat.le_of_ble_eq_true rfl⟩) hw hA ⟨by decide, by decide⟩ (fun ws H locs hp_v_6 hw hF9 => ?_)
        have m_u_3 := FLD.over hF9 m_u_3 (by decide)
        have m_u_5 := FLD.over hF9 m_u_5 (by decide)
        have x_GWX_p0_gdq := GWX.over hF9 x_GWX_p0_gdq (by decide)
        have x_GQ_gdq_gdg := GQ.over hF9 x_GQ_gdq_gdg (by decide)
        have x_HE_gdq_gdg_gdo_gdA_gdB_true_false := (hp_v_6.1)
        refine lv_aload_n hx hb dX9_guess_48 rfl (lv_at hl 1 rfl) ?_
        refine tg_mem (ci := 9) (C := RX9) (T := TX9) (N := 15) hx hb hts inX9 hown hK hw 3 m_u_5 rfl (by decide) (hts _ tw_349) (fun _ h9 => h9) dX9_guess_49 ?_
        refine tk_v (va_runV (As := []) (rest := []) ⟨hx, hb, hml, hown, hts⟩ (c_X1_keep__1 l D cy z H.size Ps ws hw.1 vu_5 (gdq) (gdg) (gdo) (gdA) (gdB) (false) h_vu_5 x_AT_vu_5_gdq_2 x_HE_gdq_gdg_gdo_gdA_gdB_true_false) (cwV 0 hts (gV tw_619 tw_620 tw_621 tw_13 tw_622) rfl rfl rfl (by decide +kernel) ⟨Nat.le_of_ble_eq_true rfl, Nat.le_of_ble_eq_true rfl⟩) (tg_preV hw hK hSD hA (ci := 1) (q := (RX1, TX1, 3)) rfl h_vu_5 rfl) rfl rfl hl.1 rfl (lv_room (Nat.le_of_ble_eq_true rfl)) dX9_guess_52 ⟨Nat.le_of_ble_eq_true rfl, Nat.le_of_ble_eq_true rfl⟩) hw hA ⟨by decide, by decide⟩ (fun ws H locs hp_v_7 hw hF9 => ?_)
        have m_u_3 := FLD.over hF9 m_u_3 (by decide)
        have m_u_5 := FLD.over hF9 m_u_5 (by decide)
        have x_GWX_p0_gdq := GWX.over hF9 x_GWX_p0_gdq (by decide)
        have x_GQ_gdq_gdg := GQ.over hF9 x_GQ_gdq_gdg (by decide)
        have x_HE_gdq_gdg_gdo_gdA_gdB_false_false := (hp_v_7.1)
        refine lv_aload_n hx hb dX9_guess_55 rfl (lv_at hl 1 rfl) ?_
        refine tg_mem (ci := 9) (C := RX9) (T := TX9) (N := 15) hx hb hts inX9 hown hK hw 1 m_u_3 rfl (by decide) (hts _ tw_347) (fun _ h9 => h9) dX9_guess_56 ?_
        refine lv_iload_n hx hb dX9_guess_59 rfl (lv_at hl 2 rfl) ?_
        refine lv_iload_n hx hb dX9_guess_60 rfl (lv_at hl 3 rfl) ?_
        refine tk_i (va_runV (As := [.int p1, .int p2]) (rest := []) ⟨hx, hb, hml, hown, hts⟩ (c_X8_guessAt l D cy z H.size Ps ws hw.1 vu_3 p1 p2 h_vu_3 r_p1 r_p2) (cwV 2 hts (gV tw_648 tw_649 tw_650 tw_12 tw_651) rfl rfl rfl (by decide +kernel) ⟨Nat.le_of_ble_eq_true rfl, Nat.le_of_ble_eq_true rfl⟩) (tg_preV hw hK hSD hA (ci := 8) (q := (RX8, TX8, 13)) rfl h_vu_3 rfl) rfl rfl hl.1 rfl (lv_room (Nat.le_of_ble_eq_true rfl)) dX9_guess_61 ⟨Nat.le_of_ble_eq_true rfl, Nat.le_of_ble_eq_true rfl⟩) hw hA ⟨by decide, by decide⟩ (fun v_8 ws H locs hp_v_8 hw hF9 => ?_)
        have m_u_3 := FLD.over hF9 m_u_3 (by decide)
        have m_u_5 := FLD.over hF9 m_u_5 (by decide)
        have x_GWX_p0_gdq := GWX.over hF9 x_GWX_p0_gdq (by decide)
        have x_GQ_gdq_gdg := GQ.over hF9 x_GQ_gdq_gdg (by decide)
        have x_HE_gdq_gdg_gdo_gdA_gdB_false_false := HE.over hF9 x_HE_gdq_gdg_gdo_gdA_gdB_false_false (by decide)
        have r_v_8 : RI v_8 0 1 := hp_v_8.1
        refine lv_if_eq (tgt := 71) hx hb dX9_guess_64 (by decide) (fun c_64 => ?_) (fun c_64 => ?_)
        · have r_v_8 : RI v_8 0 0 := rc_eq1 r_v_8 rl_0 (ti_eq c_64) (by decide)
          refine lv_iconst (v := 0) hx hb dX9_guess_71 (by decide) ?_
          subst hQ
          exact W.iret (v := 0) hx hb hr (fun t ht hW => ⟨⟨0, ws, rfl, ⟨⟨rl_0.to (by decide), (fun h0 => trivial), (fun _ => trivial), ⟨x_HE_gdq_gdg_gdo_gdA_gdB_false_false, trivial⟩, (fun _ => trivial), (fun _ => trivial)⟩, hw.1, hw.2.2.2.2.1⟩, by rw [ht]; exact hw.2.1, va_K.moved hW.alike hK, hw.2.2.1⟩, hw.2.2.2.1.F ht⟩) hw.2.2.2.1.2.2 dX9_guess_72
        · have r_v_8 : RI v_8 1 1 := rc_neL r_v_8 rl_0 (ti_ne c_64) (by decide)
          refine lv_iconst (v := 1) hx hb dX9_guess_67 (by decide) ?_
          refine lv_goto (tgt := 72) hx hb dX9_guess_68 (by decide) ?_
          subst hQ
          exact W.iret (v := 1) hx hb hr (fun t ht hW => ⟨⟨1, ws, rfl, ⟨⟨rl_1.to (by decide), (fun _ => trivial), (fun h0 => trivial), ⟨x_HE_gdq_gdg_gdo_gdA_gdB_false_false, trivial⟩, (fun _ => trivial), (fun _ => trivial)⟩, hw.1, hw.2.2.2.2.1⟩, by rw [ht]; exact hw.2.1, va_K.moved hW.alike hK, hw.2.2.1⟩, hw.2.2.2.1.F ht⟩) hw.2.2.2.1.2.2 dX9_guess_72
      · have r_v_4 : RI v_4 1 2 := rc_neL r_v_4 rl_0 (ti_ne c_30) (by decide)
        refine lv_iconst (v := (-1)) hx hb dX9_guess_33 (by decide) ?_
        refine lv_iload_n hx hb dX9_guess_34 rfl (lv_at hl 0 rfl) ?_
        refine lv_isub hx hb dX9_guess_35 (lv_topi (fun v_9 e_v_9 => ?_))
        obtain ⟨t_v_9, r_v_9⟩ := tq_sub (lo := (-3)) (hi := (-2)) rl_m1 r_v_4 (by decide +kernel) e_v_9
        have t_v_9 : v_9.toInt = (-1) - v_4.toInt := t_v_9
        subst hQ
        exact W.iret (v := v_9) hx hb hr (fun t ht hW => ⟨⟨v_9, w0, rfl, ⟨⟨r_v_9.to (by decide), (fun _ => trivial), (fun h0 => trivial), ⟨x_HE_gdq_gdg_gdo_gdA_gdB_false_false, trivial⟩, (fun _ => trivial), (fun _ => trivial)⟩, hw.1, hw.2.2.2.2.1⟩, by rw [ht]; exact hw.2.1, va_K.moved hW.alike hK, hw.2.2.1⟩, hw.2.2.2.1.F ht⟩) hw.2.2.2.1.2.2 dX9_guess_36
    · have r_v_2 : RI v_2 0 0 := rc_eq1 r_v_2 rl_0 (ti_eq c_15) (by decide)
      refine lv_iconst (v := (-1)) hx hb dX9_guess_18 (by decide) ?_
      subst hQ
      exact W.iret (v := (-1)) hx hb hr (fun t ht hW => ⟨⟨(-1), w0, rfl, ⟨⟨rl_m1.to (by decide), (fun _ => trivial), (fun h0 => trivial), ⟨x_HE_gdq_gdg_gdo_gdA_gdB_false_false, trivial⟩, (fun _ => trivial), (fun _ => trivial)⟩, hw.1, hw.2.2.2.2.1⟩, by rw [ht]; exact hw.2.1, va_K.moved hW.alike hK, hw.2.2.1⟩, hw.2.2.2.1.F ht⟩) hw.2.2.2.1.2.2 dX9_guess_19
abbrev wr_X9_let__1 : List (Nat × Nat) := [(8, 0), (8, 1)]
abbrev wa_X9_let__1 : List Nat := [8, 9, 10, 11, 12, 13]
set_option maxHeartbeats 4000000 in
set_option maxRecDepth 100000 in
theorem c_X9_let__1 (l : Launch) (D : va_G) (cy : Nat → ClassId) (z : Nat → Nat) (sz : Nat) (Ps : PSI) (w0 : va_W) (hT : HT cy GG Ps w0) (p0 : Nat) (p1 : Int32) (gdq : Nat → Nat) (gdg : Nat → Nat) (gdo : OS) (gdA : OS) (gdB : OS) (h_p0 : (p0, 33) ∈ Ps) (r_p1 : RI p1 (-2147483648) 2147483647) (x_GWX_p0_gdq : GWX w0 p0 gdq) (x_GQ_gdq_gdg : GQ Ps w0 gdq gdg) (x_HE_gdq_gdg_gdo_gdA_gdB_false_false : HE Ps w0 gdq gdg gdo gdA gdB false false) : Met l yX9_let (Cond.code yX9_let cX9_let 3 (some .int) :: gT) ({ frames := 4, cells := 0, slots := 0, locals := 800 } : Room) (va_Pc [.ref p0, .int p1] (PRE D cy z w0 sz)) (va_Qi (fun (r : Int32) (u : va_W) => (RI r (-1) 594 ∧ (r = 0 → True) ∧ (¬ r = 0 → True) ∧ (HE Ps u gdq gdg gdo gdA gdB false false ∧ True) ∧ (r.toInt < 0 → True) ∧ (0 ≤ r.toInt → True)) ∧ HT cy GG Ps u ∧ FR wr_X9_let__1 wa_X9_let__1 Ps w0 u) (BB D cy (va_A w0 sz) (fun (u : va_W) => u)) (va_A w0 sz)) 0 0 (va_A w0 sz) := by
  refine Met.ofW (cc := cX9_let) (maxL := 3) (ret := (some .int)) (by decide) rfl ?_
  intro p e s m args below meth c s₁ B hml hv
  obtain ⟨rfl, hsz, hP, hK, hD0, hSD⟩ := hv
  have hx := B.exec
  have hb := B.bytes
  have hr := B.returns
  have hlocks := B.notSynchronized
  have hts : ∀ w ∈ gT, w.before _ s = true := fun w h => atoms_spec (ws := Cond.code yX9_let cX9_let 3 (some .int) :: gT) B.pre w (List.mem_cons_of_mem _ h)
  have hown : s.vm.findClass RX9 = some m.cls := findClass_of_methodNamed B.named
  subst hsz
  have hD := hD0.self (sz := s.heap.size)
  generalize hAe : va_A w0 s.heap.size = A at hD hSD ⊢
  have hA : ∀ q : Nat, s.heap.size ≤ q → A q := fun q h => by rw [← hAe]; exact Or.inr h
  have hl := lv_entry ([.ref p0, .int p1]) (n := 3) (Nat.le_of_ble_eq_true rfl)
  rw [lg_entry_eq]
  generalize (lg_sl ([.ref p0, .int p1]) ++ List.replicate (3 - (lg_sl ([.ref p0, .int p1])).length) Slot.unset).toArray = ls at hl ⊢
  have hl : lv_has ls 3 [(0, .ref p0), (1, .int p1)] := hl
  refine nameQ (fun Q hQ => ?_)
  have hw : WD D cy GG A s wr_X9_let__1 wa_X9_let__1 Ps w0 Ps w0 s.heap [] := ⟨hT, hP, hD, va_S.rf, FR.rf, hT.1, [], (List.append_nil _).symm⟩
  have B24 : ∀ (nf : Nat) (x2 : Int32) (ws : va_W) (H : Heap) (locs : List Loc) (ls : Array Slot), 594 - x2.toInt < (nf : Int) → RI p1 0 5 → RI x2 0 594 → GQ Ps ws gdq gdg → GWX ws p0 gdq → HE Ps ws gdq gdg gdo gdA gdB false false → WD D cy GG A s wr_X9_let__1 wa_X9_let__1 Ps w0 Ps ws H locs → lv_has ls 3 [(0, .ref p0), (1, .int p1), (2, .int x2)] → W p l e (headSpec (Cond.code yX9_let cX9_let 3 (some .int) :: gT) ({ frames := 4, cells := 0, slots := 0, locals := 800 } : Room)).room s m ([.ref p0, .int p1] : List Value).toArray below meth c H locs 0 0 Q (F0 m 24 ls []) := by
    intro nf24
    induction nf24 with
    | zero =>
      intro x2 ws H locs ls hn24 r_p1 r_x2 x_GQ_gdq_gdg x_GWX_p0_gdq x_HE_gdq_gdg_gdo_gdA_gdB_false_false hw hl
      exact absurd hn24 (by have q0 := r_x2.1; have u0 := r_x2.2; omega)
    | succ nf24 ih24 =>
      intro x2 ws H locs ls hn24 r_p1 r_x2 x_GQ_gdq_gdg x_GWX_p0_gdq x_HE_gdq_gdg_gdo_gdA_gdB_false_false hw hl
      refine lv_iload_n hx hb dX9_let_24 rfl (lv_at hl 2 rfl) ?_
      refine lv_sipush (v := 594) hx hb dX9_let_25 (by decide) ?_
      refine lv_icmp_ge (tgt := 65) hx hb dX9_let_28 (by decide) (fun c_28 => ?_) (fun c_28 => ?_)
      · have r_x2 : RI x2 594 594 := rc_le2 rl_594 r_x2 (ti_le c_28) (by decide)
        refine lv_iload_n hx hb dX9_let_65 rfl (lv_at hl 2 rfl) ?_
        subst hQ
        exact W.iret (v := x2) hx hb hr (fun t ht hW => ⟨⟨x2, ws, rfl, ⟨⟨r_x2.to (by decide), (fun _ => trivial), (fun h0 => trivial), ⟨x_HE_gdq_gdg_gdo_gdA_gdB_false_false, trivial⟩, (fun _ => trivial), (fun _ => trivial)⟩, hw.1, hw.2.2.2.2.1⟩, by rw [ht]; exact hw.2.1, va_K.moved hW.alike hK, hw.2.2.1⟩, hw.2.2.2.1.F ht⟩) hw.2.2.2.1.2.2 dX9_let_66
      · have r_x2 : RI x2 0 593 := rc_lt1 r_x2 rl_594 (ti_nle c_28) (by decide)
        refine lv_aload_n hx hb dX9_let_31 rfl (lv_at hl 0 rfl) ?_
        refine tg_get (ci := 9) (ts := ty_WP) (C := RX9) (T := TX9) (N := 15) hx hb hts inX9 hown hK hw h_p0 rfl rfl 2 (by decide) (hts _ tw_348) (fun _ h9 => h9) (ft := vR 24) rfl dX9_let_32 (fun u_1 hv_u_1 m_u_1 => ?_)
        obtain ⟨vu_1, rfl, h_vu_1⟩ := hv_u_1
        refine lv_iload_n hx hb dX9_let_35 rfl (lv_at hl 1 rfl) ?_
        refine tk_ir (va_runV (As := [.int p1]) (rest := []) ⟨hx, hb, hml, hown, hts⟩ (c_X8_isNow l D cy z H.size Ps ws hw.1 vu_1 p1 h_vu_1 r_p1) (cwV 1 hts (gV tw_783 tw_570 tw_571 tw_12 tw_572) rfl rfl rfl (by decide +kernel) ⟨Nat.le_of_ble_eq_true rfl, Nat.le_of_ble_eq_true rfl⟩) (tg_preV hw hK hSD hA (ci := 8) (q := (RX8, TX8, 13)) rfl h_vu_1 rfl) rfl rfl hl.1 rfl (lv_room (Nat.le_of_ble_eq_true rfl)) dX9_let_36 ⟨Nat.le_of_ble_eq_true rfl, Nat.le_of_ble_eq_true rfl⟩) hw hA (fun v_2  H locs hp_v_2 hw => ?_)
        have r_v_2 : RI v_2 (-1) 5 := hp_v_2.1
        by_cases c9_v_2 : v_2.toInt < 0
        · have r_v_2 : RI v_2 (-1) (-1) := by unfold RI at r_v_2 ⊢; omega
          have x_NBQ_vu_1_p1 := (hp_v_2.2.2.2.2.1 (by omega)).1
          refine lv_iconst (v := (-1)) hx hb dX9_let_39 (by decide) ?_
          refine lv_icmp_eq (tgt := 65) hx hb dX9_let_40 (by decide) (fun c_40 => ?_) (fun c_40 => ?_)
          · refine lv_iload_n hx hb dX9_let_65 rfl (lv_at hl 2 rfl) ?_
            subst hQ
            exact W.iret (v := x2) hx hb hr (fun t ht hW => ⟨⟨x2, ws, rfl, ⟨⟨r_x2.to (by decide), (fun h0 => trivial), (fun h0 => trivial), ⟨x_HE_gdq_gdg_gdo_gdA_gdB_false_false, trivial⟩, (fun _ => trivial), (fun _ => trivial)⟩, hw.1, hw.2.2.2.2.1⟩, by rw [ht]; exact hw.2.1, va_K.moved hW.alike hK, hw.2.2.1⟩, hw.2.2.2.1.F ht⟩) hw.2.2.2.1.2.2 dX9_let_66
          · exact absurd (r_v_2.eq.trans rl_m1.eq.symm) ((ti_ne c_40))
        · have r_v_2 : RI v_2 0 5 := by unfold RI at r_v_2 ⊢; omega
          have x_WBQ_vu_1_p1 := (hp_v_2.2.2.2.2.2 (by omega)).1
          refine lv_iconst (v := (-1)) hx hb dX9_let_39 (by decide) ?_
          refine lv_icmp_eq (tgt := 65) hx hb dX9_let_40 (by decide) (fun c_40 => ?_) (fun c_40 => ?_)
          · have r_v_2 : RI v_2 0 (-1) := rc_eq1 r_v_2 rl_m1 (ti_eq c_40) (by decide)
            exact (r_v_2.no (by decide)).elim
          · refine lv_aload_n hx hb dX9_let_43 rfl (lv_at hl 0 rfl) ?_
            refine tg_mem (ci := 9) (C := RX9) (T := TX9) (N := 15) hx hb hts inX9 hown hK hw 2 m_u_1 rfl (by decide) (hts _ tw_348) (fun _ h9 => h9) dX9_let_44 ?_
            refine lv_iload_n hx hb dX9_let_47 rfl (lv_at hl 1 rfl) ?_
            refine lv_aload_n hx hb dX9_let_48 rfl (lv_at hl 0 rfl) ?_
            refine tg_mem (ci := 9) (C := RX9) (T := TX9) (N := 15) hx hb hts inX9 hown hK hw 2 m_u_1 rfl (by decide) (hts _ tw_348) (fun _ h9 => h9) dX9_let_49 ?_
            refine lv_iload_n hx hb dX9_let_52 rfl (lv_at hl 1 rfl) ?_
            refine tk_ir (va_runV (As := [.int p1]) (rest := [.int p1, .ref vu_1]) ⟨hx, hb, hml, hown, hts⟩ (c_X8_isNow l D cy z H.size Ps ws hw.1 vu_1 p1 h_vu_1 r_p1) (cwV 1 hts (gV tw_783 tw_570 tw_571 tw_12 tw_572) rfl rfl rfl (by decide +kernel) ⟨Nat.le_of_ble_eq_true rfl, Nat.le_of_ble_eq_true rfl⟩) (tg_preV hw hK hSD hA (ci := 8) (q := (RX8, TX8, 13)) rfl h_vu_1 rfl) rfl rfl hl.1 rfl (lv_room (Nat.le_of_ble_eq_true rfl)) dX9_let_53 ⟨Nat.le_of_ble_eq_true rfl, Nat.le_of_ble_eq_true rfl⟩) hw hA (fun v_3  H locs hp_v_3 hw => ?_)
            have r_v_3 : RI v_3 (-1) 5 := hp_v_3.1
            by_cases c9_v_3 : v_3.toInt < 0
            · have r_v_3 : RI v_3 (-1) (-1) := by unfold RI at r_v_3 ⊢; omega
              have x_NBQ_vu_1_p1 := (hp_v_3.2.2.2.2.1 (by omega)).1
              exact (WX.no hw x_NBQ_vu_1_p1 x_WBQ_vu_1_p1).elim
            · have r_v_3 : RI v_3 0 5 := by unfold RI at r_v_3 ⊢; omega
              have x_WBQ_vu_1_p1 := (hp_v_3.2.2.2.2.2 (by omega)).1
              refine tk_v (va_runV (As := [.int p1, .int v_3]) (rest := []) ⟨hx, hb, hml, hown, hts⟩ (c_X8_lessBy l D cy z H.size Ps ws hw.1 vu_1 p1 v_3 h_vu_1 r_p1 r_v_3) (cwV 2 hts (gV tw_784 tw_653 tw_654 tw_12 tw_655) rfl rfl rfl (by decide +kernel) ⟨Nat.le_of_ble_eq_true rfl, Nat.le_of_ble_eq_true rfl⟩) (tg_preV hw hK hSD hA (ci := 8) (q := (RX8, TX8, 13)) rfl h_vu_1 rfl) rfl rfl hl.1 rfl (lv_room (Nat.le_of_ble_eq_true rfl)) dX9_let_56 ⟨Nat.le_of_ble_eq_true rfl, Nat.le_of_ble_eq_true rfl⟩) hw hA ⟨by decide, by decide⟩ (fun ws H locs hp_v_4 hw hF9 => ?_)
              have m_u_1 := FLD.over hF9 m_u_1 (by decide)
              have x_GQ_gdq_gdg := GQ.over hF9 x_GQ_gdq_gdg (by decide)
              have x_GWX_p0_gdq := GWX.over hF9 x_GWX_p0_gdq (by decide)
              have x_HE_gdq_gdg_gdo_gdA_gdB_false_false := HE.over hF9 x_HE_gdq_gdg_gdo_gdA_gdB_false_false (by decide)
              obtain ⟨v_5, e_v_5⟩ : ∃ q9 : Int32, q9 = x2 + Int32.ofInt 1 := ⟨_, rfl⟩
              obtain ⟨t_v_5, r_v_5⟩ := tq_add (lo := 1) (hi := 594) r_x2 (show RI (Int32.ofInt 1) 1 1 by unfold RI; decide +kernel) (by decide +kernel) e_v_5
              have t_v_5 : v_5.toInt = x2.toInt + 1 := t_v_5
              refine lv_iinc (v := v_5) (lv' := [(2, .int v_5), (0, .ref p0), (1, .int p1)]) hx hb dX9_let_59 hl (k := 2) rfl e_v_5.symm (by decide) rfl (fun ls hl => ?_)
              refine lv_goto (tgt := 24) hx hb dX9_let_62 (by decide) ?_
              exact ih24 v_5 ws _ _ ls (by have q0 := r_v_5.1; have u0 := r_v_5.2; have o0 := r_x2.1; have p0 := r_x2.2; omega) r_p1 (r_v_5.to (by decide)) x_GQ_gdq_gdg x_GWX_p0_gdq x_HE_gdq_gdg_gdo_gdA_gdB_false_false hw (lv_sub hl [1, 2, 0] rfl)
  refine lv_aload_n hx hb dX9_let_0 rfl (lv_at hl 0 rfl) ?_
  refine lv_iconst (v := 2) hx hb dX9_let_1 (by decide) ?_
  refine lv_iload_n hx hb dX9_let_2 rfl (lv_at hl 1 rfl) ?_
  refine tk_ir (va_runV (As := [.int 2, .int p1]) (rest := []) ⟨hx, hb, hml, hown, hts⟩ (c_X9_isOf l D cy z s.heap.size Ps w0 hw.1 p0 2 p1 h_p0 rl_2 r_p1) (cwV 2 hts (gV tw_540 tw_542 ts_10 tw_1 tw_543) rfl rfl rfl (by decide +kernel) ⟨Nat.le_of_ble_eq_true rfl, Nat.le_of_ble_eq_true rfl⟩) (tg_preV hw hK hSD hA (ci := 9) (q := (RX9, TX9, 15)) rfl h_p0 rfl) rfl rfl hl.1 rfl (lv_room (Nat.le_of_ble_eq_true rfl)) dX9_let_3 ⟨Nat.le_of_ble_eq_true rfl, Nat.le_of_ble_eq_true rfl⟩) hw hA (fun v_6  H locs hp_v_6 hw => ?_)
  have r_v_6 : RI v_6 0 1 := hp_v_6.1
  refine lv_if_ne (tgt := 11) hx hb dX9_let_6 (by decide) (fun c_6 => ?_) (fun c_6 => ?_)
  · have r_v_6 : RI v_6 1 1 := rc_neL r_v_6 rl_0 (ti_ne c_6) (by decide)
    have r_p1 : RI p1 0 5 := ((hp_v_6.2.2 c_6).1)
    refine lv_aload_n hx hb dX9_let_11 rfl (lv_at hl 0 rfl) ?_
    refine tg_get (ci := 9) (ts := ty_WP) (C := RX9) (T := TX9) (N := 15) hx hb hts inX9 hown hK hw h_p0 rfl rfl 2 (by decide) (hts _ tw_348) (fun _ h9 => h9) (ft := vR 24) rfl dX9_let_12 (fun u_7 hv_u_7 m_u_7 => ?_)
    obtain ⟨vu_7, rfl, h_vu_7⟩ := hv_u_7
    refine lv_aload_n hx hb dX9_let_15 rfl (lv_at hl 0 rfl) ?_
    refine tg_get (ci := 9) (ts := ty_WP) (C := RX9) (T := TX9) (N := 15) hx hb hts inX9 hown hK hw h_p0 rfl rfl 1 (by decide) (hts _ tw_347) (fun _ h9 => h9) (ft := vR 24) rfl dX9_let_16 (fun u_8 hv_u_8 m_u_8 => ?_)
    obtain ⟨vu_8, rfl, h_vu_8⟩ := hv_u_8
    have hD8 := hw.2.2.1
    refine tk_v (va_runV (As := [.ref vu_8]) (rest := []) ⟨hx, hb, hml, hown, hts⟩ (c_X8_takeFrom__1 l D cy z H.size Ps w0 hw.1 vu_7 vu_8 h_vu_7 h_vu_8) (cwV 1 hts (gV tw_521 tw_522 tw_523 tw_12 tw_524) rfl rfl rfl (by decide +kernel) ⟨Nat.le_of_ble_eq_true rfl, Nat.le_of_ble_eq_true rfl⟩) (tg_preV hw hK hSD hA (ci := 8) (q := (RX8, TX8, 13)) rfl h_vu_7 rfl) rfl rfl hl.1 rfl (lv_room (Nat.le_of_ble_eq_true rfl)) dX9_let_19 ⟨Nat.le_of_ble_eq_true rfl, Nat.le_of_ble_eq_true rfl⟩) hw hA ⟨by decide, by decide⟩ (fun ws H locs hp_v_9 hw hF9 => ?_)
    have m_u_7 := FLD.over hF9 m_u_7 (by decide)
    have m_u_8 := FLD.over hF9 m_u_8 (by decide)
    have x_GWX_p0_gdq := GWX.over hF9 x_GWX_p0_gdq (by decide)
    have x_GQ_gdq_gdg := GQ.over hF9 x_GQ_gdq_gdg (by decide)
    have x_TKF_vu_7_vu_8 := (hp_v_9.1)
    have x_HE_gdq_gdg_gdo_gdA_gdB_false_false : HE Ps ws gdq gdg gdo gdA gdB false false := HE.weak (fun e9 => e9) (fun e9 => by cases e9) (HE.trial hD8 hF9 (by decide) x_GQ_gdq_gdg.2.2.2.2.2 x_HE_gdq_gdg_gdo_gdA_gdB_false_false (by rw [← GWX.tr hw.2.2.1 x_GWX_p0_gdq m_u_7, ← GWX.wo hw.2.2.1 x_GWX_p0_gdq m_u_8]; exact x_TKF_vu_7_vu_8))
    refine lv_iconst (v := 0) hx hb dX9_let_22 (by decide) ?_
    refine lv_istore_n (lv' := [(2, .int 0), (0, .ref p0), (1, .int p1)]) hx hb dX9_let_23 rfl hl (by decide) rfl (fun ls hl => ?_)
    exact B24 4294967298 0 ws _ _ ls (by have q0 := rl_0.1; have u0 := rl_0.2; omega) r_p1 (rl_0.to (by decide)) x_GQ_gdq_gdg x_GWX_p0_gdq x_HE_gdq_gdg_gdo_gdA_gdB_false_false hw (lv_sub hl [1, 2, 0] rfl)
  · have r_v_6 : RI v_6 0 0 := rc_eq1 r_v_6 rl_0 (ti_eq c_6) (by decide)
    refine lv_iconst (v := (-1)) hx hb dX9_let_9 (by decide) ?_
    subst hQ
    exact W.iret (v := (-1)) hx hb hr (fun t ht hW => ⟨⟨(-1), w0, rfl, ⟨⟨rl_m1.to (by decide), (fun _ => trivial), (fun h0 => trivial), ⟨x_HE_gdq_gdg_gdo_gdA_gdB_false_false, trivial⟩, (fun _ => trivial), (fun _ => trivial)⟩, hw.1, hw.2.2.2.2.1⟩, by rw [ht]; exact hw.2.1, va_K.moved hW.alike hK, hw.2.2.1⟩, hw.2.2.2.1.F ht⟩) hw.2.2.2.1.2.2 dX9_let_10
abbrev wr_X9_odds__1 : List (Nat × Nat) := [(8, 0), (8, 1), (8, 12)]
abbrev wa_X9_odds__1 : List Nat := [8, 9, 10, 11, 12, 13, 14]
set_option maxHeartbeats 4000000 in
set_option maxRecDepth 100000 in
theorem c_X9_odds__1 (l : Launch) (D : va_G) (cy : Nat → ClassId) (z : Nat → Nat) (sz : Nat) (Ps : PSI) (w0 : va_W) (hT : HT cy GG Ps w0) (p0 : Nat) (p1 : Int32) (p2 : Int32) (p3 : Int32) (p4 : Int32) (gdq : Nat → Nat) (gdg : Nat → Nat) (gdo : OS) (gdA : OS) (gdB : OS) (h_p0 : (p0, 33) ∈ Ps) (r_p1 : RI p1 (-2147483648) 2147483647) (r_p2 : RI p2 (-2147483648) 2147483647) (r_p3 : RI p3 (-2147483648) 2147483647) (r_p4 : RI p4 (-2147483648) 2147483647) (x_GWX_p0_gdq : GWX w0 p0 gdq) (x_GQ_gdq_gdg : GQ Ps w0 gdq gdg) (x_HE_gdq_gdg_gdo_gdA_gdB_false_false : HE Ps w0 gdq gdg gdo gdA gdB false false) : Met l yX9_odds (Cond.code yX9_odds cX9_odds 7 (some .int) :: gT) ({ frames := 6, cells := 0, slots := 0, locals := 1200 } : Room) (va_Pc [.ref p0, .int p1, .int p2, .int p3, .int p4] (PRE D cy z w0 sz)) (va_Qi (fun (r : Int32) (u : va_W) => (RI r (-2147483648) 2147483647 ∧ (r = 0 → True) ∧ (¬ r = 0 → True) ∧ (HE Ps u gdq gdg gdo gdA gdB false false ∧ True) ∧ (r.toInt < 0 → True) ∧ (0 ≤ r.toInt → True)) ∧ HT cy GG Ps u ∧ FR wr_X9_odds__1 wa_X9_odds__1 Ps w0 u) (BB D cy (va_A w0 sz) (fun (u : va_W) => u)) (va_A w0 sz)) 0 0 (va_A w0 sz) := by
  refine Met.ofW (cc := cX9_odds) (maxL := 7) (ret := (some .int)) (by decide) rfl ?_
  intro p e s m args below meth c s₁ B hml hv
  obtain ⟨rfl, hsz, hP, hK, hD0, hSD⟩ := hv
  have hx := B.exec
  have hb := B.bytes
  have hr := B.returns
  have hlocks := B.notSynchronized
  have hts : ∀ w ∈ gT, w.before _ s = true := fun w h => atoms_spec (ws := Cond.code yX9_odds cX9_odds 7 (some .int) :: gT) B.pre w (List.mem_cons_of_mem _ h)
  have hown : s.vm.findClass RX9 = some m.cls := findClass_of_methodNamed B.named
  subst hsz
  have hD := hD0.self (sz := s.heap.size)
  generalize hAe : va_A w0 s.heap.size = A at hD hSD ⊢
  have hA : ∀ q : Nat, s.heap.size ≤ q → A q := fun q h => by rw [← hAe]; exact Or.inr h
  have hl := lv_entry ([.ref p0, .int p1, .int p2, .int p3, .int p4]) (n := 7) (Nat.le_of_ble_eq_true rfl)
  rw [lg_entry_eq]
  generalize (lg_sl ([.ref p0, .int p1, .int p2, .int p3, .int p4]) ++ List.replicate (7 - (lg_sl ([.ref p0, .int p1, .int p2, .int p3, .int p4])).length) Slot.unset).toArray = ls at hl ⊢
  have hl : lv_has ls 7 [(0, .ref p0), (1, .int p1), (2, .int p2), (3, .int p3), (4, .int p4)] := hl
  refine nameQ (fun Q hQ => ?_)
  have hw : WD D cy GG A s wr_X9_odds__1 wa_X9_odds__1 Ps w0 Ps w0 s.heap [] := ⟨hT, hP, hD, va_S.rf, FR.rf, hT.1, [], (List.append_nil _).symm⟩
  have B37 : ∀ (nf : Nat) (x5 : Int32) (x6 : Int32) (ws : va_W) (H : Heap) (locs : List Loc) (ls : Array Slot), 30 - x6.toInt < (nf : Int) → RI p1 0 5 → RI p2 0 5 → RI p3 1 30 → RI p4 (-2147483648) 2147483647 → RI x5 (-2147483648) 2147483647 → RI x6 0 30 → GQ Ps ws gdq gdg → GWX ws p0 gdq → HE Ps ws gdq gdg gdo gdA gdB false false → WD D cy GG A s wr_X9_odds__1 wa_X9_odds__1 Ps w0 Ps ws H locs → lv_has ls 7 [(0, .ref p0), (1, .int p1), (2, .int p2), (3, .int p3), (4, .int p4), (5, .int x5), (6, .int x6)] → W p l e (headSpec (Cond.code yX9_odds cX9_odds 7 (some .int) :: gT) ({ frames := 6, cells := 0, slots := 0, locals := 1200 } : Room)).room s m ([.ref p0, .int p1, .int p2, .int p3, .int p4] : List Value).toArray below meth c H locs 0 0 Q (F0 m 37 ls []) := by
    intro nf37
    induction nf37 with
    | zero =>
      intro x5 x6 ws H locs ls hn37 r_p1 r_p2 r_p3 r_p4 r_x5 r_x6 x_GQ_gdq_gdg x_GWX_p0_gdq x_HE_gdq_gdg_gdo_gdA_gdB_false_false hw hl
      exact absurd hn37 (by have q0 := r_x6.1; have u0 := r_x6.2; omega)
    | succ nf37 ih37 =>
      intro x5 x6 ws H locs ls hn37 r_p1 r_p2 r_p3 r_p4 r_x5 r_x6 x_GQ_gdq_gdg x_GWX_p0_gdq x_HE_gdq_gdg_gdo_gdA_gdB_false_false hw hl
      refine lv_iload hx hb dX9_odds_37 (lv_at hl 6 rfl) ?_
      refine lv_iload_n hx hb dX9_odds_39 rfl (lv_at hl 3 rfl) ?_
      refine lv_icmp_ge (tgt := 90) hx hb dX9_odds_40 (by decide) (fun c_40 => ?_) (fun c_40 => ?_)
      · have r_x6 : RI x6 1 30 := rc_le2 r_p3 r_x6 (ti_le c_40) (by decide)
        refine lv_iload hx hb dX9_odds_90 (lv_at hl 5 rfl) ?_
        subst hQ
        exact W.iret (v := x5) hx hb hr (fun t ht hW => ⟨⟨x5, ws, rfl, ⟨⟨r_x5.to (by decide), (fun h0 => trivial), (fun h0 => trivial), ⟨x_HE_gdq_gdg_gdo_gdA_gdB_false_false, trivial⟩, (fun _ => trivial), (fun _ => trivial)⟩, hw.1, hw.2.2.2.2.1⟩, by rw [ht]; exact hw.2.1, va_K.moved hW.alike hK, hw.2.2.1⟩, hw.2.2.2.1.F ht⟩) hw.2.2.2.1.2.2 dX9_odds_92
      · have r_x6 : RI x6 0 29 := rc_lt1 r_x6 r_p3 (ti_nle c_40) (by decide)
        refine lv_aload_n hx hb dX9_odds_43 rfl (lv_at hl 0 rfl) ?_
        refine tg_get (ci := 9) (ts := ty_WP) (C := RX9) (T := TX9) (N := 15) hx hb hts inX9 hown hK hw h_p0 rfl rfl 2 (by decide) (hts _ tw_348) (fun _ h9 => h9) (ft := vR 24) rfl dX9_odds_44 (fun u_1 hv_u_1 m_u_1 => ?_)
        obtain ⟨vu_1, rfl, h_vu_1⟩ := hv_u_1
        refine lv_aload_n hx hb dX9_odds_47 rfl (lv_at hl 0 rfl) ?_
        refine tg_get (ci := 9) (ts := ty_WP) (C := RX9) (T := TX9) (N := 15) hx hb hts inX9 hown hK hw h_p0 rfl rfl 1 (by decide) (hts _ tw_347) (fun _ h9 => h9) (ft := vR 24) rfl dX9_odds_48 (fun u_2 hv_u_2 m_u_2 => ?_)
        obtain ⟨vu_2, rfl, h_vu_2⟩ := hv_u_2
        have hD8 := hw.2.2.1
        refine tk_v (va_runV (As := [.ref vu_2]) (rest := []) ⟨hx, hb, hml, hown, hts⟩ (c_X8_takeFrom__1 l D cy z H.size Ps ws hw.1 vu_1 vu_2 h_vu_1 h_vu_2) (cwV 1 hts (gV tw_521 tw_522 tw_523 tw_12 tw_524) rfl rfl rfl (by decide +kernel) ⟨Nat.le_of_ble_eq_true rfl, Nat.le_of_ble_eq_true rfl⟩) (tg_preV hw hK hSD hA (ci := 8) (q := (RX8, TX8, 13)) rfl h_vu_1 rfl) rfl rfl hl.1 rfl (lv_room (Nat.le_of_ble_eq_true rfl)) dX9_odds_51 ⟨Nat.le_of_ble_eq_true rfl, Nat.le_of_ble_eq_true rfl⟩) hw hA ⟨by decide, by decide⟩ (fun ws H locs hp_v_3 hw hF9 => ?_)
        have m_u_1 := FLD.over hF9 m_u_1 (by decide)
        have m_u_2 := FLD.over hF9 m_u_2 (by decide)
        have x_GQ_gdq_gdg := GQ.over hF9 x_GQ_gdq_gdg (by decide)
        have x_GWX_p0_gdq := GWX.over hF9 x_GWX_p0_gdq (by decide)
        have x_TKF_vu_1_vu_2 := (hp_v_3.1)
        have x_HE_gdq_gdg_gdo_gdA_gdB_false_false : HE Ps ws gdq gdg gdo gdA gdB false false := HE.weak (fun e9 => e9) (fun e9 => by cases e9) (HE.trial hD8 hF9 (by decide) x_GQ_gdq_gdg.2.2.2.2.2 x_HE_gdq_gdg_gdo_gdA_gdB_false_false (by rw [← GWX.tr hw.2.2.1 x_GWX_p0_gdq m_u_1, ← GWX.wo hw.2.2.1 x_GWX_p0_gdq m_u_2]; exact x_TKF_vu_1_vu_2))
        refine lv_aload_n hx hb dX9_odds_54 rfl (lv_at hl 0 rfl) ?_
        refine tg_mem (ci := 9) (C := RX9) (T := TX9) (N := 15) hx hb hts inX9 hown hK hw 2 m_u_1 rfl (by decide) (hts _ tw_348) (fun _ h9 => h9) dX9_odds_55 ?_
        refine lv_bipush (v := 20) hx hb dX9_odds_58 (by decide) ?_
        refine lv_iload hx hb dX9_odds_60 (lv_at hl 4 rfl) ?_
        refine lv_iload hx hb dX9_odds_62 (lv_at hl 6 rfl) ?_
        refine lv_iadd hx hb dX9_odds_64 (lv_topi (fun v_4 e_v_4 => ?_))
        have r_v_4 := ri_any v_4
        refine tk_i (va_runV (As := [.int 20, .int v_4]) (rest := []) ⟨hx, hb, hml, hown, hts⟩ (c_X8_drawDays l D cy z H.size Ps ws hw.1 vu_1 20 v_4 h_vu_1 (rl_20.to (by decide)) r_v_4) (cwV 2 hts (gV tw_862 tw_863 tw_864 tw_12 tw_865) rfl rfl rfl (by decide +kernel) ⟨Nat.le_of_ble_eq_true rfl, Nat.le_of_ble_eq_true rfl⟩) (tg_preV hw hK hSD hA (ci := 8) (q := (RX8, TX8, 13)) rfl h_vu_1 rfl) rfl rfl hl.1 rfl (lv_room (Nat.le_of_ble_eq_true rfl)) dX9_odds_65 ⟨Nat.le_of_ble_eq_true rfl, Nat.le_of_ble_eq_true rfl⟩) hw hA ⟨by decide, by decide⟩ (fun v_5 ws H locs hp_v_5 hw hF9 => ?_)
        have m_u_1 := FLD.over hF9 m_u_1 (by decide)
        have m_u_2 := FLD.over hF9 m_u_2 (by decide)
        have x_GQ_gdq_gdg := GQ.over hF9 x_GQ_gdq_gdg (by decide)
        have x_GWX_p0_gdq := GWX.over hF9 x_GWX_p0_gdq (by decide)
        have x_HE_gdq_gdg_gdo_gdA_gdB_false_false := HE.over hF9 x_HE_gdq_gdg_gdo_gdA_gdB_false_false (by decide)
        have r_v_5 : RI v_5 (-2147483648) 2147483647 := hp_v_5.1
        refine lv_pop hx hb dX9_odds_68 rfl ?_
        refine lv_aload_n hx hb dX9_odds_69 rfl (lv_at hl 0 rfl) ?_
        refine tg_mem (ci := 9) (C := RX9) (T := TX9) (N := 15) hx hb hts inX9 hown hK hw 2 m_u_1 rfl (by decide) (hts _ tw_348) (fun _ h9 => h9) dX9_odds_70 ?_
        refine lv_iload_n hx hb dX9_odds_73 rfl (lv_at hl 1 rfl) ?_
        refine tk_ir (va_runV (As := [.int p1]) (rest := []) ⟨hx, hb, hml, hown, hts⟩ (c_X8_isNow l D cy z H.size Ps ws hw.1 vu_1 p1 h_vu_1 r_p1) (cwV 1 hts (gV tw_783 tw_570 tw_571 tw_12 tw_572) rfl rfl rfl (by decide +kernel) ⟨Nat.le_of_ble_eq_true rfl, Nat.le_of_ble_eq_true rfl⟩) (tg_preV hw hK hSD hA (ci := 8) (q := (RX8, TX8, 13)) rfl h_vu_1 rfl) rfl rfl hl.1 rfl (lv_room (Nat.le_of_ble_eq_true rfl)) dX9_odds_74 ⟨Nat.le_of_ble_eq_true rfl, Nat.le_of_ble_eq_true rfl⟩) hw hA (fun v_6  H locs hp_v_6 hw => ?_)
        have r_v_6 : RI v_6 (-1) 5 := hp_v_6.1
        by_cases c9_v_6 : v_6.toInt < 0
        · have r_v_6 : RI v_6 (-1) (-1) := by unfold RI at r_v_6 ⊢; omega
          have x_NBQ_vu_1_p1 := (hp_v_6.2.2.2.2.1 (by omega)).1
          refine lv_iload_n hx hb dX9_odds_77 rfl (lv_at hl 2 rfl) ?_
          refine lv_icmp_ne (tgt := 84) hx hb dX9_odds_78 (by decide) (fun c_78 => ?_) (fun c_78 => ?_)
          · obtain ⟨v_7, e_v_7⟩ : ∃ q9 : Int32, q9 = x6 + Int32.ofInt 1 := ⟨_, rfl⟩
            obtain ⟨t_v_7, r_v_7⟩ := tq_add (lo := 1) (hi := 30) r_x6 (show RI (Int32.ofInt 1) 1 1 by unfold RI; decide +kernel) (by decide +kernel) e_v_7
            have t_v_7 : v_7.toInt = x6.toInt + 1 := t_v_7
            refine lv_iinc (v := v_7) (lv' := [(6, .int v_7), (0, .ref p0), (1, .int p1), (2, .int p2), (3, .int p3), (4, .int p4), (5, .int x5)]) hx hb dX9_odds_84 hl (k := 6) rfl e_v_7.symm (by decide) rfl (fun ls hl => ?_)
            refine lv_goto (tgt := 37) hx hb dX9_odds_87 (by decide) ?_
            exact ih37 x5 v_7 ws _ _ ls (by have q0 := r_v_7.1; have u0 := r_v_7.2; have o0 := r_x6.1; have p0 := r_x6.2; omega) r_p1 r_p2 r_p3 r_p4 r_x5 (r_v_7.to (by decide)) x_GQ_gdq_gdg x_GWX_p0_gdq x_HE_gdq_gdg_gdo_gdA_gdB_false_false hw (lv_sub hl [1, 2, 3, 4, 5, 6, 0] rfl)
          · have r_v_6 : RI v_6 0 (-1) := rc_eq1 r_v_6 r_p2 (ti_eq c_78) (by decide)
            have r_p2 : RI p2 0 (-1) := rc_eq2 r_v_6 r_p2 (ti_eq c_78) (by decide)
            exact (r_v_6.no (by decide)).elim
        · have r_v_6 : RI v_6 0 5 := by unfold RI at r_v_6 ⊢; omega
          have x_WBQ_vu_1_p1 := (hp_v_6.2.2.2.2.2 (by omega)).1
          refine lv_iload_n hx hb dX9_odds_77 rfl (lv_at hl 2 rfl) ?_
          refine lv_icmp_ne (tgt := 84) hx hb dX9_odds_78 (by decide) (fun c_78 => ?_) (fun c_78 => ?_)
          · obtain ⟨v_8, e_v_8⟩ : ∃ q9 : Int32, q9 = x6 + Int32.ofInt 1 := ⟨_, rfl⟩
            obtain ⟨t_v_8, r_v_8⟩ := tq_add (lo := 1) (hi := 30) r_x6 (show RI (Int32.ofInt 1) 1 1 by unfold RI; decide +kernel) (by decide +kernel) e_v_8
            have t_v_8 : v_8.toInt = x6.toInt + 1 := t_v_8
            refine lv_iinc (v := v_8) (lv' := [(6, .int v_8), (0, .ref p0), (1, .int p1), (2, .int p2), (3, .int p3), (4, .int p4), (5, .int x5)]) hx hb dX9_odds_84 hl (k := 6) rfl e_v_8.symm (by decide) rfl (fun ls hl => ?_)
            refine lv_goto (tgt := 37) hx hb dX9_odds_87 (by decide) ?_
            exact ih37 x5 v_8 ws _ _ ls (by have q0 := r_v_8.1; have u0 := r_v_8.2; have o0 := r_x6.1; have p0 := r_x6.2; omega) r_p1 r_p2 r_p3 r_p4 r_x5 (r_v_8.to (by decide)) x_GQ_gdq_gdg x_GWX_p0_gdq x_HE_gdq_gdg_gdo_gdA_gdB_false_false hw (lv_sub hl [1, 2, 3, 4, 5, 6, 0] rfl)
          · obtain ⟨v_9, e_v_9⟩ : ∃ q9 : Int32, q9 = x5 + Int32.ofInt 1 := ⟨_, rfl⟩
            have r_v_9 := ri_any v_9
            refine lv_iinc (v := v_9) (lv' := [(5, .int v_9), (0, .ref p0), (1, .int p1), (2, .int p2), (3, .int p3), (4, .int p4), (6, .int x6)]) hx hb dX9_odds_81 hl (k := 5) rfl e_v_9.symm (by decide) rfl (fun ls hl => ?_)
            obtain ⟨v_10, e_v_10⟩ : ∃ q9 : Int32, q9 = x6 + Int32.ofInt 1 := ⟨_, rfl⟩
            obtain ⟨t_v_10, r_v_10⟩ := tq_add (lo := 1) (hi := 30) r_x6 (show RI (Int32.ofInt 1) 1 1 by unfold RI; decide +kernel) (by decide +kernel) e_v_10
            have t_v_10 : v_10.toInt = x6.toInt + 1 := t_v_10
            refine lv_iinc (v := v_10) (lv' := [(6, .int v_10), (5, .int v_9), (0, .ref p0), (1, .int p1), (2, .int p2), (3, .int p3), (4, .int p4)]) hx hb dX9_odds_84 hl (k := 6) rfl e_v_10.symm (by decide) rfl (fun ls hl => ?_)
            refine lv_goto (tgt := 37) hx hb dX9_odds_87 (by decide) ?_
            exact ih37 v_9 v_10 ws _ _ ls (by have q0 := r_v_10.1; have u0 := r_v_10.2; have o0 := r_x6.1; have p0 := r_x6.2; omega) r_p1 r_p2 r_p3 r_p4 r_v_9 (r_v_10.to (by decide)) x_GQ_gdq_gdg x_GWX_p0_gdq x_HE_gdq_gdg_gdo_gdA_gdB_false_false hw (lv_sub hl [2, 3, 4, 5, 6, 1, 0] rfl)
  refine lv_aload_n hx hb dX9_odds_0 rfl (lv_at hl 0 rfl) ?_
  refine lv_iconst (v := 2) hx hb dX9_odds_1 (by decide) ?_
  refine lv_iload_n hx hb dX9_odds_2 rfl (lv_at hl 1 rfl) ?_
  refine tk_ir (va_runV (As := [.int 2, .int p1]) (rest := []) ⟨hx, hb, hml, hown, hts⟩ (c_X9_isOf l D cy z s.heap.size Ps w0 hw.1 p0 2 p1 h_p0 rl_2 r_p1) (cwV 2 hts (gV tw_540 tw_542 ts_10 tw_1 tw_543) rfl rfl rfl (by decide +kernel) ⟨Nat.le_of_ble_eq_true rfl, Nat.le_of_ble_eq_true rfl⟩) (tg_preV hw hK hSD hA (ci := 9) (q := (RX9, TX9, 15)) rfl h_p0 rfl) rfl rfl hl.1 rfl (lv_room (Nat.le_of_ble_eq_true rfl)) dX9_odds_3 ⟨Nat.le_of_ble_eq_true rfl, Nat.le_of_ble_eq_true rfl⟩) hw hA (fun v_11  H locs hp_v_11 hw => ?_)
  have r_v_11 : RI v_11 0 1 := hp_v_11.1
  refine lv_if_eq (tgt := 29) hx hb dX9_odds_6 (by decide) (fun c_6 => ?_) (fun c_6 => ?_)
  · have r_v_11 : RI v_11 0 0 := rc_eq1 r_v_11 rl_0 (ti_eq c_6) (by decide)
    refine lv_iconst (v := (-1)) hx hb dX9_odds_29 (by decide) ?_
    subst hQ
    exact W.iret (v := (-1)) hx hb hr (fun t ht hW => ⟨⟨(-1), w0, rfl, ⟨⟨rl_m1.to (by decide), (fun _ => trivial), (fun h0 => trivial), ⟨x_HE_gdq_gdg_gdo_gdA_gdB_false_false, trivial⟩, (fun _ => trivial), (fun _ => trivial)⟩, hw.1, hw.2.2.2.2.1⟩, by rw [ht]; exact hw.2.1, va_K.moved hW.alike hK, hw.2.2.1⟩, hw.2.2.2.1.F ht⟩) hw.2.2.2.1.2.2 dX9_odds_30
  · have r_v_11 : RI v_11 1 1 := rc_neL r_v_11 rl_0 (ti_ne c_6) (by decide)
    have r_p1 : RI p1 0 5 := ((hp_v_11.2.2 c_6).1)
    refine lv_aload_n hx hb dX9_odds_9 rfl (lv_at hl 0 rfl) ?_
    refine lv_iconst (v := 0) hx hb dX9_odds_10 (by decide) ?_
    refine lv_iload_n hx hb dX9_odds_11 rfl (lv_at hl 2 rfl) ?_
    refine tk_ir (va_runV (As := [.int 0, .int p2]) (rest := []) ⟨hx, hb, hml, hown, hts⟩ (c_X9_isOf__3 l D cy z H.size Ps w0 hw.1 p0 0 p2 h_p0 rl_0 r_p2) (cwV 2 hts (gV tw_540 tw_542 ts_10 tw_1 tw_543) rfl rfl rfl (by decide +kernel) ⟨Nat.le_of_ble_eq_true rfl, Nat.le_of_ble_eq_true rfl⟩) (tg_preV hw hK hSD hA (ci := 9) (q := (RX9, TX9, 15)) rfl h_p0 rfl) rfl rfl hl.1 rfl (lv_room (Nat.le_of_ble_eq_true rfl)) dX9_odds_12 ⟨Nat.le_of_ble_eq_true rfl, Nat.le_of_ble_eq_true rfl⟩) hw hA (fun v_12  H locs hp_v_12 hw => ?_)
    have r_v_12 : RI v_12 0 1 := hp_v_12.1
    refine lv_if_eq (tgt := 29) hx hb dX9_odds_15 (by decide) (fun c_15 => ?_) (fun c_15 => ?_)
    · have r_v_12 : RI v_12 0 0 := rc_eq1 r_v_12 rl_0 (ti_eq c_15) (by decide)
      refine lv_iconst (v := (-1)) hx hb dX9_odds_29 (by decide) ?_
      subst hQ
      exact W.iret (v := (-1)) hx hb hr (fun t ht hW => ⟨⟨(-1), w0, rfl, ⟨⟨rl_m1.to (by decide), (fun _ => trivial), (fun h0 => trivial), ⟨x_HE_gdq_gdg_gdo_gdA_gdB_false_false, trivial⟩, (fun _ => trivial), (fun _ => trivial)⟩, hw.1, hw.2.2.2.2.1⟩, by rw [ht]; exact hw.2.1, va_K.moved hW.alike hK, hw.2.2.1⟩, hw.2.2.2.1.F ht⟩) hw.2.2.2.1.2.2 dX9_odds_30
    · have r_v_12 : RI v_12 1 1 := rc_neL r_v_12 rl_0 (ti_ne c_15) (by decide)
      have r_p2 : RI p2 0 5 := ((hp_v_12.2.2 c_15).1)
      refine lv_iload_n hx hb dX9_odds_18 rfl (lv_at hl 3 rfl) ?_
      refine lv_iconst (v := 1) hx hb dX9_odds_19 (by decide) ?_
      refine lv_icmp_lt (tgt := 29) hx hb dX9_odds_20 (by decide) (fun c_20 => ?_) (fun c_20 => ?_)
      · have r_p3 : RI p3 (-2147483648) 0 := rc_lt1 r_p3 rl_1 (ti_lt c_20) (by decide)
        refine lv_iconst (v := (-1)) hx hb dX9_odds_29 (by decide) ?_
        subst hQ
        exact W.iret (v := (-1)) hx hb hr (fun t ht hW => ⟨⟨(-1), w0, rfl, ⟨⟨rl_m1.to (by decide), (fun _ => trivial), (fun h0 => trivial), ⟨x_HE_gdq_gdg_gdo_gdA_gdB_false_false, trivial⟩, (fun _ => trivial), (fun _ => trivial)⟩, hw.1, hw.2.2.2.2.1⟩, by rw [ht]; exact hw.2.1, va_K.moved hW.alike hK, hw.2.2.1⟩, hw.2.2.2.1.F ht⟩) hw.2.2.2.1.2.2 dX9_odds_30
      · have r_p3 : RI p3 1 2147483647 := rc_le2 rl_1 r_p3 (ti_nlt c_20) (by decide)
        refine lv_iload_n hx hb dX9_odds_23 rfl (lv_at hl 3 rfl) ?_
        refine lv_bipush (v := 30) hx hb dX9_odds_24 (by decide) ?_
        refine lv_icmp_le (tgt := 31) hx hb dX9_odds_26 (by decide) (fun c_26 => ?_) (fun c_26 => ?_)
        · have r_p3 : RI p3 1 30 := rc_le1 r_p3 rl_30 (ti_le c_26) (by decide)
          refine lv_iconst (v := 0) hx hb dX9_odds_31 (by decide) ?_
          refine lv_istore (lv' := [(5, .int 0), (0, .ref p0), (1, .int p1), (2, .int p2), (3, .int p3), (4, .int p4)]) hx hb dX9_odds_32 hl (by decide) rfl (fun ls hl => ?_)
          refine lv_iconst (v := 0) hx hb dX9_odds_34 (by decide) ?_
          refine lv_istore (lv' := [(6, .int 0), (5, .int 0), (0, .ref p0), (1, .int p1), (2, .int p2), (3, .int p3), (4, .int p4)]) hx hb dX9_odds_35 hl (by decide) rfl (fun ls hl => ?_)
          exact B37 4294967298 0 0 w0 _ _ ls (by have q0 := rl_0.1; have u0 := rl_0.2; omega) r_p1 r_p2 r_p3 r_p4 (rl_0.to (by decide)) (rl_0.to (by decide)) x_GQ_gdq_gdg x_GWX_p0_gdq x_HE_gdq_gdg_gdo_gdA_gdB_false_false hw (lv_sub hl [2, 3, 4, 5, 6, 1, 0] rfl)
        · have r_p3 : RI p3 31 2147483647 := rc_lt2 rl_30 r_p3 (ti_nle c_26) (by decide)
          refine lv_iconst (v := (-1)) hx hb dX9_odds_29 (by decide) ?_
          subst hQ
          exact W.iret (v := (-1)) hx hb hr (fun t ht hW => ⟨⟨(-1), w0, rfl, ⟨⟨rl_m1.to (by decide), (fun _ => trivial), (fun h0 => trivial), ⟨x_HE_gdq_gdg_gdo_gdA_gdB_false_false, trivial⟩, (fun _ => trivial), (fun _ => trivial)⟩, hw.1, hw.2.2.2.2.1⟩, by rw [ht]; exact hw.2.1, va_K.moved hW.alike hK, hw.2.2.1⟩, hw.2.2.2.1.F ht⟩) hw.2.2.2.1.2.2 dX9_odds_30
abbrev wr_X9_open__1 : List (Nat × Nat) := [(1, 1), (1, 2), (8, 0), (8, 1)]
abbrev wa_X9_open__1 : List Nat := [8, 9, 10, 11, 12, 13]
set_option maxHeartbeats 4000000 in
set_option maxRecDepth 100000 in
theorem c_X9_open__1 (l : Launch) (D : va_G) (cy : Nat → ClassId) (z : Nat → Nat) (sz : Nat) (Ps : PSI) (w0 : va_W) (hT : HT cy GG Ps w0) (p0 : Nat) (p1 : Int32) (gdq : Nat → Nat) (gdg : Nat → Nat) (gdo : OS) (gdA : OS) (gdB : OS) (h_p0 : (p0, 33) ∈ Ps) (r_p1 : RI p1 (-2147483648) 2147483647) (x_GWX_p0_gdq : GWX w0 p0 gdq) (x_GQ_gdq_gdg : GQ Ps w0 gdq gdg) (x_HE_gdq_gdg_gdo_gdA_gdB_false_false : HE Ps w0 gdq gdg gdo gdA gdB false false) : Met l yX9_open (Cond.code yX9_open cX9_open 2 (some .int) :: gT) ({ frames := 4, cells := 0, slots := 0, locals := 800 } : Room) (va_Pc [.ref p0, .int p1] (PRE D cy z w0 sz)) (va_Qi (fun (r : Int32) (u : va_W) => (RI r (-2147483648) 2147483647 ∧ (r = 0 → True) ∧ (¬ r = 0 → True) ∧ (HE Ps u gdq gdg gdo gdA gdB false false ∧ True) ∧ (r.toInt < 0 → True) ∧ (0 ≤ r.toInt → True)) ∧ HT cy GG Ps u ∧ FR wr_X9_open__1 wa_X9_open__1 Ps w0 u) (BB D cy (va_A w0 sz) (fun (u : va_W) => u)) (va_A w0 sz)) 0 0 (va_A w0 sz) := by
  refine Met.ofW (cc := cX9_open) (maxL := 2) (ret := (some .int)) (by decide) rfl ?_
  intro p e s m args below meth c s₁ B hml hv
  obtain ⟨rfl, hsz, hP, hK, hD0, hSD⟩ := hv
  have hx := B.exec
  have hb := B.bytes
  have hr := B.returns
  have hlocks := B.notSynchronized
  have hts : ∀ w ∈ gT, w.before _ s = true := fun w h => atoms_spec (ws := Cond.code yX9_open cX9_open 2 (some .int) :: gT) B.pre w (List.mem_cons_of_mem _ h)
  have hown : s.vm.findClass RX9 = some m.cls := findClass_of_methodNamed B.named
  subst hsz
  have hD := hD0.self (sz := s.heap.size)
  generalize hAe : va_A w0 s.heap.size = A at hD hSD ⊢
  have hA : ∀ q : Nat, s.heap.size ≤ q → A q := fun q h => by rw [← hAe]; exact Or.inr h
  have hl := lv_entry ([.ref p0, .int p1]) (n := 2) (Nat.le_of_ble_eq_true rfl)
  rw [lg_entry_eq]
  generalize (lg_sl ([.ref p0, .int p1]) ++ List.replicate (2 - (lg_sl ([.ref p0, .int p1])).length) Slot.unset).toArray = ls at hl ⊢
  have hl : lv_has ls 2 [(0, .ref p0), (1, .int p1)] := hl
  refine nameQ (fun Q hQ => ?_)
  have hw : WD D cy GG A s wr_X9_open__1 wa_X9_open__1 Ps w0 Ps w0 s.heap [] := ⟨hT, hP, hD, va_S.rf, FR.rf, hT.1, [], (List.append_nil _).symm⟩
  refine lv_aload_n hx hb dX9_open_0 rfl (lv_at hl 0 rfl) ?_
  refine lv_iconst (v := 2) hx hb dX9_open_1 (by decide) ?_
  refine lv_iload_n hx hb dX9_open_2 rfl (lv_at hl 1 rfl) ?_
  refine tk_ir (va_runV (As := [.int 2, .int p1]) (rest := []) ⟨hx, hb, hml, hown, hts⟩ (c_X9_isOf l D cy z s.heap.size Ps w0 hw.1 p0 2 p1 h_p0 rl_2 r_p1) (cwV 2 hts (gV tw_540 tw_542 ts_10 tw_1 tw_543) rfl rfl rfl (by decide +kernel) ⟨Nat.le_of_ble_eq_true rfl, Nat.le_of_ble_eq_true rfl⟩) (tg_preV hw hK hSD hA (ci := 9) (q := (RX9, TX9, 15)) rfl h_p0 rfl) rfl rfl hl.1 rfl (lv_room (Nat.le_of_ble_eq_true rfl)) dX9_open_3 ⟨Nat.le_of_ble_eq_true rfl, Nat.le_of_ble_eq_true rfl⟩) hw hA (fun v_1  H locs hp_v_1 hw => ?_)
  have r_v_1 : RI v_1 0 1 := hp_v_1.1
  refine lv_if_ne (tgt := 11) hx hb dX9_open_6 (by decide) (fun c_6 => ?_) (fun c_6 => ?_)
  · have r_v_1 : RI v_1 1 1 := rc_neL r_v_1 rl_0 (ti_ne c_6) (by decide)
    have r_p1 : RI p1 0 5 := ((hp_v_1.2.2 c_6).1)
    refine lv_aload_n hx hb dX9_open_11 rfl (lv_at hl 0 rfl) ?_
    refine tg_get (ci := 9) (ts := ty_WP) (C := RX9) (T := TX9) (N := 15) hx hb hts inX9 hown hK hw h_p0 rfl rfl 3 (by decide) (hts _ tw_349) (fun _ h9 => h9) (ft := vR 27) rfl dX9_open_12 (fun u_2 hv_u_2 m_u_2 => ?_)
    obtain ⟨vu_2, rfl, h_vu_2⟩ := hv_u_2
    refine lv_aload_n hx hb dX9_open_15 rfl (lv_at hl 0 rfl) ?_
    refine tg_get (ci := 9) (ts := ty_WP) (C := RX9) (T := TX9) (N := 15) hx hb hts inX9 hown hK hw h_p0 rfl rfl 1 (by decide) (hts _ tw_347) (fun _ h9 => h9) (ft := vR 24) rfl dX9_open_16 (fun u_3 hv_u_3 m_u_3 => ?_)
    obtain ⟨vu_3, rfl, h_vu_3⟩ := hv_u_3
    have x_AT_vu_2_gdq_2 : (vu_2 = gdq 2) := GWX.hi hw.2.2.1 x_GWX_p0_gdq m_u_2
    have x_AT_vu_3_gdq_0 : (vu_3 = gdq 0) := GWX.wo hw.2.2.1 x_GWX_p0_gdq m_u_3
    refine tk_v (va_runV (As := [.ref vu_3]) (rest := []) ⟨hx, hb, hml, hown, hts⟩ (c_X1_prepare__1 l D cy z H.size Ps w0 hw.1 vu_2 vu_3 (gdq) (gdg) (gdo) (gdA) (gdB) (false) (false) h_vu_2 h_vu_3 x_AT_vu_2_gdq_2 x_AT_vu_3_gdq_0 x_GQ_gdq_gdg x_HE_gdq_gdg_gdo_gdA_gdB_false_false) (cwV 1 hts (gV tw_606 tw_607 tw_608 tw_13 tw_609) rfl rfl rfl (by decide +kernel) ⟨Nat.le_of_ble_eq_true rfl, Nat.le_of_ble_eq_true rfl⟩) (tg_preV hw hK hSD hA (ci := 1) (q := (RX1, TX1, 3)) rfl h_vu_2 rfl) rfl rfl hl.1 rfl (lv_room (Nat.le_of_ble_eq_true rfl)) dX9_open_19 ⟨Nat.le_of_ble_eq_true rfl, Nat.le_of_ble_eq_true rfl⟩) hw hA ⟨by decide, by decide⟩ (fun ws H locs hp_v_4 hw hF9 => ?_)
    have m_u_2 := FLD.over hF9 m_u_2 (by decide)
    have m_u_3 := FLD.over hF9 m_u_3 (by decide)
    have x_GWX_p0_gdq := GWX.over hF9 x_GWX_p0_gdq (by decide)
    have x_GQ_gdq_gdg := GQ.over hF9 x_GQ_gdq_gdg (by decide)
    have x_HE_gdq_gdg_gdo_gdA_gdB_true_false := (hp_v_4.1)
    refine lv_aload_n hx hb dX9_open_22 rfl (lv_at hl 0 rfl) ?_
    refine lv_aload_n hx hb dX9_open_23 rfl (lv_at hl 0 rfl) ?_
    refine tg_mem (ci := 9) (C := RX9) (T := TX9) (N := 15) hx hb hts inX9 hown hK hw 1 m_u_3 rfl (by decide) (hts _ tw_347) (fun _ h9 => h9) dX9_open_24 ?_
    refine lv_iload_n hx hb dX9_open_27 rfl (lv_at hl 1 rfl) ?_
    refine tk_i (va_runV (As := [.int p1]) (rest := [.ref p0]) ⟨hx, hb, hml, hown, hts⟩ (c_X8_openUp l D cy z H.size Ps ws hw.1 vu_3 p1 h_vu_3 r_p1) (cwV 1 hts (gV tw_661 tw_662 tw_663 tw_12 tw_664) rfl rfl rfl (by decide +kernel) ⟨Nat.le_of_ble_eq_true rfl, Nat.le_of_ble_eq_true rfl⟩) (tg_preV hw hK hSD hA (ci := 8) (q := (RX8, TX8, 13)) rfl h_vu_3 rfl) rfl rfl hl.1 rfl (lv_room (Nat.le_of_ble_eq_true rfl)) dX9_open_28 ⟨Nat.le_of_ble_eq_true rfl, Nat.le_of_ble_eq_true rfl⟩) hw hA ⟨by decide, by decide⟩ (fun v_5 ws H locs hp_v_5 hw hF9 => ?_)
    have m_u_2 := FLD.over hF9 m_u_2 (by decide)
    have m_u_3 := FLD.over hF9 m_u_3 (by decide)
    have x_GWX_p0_gdq := GWX.over hF9 x_GWX_p0_gdq (by decide)
    have x_GQ_gdq_gdg := GQ.over hF9 x_GQ_gdq_gdg (by decide)
    have x_HE_gdq_gdg_gdo_gdA_gdB_true_false := HE.over hF9 x_HE_gdq_gdg_gdo_gdA_gdB_true_false (by decide)
    have r_v_5 : RI v_5 0 1 := hp_v_5.1
    refine tk_i (va_runV (As := [.int v_5]) (rest := []) ⟨hx, hb, hml, hown, hts⟩ (c_X9_keptIfDone__1 l D cy z H.size Ps ws hw.1 p0 v_5 (gdq) (gdg) (gdo) (gdA) (gdB) (false) h_p0 (r_v_5.to (by decide)) x_GWX_p0_gdq x_GQ_gdq_gdg x_HE_gdq_gdg_gdo_gdA_gdB_true_false) (cwV 1 hts (gV tw_615 tw_617 ts_12 tw_1 tw_618) rfl rfl rfl (by decide +kernel) ⟨Nat.le_of_ble_eq_true rfl, Nat.le_of_ble_eq_true rfl⟩) (tg_preV hw hK hSD hA (ci := 9) (q := (RX9, TX9, 15)) rfl h_p0 rfl) rfl rfl hl.1 rfl (lv_room (Nat.le_of_ble_eq_true rfl)) dX9_open_31 ⟨Nat.le_of_ble_eq_true rfl, Nat.le_of_ble_eq_true rfl⟩) hw hA ⟨by decide, by decide⟩ (fun v_6 ws H locs hp_v_6 hw hF9 => ?_)
    have m_u_2 := FLD.over hF9 m_u_2 (by decide)
    have m_u_3 := FLD.over hF9 m_u_3 (by decide)
    have x_GWX_p0_gdq := GWX.over hF9 x_GWX_p0_gdq (by decide)
    have x_GQ_gdq_gdg := GQ.over hF9 x_GQ_gdq_gdg (by decide)
    have r_v_6 : RI v_6 (-2147483648) 2147483647 := hp_v_6.1
    have x_HE_gdq_gdg_gdo_gdA_gdB_false_false := hp_v_6.2.2.2.1.1
    subst hQ
    exact W.iret (v := v_6) hx hb hr (fun t ht hW => ⟨⟨v_6, ws, rfl, ⟨⟨r_v_6.to (by decide), (fun h0 => trivial), (fun h0 => trivial), ⟨x_HE_gdq_gdg_gdo_gdA_gdB_false_false, trivial⟩, (fun _ => trivial), (fun _ => trivial)⟩, hw.1, hw.2.2.2.2.1⟩, by rw [ht]; exact hw.2.1, va_K.moved hW.alike hK, hw.2.2.1⟩, hw.2.2.2.1.F ht⟩) hw.2.2.2.1.2.2 dX9_open_34
  · have r_v_1 : RI v_1 0 0 := rc_eq1 r_v_1 rl_0 (ti_eq c_6) (by decide)
    refine lv_iconst (v := (-1)) hx hb dX9_open_9 (by decide) ?_
    subst hQ
    exact W.iret (v := (-1)) hx hb hr (fun t ht hW => ⟨⟨(-1), w0, rfl, ⟨⟨rl_m1.to (by decide), (fun _ => trivial), (fun h0 => trivial), ⟨x_HE_gdq_gdg_gdo_gdA_gdB_false_false, trivial⟩, (fun _ => trivial), (fun _ => trivial)⟩, hw.1, hw.2.2.2.2.1⟩, by rw [ht]; exact hw.2.1, va_K.moved hW.alike hK, hw.2.2.1⟩, hw.2.2.2.1.F ht⟩) hw.2.2.2.1.2.2 dX9_open_10
abbrev wr_X9_rest__1 : List (Nat × Nat) := [(8, 0), (8, 1)]
abbrev wa_X9_rest__1 : List Nat := [8, 9, 10, 11, 12, 13, 14]
set_option maxHeartbeats 4000000 in
set_option maxRecDepth 100000 in
theorem c_X9_rest__1 (l : Launch) (D : va_G) (cy : Nat → ClassId) (z : Nat → Nat) (sz : Nat) (Ps : PSI) (w0 : va_W) (hT : HT cy GG Ps w0) (p0 : Nat) (gdq : Nat → Nat) (gdg : Nat → Nat) (gdo : OS) (gdA : OS) (gdB : OS) (h_p0 : (p0, 33) ∈ Ps) (x_GWX_p0_gdq : GWX w0 p0 gdq) (x_GQ_gdq_gdg : GQ Ps w0 gdq gdg) (x_HE_gdq_gdg_gdo_gdA_gdB_false_false : HE Ps w0 gdq gdg gdo gdA gdB false false) : Met l yX9_rest (Cond.code yX9_rest cX9_rest 2 (some .int) :: gT) ({ frames := 5, cells := 0, slots := 0, locals := 1000 } : Room) (va_Pc [.ref p0] (PRE D cy z w0 sz)) (va_Qi (fun (r : Int32) (u : va_W) => (RI r 0 10 ∧ (r = 0 → True) ∧ (¬ r = 0 → True) ∧ (HE Ps u gdq gdg gdo gdA gdB false false ∧ True) ∧ (r.toInt < 0 → True) ∧ (0 ≤ r.toInt → True)) ∧ HT cy GG Ps u ∧ FR wr_X9_rest__1 wa_X9_rest__1 Ps w0 u) (BB D cy (va_A w0 sz) (fun (u : va_W) => u)) (va_A w0 sz)) 0 0 (va_A w0 sz) := by
  refine Met.ofW (cc := cX9_rest) (maxL := 2) (ret := (some .int)) (by decide) rfl ?_
  intro p e s m args below meth c s₁ B hml hv
  obtain ⟨rfl, hsz, hP, hK, hD0, hSD⟩ := hv
  have hx := B.exec
  have hb := B.bytes
  have hr := B.returns
  have hlocks := B.notSynchronized
  have hts : ∀ w ∈ gT, w.before _ s = true := fun w h => atoms_spec (ws := Cond.code yX9_rest cX9_rest 2 (some .int) :: gT) B.pre w (List.mem_cons_of_mem _ h)
  have hown : s.vm.findClass RX9 = some m.cls := findClass_of_methodNamed B.named
  subst hsz
  have hD := hD0.self (sz := s.heap.size)
  generalize hAe : va_A w0 s.heap.size = A at hD hSD ⊢
  have hA : ∀ q : Nat, s.heap.size ≤ q → A q := fun q h => by rw [← hAe]; exact Or.inr h
  have hl := lv_entry ([.ref p0]) (n := 2) (Nat.le_of_ble_eq_true rfl)
  rw [lg_entry_eq]
  generalize (lg_sl ([.ref p0]) ++ List.replicate (2 - (lg_sl ([.ref p0])).length) Slot.unset).toArray = ls at hl ⊢
  have hl : lv_has ls 2 [(0, .ref p0)] := hl
  refine nameQ (fun Q hQ => ?_)
  have hw : WD D cy GG A s wr_X9_rest__1 wa_X9_rest__1 Ps w0 Ps w0 s.heap [] := ⟨hT, hP, hD, va_S.rf, FR.rf, hT.1, [], (List.append_nil _).symm⟩
  refine lv_aload_n hx hb dX9_rest_0 rfl (lv_at hl 0 rfl) ?_
  refine tg_get (ci := 9) (ts := ty_WP) (C := RX9) (T := TX9) (N := 15) hx hb hts inX9 hown hK hw h_p0 rfl rfl 2 (by decide) (hts _ tw_348) (fun _ h9 => h9) (ft := vR 24) rfl dX9_rest_1 (fun u_1 hv_u_1 m_u_1 => ?_)
  obtain ⟨vu_1, rfl, h_vu_1⟩ := hv_u_1
  refine lv_aload_n hx hb dX9_rest_4 rfl (lv_at hl 0 rfl) ?_
  refine tg_get (ci := 9) (ts := ty_WP) (C := RX9) (T := TX9) (N := 15) hx hb hts inX9 hown hK hw h_p0 rfl rfl 1 (by decide) (hts _ tw_347) (fun _ h9 => h9) (ft := vR 24) rfl dX9_rest_5 (fun u_2 hv_u_2 m_u_2 => ?_)
  obtain ⟨vu_2, rfl, h_vu_2⟩ := hv_u_2
  have hD8 := hw.2.2.1
  refine tk_v (va_runV (As := [.ref vu_2]) (rest := []) ⟨hx, hb, hml, hown, hts⟩ (c_X8_takeFrom__1 l D cy z s.heap.size Ps w0 hw.1 vu_1 vu_2 h_vu_1 h_vu_2) (cwV 1 hts (gV tw_521 tw_522 tw_523 tw_12 tw_524) rfl rfl rfl (by decide +kernel) ⟨Nat.le_of_ble_eq_true rfl, Nat.le_of_ble_eq_true rfl⟩) (tg_preV hw hK hSD hA (ci := 8) (q := (RX8, TX8, 13)) rfl h_vu_1 rfl) rfl rfl hl.1 rfl (lv_room (Nat.le_of_ble_eq_true rfl)) dX9_rest_8 ⟨Nat.le_of_ble_eq_true rfl, Nat.le_of_ble_eq_true rfl⟩) hw hA ⟨by decide, by decide⟩ (fun ws H locs hp_v_3 hw hF9 => ?_)
  have m_u_1 := FLD.over hF9 m_u_1 (by decide)
  have m_u_2 := FLD.over hF9 m_u_2 (by decide)
  have x_GWX_p0_gdq := GWX.over hF9 x_GWX_p0_gdq (by decide)
  have x_GQ_gdq_gdg := GQ.over hF9 x_GQ_gdq_gdg (by decide)
  have x_TKF_vu_1_vu_2 := (hp_v_3.1)
  have x_HE_gdq_gdg_gdo_gdA_gdB_false_false : HE Ps ws gdq gdg gdo gdA gdB false false := HE.weak (fun e9 => e9) (fun e9 => by cases e9) (HE.trial hD8 hF9 (by decide) x_GQ_gdq_gdg.2.2.2.2.2 x_HE_gdq_gdg_gdo_gdA_gdB_false_false (by rw [← GWX.tr hw.2.2.1 x_GWX_p0_gdq m_u_1, ← GWX.wo hw.2.2.1 x_GWX_p0_gdq m_u_2]; exact x_TKF_vu_1_vu_2))
  refine lv_aload_n hx hb dX9_rest_11 rfl (lv_at hl 0 rfl) ?_
  refine tg_mem (ci := 9) (C := RX9) (T := TX9) (N := 15) hx hb hts inX9 hown hK hw 2 m_u_1 rfl (by decide) (hts _ tw_348) (fun _ h9 => h9) dX9_rest_12 ?_
  refine tk_i (va_runV (As := []) (rest := []) ⟨hx, hb, hml, hown, hts⟩ (c_X8_settleAll l D cy z H.size Ps ws hw.1 vu_1 h_vu_1) (cwV 0 hts (gV tw_811 tw_812 tw_813 tw_12 tw_814) rfl rfl rfl (by decide +kernel) ⟨Nat.le_of_ble_eq_true rfl, Nat.le_of_ble_eq_true rfl⟩) (tg_preV hw hK hSD hA (ci := 8) (q := (RX8, TX8, 13)) rfl h_vu_1 rfl) rfl rfl hl.1 rfl (lv_room (Nat.le_of_ble_eq_true rfl)) dX9_rest_15 ⟨Nat.le_of_ble_eq_true rfl, Nat.le_of_ble_eq_true rfl⟩) hw hA ⟨by decide, by decide⟩ (fun v_4 ws H locs hp_v_4 hw hF9 => ?_)
  have m_u_1 := FLD.over hF9 m_u_1 (by decide)
  have m_u_2 := FLD.over hF9 m_u_2 (by decide)
  have x_GWX_p0_gdq := GWX.over hF9 x_GWX_p0_gdq (by decide)
  have x_GQ_gdq_gdg := GQ.over hF9 x_GQ_gdq_gdg (by decide)
  have x_HE_gdq_gdg_gdo_gdA_gdB_false_false := HE.over hF9 x_HE_gdq_gdg_gdo_gdA_gdB_false_false (by decide)
  have r_v_4 : RI v_4 0 10 := hp_v_4.1
  refine lv_istore_n (lv' := [(1, .int v_4), (0, .ref p0)]) hx hb dX9_rest_18 rfl hl (by decide) rfl (fun ls hl => ?_)
  refine lv_aload_n hx hb dX9_rest_19 rfl (lv_at hl 1 rfl) ?_
  refine tg_get (ci := 9) (ts := ty_WP) (C := RX9) (T := TX9) (N := 15) hx hb hts inX9 hown hK hw h_p0 rfl rfl 9 (by decide) (hts _ tw_355) (fun _ h9 => h9) (ft := vR 13) rfl dX9_rest_20 (fun u_5 hv_u_5 m_u_5 => ?_)
  obtain ⟨vu_5, rfl, h_vu_5⟩ := hv_u_5
  refine lv_iconst (v := (-1)) hx hb dX9_rest_23 (by decide) ?_
  refine tk_v (va_runS (As := [.ref vu_5, .int (-1)]) (rest := []) ⟨hx, hb, hml, hown, hts⟩ (c_J7_fill_53178__8 l D cy z H.size Ps ws hw.1 vu_5 (-1) h_vu_5 rl_m1) (va_cwS 2 hts (gS tw_345 tw_167 tw_9 tw_168) rfl rfl rfl (by decide +kernel) ⟨Nat.le_of_ble_eq_true rfl, Nat.le_of_ble_eq_true rfl⟩) (tg_preS hw hK hSD hA) rfl rfl hl.1 rfl (lv_room (Nat.le_of_ble_eq_true rfl)) dX9_rest_24 ⟨Nat.le_of_ble_eq_true rfl, Nat.le_of_ble_eq_true rfl⟩) hw hA ⟨by decide, by decide⟩ (fun ws H locs hp_v_6 hw hF9 => ?_)
  have m_u_1 := FLD.over hF9 m_u_1 (by decide)
  have m_u_2 := FLD.over hF9 m_u_2 (by decide)
  have m_u_5 := FLD.over hF9 m_u_5 (by decide)
  have x_GWX_p0_gdq := GWX.over hF9 x_GWX_p0_gdq (by decide)
  have x_GQ_gdq_gdg := GQ.over hF9 x_GQ_gdq_gdg (by decide)
  have x_HE_gdq_gdg_gdo_gdA_gdB_false_false := HE.over hF9 x_HE_gdq_gdg_gdo_gdA_gdB_false_false (by decide)
  refine lv_aload_n hx hb dX9_rest_27 rfl (lv_at hl 1 rfl) ?_
  refine tg_mem (ci := 9) (C := RX9) (T := TX9) (N := 15) hx hb hts inX9 hown hK hw 2 m_u_1 rfl (by decide) (hts _ tw_348) (fun _ h9 => h9) dX9_rest_28 ?_
  refine tg_getN (ci := 8) (ts := ty_WORLD) (C := RX8) (T := TX8) (N := 13) hx hb hts inX8 hown hK hw h_vu_1 rfl rfl 8 (by decide) (hSD.nest tn_269) (fun _ h9 => h9) (ft := vR 12) rfl dX9_rest_31 (fun u_7 hv_u_7 m_u_7 => ?_)
  obtain ⟨vu_7, rfl, h_vu_7⟩ := hv_u_7
  refine lv_iconst (v := 0) hx hb dX9_rest_34 (by decide) ?_
  refine lv_aload_n hx hb dX9_rest_35 rfl (lv_at hl 1 rfl) ?_
  refine tg_mem (ci := 9) (C := RX9) (T := TX9) (N := 15) hx hb hts inX9 hown hK hw 9 m_u_5 rfl (by decide) (hts _ tw_355) (fun _ h9 => h9) dX9_rest_36 ?_
  refine lv_iconst (v := 0) hx hb dX9_rest_39 (by decide) ?_
  refine lv_aload_n hx hb dX9_rest_40 rfl (lv_at hl 1 rfl) ?_
  refine tg_mem (ci := 9) (C := RX9) (T := TX9) (N := 15) hx hb hts inX9 hown hK hw 1 m_u_2 rfl (by decide) (hts _ tw_347) (fun _ h9 => h9) dX9_rest_41 ?_
  refine tg_getN (ci := 8) (ts := ty_WORLD) (C := RX8) (T := TX8) (N := 13) hx hb hts inX8 hown hK hw h_vu_2 rfl rfl 0 (by decide) (hSD.nest tn_249) (fun _ h9 => h9) (ft := vR 25) rfl dX9_rest_44 (fun u_8 hv_u_8 m_u_8 => ?_)
  obtain ⟨vu_8, rfl, h_vu_8⟩ := hv_u_8
  refine tg_getN (ci := 3) (ts := ty_POST) (C := RX3) (T := TX3) (N := 9) hx hb hts inX3 hown hK hw h_vu_8 rfl rfl 1 (by decide) (hSD.nest tn_204) (fun _ h9 => h9) (ft := vR 4) rfl dX9_rest_47 (fun u_9 hv_u_9 m_u_9 => ?_)
  obtain ⟨vu_9, rfl, h_vu_9⟩ := hv_u_9
  refine lv_iconst (v := 3) hx hb dX9_rest_50 (by decide) ?_
  refine tg_iald (lo := 0) (hi := 8) hx hb hK hw h_vu_9 rfl 3 3 rl_3 (by decide) (by decide +kernel) dX9_rest_51 (fun v_10 r_v_10 m_v_10 o_v_10 => ?_)
  refine tg_copy (lo := (-1)) (hi := 5) (lo2 := (-2147483648)) (hi2 := 2147483647) hx hb (hml.trans hl.1.symm) hown (hts _ tw_819) (hts _ tw_527) (hts _ tw_526) (hts _ tw_17) hK hw h_vu_7 h_vu_5 rfl rfl (by decide) r_v_10 (by decide) (by decide) (Nat.le_of_ble_eq_true rfl) (Nat.le_of_ble_eq_true rfl) dX9_rest_52 (fun ws H locs hw hF9 => ?_)
  have x_GWX_p0_gdq := GWX.over hF9 x_GWX_p0_gdq (by decide)
  have x_GQ_gdq_gdg := GQ.over hF9 x_GQ_gdq_gdg (by decide)
  have x_HE_gdq_gdg_gdo_gdA_gdB_false_false := HE.over hF9 x_HE_gdq_gdg_gdo_gdA_gdB_false_false (by decide)
  have m_u_1 := FLD.over hF9 m_u_1 (by decide)
  have m_u_2 := FLD.over hF9 m_u_2 (by decide)
  have m_u_5 := FLD.over hF9 m_u_5 (by decide)
  have m_u_7 := FLD.over hF9 m_u_7 (by decide)
  have m_u_8 := FLD.over hF9 m_u_8 (by decide)
  have m_u_9 := FLD.over hF9 m_u_9 (by decide)
  refine lv_iload_n hx hb dX9_rest_55 rfl (lv_at hl 0 rfl) ?_
  subst hQ
  exact W.iret (v := v_4) hx hb hr (fun t ht hW => ⟨⟨v_4, ws, rfl, ⟨⟨r_v_4.to (by decide), (fun h0 => trivial), (fun h0 => trivial), ⟨x_HE_gdq_gdg_gdo_gdA_gdB_false_false, trivial⟩, (fun _ => trivial), (fun _ => trivial)⟩, hw.1, hw.2.2.2.2.1⟩, by rw [ht]; exact hw.2.1, va_K.moved hW.alike hK, hw.2.2.1⟩, hw.2.2.2.1.F ht⟩) hw.2.2.2.1.2.2 dX9_rest_56
abbrev wr_X9_setsThatSat__1 : List (Nat × Nat) := [(8, 0), (8, 1), (9, 13), (9, 14)]
abbrev wa_X9_setsThatSat__1 : List Nat := [8, 9, 10, 11, 12, 13, 14]
set_option maxHeartbeats 4000000 in
set_option maxRecDepth 100000 in
theorem c_X9_setsThatSat__1 (l : Launch) (D : va_G) (cy : Nat → ClassId) (z : Nat → Nat) (sz : Nat) (Ps : PSI) (w0 : va_W) (hT : HT cy GG Ps w0) (p0 : Nat) (p1 : Int32) (p2 : Int32) (p3 : Int32) (p4 : Int32) (gdq : Nat → Nat) (gdg : Nat → Nat) (gdo : OS) (gdA : OS) (gdB : OS) (h_p0 : (p0, 33) ∈ Ps) (r_p1 : RI p1 0 5) (r_p2 : RI p2 1 30) (r_p3 : RI p3 (-1) 5) (r_p4 : RI p4 (-2147483648) 2147483647) (x_GWX_p0_gdq : GWX w0 p0 gdq) (x_GQ_gdq_gdg : GQ Ps w0 gdq gdg) (x_HE_gdq_gdg_gdo_gdA_gdB_false_false : HE Ps w0 gdq gdg gdo gdA gdB false false) : Met l yX9_setsThatSat (Cond.code yX9_setsThatSat cX9_setsThatSat 12 (some .int) :: gT) ({ frames := 3, cells := 1, slots := 8, locals := 600 } : Room) (va_Pc [.ref p0, .int p1, .int p2, .int p3, .int p4] (PRE D cy z w0 sz)) (va_Qi (fun (r : Int32) (u : PSI × va_W) => (RI r (-2147483648) 2147483647 ∧ (r = 0 → True) ∧ (¬ r = 0 → True) ∧ (HE u.1 u.2 gdq gdg gdo gdA gdB false false ∧ True) ∧ (r.toInt < 0 → True) ∧ (0 ≤ r.toInt → True)) ∧ (∃ X, u.1 = Ps ++ X) ∧ HT cy GG u.1 u.2 ∧ FR wr_X9_setsThatSat__1 wa_X9_setsThatSat__1 Ps w0 u.2) (BB D cy (va_A w0 sz) (fun (u : PSI × va_W) => u.2)) (va_A w0 sz)) 1 8 (va_A w0 sz) := by
  refine Met.ofW (cc := cX9_setsThatSat) (maxL := 12) (ret := (some .int)) (by decide) rfl ?_
  intro p e s m args below meth c s₁ B hml hv
  obtain ⟨rfl, hsz, hP, hK, hD0, hSD⟩ := hv
  have hx := B.exec
  have hb := B.bytes
  have hr := B.returns
  have hlocks := B.notSynchronized
  have hts : ∀ w ∈ gT, w.before _ s = true := fun w h => atoms_spec (ws := Cond.code yX9_setsThatSat cX9_setsThatSat 12 (some .int) :: gT) B.pre w (List.mem_cons_of_mem _ h)
  have hown : s.vm.findClass RX9 = some m.cls := findClass_of_methodNamed B.named
  subst hsz
  have hD := hD0.self (sz := s.heap.size)
  generalize hAe : va_A w0 s.heap.size = A at hD hSD ⊢
  have hA : ∀ q : Nat, s.heap.size ≤ q → A q := fun q h => by rw [← hAe]; exact Or.inr h
  have hl := lv_entry ([.ref p0, .int p1, .int p2, .int p3, .int p4]) (n := 12) (Nat.le_of_ble_eq_true rfl)
  rw [lg_entry_eq]
  generalize (lg_sl ([.ref p0, .int p1, .int p2, .int p3, .int p4]) ++ List.replicate (12 - (lg_sl ([.ref p0, .int p1, .int p2, .int p3, .int p4])).length) Slot.unset).toArray = ls at hl ⊢
  have hl : lv_has ls 12 [(0, .ref p0), (1, .int p1), (2, .int p2), (3, .int p3), (4, .int p4)] := hl
  refine nameQ (fun Q hQ => ?_)
  have hw : WD D cy GG A s wr_X9_setsThatSat__1 wa_X9_setsThatSat__1 Ps w0 Ps w0 s.heap [] := ⟨hT, hP, hD, va_S.rf, FR.rf, hT.1, [], (List.append_nil _).symm⟩
  refine lv_aload_n hx hb dX9_setsThatSat_0 rfl (lv_at hl 0 rfl) ?_
  refine tg_get (ci := 9) (ts := ty_WP) (C := RX9) (T := TX9) (N := 15) hx hb hts inX9 hown hK hw h_p0 rfl rfl 1 (by decide) (hts _ tw_347) (fun _ h9 => h9) (ft := vR 24) rfl dX9_setsThatSat_1 (fun u_1 hv_u_1 m_u_1 => ?_)
  obtain ⟨vu_1, rfl, h_vu_1⟩ := hv_u_1
  refine tg_getN (ci := 8) (ts := ty_WORLD) (C := RX8) (T := TX8) (N := 13) hx hb hts inX8 hown hK hw h_vu_1 rfl rfl 0 (by decide) (hSD.nest tn_249) (fun _ h9 => h9) (ft := vR 25) rfl dX9_setsThatSat_4 (fun u_2 hv_u_2 m_u_2 => ?_)
  obtain ⟨vu_2, rfl, h_vu_2⟩ := hv_u_2
  refine tg_getN (ci := 3) (ts := ty_POST) (C := RX3) (T := TX3) (N := 9) hx hb hts inX3 hown hK hw h_vu_2 rfl rfl 1 (by decide) (hSD.nest tn_204) (fun _ h9 => h9) (ft := vR 4) rfl dX9_setsThatSat_7 (fun u_3 hv_u_3 m_u_3 => ?_)
  obtain ⟨vu_3, rfl, h_vu_3⟩ := hv_u_3
  refine lv_iconst (v := 3) hx hb dX9_setsThatSat_10 (by decide) ?_
  refine tg_iald (lo := 0) (hi := 8) hx hb hK hw h_vu_3 rfl 3 3 rl_3 (by decide) (by decide +kernel) dX9_setsThatSat_11 (fun v_4 r_v_4 m_v_4 o_v_4 => ?_)
  refine lv_istore (lv' := [(5, .int v_4), (0, .ref p0), (1, .int p1), (2, .int p2), (3, .int p3), (4, .int p4)]) hx hb dX9_setsThatSat_12 hl (by decide) rfl (fun ls hl => ?_)
  refine lv_iconst (v := 1) hx hb dX9_setsThatSat_14 (by decide) ?_
  refine lv_iload hx hb dX9_setsThatSat_15 (lv_at hl 0 rfl) ?_
  refine lv_ishl hx hb dX9_setsThatSat_17 (lv_topi (fun v_5 e_v_5 => ?_))
  have r_v_5 : RI v_5 1 256 := by rw [e_v_5]; exact ri_shl1 (r_v_4.to (c := 0) (d := 8) (by decide)) (by decide)
  refine lv_istore (lv' := [(6, .int v_5), (5, .int v_4), (0, .ref p0), (1, .int p1), (2, .int p2), (3, .int p3), (4, .int p4)]) hx hb dX9_setsThatSat_18 hl (by decide) rfl (fun ls hl => ?_)
  refine lv_iconst (v := 0) hx hb dX9_setsThatSat_20 (by decide) ?_
  refine lv_istore (lv' := [(7, .int 0), (6, .int v_5), (5, .int v_4), (0, .ref p0), (1, .int p1), (2, .int p2), (3, .int p3), (4, .int p4)]) hx hb dX9_setsThatSat_21 hl (by decide) rfl (fun ls hl => ?_)
  refine lv_iload hx hb dX9_setsThatSat_23 (lv_at hl 1 rfl) ?_
  refine lv_iconst (v := 1) hx hb dX9_setsThatSat_25 (by decide) ?_
  refine lv_isub hx hb dX9_setsThatSat_26 (lv_topi (fun v_6 e_v_6 => ?_))
  obtain ⟨t_v_6, r_v_6⟩ := tq_sub (lo := 0) (hi := 255) r_v_5 rl_1 (by decide +kernel) e_v_6
  have t_v_6 : v_6.toInt = v_5.toInt - 1 := t_v_6
  refine lv_istore (lv' := [(8, .int v_6), (7, .int 0), (6, .int v_5), (5, .int v_4), (0, .ref p0), (1, .int p1), (2, .int p2), (3, .int p3), (4, .int p4)]) hx hb dX9_setsThatSat_27 hl (by decide) rfl (fun ls hl => ?_)
  refine lv_bipush (v := 8) hx hb dX9_setsThatSat_29 (by decide) ?_
  refine newaC (atype := .int) (ty := .int) (N' := 8) (a0 := (8, .inl (fun _ => 0))) hx hb (hts _ tw_159) rfl (fun C h => by cases h) hK hw.2.1 hw.2.2.1 hw.2.2.2.1 hA 1 rfl (fun _ => rfl) (by decide) (by decide) (by decide) (Nat.le_of_ble_eq_true rfl) (Nat.le_of_ble_eq_true rfl) dX9_setsThatSat_31 (fun q_7 H hP9 hD9 hS9 => ?_)
  have hw := WD.app (X := [(q_7, 13)]) (wx := [(q_7, .inl (cy 1, 8, .inl (fun _ => 0)))]) hw ⟨⟨rfl, z_arr (fun _ => 0) (fun j9 _ => (by show (-2147483648 : Int) ≤ (0 : Int32).toInt ∧ (0 : Int32).toInt ≤ 2147483647; decide)) trivial⟩, trivial⟩ hP9 hD9 hS9
  obtain ⟨Pn, hPn⟩ : ∃ q9 : PSI, q9 = Ps ++ [(q_7, 13)] := ⟨_, rfl⟩
  have hup : ∀ x9 ∈ Ps, x9 ∈ Pn := fun x9 h9 => by rw [hPn]; exact List.mem_append_left _ h9
  obtain ⟨ws, hws⟩ : ∃ q9 : va_W, q9 = w0 ++ [(q_7, .inl (cy 1, 8, .inl (fun _ => 0)))] := ⟨_, rfl⟩
  rw [← hPn, ← hws] at hw
  have h_p0 := hup _ h_p0
  have h_vu_1 := hup _ h_vu_1
  have h_vu_2 := hup _ h_vu_2
  have h_vu_3 := hup _ h_vu_3
  have h_q_7 : (q_7, 13) ∈ Pn := by rw [hPn]; exact List.mem_append_right _ (by simp)
  have x_GWX_p0_gdq : GWX ws p0 gdq := by rw [hws]; exact GWX.app x_GWX_p0_gdq
  have x_GQ_gdq_gdg : GQ Pn ws gdq gdg := by rw [hPn, hws]; exact GQ.app x_GQ_gdq_gdg
  have x_HE_gdq_gdg_gdo_gdA_gdB_false_false : HE Pn ws gdq gdg gdo gdA gdB false false := by rw [hPn, hws]; exact HE.app x_HE_gdq_gdg_gdo_gdA_gdB_false_false
  refine W.widen (k := 1) (n := 8) (Nat.le_of_ble_eq_true rfl) (Nat.le_of_ble_eq_true rfl) ?_
  have B60 : ∀ (nf : Nat) (x5 : Int32) (x6 : Int32) (x7 : Int32) (x8 : Int32) (x9 : Nat) (x10 : Int32) (ws : va_W) (H : Heap) (locs : List Loc) (ls : Array Slot), 256 - x10.toInt < (nf : Int) → RI p1 0 5 → RI p2 1 30 → RI p3 (-1) 5 → RI p4 (-2147483648) 2147483647 → RI x5 0 8 → RI x6 1 256 → RI x7 (-2147483648) 2147483647 → RI x8 0 255 → (x9, 13) ∈ Pn → RI x10 0 256 → GQ Pn ws gdq gdg → GWX ws p0 gdq → HE Pn ws gdq gdg gdo gdA gdB false false → WD D cy GG A s wr_X9_setsThatSat__1 wa_X9_setsThatSat__1 Ps w0 Pn ws H locs → lv_has ls 12 [(0, .ref p0), (1, .int p1), (2, .int p2), (3, .int p3), (4, .int p4), (5, .int x5), (6, .int x6), (7, .int x7), (8, .int x8), (9, .ref x9), (10, .int x10)] → W p l e (headSpec (Cond.code yX9_setsThatSat cX9_setsThatSat 12 (some .int) :: gT) ({ frames := 3, cells := 1, slots := 8, locals := 600 } : Room)).room s m ([.ref p0, .int p1, .int p2, .int p3, .int p4] : List Value).toArray below meth c H locs 1 8 Q (F0 m 60 ls []) := by
    intro nf60
    induction nf60 with
    | zero =>
      intro x5 x6 x7 x8 x9 x10 ws H locs ls hn60 r_p1 r_p2 r_p3 r_p4 r_x5 r_x6 r_x7 r_x8 h_x9 r_x10 x_GQ_gdq_gdg x_GWX_p0_gdq x_HE_gdq_gdg_gdo_gdA_gdB_false_false hw hl
      exact absurd hn60 (by have q0 := r_x10.1; have u0 := r_x10.2; omega)
    | succ nf60 ih60 =>
      have B130 : ∀ (nf : Nat) (x5 : Int32) (x6 : Int32) (x7 : Int32) (x8 : Int32) (x9 : Nat) (x10 : Int32) (x11 : Int32) (ws : va_W) (H : Heap) (locs : List Loc) (ls : Array Slot), 8 - x11.toInt < (nf : Int) → RI p1 0 5 → RI p2 1 30 → RI p3 (-1) 5 → RI p4 (-2147483648) 2147483647 → RI x5 0 8 → RI x6 1 256 → RI x7 (-2147483648) 2147483647 → RI x8 0 255 → (x9, 13) ∈ Pn → RI x10 0 255 → RI x11 0 8 → GQ Pn ws gdq gdg → GWX ws p0 gdq → HE Pn ws gdq gdg gdo gdA gdB false false → 256 - x10.toInt < ((nf60 + 1 : Nat) : Int) → WD D cy GG A s wr_X9_setsThatSat__1 wa_X9_setsThatSat__1 Ps w0 Pn ws H locs → lv_has ls 12 [(0, .ref p0), (1, .int p1), (2, .int p2), (3, .int p3), (4, .int p4), (5, .int x5), (6, .int x6), (7, .int x7), (8, .int x8), (9, .ref x9), (10, .int x10), (11, .int x11)] → W p l e (headSpec (Cond.code yX9_setsThatSat cX9_setsThatSat 12 (some .int) :: gT) ({ frames := 3, cells := 1, slots := 8, locals := 600 } : Room)).room s m ([.ref p0, .int p1, .int p2, .int p3, .int p4] : List Value).toArray below meth c H locs 1 8 Q (F0 m 130 ls []) := by
        intro nf130
        induction nf130 with
        | zero =>
          intro x5 x6 x7 x8 x9 x10 x11 ws H locs ls hn130 r_p1 r_p2 r_p3 r_p4 r_x5 r_x6 r_x7 r_x8 h_x9 r_x10 r_x11 x_GQ_gdq_gdg x_GWX_p0_gdq x_HE_gdq_gdg_gdo_gdA_gdB_false_false hn60 hw hl
          exact absurd hn130 (by have q0 := r_x11.1; have u0 := r_x11.2; omega)
        | succ nf130 ih130 =>
          intro x5 x6 x7 x8 x9 x10 x11 ws H locs ls hn130 r_p1 r_p2 r_p3 r_p4 r_x5 r_x6 r_x7 r_x8 h_x9 r_x10 r_x11 x_GQ_gdq_gdg x_GWX_p0_gdq x_HE_gdq_gdg_gdo_gdA_gdB_false_false hn60 hw hl
          refine lv_iload hx hb dX9_setsThatSat_130 (lv_at hl 11 rfl) ?_
          refine lv_iload hx hb dX9_setsThatSat_132 (lv_at hl 5 rfl) ?_
          refine lv_icmp_ge (tgt := 158) hx hb dX9_setsThatSat_134 (by decide) (fun c_134 => ?_) (fun c_134 => ?_)
          · obtain ⟨v_8, e_v_8⟩ : ∃ q9 : Int32, q9 = x10 + Int32.ofInt 1 := ⟨_, rfl⟩
            obtain ⟨t_v_8, r_v_8⟩ := tq_add (lo := 1) (hi := 256) r_x10 (show RI (Int32.ofInt 1) 1 1 by unfold RI; decide +kernel) (by decide +kernel) e_v_8
            have t_v_8 : v_8.toInt = x10.toInt + 1 := t_v_8
            refine lv_iinc (v := v_8) (lv' := [(10, .int v_8), (0, .ref p0), (1, .int p1), (2, .int p2), (3, .int p3), (4, .int p4), (5, .int x5), (6, .int x6), (7, .int x7), (8, .int x8), (9, .ref x9), (11, .int x11)]) hx hb dX9_setsThatSat_158 hl (k := 10) rfl e_v_8.symm (by decide) rfl (fun ls hl => ?_)
            refine lv_goto (tgt := 60) hx hb dX9_setsThatSat_161 (by decide) ?_
            exact ih60 x5 x6 x7 x8 x9 v_8 ws _ _ ls (by have q0 := r_v_8.1; have u0 := r_v_8.2; have o0 := r_x10.1; have p0 := r_x10.2; omega) r_p1 r_p2 r_p3 r_p4 r_x5 r_x6 r_x7 r_x8 h_x9 (r_v_8.to (by decide)) x_GQ_gdq_gdg x_GWX_p0_gdq x_HE_gdq_gdg_gdo_gdA_gdB_false_false hw (lv_sub hl [1, 2, 3, 4, 5, 6, 7, 8, 9, 10, 0] rfl)
          · have r_x11 : RI x11 0 7 := rc_lt1 r_x11 r_x5 (ti_nle c_134) (by decide)
            have r_x5 : RI x5 1 8 := rc_lt2 r_x11 r_x5 (ti_nle c_134) (by decide)
            refine lv_aload hx hb dX9_setsThatSat_137 (lv_at hl 9 rfl) ?_
            refine lv_iload hx hb dX9_setsThatSat_139 (lv_at hl 11 rfl) ?_
            refine lv_dup2_11 hx hb dX9_setsThatSat_141 rfl rfl ?_
            refine tg_iald (lo := (-2147483648)) (hi := 2147483647) hx hb hK hw h_x9 rfl 0 7 r_x11 (by decide) (by exact fun _ _ _ => ⟨Int.le_refl _, Int.le_refl _⟩) dX9_setsThatSat_142 (fun v_9 r_v_9 m_v_9 o_v_9 => ?_)
            refine lv_iload hx hb dX9_setsThatSat_143 (lv_at hl 10 rfl) ?_
            refine lv_iload hx hb dX9_setsThatSat_145 (lv_at hl 11 rfl) ?_
            refine lv_ishr hx hb dX9_setsThatSat_147 (lv_topi (fun v_10 e_v_10 => ?_))
            have r_v_10 := ri_any v_10
            refine lv_iconst (v := 1) hx hb dX9_setsThatSat_148 (by decide) ?_
            refine lv_iand hx hb dX9_setsThatSat_149 (lv_topi (fun v_11 e_v_11 => ?_))
            have r_v_11 : RI v_11 0 1 := by rw [e_v_11]; exact ri_and (d := 1) (rl_1.to (by decide)) (by decide)
            refine lv_iadd hx hb dX9_setsThatSat_150 (lv_topi (fun v_12 e_v_12 => ?_))
            have r_v_12 := ri_any v_12
            have hw8 := hw
            refine tg_iast hx hb hK hw h_x9 rfl 0 7 r_x11 (by decide) r_v_12 (by exact fun _ _ _ => by decide) (fun _ _ _ _ _ => trivial) (by decide) dX9_setsThatSat_151 (fun ws H locs hw hF9 hU9 => ?_)
            have x_GQ_gdq_gdg := GQ.over hF9 x_GQ_gdq_gdg (by decide)
            have x_GWX_p0_gdq := GWX.over hF9 x_GWX_p0_gdq (by decide)
            have x_HE_gdq_gdg_gdo_gdA_gdB_false_false := HE.over hF9 x_HE_gdq_gdg_gdo_gdA_gdB_false_false (by decide)
            obtain ⟨v_13, e_v_13⟩ : ∃ q9 : Int32, q9 = x11 + Int32.ofInt 1 := ⟨_, rfl⟩
            obtain ⟨t_v_13, r_v_13⟩ := tq_add (lo := 1) (hi := 8) r_x11 (show RI (Int32.ofInt 1) 1 1 by unfold RI; decide +kernel) (by decide +kernel) e_v_13
            have t_v_13 : v_13.toInt = x11.toInt + 1 := t_v_13
            refine lv_iinc (v := v_13) (lv' := [(11, .int v_13), (0, .ref p0), (1, .int p1), (2, .int p2), (3, .int p3), (4, .int p4), (5, .int x5), (6, .int x6), (7, .int x7), (8, .int x8), (9, .ref x9), (10, .int x10)]) hx hb dX9_setsThatSat_152 hl (k := 11) rfl e_v_13.symm (by decide) rfl (fun ls hl => ?_)
            refine lv_goto (tgt := 130) hx hb dX9_setsThatSat_155 (by decide) ?_
            exact ih130 x5 x6 x7 x8 x9 x10 v_13 ws _ _ ls (by have q0 := r_v_13.1; have u0 := r_v_13.2; have o0 := r_x11.1; have p0 := r_x11.2; omega) r_p1 r_p2 r_p3 r_p4 (r_x5.to (by decide)) r_x6 r_x7 r_x8 h_x9 r_x10 (r_v_13.to (by decide)) x_GQ_gdq_gdg x_GWX_p0_gdq x_HE_gdq_gdg_gdo_gdA_gdB_false_false (by have q0 := r_x10.1; have u0 := r_x10.2; omega) hw (lv_sub hl [1, 2, 3, 4, 5, 6, 7, 8, 9, 10, 11, 0] rfl)
      intro x5 x6 x7 x8 x9 x10 ws H locs ls hn60 r_p1 r_p2 r_p3 r_p4 r_x5 r_x6 r_x7 r_x8 h_x9 r_x10 x_GQ_gdq_gdg x_GWX_p0_gdq x_HE_gdq_gdg_gdo_gdA_gdB_false_false hw hl
      refine lv_iload hx hb dX9_setsThatSat_60 (lv_at hl 10 rfl) ?_
      refine lv_iload hx hb dX9_setsThatSat_62 (lv_at hl 6 rfl) ?_
      refine lv_icmp_ge (tgt := 164) hx hb dX9_setsThatSat_64 (by decide) (fun c_64 => ?_) (fun c_64 => ?_)
      · have r_x10 : RI x10 1 256 := rc_le2 r_x6 r_x10 (ti_le c_64) (by decide)
        refine lv_iload hx hb dX9_setsThatSat_164 (lv_at hl 7 rfl) ?_
        refine lv_if_le (tgt := 188) hx hb dX9_setsThatSat_166 (by decide) (fun c_166 => ?_) (fun c_166 => ?_)
        · have r_x7 : RI x7 (-2147483648) 0 := rc_le1 r_x7 rl_0 (ti_le c_166) (by decide)
          refine lv_iload hx hb dX9_setsThatSat_188 (lv_at hl 7 rfl) ?_
          subst hQ
          exact W.iret (v := x7) hx hb hr (fun t ht hW => ⟨⟨x7, (Pn, ws), rfl, ⟨⟨r_x7.to (by decide), (fun h0 => trivial), (fun h0 => trivial), ⟨x_HE_gdq_gdg_gdo_gdA_gdB_false_false, trivial⟩, (fun _ => trivial), (fun _ => trivial)⟩, hw.2.2.2.2.2.2, hw.1, hw.2.2.2.2.1⟩, by rw [ht]; exact hw.2.1, va_K.moved hW.alike hK, hw.2.2.1⟩, hw.2.2.2.1.F ht⟩) hw.2.2.2.1.2.2 dX9_setsThatSat_190
        · have r_x7 : RI x7 1 2147483647 := rc_lt2 rl_0 r_x7 (ti_nle c_166) (by decide)
          refine lv_aload_n hx hb dX9_setsThatSat_169 rfl (lv_at hl 0 rfl) ?_
          refine lv_iload hx hb dX9_setsThatSat_170 (lv_at hl 8 rfl) ?_
          refine tg_put (ci := 9) (ts := ty_WP) (v := .int x8) (ty := .int) (C := RX9) (T := TX9) (N := 15) hx hb hts inX9 tyX9 tyX9_ok nmX9 hown hK hw h_p0 rfl rfl 13 (by decide) (hts _ tw_359) (fun _ h9 => h9) rfl (by decide +kernel) rfl rfl (ft := vI (-2147483648) 2147483647) rfl ⟨_, rfl, (r_x8.to (by decide))⟩ (by decide) dX9_setsThatSat_172 (fun ws H locs hw n_k_14 hF9 => ?_)
          have x_GQ_gdq_gdg := GQ.over hF9 x_GQ_gdq_gdg (by decide)
          have x_GWX_p0_gdq := GWX.over hF9 x_GWX_p0_gdq (by decide)
          have x_HE_gdq_gdg_gdo_gdA_gdB_false_false := HE.over hF9 x_HE_gdq_gdg_gdo_gdA_gdB_false_false (by decide)
          refine lv_aload_n hx hb dX9_setsThatSat_175 rfl (lv_at hl 0 rfl) ?_
          refine lv_aload hx hb dX9_setsThatSat_176 (lv_at hl 9 rfl) ?_
          refine lv_iload hx hb dX9_setsThatSat_178 (lv_at hl 5 rfl) ?_
          refine lv_iload hx hb dX9_setsThatSat_180 (lv_at hl 7 rfl) ?_
          refine tk_ir (va_runS (As := [.ref x9, .int x5, .int x7]) (rest := [.ref p0]) ⟨hx, hb, hml, hown, hts⟩ (c_X9_nearestToHalf l D cy z H.size Pn ws hw.1 x9 x5 x7 h_x9 r_x5 (r_x7.to (by decide))) (va_cwS 3 hts (gS tw_765 tw_766 tw_1 tw_767) rfl rfl rfl (by decide +kernel) ⟨Nat.le_of_ble_eq_true rfl, Nat.le_of_ble_eq_true rfl⟩) (tg_preS hw hK hSD hA) rfl rfl hl.1 rfl (lv_room (Nat.le_of_ble_eq_true rfl)) dX9_setsThatSat_182 ⟨Nat.le_of_ble_eq_true rfl, Nat.le_of_ble_eq_true rfl⟩) hw hA (fun v_15  H locs hp_v_15 hw => ?_)
          have r_v_15 : RI v_15 (-1) 7 := hp_v_15.1
          refine tg_put (ci := 9) (ts := ty_WP) (v := .int v_15) (ty := .int) (C := RX9) (T := TX9) (N := 15) hx hb hts inX9 tyX9 tyX9_ok nmX9 hown hK hw h_p0 rfl rfl 14 (by decide) (hts _ tw_360) (fun _ h9 => h9) rfl (by decide +kernel) rfl rfl (ft := vI (-2147483648) 2147483647) rfl ⟨_, rfl, (r_v_15.to (by decide))⟩ (by decide) dX9_setsThatSat_185 (fun ws H locs hw n_k_16 hF9 => ?_)
          have n_k_14 := FLD.over hF9 n_k_14 (by decide)
          have x_GQ_gdq_gdg := GQ.over hF9 x_GQ_gdq_gdg (by decide)
          have x_GWX_p0_gdq := GWX.over hF9 x_GWX_p0_gdq (by decide)
          have x_HE_gdq_gdg_gdo_gdA_gdB_false_false := HE.over hF9 x_HE_gdq_gdg_gdo_gdA_gdB_false_false (by decide)
          refine lv_iload hx hb dX9_setsThatSat_188 (lv_at hl 7 rfl) ?_
          subst hQ
          exact W.iret (v := x7) hx hb hr (fun t ht hW => ⟨⟨x7, (Pn, ws), rfl, ⟨⟨r_x7.to (by decide), (fun _ => trivial), (fun h0 => trivial), ⟨x_HE_gdq_gdg_gdo_gdA_gdB_false_false, trivial⟩, (fun _ => trivial), (fun _ => trivial)⟩, hw.2.2.2.2.2.2, hw.1, hw.2.2.2.2.1⟩, by rw [ht]; exact hw.2.1, va_K.moved hW.alike hK, hw.2.2.1⟩, hw.2.2.2.1.F ht⟩) hw.2.2.2.1.2.2 dX9_setsThatSat_190
      · have r_x10 : RI x10 0 255 := rc_lt1 r_x10 r_x6 (ti_nle c_64) (by decide)
        refine lv_aload_n hx hb dX9_setsThatSat_67 rfl (lv_at hl 0 rfl) ?_
        refine tg_get (ci := 9) (ts := ty_WP) (C := RX9) (T := TX9) (N := 15) hx hb hts inX9 hown hK hw h_p0 rfl rfl 2 (by decide) (hts _ tw_348) (fun _ h9 => h9) (ft := vR 24) rfl dX9_setsThatSat_68 (fun u_17 hv_u_17 m_u_17 => ?_)
        obtain ⟨vu_17, rfl, h_vu_17⟩ := hv_u_17
        refine lv_iload hx hb dX9_setsThatSat_71 (lv_at hl 10 rfl) ?_
        refine lv_iload_n hx hb dX9_setsThatSat_73 rfl (lv_at hl 1 rfl) ?_
        refine lv_aload_n hx hb dX9_setsThatSat_74 rfl (lv_at hl 0 rfl) ?_
        refine tg_mem (ci := 9) (C := RX9) (T := TX9) (N := 15) hx hb hts inX9 hown hK hw 2 m_u_17 rfl (by decide) (hts _ tw_348) (fun _ h9 => h9) dX9_setsThatSat_75 ?_
        refine tk_v (va_runV (As := [.int x10, .int p1, .ref vu_17]) (rest := []) ⟨hx, hb, hml, hown, hts⟩ (c_X8_seatJust l D cy z H.size Pn ws hw.1 vu_17 x10 p1 vu_17 h_vu_17 (r_x10.to (by decide)) r_p1 h_vu_17) (cwV 3 hts (gV tw_744 tw_745 tw_746 tw_12 tw_747) rfl rfl rfl (by decide +kernel) ⟨Nat.le_of_ble_eq_true rfl, Nat.le_of_ble_eq_true rfl⟩) (tg_preV hw hK hSD hA (ci := 8) (q := (RX8, TX8, 13)) rfl h_vu_17 rfl) rfl rfl hl.1 rfl (lv_room (Nat.le_of_ble_eq_true rfl)) dX9_setsThatSat_78 ⟨Nat.le_of_ble_eq_true rfl, Nat.le_of_ble_eq_true rfl⟩) hw hA ⟨by decide, by decide⟩ (fun ws H locs hp_v_18 hw hF9 => ?_)
        have m_u_17 := FLD.over hF9 m_u_17 (by decide)
        have x_GQ_gdq_gdg := GQ.over hF9 x_GQ_gdq_gdg (by decide)
        have x_GWX_p0_gdq := GWX.over hF9 x_GWX_p0_gdq (by decide)
        have x_HE_gdq_gdg_gdo_gdA_gdB_false_false := HE.over hF9 x_HE_gdq_gdg_gdo_gdA_gdB_false_false (by decide)
        refine lv_aload_n hx hb dX9_setsThatSat_81 rfl (lv_at hl 0 rfl) ?_
        refine tg_mem (ci := 9) (C := RX9) (T := TX9) (N := 15) hx hb hts inX9 hown hK hw 2 m_u_17 rfl (by decide) (hts _ tw_348) (fun _ h9 => h9) dX9_setsThatSat_82 ?_
        refine lv_iload_n hx hb dX9_setsThatSat_85 rfl (lv_at hl 1 rfl) ?_
        refine tk_i (va_runV (As := [.int p1]) (rest := []) ⟨hx, hb, hml, hown, hts⟩ (c_X8_reckonGain l D cy z H.size Pn ws hw.1 vu_17 p1 h_vu_17 r_p1) (cwV 1 hts (gV tw_727 tw_690 tw_691 tw_12 tw_692) rfl rfl rfl (by decide +kernel) ⟨Nat.le_of_ble_eq_true rfl, Nat.le_of_ble_eq_true rfl⟩) (tg_preV hw hK hSD hA (ci := 8) (q := (RX8, TX8, 13)) rfl h_vu_17 rfl) rfl rfl hl.1 rfl (lv_room (Nat.le_of_ble_eq_true rfl)) dX9_setsThatSat_86 ⟨Nat.le_of_ble_eq_true rfl, Nat.le_of_ble_eq_true rfl⟩) hw hA ⟨by decide, by decide⟩ (fun v_19 ws H locs hp_v_19 hw hF9 => ?_)
        have m_u_17 := FLD.over hF9 m_u_17 (by decide)
        have x_GQ_gdq_gdg := GQ.over hF9 x_GQ_gdq_gdg (by decide)
        have x_GWX_p0_gdq := GWX.over hF9 x_GWX_p0_gdq (by decide)
        have x_HE_gdq_gdg_gdo_gdA_gdB_false_false := HE.over hF9 x_HE_gdq_gdg_gdo_gdA_gdB_false_false (by decide)
        have r_v_19 : RI v_19 0 1 := hp_v_19.1
        refine lv_pop hx hb dX9_setsThatSat_89 rfl ?_
        refine lv_aload_n hx hb dX9_setsThatSat_90 rfl (lv_at hl 0 rfl) ?_
        refine tg_mem (ci := 9) (C := RX9) (T := TX9) (N := 15) hx hb hts inX9 hown hK hw 2 m_u_17 rfl (by decide) (hts _ tw_348) (fun _ h9 => h9) dX9_setsThatSat_91 ?_
        refine lv_iload_n hx hb dX9_setsThatSat_94 rfl (lv_at hl 1 rfl) ?_
        refine lv_iload_n hx hb dX9_setsThatSat_95 rfl (lv_at hl 2 rfl) ?_
        refine tk_ir (va_runV (As := [.int p1, .int p2]) (rest := []) ⟨hx, hb, hml, hown, hts⟩ (c_X8_becomes l D cy z H.size Pn ws hw.1 vu_17 p1 p2 h_vu_17 r_p1 (r_p2.to (by decide))) (cwV 2 hts (gV tw_728 tw_574 tw_575 tw_12 tw_576) rfl rfl rfl (by decide +kernel) ⟨Nat.le_of_ble_eq_true rfl, Nat.le_of_ble_eq_true rfl⟩) (tg_preV hw hK hSD hA (ci := 8) (q := (RX8, TX8, 13)) rfl h_vu_17 rfl) rfl rfl hl.1 rfl (lv_room (Nat.le_of_ble_eq_true rfl)) dX9_setsThatSat_96 ⟨Nat.le_of_ble_eq_true rfl, Nat.le_of_ble_eq_true rfl⟩) hw hA (fun v_20  H locs hp_v_20 hw => ?_)
        have r_v_20 : RI v_20 (-1) 5 := hp_v_20.1
        refine lv_iload_n hx hb dX9_setsThatSat_99 rfl (lv_at hl 3 rfl) ?_
        refine lv_icmp_ne (tgt := 158) hx hb dX9_setsThatSat_100 (by decide) (fun c_100 => ?_) (fun c_100 => ?_)
        · obtain ⟨v_21, e_v_21⟩ : ∃ q9 : Int32, q9 = x10 + Int32.ofInt 1 := ⟨_, rfl⟩
          obtain ⟨t_v_21, r_v_21⟩ := tq_add (lo := 1) (hi := 256) r_x10 (show RI (Int32.ofInt 1) 1 1 by unfold RI; decide +kernel) (by decide +kernel) e_v_21
          have t_v_21 : v_21.toInt = x10.toInt + 1 := t_v_21
          refine lv_iinc (v := v_21) (lv' := [(10, .int v_21), (0, .ref p0), (1, .int p1), (2, .int p2), (3, .int p3), (4, .int p4), (5, .int x5), (6, .int x6), (7, .int x7), (8, .int x8), (9, .ref x9)]) hx hb dX9_setsThatSat_158 hl (k := 10) rfl e_v_21.symm (by decide) rfl (fun ls hl => ?_)
          refine lv_goto (tgt := 60) hx hb dX9_setsThatSat_161 (by decide) ?_
          exact ih60 x5 x6 x7 x8 x9 v_21 ws _ _ ls (by have q0 := r_v_21.1; have u0 := r_v_21.2; have o0 := r_x10.1; have p0 := r_x10.2; omega) r_p1 r_p2 r_p3 r_p4 r_x5 r_x6 r_x7 r_x8 h_x9 (r_v_21.to (by decide)) x_GQ_gdq_gdg x_GWX_p0_gdq x_HE_gdq_gdg_gdo_gdA_gdB_false_false hw (lv_sub hl [1, 2, 3, 4, 5, 6, 7, 8, 9, 10, 0] rfl)
        · refine lv_aload_n hx hb dX9_setsThatSat_103 rfl (lv_at hl 0 rfl) ?_
          refine tg_mem (ci := 9) (C := RX9) (T := TX9) (N := 15) hx hb hts inX9 hown hK hw 2 m_u_17 rfl (by decide) (hts _ tw_348) (fun _ h9 => h9) dX9_setsThatSat_104 ?_
          refine lv_iload_n hx hb dX9_setsThatSat_107 rfl (lv_at hl 1 rfl) ?_
          refine lv_iload_n hx hb dX9_setsThatSat_108 rfl (lv_at hl 2 rfl) ?_
          refine tk_ir (va_runV (As := [.int p1, .int p2]) (rest := []) ⟨hx, hb, hml, hown, hts⟩ (c_X8_bulgesMore l D cy z H.size Pn ws hw.1 vu_17 p1 p2 h_vu_17 r_p1 (r_p2.to (by decide))) (cwV 2 hts (gV tw_764 tw_702 tw_703 tw_12 tw_704) rfl rfl rfl (by decide +kernel) ⟨Nat.le_of_ble_eq_true rfl, Nat.le_of_ble_eq_true rfl⟩) (tg_preV hw hK hSD hA (ci := 8) (q := (RX8, TX8, 13)) rfl h_vu_17 rfl) rfl rfl hl.1 rfl (lv_room (Nat.le_of_ble_eq_true rfl)) dX9_setsThatSat_109 ⟨Nat.le_of_ble_eq_true rfl, Nat.le_of_ble_eq_true rfl⟩) hw hA (fun v_22  H locs hp_v_22 hw => ?_)
          have r_v_22 : RI v_22 (-2147483648) 2147483647 := hp_v_22.1
          refine lv_iload hx hb dX9_setsThatSat_112 (lv_at hl 4 rfl) ?_
          refine lv_icmp_ne (tgt := 158) hx hb dX9_setsThatSat_114 (by decide) (fun c_114 => ?_) (fun c_114 => ?_)
          · obtain ⟨v_23, e_v_23⟩ : ∃ q9 : Int32, q9 = x10 + Int32.ofInt 1 := ⟨_, rfl⟩
            obtain ⟨t_v_23, r_v_23⟩ := tq_add (lo := 1) (hi := 256) r_x10 (show RI (Int32.ofInt 1) 1 1 by unfold RI; decide +kernel) (by decide +kernel) e_v_23
            have t_v_23 : v_23.toInt = x10.toInt + 1 := t_v_23
            refine lv_iinc (v := v_23) (lv' := [(10, .int v_23), (0, .ref p0), (1, .int p1), (2, .int p2), (3, .int p3), (4, .int p4), (5, .int x5), (6, .int x6), (7, .int x7), (8, .int x8), (9, .ref x9)]) hx hb dX9_setsThatSat_158 hl (k := 10) rfl e_v_23.symm (by decide) rfl (fun ls hl => ?_)
            refine lv_goto (tgt := 60) hx hb dX9_setsThatSat_161 (by decide) ?_
            exact ih60 x5 x6 x7 x8 x9 v_23 ws _ _ ls (by have q0 := r_v_23.1; have u0 := r_v_23.2; have o0 := r_x10.1; have p0 := r_x10.2; omega) r_p1 r_p2 r_p3 r_p4 r_x5 r_x6 r_x7 r_x8 h_x9 (r_v_23.to (by decide)) x_GQ_gdq_gdg x_GWX_p0_gdq x_HE_gdq_gdg_gdo_gdA_gdB_false_false hw (lv_sub hl [1, 2, 3, 4, 5, 6, 7, 8, 9, 10, 0] rfl)
          · obtain ⟨v_24, e_v_24⟩ : ∃ q9 : Int32, q9 = x7 + Int32.ofInt 1 := ⟨_, rfl⟩
            have r_v_24 := ri_any v_24
            refine lv_iinc (v := v_24) (lv' := [(7, .int v_24), (0, .ref p0), (1, .int p1), (2, .int p2), (3, .int p3), (4, .int p4), (5, .int x5), (6, .int x6), (8, .int x8), (9, .ref x9), (10, .int x10)]) hx hb dX9_setsThatSat_117 hl (k := 7) rfl e_v_24.symm (by decide) rfl (fun ls hl => ?_)
            refine lv_iload hx hb dX9_setsThatSat_120 (lv_at hl 8 rfl) ?_
            refine lv_iload hx hb dX9_setsThatSat_122 (lv_at hl 10 rfl) ?_
            refine lv_iand hx hb dX9_setsThatSat_124 (lv_topi (fun v_25 e_v_25 => ?_))
            have r_v_25 : RI v_25 0 255 := by rw [e_v_25]; exact ri_and (d := 255) (r_x10.to (by decide)) (by decide)
            refine lv_istore (lv' := [(8, .int v_25), (7, .int v_24), (0, .ref p0), (1, .int p1), (2, .int p2), (3, .int p3), (4, .int p4), (5, .int x5), (6, .int x6), (9, .ref x9), (10, .int x10)]) hx hb dX9_setsThatSat_125 hl (by decide) rfl (fun ls hl => ?_)
            refine lv_iconst (v := 0) hx hb dX9_setsThatSat_127 (by decide) ?_
            refine lv_istore (lv' := [(11, .int 0), (8, .int v_25), (7, .int v_24), (0, .ref p0), (1, .int p1), (2, .int p2), (3, .int p3), (4, .int p4), (5, .int x5), (6, .int x6), (9, .ref x9), (10, .int x10)]) hx hb dX9_setsThatSat_128 hl (by decide) rfl (fun ls hl => ?_)
            exact B130 4294967298 x5 x6 v_24 v_25 x9 x10 0 ws _ _ ls (by have q0 := rl_0.1; have u0 := rl_0.2; omega) r_p1 r_p2 r_p3 r_p4 r_x5 r_x6 r_v_24 r_v_25 h_x9 r_x10 (rl_0.to (by decide)) x_GQ_gdq_gdg x_GWX_p0_gdq x_HE_gdq_gdg_gdo_gdA_gdB_false_false (by have q0 := r_x10.1; have u0 := r_x10.2; omega) hw (lv_sub hl [3, 4, 5, 6, 7, 8, 9, 2, 1, 10, 11, 0] rfl)
  refine lv_astore (lv' := [(9, .ref q_7), (8, .int v_6), (7, .int 0), (6, .int v_5), (5, .int v_4), (0, .ref p0), (1, .int p1), (2, .int p2), (3, .int p3), (4, .int p4)]) hx hb dX9_setsThatSat_33 hl (by decide) rfl (fun ls hl => ?_)
  refine lv_aload_n hx hb dX9_setsThatSat_35 rfl (lv_at hl 5 rfl) ?_
  refine tg_get (ci := 9) (ts := ty_WP) (C := RX9) (T := TX9) (N := 15) hx hb hts inX9 hown hK hw h_p0 rfl rfl 2 (by decide) (hts _ tw_348) (fun _ h9 => h9) (ft := vR 24) rfl dX9_setsThatSat_36 (fun u_26 hv_u_26 m_u_26 => ?_)
  obtain ⟨vu_26, rfl, h_vu_26⟩ := hv_u_26
  refine lv_aload_n hx hb dX9_setsThatSat_39 rfl (lv_at hl 5 rfl) ?_
  refine tg_get (ci := 9) (ts := ty_WP) (C := RX9) (T := TX9) (N := 15) hx hb hts inX9 hown hK hw h_p0 rfl rfl 1 (by decide) (hts _ tw_347) (fun _ h9 => h9) (ft := vR 24) rfl dX9_setsThatSat_40 (fun u_27 hv_u_27 m_u_27 => ?_)
  obtain ⟨vu_27, rfl, h_vu_27⟩ := hv_u_27
  have hD8 := hw.2.2.1
  refine tk_v (va_runV (As := [.ref vu_27]) (rest := []) ⟨hx, hb, hml, hown, hts⟩ (c_X8_takeFrom__1 l D cy z H.size Pn ws hw.1 vu_26 vu_27 h_vu_26 h_vu_27) (cwV 1 hts (gV tw_521 tw_522 tw_523 tw_12 tw_524) rfl rfl rfl (by decide +kernel) ⟨Nat.le_of_ble_eq_true rfl, Nat.le_of_ble_eq_true rfl⟩) (tg_preV hw hK hSD hA (ci := 8) (q := (RX8, TX8, 13)) rfl h_vu_26 rfl) rfl rfl hl.1 rfl (lv_room (Nat.le_of_ble_eq_true rfl)) dX9_setsThatSat_43 ⟨Nat.le_of_ble_eq_true rfl, Nat.le_of_ble_eq_true rfl⟩) hw hA ⟨by decide, by decide⟩ (fun ws H locs hp_v_28 hw hF9 => ?_)
  have m_u_26 := FLD.over hF9 m_u_26 (by decide)
  have m_u_27 := FLD.over hF9 m_u_27 (by decide)
  have x_GWX_p0_gdq := GWX.over hF9 x_GWX_p0_gdq (by decide)
  have x_GQ_gdq_gdg := GQ.over hF9 x_GQ_gdq_gdg (by decide)
  have x_TKF_vu_26_vu_27 := (hp_v_28.1)
  have x_HE_gdq_gdg_gdo_gdA_gdB_false_false : HE Pn ws gdq gdg gdo gdA gdB false false := HE.weak (fun e9 => e9) (fun e9 => by cases e9) (HE.trial hD8 hF9 (by decide) x_GQ_gdq_gdg.2.2.2.2.2 x_HE_gdq_gdg_gdo_gdA_gdB_false_false (by rw [← GWX.tr hw.2.2.1 x_GWX_p0_gdq m_u_26, ← GWX.wo hw.2.2.1 x_GWX_p0_gdq m_u_27]; exact x_TKF_vu_26_vu_27))
  refine lv_aload_n hx hb dX9_setsThatSat_46 rfl (lv_at hl 5 rfl) ?_
  refine tg_mem (ci := 9) (C := RX9) (T := TX9) (N := 15) hx hb hts inX9 hown hK hw 2 m_u_26 rfl (by decide) (hts _ tw_348) (fun _ h9 => h9) dX9_setsThatSat_47 ?_
  refine tg_getN (ci := 8) (ts := ty_WORLD) (C := RX8) (T := TX8) (N := 13) hx hb hts inX8 hown hK hw h_vu_26 rfl rfl 8 (by decide) (hSD.nest tn_269) (fun _ h9 => h9) (ft := vR 12) rfl dX9_setsThatSat_50 (fun u_29 hv_u_29 m_u_29 => ?_)
  obtain ⟨vu_29, rfl, h_vu_29⟩ := hv_u_29
  refine lv_iconst (v := (-1)) hx hb dX9_setsThatSat_53 (by decide) ?_
  refine tk_v (va_runS (As := [.ref vu_29, .int (-1)]) (rest := []) ⟨hx, hb, hml, hown, hts⟩ (c_J7_fill_53178__4 l D cy z H.size Pn ws hw.1 vu_29 (-1) h_vu_29 rl_m1) (va_cwS 2 hts (gS tw_345 tw_167 tw_9 tw_168) rfl rfl rfl (by decide +kernel) ⟨Nat.le_of_ble_eq_true rfl, Nat.le_of_ble_eq_true rfl⟩) (tg_preS hw hK hSD hA) rfl rfl hl.1 rfl (lv_room (Nat.le_of_ble_eq_true rfl)) dX9_setsThatSat_54 ⟨Nat.le_of_ble_eq_true rfl, Nat.le_of_ble_eq_true rfl⟩) hw hA ⟨by decide, by decide⟩ (fun ws H locs hp_v_30 hw hF9 => ?_)
  have m_u_26 := FLD.over hF9 m_u_26 (by decide)
  have m_u_27 := FLD.over hF9 m_u_27 (by decide)
  have m_u_29 := FLD.over hF9 m_u_29 (by decide)
  have x_GWX_p0_gdq := GWX.over hF9 x_GWX_p0_gdq (by decide)
  have x_GQ_gdq_gdg := GQ.over hF9 x_GQ_gdq_gdg (by decide)
  have x_HE_gdq_gdg_gdo_gdA_gdB_false_false := HE.over hF9 x_HE_gdq_gdg_gdo_gdA_gdB_false_false (by decide)
  refine lv_iconst (v := 0) hx hb dX9_setsThatSat_57 (by decide) ?_
  refine lv_istore (lv' := [(10, .int 0), (9, .ref q_7), (8, .int v_6), (7, .int 0), (6, .int v_5), (5, .int v_4), (0, .ref p0), (1, .int p1), (2, .int p2), (3, .int p3), (4, .int p4)]) hx hb dX9_setsThatSat_58 hl (by decide) rfl (fun ls hl => ?_)
  exact B60 4294967298 v_4 v_5 0 v_6 q_7 0 ws _ _ ls (by have q0 := rl_0.1; have u0 := rl_0.2; omega) r_p1 r_p2 r_p3 r_p4 r_v_4 r_v_5 (rl_0.to (by decide)) r_v_6 h_q_7 (rl_0.to (by decide)) x_GQ_gdq_gdg x_GWX_p0_gdq x_HE_gdq_gdg_gdo_gdA_gdB_false_false hw (lv_sub hl [6, 7, 8, 9, 10, 5, 4, 3, 2, 1, 0] rfl)
abbrev wr_X9_sat__2 : List (Nat × Nat) := [(7, 2), (8, 0), (8, 1), (9, 13), (9, 14)]
abbrev wa_X9_sat__2 : List Nat := [8, 9, 10, 11, 12, 13, 14]
set_option maxHeartbeats 4000000 in
set_option maxRecDepth 100000 in
theorem c_X9_sat__2 (l : Launch) (D : va_G) (cy : Nat → ClassId) (z : Nat → Nat) (sz : Nat) (Ps : PSI) (w0 : va_W) (hT : HT cy GG Ps w0) (p0 : Nat) (gdq : Nat → Nat) (gdg : Nat → Nat) (gdo : OS) (gdA : OS) (gdB : OS) (h_p0 : (p0, 33) ∈ Ps) (x_GWX_p0_gdq : GWX w0 p0 gdq) (x_GQ_gdq_gdg : GQ Ps w0 gdq gdg) (x_HE_gdq_gdg_gdo_gdA_gdB_false_false : HE Ps w0 gdq gdg gdo gdA gdB false false) : Met l yX9_sat (Cond.code yX9_sat cX9_sat 6 (some .int) :: gT) ({ frames := 4, cells := 1, slots := 8, locals := 800 } : Room) (va_Pc [.ref p0] (PRE D cy z w0 sz)) (va_Qi (fun (r : Int32) (u : PSI × va_W) => (RI r (-2147483648) 2147483647 ∧ (r = 0 → True) ∧ (¬ r = 0 → True) ∧ (TLX u.2 p0 (0) ∧ HE u.1 u.2 gdq gdg gdo gdA gdB false false ∧ True) ∧ (r.toInt < 0 → True) ∧ (0 ≤ r.toInt → True)) ∧ (∃ X, u.1 = Ps ++ X) ∧ HT cy GG u.1 u.2 ∧ FR wr_X9_sat__2 wa_X9_sat__2 Ps w0 u.2) (BB D cy (va_A w0 sz) (fun (u : PSI × va_W) => u.2)) (va_A w0 sz)) 1 8 (va_A w0 sz) := by
  refine Met.ofW (cc := cX9_sat) (maxL := 6) (ret := (some .int)) (by decide) rfl ?_
  intro p e s m args below meth c s₁ B hml hv
  obtain ⟨rfl, hsz, hP, hK, hD0, hSD⟩ := hv
  have hx := B.exec
  have hb := B.bytes
  have hr := B.returns
  have hlocks := B.notSynchronized
  have hts : ∀ w ∈ gT, w.before _ s = true := fun w h => atoms_spec (ws := Cond.code yX9_sat cX9_sat 6 (some .int) :: gT) B.pre w (List.mem_cons_of_mem _ h)
  have hown : s.vm.findClass RX9 = some m.cls := findClass_of_methodNamed B.named
  subst hsz
  have hD := hD0.self (sz := s.heap.size)
  generalize hAe : va_A w0 s.heap.size = A at hD hSD ⊢
  have hA : ∀ q : Nat, s.heap.size ≤ q → A q := fun q h => by rw [← hAe]; exact Or.inr h
  have hl := lv_entry ([.ref p0]) (n := 6) (Nat.le_of_ble_eq_true rfl)
  rw [lg_entry_eq]
  generalize (lg_sl ([.ref p0]) ++ List.replicate (6 - (lg_sl ([.ref p0])).length) Slot.unset).toArray = ls at hl ⊢
  have hl : lv_has ls 6 [(0, .ref p0)] := hl
  refine nameQ (fun Q hQ => ?_)
  have hw : WD D cy GG A s wr_X9_sat__2 wa_X9_sat__2 Ps w0 Ps w0 s.heap [] := ⟨hT, hP, hD, va_S.rf, FR.rf, hT.1, [], (List.append_nil _).symm⟩
  have B16 : ∀ (y0 : Int32) (ws : va_W) (H : Heap) (locs : List Loc) (ls : Array Slot), RI y0 0 1 → GQ Ps ws gdq gdg → GWX ws p0 gdq → HE Ps ws gdq gdg gdo gdA gdB false false → WD D cy GG A s wr_X9_sat__2 wa_X9_sat__2 Ps w0 Ps ws H locs → lv_has ls 6 [(0, .ref p0)] → W p l e (headSpec (Cond.code yX9_sat cX9_sat 6 (some .int) :: gT) ({ frames := 4, cells := 1, slots := 8, locals := 800 } : Room)).room s m ([.ref p0] : List Value).toArray below meth c H locs 0 0 Q (F0 m 16 ls [.int y0]) := by
    intro y0 ws H locs ls r_y0 x_GQ_gdq_gdg x_GWX_p0_gdq x_HE_gdq_gdg_gdo_gdA_gdB_false_false hw hl
    refine lv_istore_n (lv' := [(1, .int y0), (0, .ref p0)]) hx hb dX9_sat_16 rfl hl (by decide) rfl (fun ls hl => ?_)
    refine lv_aload_n hx hb dX9_sat_17 rfl (lv_at hl 1 rfl) ?_
    refine tg_get (ci := 9) (ts := ty_WP) (C := RX9) (T := TX9) (N := 15) hx hb hts inX9 hown hK hw h_p0 rfl rfl 0 (by decide) (hts _ tw_346) (fun _ h9 => h9) (ft := vR 26) rfl dX9_sat_18 (fun u_1 hv_u_1 m_u_1 => ?_)
    obtain ⟨vu_1, rfl, h_vu_1⟩ := hv_u_1
    refine lv_iconst (v := 0) hx hb dX9_sat_21 (by decide) ?_
    refine tk_ir (va_runV (As := [.int 0]) (rest := []) ⟨hx, hb, hml, hown, hts⟩ (c_X7_at l D cy z H.size Ps ws hw.1 vu_1 0 h_vu_1 (rl_0.to (by decide))) (cwV 1 hts (gV tw_756 tw_757 tw_758 tw_2 tw_759) rfl rfl rfl (by decide +kernel) ⟨Nat.le_of_ble_eq_true rfl, Nat.le_of_ble_eq_true rfl⟩) (tg_preV hw hK hSD hA (ci := 7) (q := (RX7, TX7, 12)) rfl h_vu_1 rfl) rfl rfl hl.1 rfl (lv_room (Nat.le_of_ble_eq_true rfl)) dX9_sat_22 ⟨Nat.le_of_ble_eq_true rfl, Nat.le_of_ble_eq_true rfl⟩) hw hA (fun v_2  H locs hp_v_2 hw => ?_)
    have r_v_2 : RI v_2 (-1) 255 := hp_v_2.1
    refine lv_istore_n (lv' := [(2, .int v_2), (1, .int y0), (0, .ref p0)]) hx hb dX9_sat_25 rfl hl (by decide) rfl (fun ls hl => ?_)
    refine lv_aload_n hx hb dX9_sat_26 rfl (lv_at hl 2 rfl) ?_
    refine tg_mem (ci := 9) (C := RX9) (T := TX9) (N := 15) hx hb hts inX9 hown hK hw 0 m_u_1 rfl (by decide) (hts _ tw_346) (fun _ h9 => h9) dX9_sat_27 ?_
    refine lv_iconst (v := 1) hx hb dX9_sat_30 (by decide) ?_
    refine tk_ir (va_runV (As := [.int 1]) (rest := []) ⟨hx, hb, hml, hown, hts⟩ (c_X7_at l D cy z H.size Ps ws hw.1 vu_1 1 h_vu_1 (rl_1.to (by decide))) (cwV 1 hts (gV tw_756 tw_757 tw_758 tw_2 tw_759) rfl rfl rfl (by decide +kernel) ⟨Nat.le_of_ble_eq_true rfl, Nat.le_of_ble_eq_true rfl⟩) (tg_preV hw hK hSD hA (ci := 7) (q := (RX7, TX7, 12)) rfl h_vu_1 rfl) rfl rfl hl.1 rfl (lv_room (Nat.le_of_ble_eq_true rfl)) dX9_sat_31 ⟨Nat.le_of_ble_eq_true rfl, Nat.le_of_ble_eq_true rfl⟩) hw hA (fun v_3  H locs hp_v_3 hw => ?_)
    have r_v_3 : RI v_3 (-1) 255 := hp_v_3.1
    refine lv_istore_n (lv' := [(3, .int v_3), (2, .int v_2), (1, .int y0), (0, .ref p0)]) hx hb dX9_sat_34 rfl hl (by decide) rfl (fun ls hl => ?_)
    refine lv_aload_n hx hb dX9_sat_35 rfl (lv_at hl 3 rfl) ?_
    refine tg_mem (ci := 9) (C := RX9) (T := TX9) (N := 15) hx hb hts inX9 hown hK hw 0 m_u_1 rfl (by decide) (hts _ tw_346) (fun _ h9 => h9) dX9_sat_36 ?_
    refine lv_iconst (v := 2) hx hb dX9_sat_39 (by decide) ?_
    refine tk_ir (va_runV (As := [.int 2]) (rest := []) ⟨hx, hb, hml, hown, hts⟩ (c_X7_at l D cy z H.size Ps ws hw.1 vu_1 2 h_vu_1 (rl_2.to (by decide))) (cwV 1 hts (gV tw_756 tw_757 tw_758 tw_2 tw_759) rfl rfl rfl (by decide +kernel) ⟨Nat.le_of_ble_eq_true rfl, Nat.le_of_ble_eq_true rfl⟩) (tg_preV hw hK hSD hA (ci := 7) (q := (RX7, TX7, 12)) rfl h_vu_1 rfl) rfl rfl hl.1 rfl (lv_room (Nat.le_of_ble_eq_true rfl)) dX9_sat_40 ⟨Nat.le_of_ble_eq_true rfl, Nat.le_of_ble_eq_true rfl⟩) hw hA (fun v_4  H locs hp_v_4 hw => ?_)
    have r_v_4 : RI v_4 (-1) 255 := hp_v_4.1
    refine lv_istore (lv' := [(4, .int v_4), (3, .int v_3), (2, .int v_2), (1, .int y0), (0, .ref p0)]) hx hb dX9_sat_43 hl (by decide) rfl (fun ls hl => ?_)
    refine lv_aload_n hx hb dX9_sat_45 rfl (lv_at hl 4 rfl) ?_
    refine tg_mem (ci := 9) (C := RX9) (T := TX9) (N := 15) hx hb hts inX9 hown hK hw 0 m_u_1 rfl (by decide) (hts _ tw_346) (fun _ h9 => h9) dX9_sat_46 ?_
    refine lv_iconst (v := 3) hx hb dX9_sat_49 (by decide) ?_
    refine tk_ir (va_runV (As := [.int 3]) (rest := []) ⟨hx, hb, hml, hown, hts⟩ (c_X7_at l D cy z H.size Ps ws hw.1 vu_1 3 h_vu_1 (rl_3.to (by decide))) (cwV 1 hts (gV tw_756 tw_757 tw_758 tw_2 tw_759) rfl rfl rfl (by decide +kernel) ⟨Nat.le_of_ble_eq_true rfl, Nat.le_of_ble_eq_true rfl⟩) (tg_preV hw hK hSD hA (ci := 7) (q := (RX7, TX7, 12)) rfl h_vu_1 rfl) rfl rfl hl.1 rfl (lv_room (Nat.le_of_ble_eq_true rfl)) dX9_sat_50 ⟨Nat.le_of_ble_eq_true rfl, Nat.le_of_ble_eq_true rfl⟩) hw hA (fun v_5  H locs hp_v_5 hw => ?_)
    have r_v_5 : RI v_5 (-1) 255 := hp_v_5.1
    refine lv_istore (lv' := [(5, .int v_5), (4, .int v_4), (3, .int v_3), (2, .int v_2), (1, .int y0), (0, .ref p0)]) hx hb dX9_sat_53 hl (by decide) rfl (fun ls hl => ?_)
    refine lv_aload_n hx hb dX9_sat_55 rfl (lv_at hl 5 rfl) ?_
    refine tg_mem (ci := 9) (C := RX9) (T := TX9) (N := 15) hx hb hts inX9 hown hK hw 0 m_u_1 rfl (by decide) (hts _ tw_346) (fun _ h9 => h9) dX9_sat_56 ?_
    refine lv_iconst (v := 0) hx hb dX9_sat_59 (by decide) ?_
    refine tg_putN (ci := 7) (ts := ty_TAPE) (v := .int 0) (ty := .int) (C := RX7) (T := TX7) (N := 12) hx hb hts inX7 tyX7 tyX7_ok nmX7 hown hK hw h_vu_1 rfl rfl 2 (by decide) (hSD.nest tn_90) (fun _ h9 => h9) rfl (by decide +kernel) rfl rfl (ft := vI 0 940) rfl ⟨_, rfl, (rl_0.to (by decide))⟩ (by decide) dX9_sat_60 (fun ws H locs hw n_k_6 hF9 => ?_)
    have m_u_1 := FLD.over hF9 m_u_1 (by decide)
    have x_GQ_gdq_gdg := GQ.over hF9 x_GQ_gdq_gdg (by decide)
    have x_GWX_p0_gdq := GWX.over hF9 x_GWX_p0_gdq (by decide)
    have x_HE_gdq_gdg_gdo_gdA_gdB_false_false := HE.over hF9 x_HE_gdq_gdg_gdo_gdA_gdB_false_false (by decide)
    have x_TLX_p0_0 : TLX ws p0 (0) := ⟨_, m_u_1, _, n_k_6, (by decide)⟩
    refine lv_iload_n hx hb dX9_sat_63 rfl (lv_at hl 4 rfl) ?_
    refine lv_if_eq (tgt := 87) hx hb dX9_sat_64 (by decide) (fun c_64 => ?_) (fun c_64 => ?_)
    · have r_y0 : RI y0 0 0 := rc_eq1 r_y0 rl_0 (ti_eq c_64) (by decide)
      refine lv_iconst (v := (-1)) hx hb dX9_sat_87 (by decide) ?_
      refine W.widen (k := 1) (n := 8) (Nat.le_of_ble_eq_true rfl) (Nat.le_of_ble_eq_true rfl) ?_
      subst hQ
      exact W.iret (v := (-1)) hx hb hr (fun t ht hW => ⟨⟨(-1), (Ps, ws), rfl, ⟨⟨rl_m1.to (by decide), (fun _ => trivial), (fun h0 => trivial), ⟨x_TLX_p0_0, x_HE_gdq_gdg_gdo_gdA_gdB_false_false, trivial⟩, (fun _ => trivial), (fun _ => trivial)⟩, hw.2.2.2.2.2.2, hw.1, hw.2.2.2.2.1⟩, by rw [ht]; exact hw.2.1, va_K.moved hW.alike hK, hw.2.2.1⟩, hw.2.2.2.1.F ht⟩) hw.2.2.2.1.2.2 dX9_sat_88
    · have r_y0 : RI y0 1 1 := rc_neL r_y0 rl_0 (ti_ne c_64) (by decide)
      refine lv_aload_n hx hb dX9_sat_67 rfl (lv_at hl 5 rfl) ?_
      refine lv_iconst (v := 2) hx hb dX9_sat_68 (by decide) ?_
      refine lv_iload_n hx hb dX9_sat_69 rfl (lv_at hl 3 rfl) ?_
      refine tk_ir (va_runV (As := [.int 2, .int v_2]) (rest := []) ⟨hx, hb, hml, hown, hts⟩ (c_X9_isOf l D cy z H.size Ps ws hw.1 p0 2 v_2 h_p0 rl_2 (r_v_2.to (by decide))) (cwV 2 hts (gV tw_540 tw_542 ts_10 tw_1 tw_543) rfl rfl rfl (by decide +kernel) ⟨Nat.le_of_ble_eq_true rfl, Nat.le_of_ble_eq_true rfl⟩) (tg_preV hw hK hSD hA (ci := 9) (q := (RX9, TX9, 15)) rfl h_p0 rfl) rfl rfl hl.1 rfl (lv_room (Nat.le_of_ble_eq_true rfl)) dX9_sat_70 ⟨Nat.le_of_ble_eq_true rfl, Nat.le_of_ble_eq_true rfl⟩) hw hA (fun v_7  H locs hp_v_7 hw => ?_)
      have r_v_7 : RI v_7 0 1 := hp_v_7.1
      refine lv_if_eq (tgt := 87) hx hb dX9_sat_73 (by decide) (fun c_73 => ?_) (fun c_73 => ?_)
      · have r_v_7 : RI v_7 0 0 := rc_eq1 r_v_7 rl_0 (ti_eq c_73) (by decide)
        refine lv_iconst (v := (-1)) hx hb dX9_sat_87 (by decide) ?_
        refine W.widen (k := 1) (n := 8) (Nat.le_of_ble_eq_true rfl) (Nat.le_of_ble_eq_true rfl) ?_
        subst hQ
        exact W.iret (v := (-1)) hx hb hr (fun t ht hW => ⟨⟨(-1), (Ps, ws), rfl, ⟨⟨rl_m1.to (by decide), (fun _ => trivial), (fun h0 => trivial), ⟨x_TLX_p0_0, x_HE_gdq_gdg_gdo_gdA_gdB_false_false, trivial⟩, (fun _ => trivial), (fun _ => trivial)⟩, hw.2.2.2.2.2.2, hw.1, hw.2.2.2.2.1⟩, by rw [ht]; exact hw.2.1, va_K.moved hW.alike hK, hw.2.2.1⟩, hw.2.2.2.1.F ht⟩) hw.2.2.2.1.2.2 dX9_sat_88
      · have r_v_7 : RI v_7 1 1 := rc_neL r_v_7 rl_0 (ti_ne c_73) (by decide)
        have r_v_2 : RI v_2 0 5 := ((hp_v_7.2.2 c_73).1)
        refine lv_iload_n hx hb dX9_sat_76 rfl (lv_at hl 2 rfl) ?_
        refine lv_iconst (v := 1) hx hb dX9_sat_77 (by decide) ?_
        refine lv_icmp_lt (tgt := 87) hx hb dX9_sat_78 (by decide) (fun c_78 => ?_) (fun c_78 => ?_)
        · have r_v_3 : RI v_3 (-1) 0 := rc_lt1 r_v_3 rl_1 (ti_lt c_78) (by decide)
          refine lv_iconst (v := (-1)) hx hb dX9_sat_87 (by decide) ?_
          refine W.widen (k := 1) (n := 8) (Nat.le_of_ble_eq_true rfl) (Nat.le_of_ble_eq_true rfl) ?_
          subst hQ
          exact W.iret (v := (-1)) hx hb hr (fun t ht hW => ⟨⟨(-1), (Ps, ws), rfl, ⟨⟨rl_m1.to (by decide), (fun _ => trivial), (fun h0 => trivial), ⟨x_TLX_p0_0, x_HE_gdq_gdg_gdo_gdA_gdB_false_false, trivial⟩, (fun _ => trivial), (fun _ => trivial)⟩, hw.2.2.2.2.2.2, hw.1, hw.2.2.2.2.1⟩, by rw [ht]; exact hw.2.1, va_K.moved hW.alike hK, hw.2.2.1⟩, hw.2.2.2.1.F ht⟩) hw.2.2.2.1.2.2 dX9_sat_88
        · have r_v_3 : RI v_3 1 255 := rc_le2 rl_1 r_v_3 (ti_nlt c_78) (by decide)
          refine lv_iload_n hx hb dX9_sat_81 rfl (lv_at hl 2 rfl) ?_
          refine lv_bipush (v := 30) hx hb dX9_sat_82 (by decide) ?_
          refine lv_icmp_le (tgt := 89) hx hb dX9_sat_84 (by decide) (fun c_84 => ?_) (fun c_84 => ?_)
          · have r_v_3 : RI v_3 1 30 := rc_le1 r_v_3 rl_30 (ti_le c_84) (by decide)
            refine lv_iload hx hb dX9_sat_89 (lv_at hl 1 rfl) ?_
            refine lv_sipush (v := 255) hx hb dX9_sat_91 (by decide) ?_
            refine lv_icmp_eq (tgt := 107) hx hb dX9_sat_94 (by decide) (fun c_94 => ?_) (fun c_94 => ?_)
            · have r_v_4 : RI v_4 255 255 := rc_eq1 r_v_4 rl_255 (ti_eq c_94) (by decide)
              refine lv_aload_n hx hb dX9_sat_107 rfl (lv_at hl 5 rfl) ?_
              refine tg_get (ci := 9) (ts := ty_WP) (C := RX9) (T := TX9) (N := 15) hx hb hts inX9 hown hK hw h_p0 rfl rfl 1 (by decide) (hts _ tw_347) (fun _ h9 => h9) (ft := vR 24) rfl dX9_sat_108 (fun u_8 hv_u_8 m_u_8 => ?_)
              obtain ⟨vu_8, rfl, h_vu_8⟩ := hv_u_8
              refine lv_iload_n hx hb dX9_sat_111 rfl (lv_at hl 3 rfl) ?_
              refine tk_ir (va_runV (As := [.int v_2]) (rest := []) ⟨hx, hb, hml, hown, hts⟩ (c_X8_isOpen l D cy z H.size Ps ws hw.1 vu_8 v_2 h_vu_8 r_v_2) (cwV 1 hts (gV tw_733 tw_562 tw_563 tw_12 tw_564) rfl rfl rfl (by decide +kernel) ⟨Nat.le_of_ble_eq_true rfl, Nat.le_of_ble_eq_true rfl⟩) (tg_preV hw hK hSD hA (ci := 8) (q := (RX8, TX8, 13)) rfl h_vu_8 rfl) rfl rfl hl.1 rfl (lv_room (Nat.le_of_ble_eq_true rfl)) dX9_sat_112 ⟨Nat.le_of_ble_eq_true rfl, Nat.le_of_ble_eq_true rfl⟩) hw hA (fun v_9  H locs hp_v_9 hw => ?_)
              have r_v_9 : RI v_9 0 1 := hp_v_9.1
              refine lv_if_eq (tgt := 120) hx hb dX9_sat_115 (by decide) (fun c_115 => ?_) (fun c_115 => ?_)
              · have r_v_9 : RI v_9 0 0 := rc_eq1 r_v_9 rl_0 (ti_eq c_115) (by decide)
                refine lv_aload_n hx hb dX9_sat_120 rfl (lv_at hl 5 rfl) ?_
                refine lv_iload_n hx hb dX9_sat_121 rfl (lv_at hl 3 rfl) ?_
                refine lv_iload_n hx hb dX9_sat_122 rfl (lv_at hl 2 rfl) ?_
                refine lv_iload hx hb dX9_sat_123 (lv_at hl 1 rfl) ?_
                refine lv_sipush (v := 255) hx hb dX9_sat_125 (by decide) ?_
                refine lv_icmp_ne (tgt := 135) hx hb dX9_sat_128 (by decide) (fun c_128 => ?_) (fun c_128 => ?_)
                · exact absurd (r_v_4.eq.trans rl_255.eq.symm) ((ti_ne c_128))
                · refine lv_iconst (v := (-1)) hx hb dX9_sat_131 (by decide) ?_
                  refine lv_goto (tgt := 137) hx hb dX9_sat_132 (by decide) ?_
                  refine lv_iload hx hb dX9_sat_137 (lv_at hl 0 rfl) ?_
                  refine tk_iA (va_runV (As := [.int v_2, .int v_3, .int (-1), .int v_5]) (rest := []) ⟨hx, hb, hml, hown, hts⟩ (c_X9_setsThatSat__1 l D cy z H.size Ps ws hw.1 p0 v_2 v_3 (-1) v_5 (gdq) (gdg) (gdo) (gdA) (gdB) h_p0 r_v_2 r_v_3 (rl_m1.to (by decide)) (r_v_5.to (by decide)) x_GWX_p0_gdq x_GQ_gdq_gdg x_HE_gdq_gdg_gdo_gdA_gdB_false_false) (cwV 4 hts (gV tw_760 tw_762 ts_19 tw_1 tw_763) rfl rfl rfl (by decide +kernel) ⟨Nat.le_of_ble_eq_true rfl, Nat.le_of_ble_eq_true rfl⟩) (tg_preV hw hK hSD hA (ci := 9) (q := (RX9, TX9, 15)) rfl h_p0 rfl) rfl rfl hl.1 rfl (lv_room (Nat.le_of_ble_eq_true rfl)) dX9_sat_139 ⟨Nat.le_of_ble_eq_true rfl, Nat.le_of_ble_eq_true rfl⟩) hw hA ⟨by decide, by decide⟩ (fun v_10 Pn ws H locs hp_v_10 hup hw hF9 => ?_)
                  refine W.widen (k := 1) (n := 8) (Nat.le_of_ble_eq_true rfl) (Nat.le_of_ble_eq_true rfl) ?_
                  have h_p0 := hup _ h_p0
                  have h_vu_1 := hup _ h_vu_1
                  have h_vu_8 := hup _ h_vu_8
                  have x_GQ_gdq_gdg := GQ.over hF9 x_GQ_gdq_gdg (by decide)
                  have x_GWX_p0_gdq := GWX.over hF9 x_GWX_p0_gdq (by decide)
                  have x_TLX_p0_0 := TLX.over hF9 x_TLX_p0_0 (by decide)
                  have x_GQ_gdq_gdg := GQ.up hup hw x_GQ_gdq_gdg
                  have r_v_10 : RI v_10 (-2147483648) 2147483647 := hp_v_10.1
                  have x_HE_gdq_gdg_gdo_gdA_gdB_false_false := hp_v_10.2.2.2.1.1
                  subst hQ
                  exact W.iret (v := v_10) hx hb hr (fun t ht hW => ⟨⟨v_10, (Pn, ws), rfl, ⟨⟨r_v_10.to (by decide), (fun h0 => trivial), (fun h0 => trivial), ⟨x_TLX_p0_0, x_HE_gdq_gdg_gdo_gdA_gdB_false_false, trivial⟩, (fun _ => trivial), (fun _ => trivial)⟩, hw.2.2.2.2.2.2, hw.1, hw.2.2.2.2.1⟩, by rw [ht]; exact hw.2.1, va_K.moved hW.alike hK, hw.2.2.1⟩, hw.2.2.2.1.F ht⟩) hw.2.2.2.1.2.2 dX9_sat_142
              · have r_v_9 : RI v_9 1 1 := rc_neL r_v_9 rl_0 (ti_ne c_115) (by decide)
                refine lv_iconst (v := (-1)) hx hb dX9_sat_118 (by decide) ?_
                refine W.widen (k := 1) (n := 8) (Nat.le_of_ble_eq_true rfl) (Nat.le_of_ble_eq_true rfl) ?_
                subst hQ
                exact W.iret (v := (-1)) hx hb hr (fun t ht hW => ⟨⟨(-1), (Ps, ws), rfl, ⟨⟨rl_m1.to (by decide), (fun _ => trivial), (fun h0 => trivial), ⟨x_TLX_p0_0, x_HE_gdq_gdg_gdo_gdA_gdB_false_false, trivial⟩, (fun _ => trivial), (fun _ => trivial)⟩, hw.2.2.2.2.2.2, hw.1, hw.2.2.2.2.1⟩, by rw [ht]; exact hw.2.1, va_K.moved hW.alike hK, hw.2.2.1⟩, hw.2.2.2.1.F ht⟩) hw.2.2.2.1.2.2 dX9_sat_119
            · have r_v_4 : RI v_4 (-1) 254 := rc_neU r_v_4 rl_255 (ti_ne c_94) (by decide)
              refine lv_aload_n hx hb dX9_sat_97 rfl (lv_at hl 5 rfl) ?_
              refine lv_iconst (v := 0) hx hb dX9_sat_98 (by decide) ?_
              refine lv_iload hx hb dX9_sat_99 (lv_at hl 1 rfl) ?_
              refine tk_ir (va_runV (As := [.int 0, .int v_4]) (rest := []) ⟨hx, hb, hml, hown, hts⟩ (c_X9_isOf__3 l D cy z H.size Ps ws hw.1 p0 0 v_4 h_p0 rl_0 (r_v_4.to (by decide))) (cwV 2 hts (gV tw_540 tw_542 ts_10 tw_1 tw_543) rfl rfl rfl (by decide +kernel) ⟨Nat.le_of_ble_eq_true rfl, Nat.le_of_ble_eq_true rfl⟩) (tg_preV hw hK hSD hA (ci := 9) (q := (RX9, TX9, 15)) rfl h_p0 rfl) rfl rfl hl.1 rfl (lv_room (Nat.le_of_ble_eq_true rfl)) dX9_sat_101 ⟨Nat.le_of_ble_eq_true rfl, Nat.le_of_ble_eq_true rfl⟩) hw hA (fun v_11  H locs hp_v_11 hw => ?_)
              have r_v_11 : RI v_11 0 1 := hp_v_11.1
              refine lv_if_eq (tgt := 118) hx hb dX9_sat_104 (by decide) (fun c_104 => ?_) (fun c_104 => ?_)
              · have r_v_11 : RI v_11 0 0 := rc_eq1 r_v_11 rl_0 (ti_eq c_104) (by decide)
                refine lv_iconst (v := (-1)) hx hb dX9_sat_118 (by decide) ?_
                refine W.widen (k := 1) (n := 8) (Nat.le_of_ble_eq_true rfl) (Nat.le_of_ble_eq_true rfl) ?_
                subst hQ
                exact W.iret (v := (-1)) hx hb hr (fun t ht hW => ⟨⟨(-1), (Ps, ws), rfl, ⟨⟨rl_m1.to (by decide), (fun _ => trivial), (fun h0 => trivial), ⟨x_TLX_p0_0, x_HE_gdq_gdg_gdo_gdA_gdB_false_false, trivial⟩, (fun _ => trivial), (fun _ => trivial)⟩, hw.2.2.2.2.2.2, hw.1, hw.2.2.2.2.1⟩, by rw [ht]; exact hw.2.1, va_K.moved hW.alike hK, hw.2.2.1⟩, hw.2.2.2.1.F ht⟩) hw.2.2.2.1.2.2 dX9_sat_119
              · have r_v_11 : RI v_11 1 1 := rc_neL r_v_11 rl_0 (ti_ne c_104) (by decide)
                have r_v_4 : RI v_4 0 5 := ((hp_v_11.2.2 c_104).1)
                refine lv_aload_n hx hb dX9_sat_107 rfl (lv_at hl 5 rfl) ?_
                refine tg_get (ci := 9) (ts := ty_WP) (C := RX9) (T := TX9) (N := 15) hx hb hts inX9 hown hK hw h_p0 rfl rfl 1 (by decide) (hts _ tw_347) (fun _ h9 => h9) (ft := vR 24) rfl dX9_sat_108 (fun u_12 hv_u_12 m_u_12 => ?_)
                obtain ⟨vu_12, rfl, h_vu_12⟩ := hv_u_12
                refine lv_iload_n hx hb dX9_sat_111 rfl (lv_at hl 3 rfl) ?_
                refine tk_ir (va_runV (As := [.int v_2]) (rest := []) ⟨hx, hb, hml, hown, hts⟩ (c_X8_isOpen l D cy z H.size Ps ws hw.1 vu_12 v_2 h_vu_12 r_v_2) (cwV 1 hts (gV tw_733 tw_562 tw_563 tw_12 tw_564) rfl rfl rfl (by decide +kernel) ⟨Nat.le_of_ble_eq_true rfl, Nat.le_of_ble_eq_true rfl⟩) (tg_preV hw hK hSD hA (ci := 8) (q := (RX8, TX8, 13)) rfl h_vu_12 rfl) rfl rfl hl.1 rfl (lv_room (Nat.le_of_ble_eq_true rfl)) dX9_sat_112 ⟨Nat.le_of_ble_eq_true rfl, Nat.le_of_ble_eq_true rfl⟩) hw hA (fun v_13  H locs hp_v_13 hw => ?_)
                have r_v_13 : RI v_13 0 1 := hp_v_13.1
                refine lv_if_eq (tgt := 120) hx hb dX9_sat_115 (by decide) (fun c_115 => ?_) (fun c_115 => ?_)
                · have r_v_13 : RI v_13 0 0 := rc_eq1 r_v_13 rl_0 (ti_eq c_115) (by decide)
                  refine lv_aload_n hx hb dX9_sat_120 rfl (lv_at hl 5 rfl) ?_
                  refine lv_iload_n hx hb dX9_sat_121 rfl (lv_at hl 3 rfl) ?_
                  refine lv_iload_n hx hb dX9_sat_122 rfl (lv_at hl 2 rfl) ?_
                  refine lv_iload hx hb dX9_sat_123 (lv_at hl 1 rfl) ?_
                  refine lv_sipush (v := 255) hx hb dX9_sat_125 (by decide) ?_
                  refine lv_icmp_ne (tgt := 135) hx hb dX9_sat_128 (by decide) (fun c_128 => ?_) (fun c_128 => ?_)
                  · refine lv_iload hx hb dX9_sat_135 (lv_at hl 1 rfl) ?_
                    refine lv_iload hx hb dX9_sat_137 (lv_at hl 0 rfl) ?_
                    refine tk_iA (va_runV (As := [.int v_2, .int v_3, .int v_4, .int v_5]) (rest := []) ⟨hx, hb, hml, hown, hts⟩ (c_X9_setsThatSat__1 l D cy z H.size Ps ws hw.1 p0 v_2 v_3 v_4 v_5 (gdq) (gdg) (gdo) (gdA) (gdB) h_p0 r_v_2 r_v_3 (r_v_4.to (by decide)) (r_v_5.to (by decide)) x_GWX_p0_gdq x_GQ_gdq_gdg x_HE_gdq_gdg_gdo_gdA_gdB_false_false) (cwV 4 hts (gV tw_760 tw_762 ts_19 tw_1 tw_763) rfl rfl rfl (by decide +kernel) ⟨Nat.le_of_ble_eq_true rfl, Nat.le_of_ble_eq_true rfl⟩) (tg_preV hw hK hSD hA (ci := 9) (q := (RX9, TX9, 15)) rfl h_p0 rfl) rfl rfl hl.1 rfl (lv_room (Nat.le_of_ble_eq_true rfl)) dX9_sat_139 ⟨Nat.le_of_ble_eq_true rfl, Nat.le_of_ble_eq_true rfl⟩) hw hA ⟨by decide, by decide⟩ (fun v_14 Pn ws H locs hp_v_14 hup hw hF9 => ?_)
                    refine W.widen (k := 1) (n := 8) (Nat.le_of_ble_eq_true rfl) (Nat.le_of_ble_eq_true rfl) ?_
                    have h_p0 := hup _ h_p0
                    have h_vu_1 := hup _ h_vu_1
                    have h_vu_12 := hup _ h_vu_12
                    have x_GQ_gdq_gdg := GQ.over hF9 x_GQ_gdq_gdg (by decide)
                    have x_GWX_p0_gdq := GWX.over hF9 x_GWX_p0_gdq (by decide)
                    have x_TLX_p0_0 := TLX.over hF9 x_TLX_p0_0 (by decide)
                    have x_GQ_gdq_gdg := GQ.up hup hw x_GQ_gdq_gdg
                    have r_v_14 : RI v_14 (-2147483648) 2147483647 := hp_v_14.1
                    have x_HE_gdq_gdg_gdo_gdA_gdB_false_false := hp_v_14.2.2.2.1.1
                    subst hQ
                    exact W.iret (v := v_14) hx hb hr (fun t ht hW => ⟨⟨v_14, (Pn, ws), rfl, ⟨⟨r_v_14.to (by decide), (fun h0 => trivial), (fun h0 => trivial), ⟨x_TLX_p0_0, x_HE_gdq_gdg_gdo_gdA_gdB_false_false, trivial⟩, (fun _ => trivial), (fun _ => trivial)⟩, hw.2.2.2.2.2.2, hw.1, hw.2.2.2.2.1⟩, by rw [ht]; exact hw.2.1, va_K.moved hW.alike hK, hw.2.2.1⟩, hw.2.2.2.1.F ht⟩) hw.2.2.2.1.2.2 dX9_sat_142
                  · have r_v_4 : RI v_4 255 5 := rc_eq1 r_v_4 rl_255 (ti_eq c_128) (by decide)
                    exact (r_v_4.no (by decide)).elim
                · have r_v_13 : RI v_13 1 1 := rc_neL r_v_13 rl_0 (ti_ne c_115) (by decide)
                  refine lv_iconst (v := (-1)) hx hb dX9_sat_118 (by decide) ?_
                  refine W.widen (k := 1) (n := 8) (Nat.le_of_ble_eq_true rfl) (Nat.le_of_ble_eq_true rfl) ?_
                  subst hQ
                  exact W.iret (v := (-1)) hx hb hr (fun t ht hW => ⟨⟨(-1), (Ps, ws), rfl, ⟨⟨rl_m1.to (by decide), (fun _ => trivial), (fun h0 => trivial), ⟨x_TLX_p0_0, x_HE_gdq_gdg_gdo_gdA_gdB_false_false, trivial⟩, (fun _ => trivial), (fun _ => trivial)⟩, hw.2.2.2.2.2.2, hw.1, hw.2.2.2.2.1⟩, by rw [ht]; exact hw.2.1, va_K.moved hW.alike hK, hw.2.2.1⟩, hw.2.2.2.1.F ht⟩) hw.2.2.2.1.2.2 dX9_sat_119
          · have r_v_3 : RI v_3 31 255 := rc_lt2 rl_30 r_v_3 (ti_nle c_84) (by decide)
            refine lv_iconst (v := (-1)) hx hb dX9_sat_87 (by decide) ?_
            refine W.widen (k := 1) (n := 8) (Nat.le_of_ble_eq_true rfl) (Nat.le_of_ble_eq_true rfl) ?_
            subst hQ
            exact W.iret (v := (-1)) hx hb hr (fun t ht hW => ⟨⟨(-1), (Ps, ws), rfl, ⟨⟨rl_m1.to (by decide), (fun _ => trivial), (fun h0 => trivial), ⟨x_TLX_p0_0, x_HE_gdq_gdg_gdo_gdA_gdB_false_false, trivial⟩, (fun _ => trivial), (fun _ => trivial)⟩, hw.2.2.2.2.2.2, hw.1, hw.2.2.2.2.1⟩, by rw [ht]; exact hw.2.1, va_K.moved hW.alike hK, hw.2.2.1⟩, hw.2.2.2.1.F ht⟩) hw.2.2.2.1.2.2 dX9_sat_88
  refine lv_aload_n hx hb dX9_sat_0 rfl (lv_at hl 0 rfl) ?_
  refine tg_get (ci := 9) (ts := ty_WP) (C := RX9) (T := TX9) (N := 15) hx hb hts inX9 hown hK hw h_p0 rfl rfl 0 (by decide) (hts _ tw_346) (fun _ h9 => h9) (ft := vR 26) rfl dX9_sat_1 (fun u_15 hv_u_15 m_u_15 => ?_)
  obtain ⟨vu_15, rfl, h_vu_15⟩ := hv_u_15
  refine tg_getN (ci := 7) (ts := ty_TAPE) (C := RX7) (T := TX7) (N := 12) hx hb hts inX7 hown hK hw h_vu_15 rfl rfl 2 (by decide) (hSD.nest tn_90) (fun _ h9 => h9) (ft := vI 0 940) rfl dX9_sat_4 (fun u_16 hv_u_16 m_u_16 => ?_)
  obtain ⟨vu_16, rfl, r_vu_16⟩ := hv_u_16
  refine lv_iconst (v := 4) hx hb dX9_sat_7 (by decide) ?_
  refine lv_icmp_ne (tgt := 15) hx hb dX9_sat_8 (by decide) (fun c_8 => ?_) (fun c_8 => ?_)
  · refine lv_iconst (v := 0) hx hb dX9_sat_15 (by decide) ?_
    exact B16 0 w0 _ _ ls (rl_0.to (by decide)) x_GQ_gdq_gdg x_GWX_p0_gdq x_HE_gdq_gdg_gdo_gdA_gdB_false_false hw hl
  · have r_vu_16 : RI vu_16 4 4 := rc_eq1 r_vu_16 rl_4 (ti_eq c_8) (by decide)
    refine lv_iconst (v := 1) hx hb dX9_sat_11 (by decide) ?_
    refine lv_goto (tgt := 16) hx hb dX9_sat_12 (by decide) ?_
    exact B16 1 w0 _ _ ls (rl_1.to (by decide)) x_GQ_gdq_gdg x_GWX_p0_gdq x_HE_gdq_gdg_gdo_gdA_gdB_false_false hw hl
abbrev wr_X9_sit__1 : List (Nat × Nat) := [(1, 1), (1, 2), (8, 0), (8, 1)]
abbrev wa_X9_sit__1 : List Nat := [8, 9, 10, 11, 12, 13]
set_option maxHeartbeats 4000000 in
set_option maxRecDepth 100000 in
theorem c_X9_sit__1 (l : Launch) (D : va_G) (cy : Nat → ClassId) (z : Nat → Nat) (sz : Nat) (Ps : PSI) (w0 : va_W) (hT : HT cy GG Ps w0) (p0 : Nat) (p1 : Int32) (p2 : Int32) (gdq : Nat → Nat) (gdg : Nat → Nat) (gdo : OS) (gdA : OS) (gdB : OS) (h_p0 : (p0, 33) ∈ Ps) (r_p1 : RI p1 (-2147483648) 2147483647) (r_p2 : RI p2 (-2147483648) 2147483647) (x_GWX_p0_gdq : GWX w0 p0 gdq) (x_GQ_gdq_gdg : GQ Ps w0 gdq gdg) (x_HE_gdq_gdg_gdo_gdA_gdB_false_false : HE Ps w0 gdq gdg gdo gdA gdB false false) : Met l yX9_sit (Cond.code yX9_sit cX9_sit 3 (some .int) :: gT) ({ frames := 4, cells := 0, slots := 0, locals := 800 } : Room) (va_Pc [.ref p0, .int p1, .int p2] (PRE D cy z w0 sz)) (va_Qi (fun (r : Int32) (u : va_W) => (RI r (-2147483648) 2147483647 ∧ (r = 0 → True) ∧ (¬ r = 0 → True) ∧ (HE Ps u gdq gdg gdo gdA gdB false false ∧ True) ∧ (r.toInt < 0 → True) ∧ (0 ≤ r.toInt → True)) ∧ HT cy GG Ps u ∧ FR wr_X9_sit__1 wa_X9_sit__1 Ps w0 u) (BB D cy (va_A w0 sz) (fun (u : va_W) => u)) (va_A w0 sz)) 0 0 (va_A w0 sz) := by
  refine Met.ofW (cc := cX9_sit) (maxL := 3) (ret := (some .int)) (by decide) rfl ?_
  intro p e s m args below meth c s₁ B hml hv
  obtain ⟨rfl, hsz, hP, hK, hD0, hSD⟩ := hv
  have hx := B.exec
  have hb := B.bytes
  have hr := B.returns
  have hlocks := B.notSynchronized
  have hts : ∀ w ∈ gT, w.before _ s = true := fun w h => atoms_spec (ws := Cond.code yX9_sit cX9_sit 3 (some .int) :: gT) B.pre w (List.mem_cons_of_mem _ h)
  have hown : s.vm.findClass RX9 = some m.cls := findClass_of_methodNamed B.named
  subst hsz
  have hD := hD0.self (sz := s.heap.size)
  generalize hAe : va_A w0 s.heap.size = A at hD hSD ⊢
  have hA : ∀ q : Nat, s.heap.size ≤ q → A q := fun q h => by rw [← hAe]; exact Or.inr h
  have hl := lv_entry ([.ref p0, .int p1, .int p2]) (n := 3) (Nat.le_of_ble_eq_true rfl)
  rw [lg_entry_eq]
  generalize (lg_sl ([.ref p0, .int p1, .int p2]) ++ List.replicate (3 - (lg_sl ([.ref p0, .int p1, .int p2])).length) Slot.unset).toArray = ls at hl ⊢
  have hl : lv_has ls 3 [(0, .ref p0), (1, .int p1), (2, .int p2)] := hl
  refine nameQ (fun Q hQ => ?_)
  have hw : WD D cy GG A s wr_X9_sit__1 wa_X9_sit__1 Ps w0 Ps w0 s.heap [] := ⟨hT, hP, hD, va_S.rf, FR.rf, hT.1, [], (List.append_nil _).symm⟩
  refine lv_aload_n hx hb dX9_sit_0 rfl (lv_at hl 0 rfl) ?_
  refine lv_iconst (v := 3) hx hb dX9_sit_1 (by decide) ?_
  refine lv_iload_n hx hb dX9_sit_2 rfl (lv_at hl 1 rfl) ?_
  refine tk_ir (va_runV (As := [.int 3, .int p1]) (rest := []) ⟨hx, hb, hml, hown, hts⟩ (c_X9_isOf__2 l D cy z s.heap.size Ps w0 hw.1 p0 3 p1 h_p0 rl_3 r_p1) (cwV 2 hts (gV tw_540 tw_542 ts_10 tw_1 tw_543) rfl rfl rfl (by decide +kernel) ⟨Nat.le_of_ble_eq_true rfl, Nat.le_of_ble_eq_true rfl⟩) (tg_preV hw hK hSD hA (ci := 9) (q := (RX9, TX9, 15)) rfl h_p0 rfl) rfl rfl hl.1 rfl (lv_room (Nat.le_of_ble_eq_true rfl)) dX9_sit_3 ⟨Nat.le_of_ble_eq_true rfl, Nat.le_of_ble_eq_true rfl⟩) hw hA (fun v_1  H locs hp_v_1 hw => ?_)
  have r_v_1 : RI v_1 0 1 := hp_v_1.1
  refine lv_if_eq (tgt := 18) hx hb dX9_sit_6 (by decide) (fun c_6 => ?_) (fun c_6 => ?_)
  · have r_v_1 : RI v_1 0 0 := rc_eq1 r_v_1 rl_0 (ti_eq c_6) (by decide)
    refine lv_iconst (v := (-1)) hx hb dX9_sit_18 (by decide) ?_
    subst hQ
    exact W.iret (v := (-1)) hx hb hr (fun t ht hW => ⟨⟨(-1), w0, rfl, ⟨⟨rl_m1.to (by decide), (fun _ => trivial), (fun h0 => trivial), ⟨x_HE_gdq_gdg_gdo_gdA_gdB_false_false, trivial⟩, (fun _ => trivial), (fun _ => trivial)⟩, hw.1, hw.2.2.2.2.1⟩, by rw [ht]; exact hw.2.1, va_K.moved hW.alike hK, hw.2.2.1⟩, hw.2.2.2.1.F ht⟩) hw.2.2.2.1.2.2 dX9_sit_19
  · have r_v_1 : RI v_1 1 1 := rc_neL r_v_1 rl_0 (ti_ne c_6) (by decide)
    have r_p1 : RI p1 0 7 := ((hp_v_1.2.2 c_6).1)
    refine lv_aload_n hx hb dX9_sit_9 rfl (lv_at hl 0 rfl) ?_
    refine lv_iconst (v := 2) hx hb dX9_sit_10 (by decide) ?_
    refine lv_iload_n hx hb dX9_sit_11 rfl (lv_at hl 2 rfl) ?_
    refine tk_ir (va_runV (As := [.int 2, .int p2]) (rest := []) ⟨hx, hb, hml, hown, hts⟩ (c_X9_isOf l D cy z H.size Ps w0 hw.1 p0 2 p2 h_p0 rl_2 r_p2) (cwV 2 hts (gV tw_540 tw_542 ts_10 tw_1 tw_543) rfl rfl rfl (by decide +kernel) ⟨Nat.le_of_ble_eq_true rfl, Nat.le_of_ble_eq_true rfl⟩) (tg_preV hw hK hSD hA (ci := 9) (q := (RX9, TX9, 15)) rfl h_p0 rfl) rfl rfl hl.1 rfl (lv_room (Nat.le_of_ble_eq_true rfl)) dX9_sit_12 ⟨Nat.le_of_ble_eq_true rfl, Nat.le_of_ble_eq_true rfl⟩) hw hA (fun v_2  H locs hp_v_2 hw => ?_)
    have r_v_2 : RI v_2 0 1 := hp_v_2.1
    refine lv_if_ne (tgt := 20) hx hb dX9_sit_15 (by decide) (fun c_15 => ?_) (fun c_15 => ?_)
    · have r_v_2 : RI v_2 1 1 := rc_neL r_v_2 rl_0 (ti_ne c_15) (by decide)
      have r_p2 : RI p2 0 5 := ((hp_v_2.2.2 c_15).1)
      refine lv_aload_n hx hb dX9_sit_20 rfl (lv_at hl 0 rfl) ?_
      refine tg_get (ci := 9) (ts := ty_WP) (C := RX9) (T := TX9) (N := 15) hx hb hts inX9 hown hK hw h_p0 rfl rfl 3 (by decide) (hts _ tw_349) (fun _ h9 => h9) (ft := vR 27) rfl dX9_sit_21 (fun u_3 hv_u_3 m_u_3 => ?_)
      obtain ⟨vu_3, rfl, h_vu_3⟩ := hv_u_3
      refine lv_aload_n hx hb dX9_sit_24 rfl (lv_at hl 0 rfl) ?_
      refine tg_get (ci := 9) (ts := ty_WP) (C := RX9) (T := TX9) (N := 15) hx hb hts inX9 hown hK hw h_p0 rfl rfl 1 (by decide) (hts _ tw_347) (fun _ h9 => h9) (ft := vR 24) rfl dX9_sit_25 (fun u_4 hv_u_4 m_u_4 => ?_)
      obtain ⟨vu_4, rfl, h_vu_4⟩ := hv_u_4
      have x_AT_vu_3_gdq_2 : (vu_3 = gdq 2) := GWX.hi hw.2.2.1 x_GWX_p0_gdq m_u_3
      have x_AT_vu_4_gdq_0 : (vu_4 = gdq 0) := GWX.wo hw.2.2.1 x_GWX_p0_gdq m_u_4
      refine tk_v (va_runV (As := [.ref vu_4]) (rest := []) ⟨hx, hb, hml, hown, hts⟩ (c_X1_prepare__1 l D cy z H.size Ps w0 hw.1 vu_3 vu_4 (gdq) (gdg) (gdo) (gdA) (gdB) (false) (false) h_vu_3 h_vu_4 x_AT_vu_3_gdq_2 x_AT_vu_4_gdq_0 x_GQ_gdq_gdg x_HE_gdq_gdg_gdo_gdA_gdB_false_false) (cwV 1 hts (gV tw_606 tw_607 tw_608 tw_13 tw_609) rfl rfl rfl (by decide +kernel) ⟨Nat.le_of_ble_eq_true rfl, Nat.le_of_ble_eq_true rfl⟩) (tg_preV hw hK hSD hA (ci := 1) (q := (RX1, TX1, 3)) rfl h_vu_3 rfl) rfl rfl hl.1 rfl (lv_room (Nat.le_of_ble_eq_true rfl)) dX9_sit_28 ⟨Nat.le_of_ble_eq_true rfl, Nat.le_of_ble_eq_true rfl⟩) hw hA ⟨by decide, by decide⟩ (fun ws H locs hp_v_5 hw hF9 => ?_)
      have m_u_3 := FLD.over hF9 m_u_3 (by decide)
      have m_u_4 := FLD.over hF9 m_u_4 (by decide)
      have x_GWX_p0_gdq := GWX.over hF9 x_GWX_p0_gdq (by decide)
      have x_GQ_gdq_gdg := GQ.over hF9 x_GQ_gdq_gdg (by decide)
      have x_HE_gdq_gdg_gdo_gdA_gdB_true_false := (hp_v_5.1)
      refine lv_aload_n hx hb dX9_sit_31 rfl (lv_at hl 0 rfl) ?_
      refine lv_aload_n hx hb dX9_sit_32 rfl (lv_at hl 0 rfl) ?_
      refine tg_mem (ci := 9) (C := RX9) (T := TX9) (N := 15) hx hb hts inX9 hown hK hw 1 m_u_4 rfl (by decide) (hts _ tw_347) (fun _ h9 => h9) dX9_sit_33 ?_
      refine lv_iload_n hx hb dX9_sit_36 rfl (lv_at hl 1 rfl) ?_
      refine lv_iload_n hx hb dX9_sit_37 rfl (lv_at hl 2 rfl) ?_
      refine tk_i (va_runV (As := [.int p1, .int p2]) (rest := [.ref p0]) ⟨hx, hb, hml, hown, hts⟩ (c_X8_sitDown l D cy z H.size Ps ws hw.1 vu_4 p1 p2 h_vu_4 r_p1 (r_p2.to (by decide))) (cwV 2 hts (gV tw_611 tw_612 tw_613 tw_12 tw_614) rfl rfl rfl (by decide +kernel) ⟨Nat.le_of_ble_eq_true rfl, Nat.le_of_ble_eq_true rfl⟩) (tg_preV hw hK hSD hA (ci := 8) (q := (RX8, TX8, 13)) rfl h_vu_4 rfl) rfl rfl hl.1 rfl (lv_room (Nat.le_of_ble_eq_true rfl)) dX9_sit_38 ⟨Nat.le_of_ble_eq_true rfl, Nat.le_of_ble_eq_true rfl⟩) hw hA ⟨by decide, by decide⟩ (fun v_6 ws H locs hp_v_6 hw hF9 => ?_)
      have m_u_3 := FLD.over hF9 m_u_3 (by decide)
      have m_u_4 := FLD.over hF9 m_u_4 (by decide)
      have x_GWX_p0_gdq := GWX.over hF9 x_GWX_p0_gdq (by decide)
      have x_GQ_gdq_gdg := GQ.over hF9 x_GQ_gdq_gdg (by decide)
      have x_HE_gdq_gdg_gdo_gdA_gdB_true_false := HE.over hF9 x_HE_gdq_gdg_gdo_gdA_gdB_true_false (by decide)
      have r_v_6 : RI v_6 0 1 := hp_v_6.1
      refine tk_i (va_runV (As := [.int v_6]) (rest := []) ⟨hx, hb, hml, hown, hts⟩ (c_X9_keptIfDone__1 l D cy z H.size Ps ws hw.1 p0 v_6 (gdq) (gdg) (gdo) (gdA) (gdB) (false) h_p0 (r_v_6.to (by decide)) x_GWX_p0_gdq x_GQ_gdq_gdg x_HE_gdq_gdg_gdo_gdA_gdB_true_false) (cwV 1 hts (gV tw_615 tw_617 ts_12 tw_1 tw_618) rfl rfl rfl (by decide +kernel) ⟨Nat.le_of_ble_eq_true rfl, Nat.le_of_ble_eq_true rfl⟩) (tg_preV hw hK hSD hA (ci := 9) (q := (RX9, TX9, 15)) rfl h_p0 rfl) rfl rfl hl.1 rfl (lv_room (Nat.le_of_ble_eq_true rfl)) dX9_sit_41 ⟨Nat.le_of_ble_eq_true rfl, Nat.le_of_ble_eq_true rfl⟩) hw hA ⟨by decide, by decide⟩ (fun v_7 ws H locs hp_v_7 hw hF9 => ?_)
      have m_u_3 := FLD.over hF9 m_u_3 (by decide)
      have m_u_4 := FLD.over hF9 m_u_4 (by decide)
      have x_GWX_p0_gdq := GWX.over hF9 x_GWX_p0_gdq (by decide)
      have x_GQ_gdq_gdg := GQ.over hF9 x_GQ_gdq_gdg (by decide)
      have r_v_7 : RI v_7 (-2147483648) 2147483647 := hp_v_7.1
      have x_HE_gdq_gdg_gdo_gdA_gdB_false_false := hp_v_7.2.2.2.1.1
      subst hQ
      exact W.iret (v := v_7) hx hb hr (fun t ht hW => ⟨⟨v_7, ws, rfl, ⟨⟨r_v_7.to (by decide), (fun h0 => trivial), (fun h0 => trivial), ⟨x_HE_gdq_gdg_gdo_gdA_gdB_false_false, trivial⟩, (fun _ => trivial), (fun _ => trivial)⟩, hw.1, hw.2.2.2.2.1⟩, by rw [ht]; exact hw.2.1, va_K.moved hW.alike hK, hw.2.2.1⟩, hw.2.2.2.1.F ht⟩) hw.2.2.2.1.2.2 dX9_sit_44
    · have r_v_2 : RI v_2 0 0 := rc_eq1 r_v_2 rl_0 (ti_eq c_15) (by decide)
      refine lv_iconst (v := (-1)) hx hb dX9_sit_18 (by decide) ?_
      subst hQ
      exact W.iret (v := (-1)) hx hb hr (fun t ht hW => ⟨⟨(-1), w0, rfl, ⟨⟨rl_m1.to (by decide), (fun _ => trivial), (fun h0 => trivial), ⟨x_HE_gdq_gdg_gdo_gdA_gdB_false_false, trivial⟩, (fun _ => trivial), (fun _ => trivial)⟩, hw.1, hw.2.2.2.2.1⟩, by rw [ht]; exact hw.2.1, va_K.moved hW.alike hK, hw.2.2.1⟩, hw.2.2.2.1.F ht⟩) hw.2.2.2.1.2.2 dX9_sit_19
abbrev wr_X9_fewestSitters__1 : List (Nat × Nat) := [(8, 0), (8, 1)]
abbrev wa_X9_fewestSitters__1 : List Nat := [8, 9, 10, 11, 12, 13, 14]
set_option maxHeartbeats 4000000 in
set_option maxRecDepth 100000 in
theorem c_X9_fewestSitters__1 (l : Launch) (D : va_G) (cy : Nat → ClassId) (z : Nat → Nat) (sz : Nat) (Ps : PSI) (w0 : va_W) (hT : HT cy GG Ps w0) (p0 : Nat) (p1 : Int32) (p2 : Int32) (p3 : Int32) (gdq : Nat → Nat) (gdg : Nat → Nat) (gdo : OS) (gdA : OS) (gdB : OS) (h_p0 : (p0, 33) ∈ Ps) (r_p1 : RI p1 0 5) (r_p2 : RI p2 (-2147483648) 2147483647) (r_p3 : RI p3 (-2147483648) 2147483647) (x_GWX_p0_gdq : GWX w0 p0 gdq) (x_GQ_gdq_gdg : GQ Ps w0 gdq gdg) (x_HE_gdq_gdg_gdo_gdA_gdB_false_false : HE Ps w0 gdq gdg gdo gdA gdB false false) : Met l yX9_fewestSitters (Cond.code yX9_fewestSitters cX9_fewestSitters 7 (some .int) :: gT) ({ frames := 3, cells := 0, slots := 0, locals := 600 } : Room) (va_Pc [.ref p0, .int p1, .int p2, .int p3] (PRE D cy z w0 sz)) (va_Qi (fun (r : Int32) (u : va_W) => (RI r (-1) 255 ∧ (r = 0 → True) ∧ (¬ r = 0 → True) ∧ (HE Ps u gdq gdg gdo gdA gdB false false ∧ True) ∧ (r.toInt < 0 → True) ∧ (0 ≤ r.toInt → True)) ∧ HT cy GG Ps u ∧ FR wr_X9_fewestSitters__1 wa_X9_fewestSitters__1 Ps w0 u) (BB D cy (va_A w0 sz) (fun (u : va_W) => u)) (va_A w0 sz)) 0 0 (va_A w0 sz) := by
  refine Met.ofW (cc := cX9_fewestSitters) (maxL := 7) (ret := (some .int)) (by decide) rfl ?_
  intro p e s m args below meth c s₁ B hml hv
  obtain ⟨rfl, hsz, hP, hK, hD0, hSD⟩ := hv
  have hx := B.exec
  have hb := B.bytes
  have hr := B.returns
  have hlocks := B.notSynchronized
  have hts : ∀ w ∈ gT, w.before _ s = true := fun w h => atoms_spec (ws := Cond.code yX9_fewestSitters cX9_fewestSitters 7 (some .int) :: gT) B.pre w (List.mem_cons_of_mem _ h)
  have hown : s.vm.findClass RX9 = some m.cls := findClass_of_methodNamed B.named
  subst hsz
  have hD := hD0.self (sz := s.heap.size)
  generalize hAe : va_A w0 s.heap.size = A at hD hSD ⊢
  have hA : ∀ q : Nat, s.heap.size ≤ q → A q := fun q h => by rw [← hAe]; exact Or.inr h
  have hl := lv_entry ([.ref p0, .int p1, .int p2, .int p3]) (n := 7) (Nat.le_of_ble_eq_true rfl)
  rw [lg_entry_eq]
  generalize (lg_sl ([.ref p0, .int p1, .int p2, .int p3]) ++ List.replicate (7 - (lg_sl ([.ref p0, .int p1, .int p2, .int p3])).length) Slot.unset).toArray = ls at hl ⊢
  have hl : lv_has ls 7 [(0, .ref p0), (1, .int p1), (2, .int p2), (3, .int p3)] := hl
  refine nameQ (fun Q hQ => ?_)
  have hw : WD D cy GG A s wr_X9_fewestSitters__1 wa_X9_fewestSitters__1 Ps w0 Ps w0 s.heap [] := ⟨hT, hP, hD, va_S.rf, FR.rf, hT.1, [], (List.append_nil _).symm⟩
  have B33 : ∀ (nf : Nat) (x4 : Int32) (x5 : Int32) (x6 : Int32) (ws : va_W) (H : Heap) (locs : List Loc) (ls : Array Slot), 256 - x6.toInt < (nf : Int) → RI p1 0 5 → RI p2 (-2147483648) 2147483647 → RI p3 (-2147483648) 2147483647 → RI x4 (-1) 255 → RI x5 1 256 → RI x6 0 256 → GQ Ps ws gdq gdg → GWX ws p0 gdq → HE Ps ws gdq gdg gdo gdA gdB false false → WD D cy GG A s wr_X9_fewestSitters__1 wa_X9_fewestSitters__1 Ps w0 Ps ws H locs → lv_has ls 7 [(0, .ref p0), (1, .int p1), (2, .int p2), (3, .int p3), (4, .int x4), (5, .int x5), (6, .int x6)] → W p l e (headSpec (Cond.code yX9_fewestSitters cX9_fewestSitters 7 (some .int) :: gT) ({ frames := 3, cells := 0, slots := 0, locals := 600 } : Room)).room s m ([.ref p0, .int p1, .int p2, .int p3] : List Value).toArray below meth c H locs 0 0 Q (F0 m 33 ls []) := by
    intro nf33
    induction nf33 with
    | zero =>
      intro x4 x5 x6 ws H locs ls hn33 r_p1 r_p2 r_p3 r_x4 r_x5 r_x6 x_GQ_gdq_gdg x_GWX_p0_gdq x_HE_gdq_gdg_gdo_gdA_gdB_false_false hw hl
      exact absurd hn33 (by have q0 := r_x6.1; have u0 := r_x6.2; omega)
    | succ nf33 ih33 =>
      have B62 : ∀ (x4 : Int32) (x5 : Int32) (x6 : Int32) (ws : va_W) (H : Heap) (locs : List Loc) (ls : Array Slot), RI p1 0 5 → RI p2 (-2147483648) 2147483647 → RI p3 (-2147483648) 2147483647 → RI x4 (-1) 255 → RI x5 1 256 → RI x6 0 255 → GQ Ps ws gdq gdg → GWX ws p0 gdq → HE Ps ws gdq gdg gdo gdA gdB false false → 256 - x6.toInt < ((nf33 + 1 : Nat) : Int) → WD D cy GG A s wr_X9_fewestSitters__1 wa_X9_fewestSitters__1 Ps w0 Ps ws H locs → lv_has ls 7 [(0, .ref p0), (1, .int p1), (2, .int p2), (3, .int p3), (4, .int x4), (5, .int x5), (6, .int x6)] → W p l e (headSpec (Cond.code yX9_fewestSitters cX9_fewestSitters 7 (some .int) :: gT) ({ frames := 3, cells := 0, slots := 0, locals := 600 } : Room)).room s m ([.ref p0, .int p1, .int p2, .int p3] : List Value).toArray below meth c H locs 0 0 Q (F0 m 62 ls []) := by
        intro x4 x5 x6 ws H locs ls r_p1 r_p2 r_p3 r_x4 r_x5 r_x6 x_GQ_gdq_gdg x_GWX_p0_gdq x_HE_gdq_gdg_gdo_gdA_gdB_false_false hn33 hw hl
        refine lv_aload_n hx hb dX9_fewestSitters_62 rfl (lv_at hl 0 rfl) ?_
        refine tg_get (ci := 9) (ts := ty_WP) (C := RX9) (T := TX9) (N := 15) hx hb hts inX9 hown hK hw h_p0 rfl rfl 2 (by decide) (hts _ tw_348) (fun _ h9 => h9) (ft := vR 24) rfl dX9_fewestSitters_63 (fun u_1 hv_u_1 m_u_1 => ?_)
        obtain ⟨vu_1, rfl, h_vu_1⟩ := hv_u_1
        refine lv_iload hx hb dX9_fewestSitters_66 (lv_at hl 6 rfl) ?_
        refine lv_iload_n hx hb dX9_fewestSitters_68 rfl (lv_at hl 1 rfl) ?_
        refine lv_aload_n hx hb dX9_fewestSitters_69 rfl (lv_at hl 0 rfl) ?_
        refine tg_get (ci := 9) (ts := ty_WP) (C := RX9) (T := TX9) (N := 15) hx hb hts inX9 hown hK hw h_p0 rfl rfl 1 (by decide) (hts _ tw_347) (fun _ h9 => h9) (ft := vR 24) rfl dX9_fewestSitters_70 (fun u_2 hv_u_2 m_u_2 => ?_)
        obtain ⟨vu_2, rfl, h_vu_2⟩ := hv_u_2
        refine tk_v (va_runV (As := [.int x6, .int p1, .ref vu_2]) (rest := []) ⟨hx, hb, hml, hown, hts⟩ (c_X8_seatJust l D cy z H.size Ps ws hw.1 vu_1 x6 p1 vu_2 h_vu_1 (r_x6.to (by decide)) r_p1 h_vu_2) (cwV 3 hts (gV tw_744 tw_745 tw_746 tw_12 tw_747) rfl rfl rfl (by decide +kernel) ⟨Nat.le_of_ble_eq_true rfl, Nat.le_of_ble_eq_true rfl⟩) (tg_preV hw hK hSD hA (ci := 8) (q := (RX8, TX8, 13)) rfl h_vu_1 rfl) rfl rfl hl.1 rfl (lv_room (Nat.le_of_ble_eq_true rfl)) dX9_fewestSitters_73 ⟨Nat.le_of_ble_eq_true rfl, Nat.le_of_ble_eq_true rfl⟩) hw hA ⟨by decide, by decide⟩ (fun ws H locs hp_v_3 hw hF9 => ?_)
        have m_u_1 := FLD.over hF9 m_u_1 (by decide)
        have m_u_2 := FLD.over hF9 m_u_2 (by decide)
        have x_GQ_gdq_gdg := GQ.over hF9 x_GQ_gdq_gdg (by decide)
        have x_GWX_p0_gdq := GWX.over hF9 x_GWX_p0_gdq (by decide)
        have x_HE_gdq_gdg_gdo_gdA_gdB_false_false := HE.over hF9 x_HE_gdq_gdg_gdo_gdA_gdB_false_false (by decide)
        refine lv_aload_n hx hb dX9_fewestSitters_76 rfl (lv_at hl 0 rfl) ?_
        refine tg_mem (ci := 9) (C := RX9) (T := TX9) (N := 15) hx hb hts inX9 hown hK hw 2 m_u_1 rfl (by decide) (hts _ tw_348) (fun _ h9 => h9) dX9_fewestSitters_77 ?_
        refine lv_iload_n hx hb dX9_fewestSitters_80 rfl (lv_at hl 1 rfl) ?_
        refine tk_i (va_runV (As := [.int p1]) (rest := []) ⟨hx, hb, hml, hown, hts⟩ (c_X8_reckonGain l D cy z H.size Ps ws hw.1 vu_1 p1 h_vu_1 r_p1) (cwV 1 hts (gV tw_727 tw_690 tw_691 tw_12 tw_692) rfl rfl rfl (by decide +kernel) ⟨Nat.le_of_ble_eq_true rfl, Nat.le_of_ble_eq_true rfl⟩) (tg_preV hw hK hSD hA (ci := 8) (q := (RX8, TX8, 13)) rfl h_vu_1 rfl) rfl rfl hl.1 rfl (lv_room (Nat.le_of_ble_eq_true rfl)) dX9_fewestSitters_81 ⟨Nat.le_of_ble_eq_true rfl, Nat.le_of_ble_eq_true rfl⟩) hw hA ⟨by decide, by decide⟩ (fun v_4 ws H locs hp_v_4 hw hF9 => ?_)
        have m_u_1 := FLD.over hF9 m_u_1 (by decide)
        have m_u_2 := FLD.over hF9 m_u_2 (by decide)
        have x_GQ_gdq_gdg := GQ.over hF9 x_GQ_gdq_gdg (by decide)
        have x_GWX_p0_gdq := GWX.over hF9 x_GWX_p0_gdq (by decide)
        have x_HE_gdq_gdg_gdo_gdA_gdB_false_false := HE.over hF9 x_HE_gdq_gdg_gdo_gdA_gdB_false_false (by decide)
        have r_v_4 : RI v_4 0 1 := hp_v_4.1
        refine lv_pop hx hb dX9_fewestSitters_84 rfl ?_
        refine lv_aload_n hx hb dX9_fewestSitters_85 rfl (lv_at hl 0 rfl) ?_
        refine tg_mem (ci := 9) (C := RX9) (T := TX9) (N := 15) hx hb hts inX9 hown hK hw 2 m_u_1 rfl (by decide) (hts _ tw_348) (fun _ h9 => h9) dX9_fewestSitters_86 ?_
        refine lv_iload_n hx hb dX9_fewestSitters_89 rfl (lv_at hl 1 rfl) ?_
        refine lv_iload_n hx hb dX9_fewestSitters_90 rfl (lv_at hl 3 rfl) ?_
        refine tk_ir (va_runV (As := [.int p1, .int p3]) (rest := []) ⟨hx, hb, hml, hown, hts⟩ (c_X8_becomes l D cy z H.size Ps ws hw.1 vu_1 p1 p3 h_vu_1 r_p1 r_p3) (cwV 2 hts (gV tw_728 tw_574 tw_575 tw_12 tw_576) rfl rfl rfl (by decide +kernel) ⟨Nat.le_of_ble_eq_true rfl, Nat.le_of_ble_eq_true rfl⟩) (tg_preV hw hK hSD hA (ci := 8) (q := (RX8, TX8, 13)) rfl h_vu_1 rfl) rfl rfl hl.1 rfl (lv_room (Nat.le_of_ble_eq_true rfl)) dX9_fewestSitters_91 ⟨Nat.le_of_ble_eq_true rfl, Nat.le_of_ble_eq_true rfl⟩) hw hA (fun v_5  H locs hp_v_5 hw => ?_)
        have r_v_5 : RI v_5 (-1) 5 := hp_v_5.1
        refine lv_iload_n hx hb dX9_fewestSitters_94 rfl (lv_at hl 2 rfl) ?_
        refine lv_icmp_ne (tgt := 102) hx hb dX9_fewestSitters_95 (by decide) (fun c_95 => ?_) (fun c_95 => ?_)
        · obtain ⟨v_6, e_v_6⟩ : ∃ q9 : Int32, q9 = x6 + Int32.ofInt 1 := ⟨_, rfl⟩
          obtain ⟨t_v_6, r_v_6⟩ := tq_add (lo := 1) (hi := 256) r_x6 (show RI (Int32.ofInt 1) 1 1 by unfold RI; decide +kernel) (by decide +kernel) e_v_6
          have t_v_6 : v_6.toInt = x6.toInt + 1 := t_v_6
          refine lv_iinc (v := v_6) (lv' := [(6, .int v_6), (0, .ref p0), (1, .int p1), (2, .int p2), (3, .int p3), (4, .int x4), (5, .int x5)]) hx hb dX9_fewestSitters_102 hl (k := 6) rfl e_v_6.symm (by decide) rfl (fun ls hl => ?_)
          refine lv_goto (tgt := 33) hx hb dX9_fewestSitters_105 (by decide) ?_
          exact ih33 x4 x5 v_6 ws _ _ ls (by have q0 := r_v_6.1; have u0 := r_v_6.2; have o0 := r_x6.1; have p0 := r_x6.2; omega) r_p1 r_p2 r_p3 r_x4 r_x5 (r_v_6.to (by decide)) x_GQ_gdq_gdg x_GWX_p0_gdq x_HE_gdq_gdg_gdo_gdA_gdB_false_false hw (lv_sub hl [1, 2, 3, 4, 5, 6, 0] rfl)
        · have r_p2 : RI p2 (-1) 5 := rc_eq2 r_v_5 r_p2 (ti_eq c_95) (by decide)
          refine lv_iload hx hb dX9_fewestSitters_98 (lv_at hl 6 rfl) ?_
          refine lv_istore (lv' := [(4, .int x6), (0, .ref p0), (1, .int p1), (2, .int p2), (3, .int p3), (5, .int x5), (6, .int x6)]) hx hb dX9_fewestSitters_100 hl (by decide) rfl (fun ls hl => ?_)
          obtain ⟨v_7, e_v_7⟩ : ∃ q9 : Int32, q9 = x6 + Int32.ofInt 1 := ⟨_, rfl⟩
          obtain ⟨t_v_7, r_v_7⟩ := tq_add (lo := 1) (hi := 256) r_x6 (show RI (Int32.ofInt 1) 1 1 by unfold RI; decide +kernel) (by decide +kernel) e_v_7
          have t_v_7 : v_7.toInt = x6.toInt + 1 := t_v_7
          refine lv_iinc (v := v_7) (lv' := [(6, .int v_7), (4, .int x6), (0, .ref p0), (1, .int p1), (2, .int p2), (3, .int p3), (5, .int x5)]) hx hb dX9_fewestSitters_102 hl (k := 6) rfl e_v_7.symm (by decide) rfl (fun ls hl => ?_)
          refine lv_goto (tgt := 33) hx hb dX9_fewestSitters_105 (by decide) ?_
          exact ih33 x6 x5 v_7 ws _ _ ls (by have q0 := r_v_7.1; have u0 := r_v_7.2; have o0 := r_x6.1; have p0 := r_x6.2; omega) r_p1 (r_p2.to (by decide)) r_p3 (r_x6.to (by decide)) r_x5 (r_v_7.to (by decide)) x_GQ_gdq_gdg x_GWX_p0_gdq x_HE_gdq_gdg_gdo_gdA_gdB_false_false hw (lv_sub hl [2, 3, 4, 5, 1, 6, 0] rfl)
      intro x4 x5 x6 ws H locs ls hn33 r_p1 r_p2 r_p3 r_x4 r_x5 r_x6 x_GQ_gdq_gdg x_GWX_p0_gdq x_HE_gdq_gdg_gdo_gdA_gdB_false_false hw hl
      refine lv_iload hx hb dX9_fewestSitters_33 (lv_at hl 6 rfl) ?_
      refine lv_iload hx hb dX9_fewestSitters_35 (lv_at hl 5 rfl) ?_
      refine lv_icmp_ge (tgt := 108) hx hb dX9_fewestSitters_37 (by decide) (fun c_37 => ?_) (fun c_37 => ?_)
      · have r_x6 : RI x6 1 256 := rc_le2 r_x5 r_x6 (ti_le c_37) (by decide)
        refine lv_iload hx hb dX9_fewestSitters_108 (lv_at hl 4 rfl) ?_
        subst hQ
        exact W.iret (v := x4) hx hb hr (fun t ht hW => ⟨⟨x4, ws, rfl, ⟨⟨r_x4.to (by decide), (fun h0 => trivial), (fun h0 => trivial), ⟨x_HE_gdq_gdg_gdo_gdA_gdB_false_false, trivial⟩, (fun _ => trivial), (fun _ => trivial)⟩, hw.1, hw.2.2.2.2.1⟩, by rw [ht]; exact hw.2.1, va_K.moved hW.alike hK, hw.2.2.1⟩, hw.2.2.2.1.F ht⟩) hw.2.2.2.1.2.2 dX9_fewestSitters_110
      · have r_x6 : RI x6 0 255 := rc_lt1 r_x6 r_x5 (ti_nle c_37) (by decide)
        refine lv_iload hx hb dX9_fewestSitters_40 (lv_at hl 4 rfl) ?_
        refine lv_iconst (v := (-1)) hx hb dX9_fewestSitters_42 (by decide) ?_
        refine lv_icmp_eq (tgt := 62) hx hb dX9_fewestSitters_43 (by decide) (fun c_43 => ?_) (fun c_43 => ?_)
        · have r_x4 : RI x4 (-1) (-1) := rc_eq1 r_x4 rl_m1 (ti_eq c_43) (by decide)
          exact B62 x4 x5 x6 ws _ _ ls r_p1 r_p2 r_p3 (r_x4.to (by decide)) r_x5 r_x6 x_GQ_gdq_gdg x_GWX_p0_gdq x_HE_gdq_gdg_gdo_gdA_gdB_false_false (by have q0 := r_x6.1; have u0 := r_x6.2; omega) hw hl
        · have r_x4 : RI x4 0 255 := rc_neL r_x4 rl_m1 (ti_ne c_43) (by decide)
          refine lv_iload hx hb dX9_fewestSitters_46 (lv_at hl 6 rfl) ?_
          refine tk_ir (va_runS (As := [.int x6]) (rest := []) ⟨hx, hb, hml, hown, hts⟩ (c_J6_bitCount_0f7a4 l D cy z H.size Ps ws hw.1 x6 (r_x6.to (by decide))) (va_cwS 1 hts (gS tw_738 tw_739 tw_22 tw_740) rfl rfl rfl (by decide +kernel) ⟨Nat.le_of_ble_eq_true rfl, Nat.le_of_ble_eq_true rfl⟩) (tg_preS hw hK hSD hA) rfl rfl hl.1 rfl (lv_room (Nat.le_of_ble_eq_true rfl)) dX9_fewestSitters_48 ⟨Nat.le_of_ble_eq_true rfl, Nat.le_of_ble_eq_true rfl⟩) hw hA (fun v_8  H locs hp_v_8 hw => ?_)
          have r_v_8 : RI v_8 0 63 := hp_v_8.1
          refine lv_iload hx hb dX9_fewestSitters_51 (lv_at hl 4 rfl) ?_
          refine tk_ir (va_runS (As := [.int x4]) (rest := [.int v_8]) ⟨hx, hb, hml, hown, hts⟩ (c_J6_bitCount_0f7a4 l D cy z H.size Ps ws hw.1 x4 (r_x4.to (by decide))) (va_cwS 1 hts (gS tw_738 tw_739 tw_22 tw_740) rfl rfl rfl (by decide +kernel) ⟨Nat.le_of_ble_eq_true rfl, Nat.le_of_ble_eq_true rfl⟩) (tg_preS hw hK hSD hA) rfl rfl hl.1 rfl (lv_room (Nat.le_of_ble_eq_true rfl)) dX9_fewestSitters_53 ⟨Nat.le_of_ble_eq_true rfl, Nat.le_of_ble_eq_true rfl⟩) hw hA (fun v_9  H locs hp_v_9 hw => ?_)
          have r_v_9 : RI v_9 0 63 := hp_v_9.1
          refine lv_icmp_lt (tgt := 62) hx hb dX9_fewestSitters_56 (by decide) (fun c_56 => ?_) (fun c_56 => ?_)
          · have r_v_8 : RI v_8 0 62 := rc_lt1 r_v_8 r_v_9 (ti_lt c_56) (by decide)
            have r_v_9 : RI v_9 1 63 := rc_lt2 r_v_8 r_v_9 (ti_lt c_56) (by decide)
            exact B62 x4 x5 x6 ws _ _ ls r_p1 r_p2 r_p3 (r_x4.to (by decide)) r_x5 r_x6 x_GQ_gdq_gdg x_GWX_p0_gdq x_HE_gdq_gdg_gdo_gdA_gdB_false_false (by have q0 := r_x6.1; have u0 := r_x6.2; omega) hw hl
          · refine lv_goto (tgt := 102) hx hb dX9_fewestSitters_59 (by decide) ?_
            obtain ⟨v_10, e_v_10⟩ : ∃ q9 : Int32, q9 = x6 + Int32.ofInt 1 := ⟨_, rfl⟩
            obtain ⟨t_v_10, r_v_10⟩ := tq_add (lo := 1) (hi := 256) r_x6 (show RI (Int32.ofInt 1) 1 1 by unfold RI; decide +kernel) (by decide +kernel) e_v_10
            have t_v_10 : v_10.toInt = x6.toInt + 1 := t_v_10
            refine lv_iinc (v := v_10) (lv' := [(6, .int v_10), (0, .ref p0), (1, .int p1), (2, .int p2), (3, .int p3), (4, .int x4), (5, .int x5)]) hx hb dX9_fewestSitters_102 hl (k := 6) rfl e_v_10.symm (by decide) rfl (fun ls hl => ?_)
            refine lv_goto (tgt := 33) hx hb dX9_fewestSitters_105 (by decide) ?_
            exact ih33 x4 x5 v_10 ws _ _ ls (by have q0 := r_v_10.1; have u0 := r_v_10.2; have o0 := r_x6.1; have p0 := r_x6.2; omega) r_p1 r_p2 r_p3 (r_x4.to (by decide)) r_x5 (r_v_10.to (by decide)) x_GQ_gdq_gdg x_GWX_p0_gdq x_HE_gdq_gdg_gdo_gdA_gdB_false_false hw (lv_sub hl [1, 2, 3, 4, 5, 6, 0] rfl)
  refine lv_aload_n hx hb dX9_fewestSitters_0 rfl (lv_at hl 0 rfl) ?_
  refine tg_get (ci := 9) (ts := ty_WP) (C := RX9) (T := TX9) (N := 15) hx hb hts inX9 hown hK hw h_p0 rfl rfl 2 (by decide) (hts _ tw_348) (fun _ h9 => h9) (ft := vR 24) rfl dX9_fewestSitters_1 (fun u_11 hv_u_11 m_u_11 => ?_)
  obtain ⟨vu_11, rfl, h_vu_11⟩ := hv_u_11
  refine lv_aload_n hx hb dX9_fewestSitters_4 rfl (lv_at hl 0 rfl) ?_
  refine tg_get (ci := 9) (ts := ty_WP) (C := RX9) (T := TX9) (N := 15) hx hb hts inX9 hown hK hw h_p0 rfl rfl 1 (by decide) (hts _ tw_347) (fun _ h9 => h9) (ft := vR 24) rfl dX9_fewestSitters_5 (fun u_12 hv_u_12 m_u_12 => ?_)
  obtain ⟨vu_12, rfl, h_vu_12⟩ := hv_u_12
  have hD8 := hw.2.2.1
  refine tk_v (va_runV (As := [.ref vu_12]) (rest := []) ⟨hx, hb, hml, hown, hts⟩ (c_X8_takeFrom__1 l D cy z s.heap.size Ps w0 hw.1 vu_11 vu_12 h_vu_11 h_vu_12) (cwV 1 hts (gV tw_521 tw_522 tw_523 tw_12 tw_524) rfl rfl rfl (by decide +kernel) ⟨Nat.le_of_ble_eq_true rfl, Nat.le_of_ble_eq_true rfl⟩) (tg_preV hw hK hSD hA (ci := 8) (q := (RX8, TX8, 13)) rfl h_vu_11 rfl) rfl rfl hl.1 rfl (lv_room (Nat.le_of_ble_eq_true rfl)) dX9_fewestSitters_8 ⟨Nat.le_of_ble_eq_true rfl, Nat.le_of_ble_eq_true rfl⟩) hw hA ⟨by decide, by decide⟩ (fun ws H locs hp_v_13 hw hF9 => ?_)
  have m_u_11 := FLD.over hF9 m_u_11 (by decide)
  have m_u_12 := FLD.over hF9 m_u_12 (by decide)
  have x_GWX_p0_gdq := GWX.over hF9 x_GWX_p0_gdq (by decide)
  have x_GQ_gdq_gdg := GQ.over hF9 x_GQ_gdq_gdg (by decide)
  have x_TKF_vu_11_vu_12 := (hp_v_13.1)
  have x_HE_gdq_gdg_gdo_gdA_gdB_false_false : HE Ps ws gdq gdg gdo gdA gdB false false := HE.weak (fun e9 => e9) (fun e9 => by cases e9) (HE.trial hD8 hF9 (by decide) x_GQ_gdq_gdg.2.2.2.2.2 x_HE_gdq_gdg_gdo_gdA_gdB_false_false (by rw [← GWX.tr hw.2.2.1 x_GWX_p0_gdq m_u_11, ← GWX.wo hw.2.2.1 x_GWX_p0_gdq m_u_12]; exact x_TKF_vu_11_vu_12))
  refine lv_iconst (v := (-1)) hx hb dX9_fewestSitters_11 (by decide) ?_
  refine lv_istore (lv' := [(4, .int (-1)), (0, .ref p0), (1, .int p1), (2, .int p2), (3, .int p3)]) hx hb dX9_fewestSitters_12 hl (by decide) rfl (fun ls hl => ?_)
  refine lv_iconst (v := 1) hx hb dX9_fewestSitters_14 (by decide) ?_
  refine lv_aload_n hx hb dX9_fewestSitters_15 rfl (lv_at hl 1 rfl) ?_
  refine tg_mem (ci := 9) (C := RX9) (T := TX9) (N := 15) hx hb hts inX9 hown hK hw 1 m_u_12 rfl (by decide) (hts _ tw_347) (fun _ h9 => h9) dX9_fewestSitters_16 ?_
  refine tg_getN (ci := 8) (ts := ty_WORLD) (C := RX8) (T := TX8) (N := 13) hx hb hts inX8 hown hK hw h_vu_12 rfl rfl 0 (by decide) (hSD.nest tn_249) (fun _ h9 => h9) (ft := vR 25) rfl dX9_fewestSitters_19 (fun u_14 hv_u_14 m_u_14 => ?_)
  obtain ⟨vu_14, rfl, h_vu_14⟩ := hv_u_14
  refine tg_getN (ci := 3) (ts := ty_POST) (C := RX3) (T := TX3) (N := 9) hx hb hts inX3 hown hK hw h_vu_14 rfl rfl 1 (by decide) (hSD.nest tn_204) (fun _ h9 => h9) (ft := vR 4) rfl dX9_fewestSitters_22 (fun u_15 hv_u_15 m_u_15 => ?_)
  obtain ⟨vu_15, rfl, h_vu_15⟩ := hv_u_15
  refine lv_iconst (v := 3) hx hb dX9_fewestSitters_25 (by decide) ?_
  refine tg_iald (lo := 0) (hi := 8) hx hb hK hw h_vu_15 rfl 3 3 rl_3 (by decide) (by decide +kernel) dX9_fewestSitters_26 (fun v_16 r_v_16 m_v_16 o_v_16 => ?_)
  refine lv_ishl hx hb dX9_fewestSitters_27 (lv_topi (fun v_17 e_v_17 => ?_))
  have r_v_17 : RI v_17 1 256 := by rw [e_v_17]; exact ri_shl1 (r_v_16.to (c := 0) (d := 8) (by decide)) (by decide)
  refine lv_istore (lv' := [(5, .int v_17), (4, .int (-1)), (0, .ref p0), (1, .int p1), (2, .int p2), (3, .int p3)]) hx hb dX9_fewestSitters_28 hl (by decide) rfl (fun ls hl => ?_)
  refine lv_iconst (v := 0) hx hb dX9_fewestSitters_30 (by decide) ?_
  refine lv_istore (lv' := [(6, .int 0), (5, .int v_17), (4, .int (-1)), (0, .ref p0), (1, .int p1), (2, .int p2), (3, .int p3)]) hx hb dX9_fewestSitters_31 hl (by decide) rfl (fun ls hl => ?_)
  exact B33 4294967298 (-1) v_17 0 ws _ _ ls (by have q0 := rl_0.1; have u0 := rl_0.2; omega) r_p1 r_p2 r_p3 (rl_m1.to (by decide)) r_v_17 (rl_0.to (by decide)) x_GQ_gdq_gdg x_GWX_p0_gdq x_HE_gdq_gdg_gdo_gdA_gdB_false_false hw (lv_sub hl [3, 4, 5, 6, 2, 1, 0] rfl)
abbrev wr_X9_sitters__1 : List (Nat × Nat) := [(8, 0), (8, 1), (9, 12)]
abbrev wa_X9_sitters__1 : List Nat := [8, 9, 10, 11, 12, 13, 14]
set_option maxHeartbeats 4000000 in
set_option maxRecDepth 100000 in
theorem c_X9_sitters__1 (l : Launch) (D : va_G) (cy : Nat → ClassId) (z : Nat → Nat) (sz : Nat) (Ps : PSI) (w0 : va_W) (hT : HT cy GG Ps w0) (p0 : Nat) (p1 : Int32) (p2 : Int32) (p3 : Int32) (gdq : Nat → Nat) (gdg : Nat → Nat) (gdo : OS) (gdA : OS) (gdB : OS) (h_p0 : (p0, 33) ∈ Ps) (r_p1 : RI p1 (-2147483648) 2147483647) (r_p2 : RI p2 (-2147483648) 2147483647) (r_p3 : RI p3 (-2147483648) 2147483647) (x_GWX_p0_gdq : GWX w0 p0 gdq) (x_GQ_gdq_gdg : GQ Ps w0 gdq gdg) (x_HE_gdq_gdg_gdo_gdA_gdB_false_false : HE Ps w0 gdq gdg gdo gdA gdB false false) : Met l yX9_sitters (Cond.code yX9_sitters cX9_sitters 5 (some .int) :: gT) ({ frames := 4, cells := 0, slots := 0, locals := 800 } : Room) (va_Pc [.ref p0, .int p1, .int p2, .int p3] (PRE D cy z w0 sz)) (va_Qi (fun (r : Int32) (u : va_W) => (RI r (-1) 63 ∧ (r = 0 → True) ∧ (¬ r = 0 → True) ∧ (HE Ps u gdq gdg gdo gdA gdB false false ∧ True) ∧ (r.toInt < 0 → True) ∧ (0 ≤ r.toInt → True)) ∧ HT cy GG Ps u ∧ FR wr_X9_sitters__1 wa_X9_sitters__1 Ps w0 u) (BB D cy (va_A w0 sz) (fun (u : va_W) => u)) (va_A w0 sz)) 0 0 (va_A w0 sz) := by
  refine Met.ofW (cc := cX9_sitters) (maxL := 5) (ret := (some .int)) (by decide) rfl ?_
  intro p e s m args below meth c s₁ B hml hv
  obtain ⟨rfl, hsz, hP, hK, hD0, hSD⟩ := hv
  have hx := B.exec
  have hb := B.bytes
  have hr := B.returns
  have hlocks := B.notSynchronized
  have hts : ∀ w ∈ gT, w.before _ s = true := fun w h => atoms_spec (ws := Cond.code yX9_sitters cX9_sitters 5 (some .int) :: gT) B.pre w (List.mem_cons_of_mem _ h)
  have hown : s.vm.findClass RX9 = some m.cls := findClass_of_methodNamed B.named
  subst hsz
  have hD := hD0.self (sz := s.heap.size)
  generalize hAe : va_A w0 s.heap.size = A at hD hSD ⊢
  have hA : ∀ q : Nat, s.heap.size ≤ q → A q := fun q h => by rw [← hAe]; exact Or.inr h
  have hl := lv_entry ([.ref p0, .int p1, .int p2, .int p3]) (n := 5) (Nat.le_of_ble_eq_true rfl)
  rw [lg_entry_eq]
  generalize (lg_sl ([.ref p0, .int p1, .int p2, .int p3]) ++ List.replicate (5 - (lg_sl ([.ref p0, .int p1, .int p2, .int p3])).length) Slot.unset).toArray = ls at hl ⊢
  have hl : lv_has ls 5 [(0, .ref p0), (1, .int p1), (2, .int p2), (3, .int p3)] := hl
  refine nameQ (fun Q hQ => ?_)
  have hw : WD D cy GG A s wr_X9_sitters__1 wa_X9_sitters__1 Ps w0 Ps w0 s.heap [] := ⟨hT, hP, hD, va_S.rf, FR.rf, hT.1, [], (List.append_nil _).symm⟩
  refine lv_aload_n hx hb dX9_sitters_0 rfl (lv_at hl 0 rfl) ?_
  refine lv_iconst (v := 2) hx hb dX9_sitters_1 (by decide) ?_
  refine lv_iload_n hx hb dX9_sitters_2 rfl (lv_at hl 1 rfl) ?_
  refine tk_ir (va_runV (As := [.int 2, .int p1]) (rest := []) ⟨hx, hb, hml, hown, hts⟩ (c_X9_isOf l D cy z s.heap.size Ps w0 hw.1 p0 2 p1 h_p0 rl_2 r_p1) (cwV 2 hts (gV tw_540 tw_542 ts_10 tw_1 tw_543) rfl rfl rfl (by decide +kernel) ⟨Nat.le_of_ble_eq_true rfl, Nat.le_of_ble_eq_true rfl⟩) (tg_preV hw hK hSD hA (ci := 9) (q := (RX9, TX9, 15)) rfl h_p0 rfl) rfl rfl hl.1 rfl (lv_room (Nat.le_of_ble_eq_true rfl)) dX9_sitters_3 ⟨Nat.le_of_ble_eq_true rfl, Nat.le_of_ble_eq_true rfl⟩) hw hA (fun v_1  H locs hp_v_1 hw => ?_)
  have r_v_1 : RI v_1 0 1 := hp_v_1.1
  refine lv_if_eq (tgt := 29) hx hb dX9_sitters_6 (by decide) (fun c_6 => ?_) (fun c_6 => ?_)
  · have r_v_1 : RI v_1 0 0 := rc_eq1 r_v_1 rl_0 (ti_eq c_6) (by decide)
    refine lv_iconst (v := (-1)) hx hb dX9_sitters_29 (by decide) ?_
    subst hQ
    exact W.iret (v := (-1)) hx hb hr (fun t ht hW => ⟨⟨(-1), w0, rfl, ⟨⟨rl_m1.to (by decide), (fun _ => trivial), (fun h0 => trivial), ⟨x_HE_gdq_gdg_gdo_gdA_gdB_false_false, trivial⟩, (fun _ => trivial), (fun _ => trivial)⟩, hw.1, hw.2.2.2.2.1⟩, by rw [ht]; exact hw.2.1, va_K.moved hW.alike hK, hw.2.2.1⟩, hw.2.2.2.1.F ht⟩) hw.2.2.2.1.2.2 dX9_sitters_30
  · have r_v_1 : RI v_1 1 1 := rc_neL r_v_1 rl_0 (ti_ne c_6) (by decide)
    have r_p1 : RI p1 0 5 := ((hp_v_1.2.2 c_6).1)
    refine lv_aload_n hx hb dX9_sitters_9 rfl (lv_at hl 0 rfl) ?_
    refine lv_iconst (v := 0) hx hb dX9_sitters_10 (by decide) ?_
    refine lv_iload_n hx hb dX9_sitters_11 rfl (lv_at hl 2 rfl) ?_
    refine tk_ir (va_runV (As := [.int 0, .int p2]) (rest := []) ⟨hx, hb, hml, hown, hts⟩ (c_X9_isOf__3 l D cy z H.size Ps w0 hw.1 p0 0 p2 h_p0 rl_0 r_p2) (cwV 2 hts (gV tw_540 tw_542 ts_10 tw_1 tw_543) rfl rfl rfl (by decide +kernel) ⟨Nat.le_of_ble_eq_true rfl, Nat.le_of_ble_eq_true rfl⟩) (tg_preV hw hK hSD hA (ci := 9) (q := (RX9, TX9, 15)) rfl h_p0 rfl) rfl rfl hl.1 rfl (lv_room (Nat.le_of_ble_eq_true rfl)) dX9_sitters_12 ⟨Nat.le_of_ble_eq_true rfl, Nat.le_of_ble_eq_true rfl⟩) hw hA (fun v_2  H locs hp_v_2 hw => ?_)
    have r_v_2 : RI v_2 0 1 := hp_v_2.1
    refine lv_if_eq (tgt := 29) hx hb dX9_sitters_15 (by decide) (fun c_15 => ?_) (fun c_15 => ?_)
    · have r_v_2 : RI v_2 0 0 := rc_eq1 r_v_2 rl_0 (ti_eq c_15) (by decide)
      refine lv_iconst (v := (-1)) hx hb dX9_sitters_29 (by decide) ?_
      subst hQ
      exact W.iret (v := (-1)) hx hb hr (fun t ht hW => ⟨⟨(-1), w0, rfl, ⟨⟨rl_m1.to (by decide), (fun _ => trivial), (fun h0 => trivial), ⟨x_HE_gdq_gdg_gdo_gdA_gdB_false_false, trivial⟩, (fun _ => trivial), (fun _ => trivial)⟩, hw.1, hw.2.2.2.2.1⟩, by rw [ht]; exact hw.2.1, va_K.moved hW.alike hK, hw.2.2.1⟩, hw.2.2.2.1.F ht⟩) hw.2.2.2.1.2.2 dX9_sitters_30
    · have r_v_2 : RI v_2 1 1 := rc_neL r_v_2 rl_0 (ti_ne c_15) (by decide)
      have r_p2 : RI p2 0 5 := ((hp_v_2.2.2 c_15).1)
      refine lv_iload_n hx hb dX9_sitters_18 rfl (lv_at hl 3 rfl) ?_
      refine lv_iconst (v := 1) hx hb dX9_sitters_19 (by decide) ?_
      refine lv_icmp_lt (tgt := 29) hx hb dX9_sitters_20 (by decide) (fun c_20 => ?_) (fun c_20 => ?_)
      · have r_p3 : RI p3 (-2147483648) 0 := rc_lt1 r_p3 rl_1 (ti_lt c_20) (by decide)
        refine lv_iconst (v := (-1)) hx hb dX9_sitters_29 (by decide) ?_
        subst hQ
        exact W.iret (v := (-1)) hx hb hr (fun t ht hW => ⟨⟨(-1), w0, rfl, ⟨⟨rl_m1.to (by decide), (fun _ => trivial), (fun h0 => trivial), ⟨x_HE_gdq_gdg_gdo_gdA_gdB_false_false, trivial⟩, (fun _ => trivial), (fun _ => trivial)⟩, hw.1, hw.2.2.2.2.1⟩, by rw [ht]; exact hw.2.1, va_K.moved hW.alike hK, hw.2.2.1⟩, hw.2.2.2.1.F ht⟩) hw.2.2.2.1.2.2 dX9_sitters_30
      · have r_p3 : RI p3 1 2147483647 := rc_le2 rl_1 r_p3 (ti_nlt c_20) (by decide)
        refine lv_iload_n hx hb dX9_sitters_23 rfl (lv_at hl 3 rfl) ?_
        refine lv_bipush (v := 30) hx hb dX9_sitters_24 (by decide) ?_
        refine lv_icmp_le (tgt := 31) hx hb dX9_sitters_26 (by decide) (fun c_26 => ?_) (fun c_26 => ?_)
        · have r_p3 : RI p3 1 30 := rc_le1 r_p3 rl_30 (ti_le c_26) (by decide)
          refine lv_aload_n hx hb dX9_sitters_31 rfl (lv_at hl 0 rfl) ?_
          refine tg_get (ci := 9) (ts := ty_WP) (C := RX9) (T := TX9) (N := 15) hx hb hts inX9 hown hK hw h_p0 rfl rfl 1 (by decide) (hts _ tw_347) (fun _ h9 => h9) (ft := vR 24) rfl dX9_sitters_32 (fun u_3 hv_u_3 m_u_3 => ?_)
          obtain ⟨vu_3, rfl, h_vu_3⟩ := hv_u_3
          refine lv_iload_n hx hb dX9_sitters_35 rfl (lv_at hl 1 rfl) ?_
          refine tk_ir (va_runV (As := [.int p1]) (rest := []) ⟨hx, hb, hml, hown, hts⟩ (c_X8_isOpen l D cy z H.size Ps w0 hw.1 vu_3 p1 h_vu_3 r_p1) (cwV 1 hts (gV tw_733 tw_562 tw_563 tw_12 tw_564) rfl rfl rfl (by decide +kernel) ⟨Nat.le_of_ble_eq_true rfl, Nat.le_of_ble_eq_true rfl⟩) (tg_preV hw hK hSD hA (ci := 8) (q := (RX8, TX8, 13)) rfl h_vu_3 rfl) rfl rfl hl.1 rfl (lv_room (Nat.le_of_ble_eq_true rfl)) dX9_sitters_36 ⟨Nat.le_of_ble_eq_true rfl, Nat.le_of_ble_eq_true rfl⟩) hw hA (fun v_4  H locs hp_v_4 hw => ?_)
          have r_v_4 : RI v_4 0 1 := hp_v_4.1
          refine lv_if_ne (tgt := 53) hx hb dX9_sitters_39 (by decide) (fun c_39 => ?_) (fun c_39 => ?_)
          · have r_v_4 : RI v_4 1 1 := rc_neL r_v_4 rl_0 (ti_ne c_39) (by decide)
            refine lv_iconst (v := (-1)) hx hb dX9_sitters_53 (by decide) ?_
            subst hQ
            exact W.iret (v := (-1)) hx hb hr (fun t ht hW => ⟨⟨(-1), w0, rfl, ⟨⟨rl_m1.to (by decide), (fun _ => trivial), (fun h0 => trivial), ⟨x_HE_gdq_gdg_gdo_gdA_gdB_false_false, trivial⟩, (fun _ => trivial), (fun _ => trivial)⟩, hw.1, hw.2.2.2.2.1⟩, by rw [ht]; exact hw.2.1, va_K.moved hW.alike hK, hw.2.2.1⟩, hw.2.2.2.1.F ht⟩) hw.2.2.2.1.2.2 dX9_sitters_54
          · have r_v_4 : RI v_4 0 0 := rc_eq1 r_v_4 rl_0 (ti_eq c_39) (by decide)
            refine lv_iload_n hx hb dX9_sitters_42 rfl (lv_at hl 3 rfl) ?_
            refine lv_aload_n hx hb dX9_sitters_43 rfl (lv_at hl 0 rfl) ?_
            refine tg_mem (ci := 9) (C := RX9) (T := TX9) (N := 15) hx hb hts inX9 hown hK hw 1 m_u_3 rfl (by decide) (hts _ tw_347) (fun _ h9 => h9) dX9_sitters_44 ?_
            refine tk_ir (va_runV (As := []) (rest := [.int p3]) ⟨hx, hb, hml, hown, hts⟩ (c_X8_daysLeft l D cy z H.size Ps w0 hw.1 vu_3 h_vu_3) (cwV 0 hts (gV tw_725 tw_682 tw_683 tw_12 tw_684) rfl rfl rfl (by decide +kernel) ⟨Nat.le_of_ble_eq_true rfl, Nat.le_of_ble_eq_true rfl⟩) (tg_preV hw hK hSD hA (ci := 8) (q := (RX8, TX8, 13)) rfl h_vu_3 rfl) rfl rfl hl.1 rfl (lv_room (Nat.le_of_ble_eq_true rfl)) dX9_sitters_47 ⟨Nat.le_of_ble_eq_true rfl, Nat.le_of_ble_eq_true rfl⟩) hw hA (fun v_5  H locs hp_v_5 hw => ?_)
            have r_v_5 : RI v_5 0 2147483647 := hp_v_5.1
            refine lv_icmp_le (tgt := 55) hx hb dX9_sitters_50 (by decide) (fun c_50 => ?_) (fun c_50 => ?_)
            · have r_v_5 : RI v_5 1 2147483647 := rc_le2 r_p3 r_v_5 (ti_le c_50) (by decide)
              refine lv_aload_n hx hb dX9_sitters_55 rfl (lv_at hl 0 rfl) ?_
              refine lv_iload_n hx hb dX9_sitters_56 rfl (lv_at hl 1 rfl) ?_
              refine lv_iload_n hx hb dX9_sitters_57 rfl (lv_at hl 2 rfl) ?_
              refine lv_iload_n hx hb dX9_sitters_58 rfl (lv_at hl 3 rfl) ?_
              refine tk_i (va_runV (As := [.int p1, .int p2, .int p3]) (rest := []) ⟨hx, hb, hml, hown, hts⟩ (c_X9_fewestSitters__1 l D cy z H.size Ps w0 hw.1 p0 p1 p2 p3 (gdq) (gdg) (gdo) (gdA) (gdB) h_p0 r_p1 (r_p2.to (by decide)) (r_p3.to (by decide)) x_GWX_p0_gdq x_GQ_gdq_gdg x_HE_gdq_gdg_gdo_gdA_gdB_false_false) (cwV 3 hts (gV tw_734 tw_736 ts_18 tw_1 tw_737) rfl rfl rfl (by decide +kernel) ⟨Nat.le_of_ble_eq_true rfl, Nat.le_of_ble_eq_true rfl⟩) (tg_preV hw hK hSD hA (ci := 9) (q := (RX9, TX9, 15)) rfl h_p0 rfl) rfl rfl hl.1 rfl (lv_room (Nat.le_of_ble_eq_true rfl)) dX9_sitters_59 ⟨Nat.le_of_ble_eq_true rfl, Nat.le_of_ble_eq_true rfl⟩) hw hA ⟨by decide, by decide⟩ (fun v_6 ws H locs hp_v_6 hw hF9 => ?_)
              have m_u_3 := FLD.over hF9 m_u_3 (by decide)
              have x_GWX_p0_gdq := GWX.over hF9 x_GWX_p0_gdq (by decide)
              have x_GQ_gdq_gdg := GQ.over hF9 x_GQ_gdq_gdg (by decide)
              have r_v_6 : RI v_6 (-1) 255 := hp_v_6.1
              have x_HE_gdq_gdg_gdo_gdA_gdB_false_false := hp_v_6.2.2.2.1.1
              refine lv_istore (lv' := [(4, .int v_6), (0, .ref p0), (1, .int p1), (2, .int p2), (3, .int p3)]) hx hb dX9_sitters_62 hl (by decide) rfl (fun ls hl => ?_)
              refine lv_iload hx hb dX9_sitters_64 (lv_at hl 0 rfl) ?_
              refine lv_iconst (v := (-1)) hx hb dX9_sitters_66 (by decide) ?_
              refine lv_icmp_ne (tgt := 72) hx hb dX9_sitters_67 (by decide) (fun c_67 => ?_) (fun c_67 => ?_)
              · have r_v_6 : RI v_6 0 255 := rc_neL r_v_6 rl_m1 (ti_ne c_67) (by decide)
                refine lv_aload_n hx hb dX9_sitters_72 rfl (lv_at hl 1 rfl) ?_
                refine lv_iload hx hb dX9_sitters_73 (lv_at hl 0 rfl) ?_
                refine tg_put (ci := 9) (ts := ty_WP) (v := .int v_6) (ty := .int) (C := RX9) (T := TX9) (N := 15) hx hb hts inX9 tyX9 tyX9_ok nmX9 hown hK hw h_p0 rfl rfl 12 (by decide) (hts _ tw_358) (fun _ h9 => h9) rfl (by decide +kernel) rfl rfl (ft := vI (-2147483648) 2147483647) rfl ⟨_, rfl, (r_v_6.to (by decide))⟩ (by decide) dX9_sitters_75 (fun ws H locs hw n_k_7 hF9 => ?_)
                have m_u_3 := FLD.over hF9 m_u_3 (by decide)
                have x_GWX_p0_gdq := GWX.over hF9 x_GWX_p0_gdq (by decide)
                have x_GQ_gdq_gdg := GQ.over hF9 x_GQ_gdq_gdg (by decide)
                have x_HE_gdq_gdg_gdo_gdA_gdB_false_false := HE.over hF9 x_HE_gdq_gdg_gdo_gdA_gdB_false_false (by decide)
                refine lv_iload hx hb dX9_sitters_78 (lv_at hl 0 rfl) ?_
                refine tk_ir (va_runS (As := [.int v_6]) (rest := []) ⟨hx, hb, hml, hown, hts⟩ (c_J6_bitCount_0f7a4 l D cy z H.size Ps ws hw.1 v_6 (r_v_6.to (by decide))) (va_cwS 1 hts (gS tw_738 tw_739 tw_22 tw_740) rfl rfl rfl (by decide +kernel) ⟨Nat.le_of_ble_eq_true rfl, Nat.le_of_ble_eq_true rfl⟩) (tg_preS hw hK hSD hA) rfl rfl hl.1 rfl (lv_room (Nat.le_of_ble_eq_true rfl)) dX9_sitters_80 ⟨Nat.le_of_ble_eq_true rfl, Nat.le_of_ble_eq_true rfl⟩) hw hA (fun v_8  H locs hp_v_8 hw => ?_)
                have r_v_8 : RI v_8 0 63 := hp_v_8.1
                subst hQ
                exact W.iret (v := v_8) hx hb hr (fun t ht hW => ⟨⟨v_8, ws, rfl, ⟨⟨r_v_8.to (by decide), (fun h0 => trivial), (fun h0 => trivial), ⟨x_HE_gdq_gdg_gdo_gdA_gdB_false_false, trivial⟩, (fun _ => trivial), (fun _ => trivial)⟩, hw.1, hw.2.2.2.2.1⟩, by rw [ht]; exact hw.2.1, va_K.moved hW.alike hK, hw.2.2.1⟩, hw.2.2.2.1.F ht⟩) hw.2.2.2.1.2.2 dX9_sitters_83
              · have r_v_6 : RI v_6 (-1) (-1) := rc_eq1 r_v_6 rl_m1 (ti_eq c_67) (by decide)
                refine lv_iconst (v := (-1)) hx hb dX9_sitters_70 (by decide) ?_
                subst hQ
                exact W.iret (v := (-1)) hx hb hr (fun t ht hW => ⟨⟨(-1), ws, rfl, ⟨⟨rl_m1.to (by decide), (fun _ => trivial), (fun h0 => trivial), ⟨x_HE_gdq_gdg_gdo_gdA_gdB_false_false, trivial⟩, (fun _ => trivial), (fun _ => trivial)⟩, hw.1, hw.2.2.2.2.1⟩, by rw [ht]; exact hw.2.1, va_K.moved hW.alike hK, hw.2.2.1⟩, hw.2.2.2.1.F ht⟩) hw.2.2.2.1.2.2 dX9_sitters_71
            · have r_v_5 : RI v_5 0 29 := rc_lt1 r_v_5 r_p3 (ti_nle c_50) (by decide)
              refine lv_iconst (v := (-1)) hx hb dX9_sitters_53 (by decide) ?_
              subst hQ
              exact W.iret (v := (-1)) hx hb hr (fun t ht hW => ⟨⟨(-1), w0, rfl, ⟨⟨rl_m1.to (by decide), (fun _ => trivial), (fun h0 => trivial), ⟨x_HE_gdq_gdg_gdo_gdA_gdB_false_false, trivial⟩, (fun _ => trivial), (fun _ => trivial)⟩, hw.1, hw.2.2.2.2.1⟩, by rw [ht]; exact hw.2.1, va_K.moved hW.alike hK, hw.2.2.1⟩, hw.2.2.2.1.F ht⟩) hw.2.2.2.1.2.2 dX9_sitters_54
        · have r_p3 : RI p3 31 2147483647 := rc_lt2 rl_30 r_p3 (ti_nle c_26) (by decide)
          refine lv_iconst (v := (-1)) hx hb dX9_sitters_29 (by decide) ?_
          subst hQ
          exact W.iret (v := (-1)) hx hb hr (fun t ht hW => ⟨⟨(-1), w0, rfl, ⟨⟨rl_m1.to (by decide), (fun _ => trivial), (fun h0 => trivial), ⟨x_HE_gdq_gdg_gdo_gdA_gdB_false_false, trivial⟩, (fun _ => trivial), (fun _ => trivial)⟩, hw.1, hw.2.2.2.2.1⟩, by rw [ht]; exact hw.2.1, va_K.moved hW.alike hK, hw.2.2.1⟩, hw.2.2.2.1.F ht⟩) hw.2.2.2.1.2.2 dX9_sitters_30
abbrev wr_X9_stand__1 : List (Nat × Nat) := [(1, 1), (1, 2), (8, 0), (8, 1)]
abbrev wa_X9_stand__1 : List Nat := [8, 9, 10, 11, 12, 13]
set_option maxHeartbeats 4000000 in
set_option maxRecDepth 100000 in
theorem c_X9_stand__1 (l : Launch) (D : va_G) (cy : Nat → ClassId) (z : Nat → Nat) (sz : Nat) (Ps : PSI) (w0 : va_W) (hT : HT cy GG Ps w0) (p0 : Nat) (p1 : Int32) (gdq : Nat → Nat) (gdg : Nat → Nat) (gdo : OS) (gdA : OS) (gdB : OS) (h_p0 : (p0, 33) ∈ Ps) (r_p1 : RI p1 (-2147483648) 2147483647) (x_GWX_p0_gdq : GWX w0 p0 gdq) (x_GQ_gdq_gdg : GQ Ps w0 gdq gdg) (x_HE_gdq_gdg_gdo_gdA_gdB_false_false : HE Ps w0 gdq gdg gdo gdA gdB false false) : Met l yX9_stand (Cond.code yX9_stand cX9_stand 2 (some .int) :: gT) ({ frames := 4, cells := 0, slots := 0, locals := 800 } : Room) (va_Pc [.ref p0, .int p1] (PRE D cy z w0 sz)) (va_Qi (fun (r : Int32) (u : va_W) => (RI r (-2147483648) 2147483647 ∧ (r = 0 → True) ∧ (¬ r = 0 → True) ∧ (HE Ps u gdq gdg gdo gdA gdB false false ∧ True) ∧ (r.toInt < 0 → True) ∧ (0 ≤ r.toInt → True)) ∧ HT cy GG Ps u ∧ FR wr_X9_stand__1 wa_X9_stand__1 Ps w0 u) (BB D cy (va_A w0 sz) (fun (u : va_W) => u)) (va_A w0 sz)) 0 0 (va_A w0 sz) := by
  refine Met.ofW (cc := cX9_stand) (maxL := 2) (ret := (some .int)) (by decide) rfl ?_
  intro p e s m args below meth c s₁ B hml hv
  obtain ⟨rfl, hsz, hP, hK, hD0, hSD⟩ := hv
  have hx := B.exec
  have hb := B.bytes
  have hr := B.returns
  have hlocks := B.notSynchronized
  have hts : ∀ w ∈ gT, w.before _ s = true := fun w h => atoms_spec (ws := Cond.code yX9_stand cX9_stand 2 (some .int) :: gT) B.pre w (List.mem_cons_of_mem _ h)
  have hown : s.vm.findClass RX9 = some m.cls := findClass_of_methodNamed B.named
  subst hsz
  have hD := hD0.self (sz := s.heap.size)
  generalize hAe : va_A w0 s.heap.size = A at hD hSD ⊢
  have hA : ∀ q : Nat, s.heap.size ≤ q → A q := fun q h => by rw [← hAe]; exact Or.inr h
  have hl := lv_entry ([.ref p0, .int p1]) (n := 2) (Nat.le_of_ble_eq_true rfl)
  rw [lg_entry_eq]
  generalize (lg_sl ([.ref p0, .int p1]) ++ List.replicate (2 - (lg_sl ([.ref p0, .int p1])).length) Slot.unset).toArray = ls at hl ⊢
  have hl : lv_has ls 2 [(0, .ref p0), (1, .int p1)] := hl
  refine nameQ (fun Q hQ => ?_)
  have hw : WD D cy GG A s wr_X9_stand__1 wa_X9_stand__1 Ps w0 Ps w0 s.heap [] := ⟨hT, hP, hD, va_S.rf, FR.rf, hT.1, [], (List.append_nil _).symm⟩
  refine lv_aload_n hx hb dX9_stand_0 rfl (lv_at hl 0 rfl) ?_
  refine lv_iconst (v := 3) hx hb dX9_stand_1 (by decide) ?_
  refine lv_iload_n hx hb dX9_stand_2 rfl (lv_at hl 1 rfl) ?_
  refine tk_ir (va_runV (As := [.int 3, .int p1]) (rest := []) ⟨hx, hb, hml, hown, hts⟩ (c_X9_isOf__2 l D cy z s.heap.size Ps w0 hw.1 p0 3 p1 h_p0 rl_3 r_p1) (cwV 2 hts (gV tw_540 tw_542 ts_10 tw_1 tw_543) rfl rfl rfl (by decide +kernel) ⟨Nat.le_of_ble_eq_true rfl, Nat.le_of_ble_eq_true rfl⟩) (tg_preV hw hK hSD hA (ci := 9) (q := (RX9, TX9, 15)) rfl h_p0 rfl) rfl rfl hl.1 rfl (lv_room (Nat.le_of_ble_eq_true rfl)) dX9_stand_3 ⟨Nat.le_of_ble_eq_true rfl, Nat.le_of_ble_eq_true rfl⟩) hw hA (fun v_1  H locs hp_v_1 hw => ?_)
  have r_v_1 : RI v_1 0 1 := hp_v_1.1
  refine lv_if_ne (tgt := 11) hx hb dX9_stand_6 (by decide) (fun c_6 => ?_) (fun c_6 => ?_)
  · have r_v_1 : RI v_1 1 1 := rc_neL r_v_1 rl_0 (ti_ne c_6) (by decide)
    have r_p1 : RI p1 0 7 := ((hp_v_1.2.2 c_6).1)
    refine lv_aload_n hx hb dX9_stand_11 rfl (lv_at hl 0 rfl) ?_
    refine tg_get (ci := 9) (ts := ty_WP) (C := RX9) (T := TX9) (N := 15) hx hb hts inX9 hown hK hw h_p0 rfl rfl 3 (by decide) (hts _ tw_349) (fun _ h9 => h9) (ft := vR 27) rfl dX9_stand_12 (fun u_2 hv_u_2 m_u_2 => ?_)
    obtain ⟨vu_2, rfl, h_vu_2⟩ := hv_u_2
    refine lv_aload_n hx hb dX9_stand_15 rfl (lv_at hl 0 rfl) ?_
    refine tg_get (ci := 9) (ts := ty_WP) (C := RX9) (T := TX9) (N := 15) hx hb hts inX9 hown hK hw h_p0 rfl rfl 1 (by decide) (hts _ tw_347) (fun _ h9 => h9) (ft := vR 24) rfl dX9_stand_16 (fun u_3 hv_u_3 m_u_3 => ?_)
    obtain ⟨vu_3, rfl, h_vu_3⟩ := hv_u_3
    have x_AT_vu_2_gdq_2 : (vu_2 = gdq 2) := GWX.hi hw.2.2.1 x_GWX_p0_gdq m_u_2
    have x_AT_vu_3_gdq_0 : (vu_3 = gdq 0) := GWX.wo hw.2.2.1 x_GWX_p0_gdq m_u_3
    refine tk_v (va_runV (As := [.ref vu_3]) (rest := []) ⟨hx, hb, hml, hown, hts⟩ (c_X1_prepare__1 l D cy z H.size Ps w0 hw.1 vu_2 vu_3 (gdq) (gdg) (gdo) (gdA) (gdB) (false) (false) h_vu_2 h_vu_3 x_AT_vu_2_gdq_2 x_AT_vu_3_gdq_0 x_GQ_gdq_gdg x_HE_gdq_gdg_gdo_gdA_gdB_false_false) (cwV 1 hts (gV tw_606 tw_607 tw_608 tw_13 tw_609) rfl rfl rfl (by decide +kernel) ⟨Nat.le_of_ble_eq_true rfl, Nat.le_of_ble_eq_true rfl⟩) (tg_preV hw hK hSD hA (ci := 1) (q := (RX1, TX1, 3)) rfl h_vu_2 rfl) rfl rfl hl.1 rfl (lv_room (Nat.le_of_ble_eq_true rfl)) dX9_stand_19 ⟨Nat.le_of_ble_eq_true rfl, Nat.le_of_ble_eq_true rfl⟩) hw hA ⟨by decide, by decide⟩ (fun ws H locs hp_v_4 hw hF9 => ?_)
    have m_u_2 := FLD.over hF9 m_u_2 (by decide)
    have m_u_3 := FLD.over hF9 m_u_3 (by decide)
    have x_GWX_p0_gdq := GWX.over hF9 x_GWX_p0_gdq (by decide)
    have x_GQ_gdq_gdg := GQ.over hF9 x_GQ_gdq_gdg (by decide)
    have x_HE_gdq_gdg_gdo_gdA_gdB_true_false := (hp_v_4.1)
    refine lv_aload_n hx hb dX9_stand_22 rfl (lv_at hl 0 rfl) ?_
    refine lv_aload_n hx hb dX9_stand_23 rfl (lv_at hl 0 rfl) ?_
    refine tg_mem (ci := 9) (C := RX9) (T := TX9) (N := 15) hx hb hts inX9 hown hK hw 1 m_u_3 rfl (by decide) (hts _ tw_347) (fun _ h9 => h9) dX9_stand_24 ?_
    refine lv_iload_n hx hb dX9_stand_27 rfl (lv_at hl 1 rfl) ?_
    refine tk_i (va_runV (As := [.int p1]) (rest := [.ref p0]) ⟨hx, hb, hml, hown, hts⟩ (c_X8_standUp l D cy z H.size Ps ws hw.1 vu_3 p1 h_vu_3 r_p1) (cwV 1 hts (gV tw_628 tw_629 tw_630 tw_12 tw_631) rfl rfl rfl (by decide +kernel) ⟨Nat.le_of_ble_eq_true rfl, Nat.le_of_ble_eq_true rfl⟩) (tg_preV hw hK hSD hA (ci := 8) (q := (RX8, TX8, 13)) rfl h_vu_3 rfl) rfl rfl hl.1 rfl (lv_room (Nat.le_of_ble_eq_true rfl)) dX9_stand_28 ⟨Nat.le_of_ble_eq_true rfl, Nat.le_of_ble_eq_true rfl⟩) hw hA ⟨by decide, by decide⟩ (fun v_5 ws H locs hp_v_5 hw hF9 => ?_)
    have m_u_2 := FLD.over hF9 m_u_2 (by decide)
    have m_u_3 := FLD.over hF9 m_u_3 (by decide)
    have x_GWX_p0_gdq := GWX.over hF9 x_GWX_p0_gdq (by decide)
    have x_GQ_gdq_gdg := GQ.over hF9 x_GQ_gdq_gdg (by decide)
    have x_HE_gdq_gdg_gdo_gdA_gdB_true_false := HE.over hF9 x_HE_gdq_gdg_gdo_gdA_gdB_true_false (by decide)
    have r_v_5 : RI v_5 0 1 := hp_v_5.1
    refine tk_i (va_runV (As := [.int v_5]) (rest := []) ⟨hx, hb, hml, hown, hts⟩ (c_X9_keptIfDone__1 l D cy z H.size Ps ws hw.1 p0 v_5 (gdq) (gdg) (gdo) (gdA) (gdB) (false) h_p0 (r_v_5.to (by decide)) x_GWX_p0_gdq x_GQ_gdq_gdg x_HE_gdq_gdg_gdo_gdA_gdB_true_false) (cwV 1 hts (gV tw_615 tw_617 ts_12 tw_1 tw_618) rfl rfl rfl (by decide +kernel) ⟨Nat.le_of_ble_eq_true rfl, Nat.le_of_ble_eq_true rfl⟩) (tg_preV hw hK hSD hA (ci := 9) (q := (RX9, TX9, 15)) rfl h_p0 rfl) rfl rfl hl.1 rfl (lv_room (Nat.le_of_ble_eq_true rfl)) dX9_stand_31 ⟨Nat.le_of_ble_eq_true rfl, Nat.le_of_ble_eq_true rfl⟩) hw hA ⟨by decide, by decide⟩ (fun v_6 ws H locs hp_v_6 hw hF9 => ?_)
    have m_u_2 := FLD.over hF9 m_u_2 (by decide)
    have m_u_3 := FLD.over hF9 m_u_3 (by decide)
    have x_GWX_p0_gdq := GWX.over hF9 x_GWX_p0_gdq (by decide)
    have x_GQ_gdq_gdg := GQ.over hF9 x_GQ_gdq_gdg (by decide)
    have r_v_6 : RI v_6 (-2147483648) 2147483647 := hp_v_6.1
    have x_HE_gdq_gdg_gdo_gdA_gdB_false_false := hp_v_6.2.2.2.1.1
    subst hQ
    exact W.iret (v := v_6) hx hb hr (fun t ht hW => ⟨⟨v_6, ws, rfl, ⟨⟨r_v_6.to (by decide), (fun h0 => trivial), (fun h0 => trivial), ⟨x_HE_gdq_gdg_gdo_gdA_gdB_false_false, trivial⟩, (fun _ => trivial), (fun _ => trivial)⟩, hw.1, hw.2.2.2.2.1⟩, by rw [ht]; exact hw.2.1, va_K.moved hW.alike hK, hw.2.2.1⟩, hw.2.2.2.1.F ht⟩) hw.2.2.2.1.2.2 dX9_stand_34
  · have r_v_1 : RI v_1 0 0 := rc_eq1 r_v_1 rl_0 (ti_eq c_6) (by decide)
    refine lv_iconst (v := (-1)) hx hb dX9_stand_9 (by decide) ?_
    subst hQ
    exact W.iret (v := (-1)) hx hb hr (fun t ht hW => ⟨⟨(-1), w0, rfl, ⟨⟨rl_m1.to (by decide), (fun _ => trivial), (fun h0 => trivial), ⟨x_HE_gdq_gdg_gdo_gdA_gdB_false_false, trivial⟩, (fun _ => trivial), (fun _ => trivial)⟩, hw.1, hw.2.2.2.2.1⟩, by rw [ht]; exact hw.2.1, va_K.moved hW.alike hK, hw.2.2.1⟩, hw.2.2.2.1.F ht⟩) hw.2.2.2.1.2.2 dX9_stand_10
abbrev wr_X1_giveBack__1 : List (Nat × Nat) := [(1, 1), (1, 2), (8, 0), (8, 1)]
abbrev wa_X1_giveBack__1 : List Nat := [8, 9, 10, 11, 12, 13]
set_option maxHeartbeats 4000000 in
set_option maxRecDepth 100000 in
theorem c_X1_giveBack__1 (l : Launch) (D : va_G) (cy : Nat → ClassId) (z : Nat → Nat) (sz : Nat) (Ps : PSI) (w0 : va_W) (hT : HT cy GG Ps w0) (p0 : Nat) (p1 : Nat) (gdq : Nat → Nat) (gdg : Nat → Nat) (gdo : OS) (gdA : OS) (gdB : OS) (gdp : Bool) (gdt : Bool) (h_p0 : (p0, 27) ∈ Ps) (h_p1 : (p1, 24) ∈ Ps) (x_AT_p0_gdq_2 : (p0 = gdq 2)) (x_AT_p1_gdq_0 : (p1 = gdq 0)) (x_GQ_gdq_gdg : GQ Ps w0 gdq gdg) (x_HE_gdq_gdg_gdo_gdA_gdB_gdp_gdt : HE Ps w0 gdq gdg gdo gdA gdB gdp gdt) : Met l yX1_giveBack (Cond.code yX1_giveBack cX1_giveBack 2 (some .int) :: gT) ({ frames := 3, cells := 0, slots := 0, locals := 600 } : Room) (va_Pc [.ref p0, .ref p1] (PRE D cy z w0 sz)) (va_Qi (fun (r : Int32) (u : va_W) => (RI r (-2147483648) 2147483647 ∧ (r = 0 → True) ∧ (¬ r = 0 → True) ∧ (HE Ps u gdq gdg gdo gdA gdB false gdt ∧ True) ∧ (r.toInt < 0 → True) ∧ (0 ≤ r.toInt → True)) ∧ HT cy GG Ps u ∧ FR wr_X1_giveBack__1 wa_X1_giveBack__1 Ps w0 u) (BB D cy (va_A w0 sz) (fun (u : va_W) => u)) (va_A w0 sz)) 0 0 (va_A w0 sz) := by
  refine Met.ofW (cc := cX1_giveBack) (maxL := 2) (ret := (some .int)) (by decide) rfl ?_
  intro p e s m args below meth c s₁ B hml hv
  obtain ⟨rfl, hsz, hP, hK, hD0, hSD⟩ := hv
  have hx := B.exec
  have hb := B.bytes
  have hr := B.returns
  have hlocks := B.notSynchronized
  have hts : ∀ w ∈ gT, w.before _ s = true := fun w h => atoms_spec (ws := Cond.code yX1_giveBack cX1_giveBack 2 (some .int) :: gT) B.pre w (List.mem_cons_of_mem _ h)
  have hown : s.vm.findClass RX1 = some m.cls := findClass_of_methodNamed B.named
  subst hsz
  have hD := hD0.self (sz := s.heap.size)
  generalize hAe : va_A w0 s.heap.size = A at hD hSD ⊢
  have hA : ∀ q : Nat, s.heap.size ≤ q → A q := fun q h => by rw [← hAe]; exact Or.inr h
  have hl := lv_entry ([.ref p0, .ref p1]) (n := 2) (Nat.le_of_ble_eq_true rfl)
  rw [lg_entry_eq]
  generalize (lg_sl ([.ref p0, .ref p1]) ++ List.replicate (2 - (lg_sl ([.ref p0, .ref p1])).length) Slot.unset).toArray = ls at hl ⊢
  have hl : lv_has ls 2 [(0, .ref p0), (1, .ref p1)] := hl
  refine nameQ (fun Q hQ => ?_)
  have hw : WD D cy GG A s wr_X1_giveBack__1 wa_X1_giveBack__1 Ps w0 Ps w0 s.heap [] := ⟨hT, hP, hD, va_S.rf, FR.rf, hT.1, [], (List.append_nil _).symm⟩
  obtain ⟨n9, c9, hNC, hHW⟩ := id x_HE_gdq_gdg_gdo_gdA_gdB_gdp_gdt
  have x_HW_gdq_gdg_gdo_gdA_gdB_n9_c9_gdp_gdt : HW Ps w0 gdq gdg gdo gdA gdB n9 c9 gdp gdt := hHW
  refine lv_aload_n hx hb dX1_giveBack_0 rfl (lv_at hl 0 rfl) ?_
  refine tg_get (ci := 1) (ts := ty_HIST) (C := RX1) (T := TX1) (N := 3) hx hb hts inX1 hown hK hw h_p0 rfl rfl 2 (by decide) (hts _ tw_315) (fun _ h9 => h9) (ft := vI (-2147483648) 2147483647) rfl dX1_giveBack_1 (fun u_1 hv_u_1 m_u_1 => ?_)
  obtain ⟨vu_1, rfl, r_vu_1⟩ := hv_u_1
  have ec9 : vu_1 = nI c9 := NC.cc hw.2.2.1 hNC (by rw [← x_AT_p0_gdq_2]; exact m_u_1)
  refine lv_if_ne (tgt := 9) hx hb dX1_giveBack_4 (by decide) (fun c_4 => ?_) (fun c_4 => ?_)
  · refine lv_aload_n hx hb dX1_giveBack_9 rfl (lv_at hl 0 rfl) ?_
    refine lv_aload_n hx hb dX1_giveBack_10 rfl (lv_at hl 0 rfl) ?_
    refine tg_get (ci := 1) (ts := ty_HIST) (C := RX1) (T := TX1) (N := 3) hx hb hts inX1 hown hK hw h_p0 rfl rfl 1 (by decide) (hts _ tw_314) (fun _ h9 => h9) (ft := vI 0 8) rfl dX1_giveBack_11 (fun u_2 hv_u_2 m_u_2 => ?_)
    obtain ⟨vu_2, rfl, r_vu_2⟩ := hv_u_2
    have en9 : vu_2 = nI n9 := NC.nn hw.2.2.1 hNC (by rw [← x_AT_p0_gdq_2]; exact m_u_2)
    refine lv_bipush (v := 9) hx hb dX1_giveBack_14 (by decide) ?_
    refine lv_iadd hx hb dX1_giveBack_16 (lv_topi (fun v_3 e_v_3 => ?_))
    obtain ⟨t_v_3, r_v_3⟩ := tq_add (lo := 9) (hi := 17) r_vu_2 rl_9 (by decide +kernel) e_v_3
    have t_v_3 : v_3.toInt = vu_2.toInt + 9 := t_v_3
    refine lv_iconst (v := 1) hx hb dX1_giveBack_17 (by decide) ?_
    refine lv_isub hx hb dX1_giveBack_18 (lv_topi (fun v_4 e_v_4 => ?_))
    obtain ⟨t_v_4, r_v_4⟩ := tq_sub (lo := 8) (hi := 16) r_v_3 rl_1 (by decide +kernel) e_v_4
    have t_v_4 : v_4.toInt = v_3.toInt - 1 := t_v_4
    refine lv_bipush (v := 9) hx hb dX1_giveBack_19 (by decide) ?_
    refine lv_irem hx hb dX1_giveBack_21 (ri_ne0 rl_9 (by decide)) (lv_topi (fun v_5 e_v_5 => ?_))
    have r_v_5 : RI v_5 0 8 := by rw [e_v_5]; exact ri_rem (b := 16) (r_v_4.to (by decide)) rl_9 (by decide)
    refine tg_put (ci := 1) (ts := ty_HIST) (v := .int v_5) (ty := .int) (C := RX1) (T := TX1) (N := 3) hx hb hts inX1 tyX1 tyX1_ok nmX1 hown hK hw h_p0 rfl rfl 1 (by decide) (hts _ tw_314) (fun _ h9 => h9) rfl (by decide +kernel) rfl rfl (ft := vI 0 8) rfl ⟨_, rfl, r_v_5⟩ (by decide) dX1_giveBack_22 (fun ws H locs hw n_k_6 hF9 => ?_)
    have m_u_1 := FLD.over hF9 m_u_1 (by decide)
    have x_GQ_gdq_gdg := GQ.over hF9 x_GQ_gdq_gdg (by decide)
    have x_HW_gdq_gdg_gdo_gdA_gdB_n9_c9_gdp_gdt := HW.over hF9 x_HW_gdq_gdg_gdo_gdA_gdB_n9_c9_gdp_gdt (by decide)
    refine lv_aload_n hx hb dX1_giveBack_25 rfl (lv_at hl 1 rfl) ?_
    refine lv_aload_n hx hb dX1_giveBack_26 rfl (lv_at hl 0 rfl) ?_
    refine tg_get (ci := 1) (ts := ty_HIST) (C := RX1) (T := TX1) (N := 3) hx hb hts inX1 hown hK hw h_p0 rfl rfl 0 (by decide) (hts _ tw_313) (fun _ h9 => h9) (ft := vR 22) rfl dX1_giveBack_27 (fun u_7 hv_u_7 m_u_7 => ?_)
    obtain ⟨vu_7, rfl, h_vu_7⟩ := hv_u_7
    refine lv_aload_n hx hb dX1_giveBack_30 rfl (lv_at hl 0 rfl) ?_
    refine tg_mem (ci := 1) (C := RX1) (T := TX1) (N := 3) hx hb hts inX1 hown hK hw 1 n_k_6 rfl (by decide) (hts _ tw_314) (fun _ h9 => h9) dX1_giveBack_31 ?_
    refine tg_aaldE (u := 24) hx hb hK hw h_vu_7 rfl rfl 0 8 r_v_5 (by decide) (fun _ _ _ => rfl) dX1_giveBack_34 (fun b_8 h_b_8 e_b_8 => ?_)
    have eb9 : b_8 = gdg ((n9 + 8) % 9) := GQ.at hw.2.2.1 x_GQ_gdq_gdg (by rw [← x_AT_p0_gdq_2]; exact m_u_7) e_b_8 (nx8 en9 hNC.2.1 e_v_3 e_v_4 e_v_5) (m9 _)
    have hD8 := hw.2.2.1
    refine tk_v (va_runV (As := [.ref b_8]) (rest := []) ⟨hx, hb, hml, hown, hts⟩ (c_X8_takeFrom__1 l D cy z H.size Ps ws hw.1 p1 b_8 h_p1 h_b_8) (cwV 1 hts (gV tw_610 tw_522 tw_523 tw_12 tw_524) rfl rfl rfl (by decide +kernel) ⟨Nat.le_of_ble_eq_true rfl, Nat.le_of_ble_eq_true rfl⟩) (tg_preV hw hK hSD hA (ci := 8) (q := (RX8, TX8, 13)) rfl h_p1 rfl) rfl rfl hl.1 rfl (lv_room (Nat.le_of_ble_eq_true rfl)) dX1_giveBack_35 ⟨Nat.le_of_ble_eq_true rfl, Nat.le_of_ble_eq_true rfl⟩) hw hA ⟨by decide, by decide⟩ (fun ws H locs hp_v_9 hw hF9 => ?_)
    have m_u_1 := FLD.over hF9 m_u_1 (by decide)
    have n_k_6 := FLD.over hF9 n_k_6 (by decide)
    have m_u_7 := FLD.over hF9 m_u_7 (by decide)
    have x_GQ_gdq_gdg := GQ.over hF9 x_GQ_gdq_gdg (by decide)
    have x_TKF_p1_b_8 := (hp_v_9.1)
    have x_HW_gdq_gdg_gdo_gdA_gdB___n9___8____9___c9___1__false_gdt : HW Ps ws gdq gdg gdo gdA gdB ((n9 + 8) % 9) (c9 - 1) false gdt := HW.back hD8 hF9 (by decide) x_GQ_gdq_gdg.2.2.2.2.2 hNC.2.1 hNC.2.2.2 (kp0 ec9 c_4) x_HW_gdq_gdg_gdo_gdA_gdB_n9_c9_gdp_gdt (by rw [← eb9, ← x_AT_p1_gdq_0]; exact x_TKF_p1_b_8)
    refine lv_aload_n hx hb dX1_giveBack_38 rfl (lv_at hl 0 rfl) ?_
    refine lv_dup hx hb dX1_giveBack_39 rfl ?_
    refine tg_mem (ci := 1) (C := RX1) (T := TX1) (N := 3) hx hb hts inX1 hown hK hw 2 m_u_1 rfl (by decide) (hts _ tw_315) (fun _ h9 => h9) dX1_giveBack_40 ?_
    refine lv_iconst (v := 1) hx hb dX1_giveBack_43 (by decide) ?_
    refine lv_isub hx hb dX1_giveBack_44 (lv_topi (fun v_10 e_v_10 => ?_))
    have r_v_10 := ri_any v_10
    refine tg_put (ci := 1) (ts := ty_HIST) (v := .int v_10) (ty := .int) (C := RX1) (T := TX1) (N := 3) hx hb hts inX1 tyX1 tyX1_ok nmX1 hown hK hw h_p0 rfl rfl 2 (by decide) (hts _ tw_315) (fun _ h9 => h9) rfl (by decide +kernel) rfl rfl (ft := vI (-2147483648) 2147483647) rfl ⟨_, rfl, r_v_10⟩ (by decide) dX1_giveBack_45 (fun ws H locs hw n_k_11 hF9 => ?_)
    have n_k_6 := FLD.over hF9 n_k_6 (by decide)
    have m_u_7 := FLD.over hF9 m_u_7 (by decide)
    have x_GQ_gdq_gdg := GQ.over hF9 x_GQ_gdq_gdg (by decide)
    have x_HW_gdq_gdg_gdo_gdA_gdB___n9___8____9___c9___1__false_gdt := HW.over hF9 x_HW_gdq_gdg_gdo_gdA_gdB___n9___8____9___c9___1__false_gdt (by decide)
    have x_HE_gdq_gdg_gdo_gdA_gdB_false_gdt : HE Ps ws gdq gdg gdo gdA gdB false gdt := ⟨(n9 + 8) % 9, c9 - 1, ⟨by rw [← nx8 en9 hNC.2.1 e_v_3 e_v_4 e_v_5, ← x_AT_p0_gdq_2]; exact n_k_6, m9 _, by rw [← (kp1 ec9 c_4 e_v_10).2, ← x_AT_p0_gdq_2]; exact n_k_11, (by have k9 := hNC.2.2.2; omega)⟩, x_HW_gdq_gdg_gdo_gdA_gdB___n9___8____9___c9___1__false_gdt⟩
    refine lv_aload_n hx hb dX1_giveBack_48 rfl (lv_at hl 0 rfl) ?_
    refine tg_mem (ci := 1) (C := RX1) (T := TX1) (N := 3) hx hb hts inX1 hown hK hw 2 n_k_11 rfl (by decide) (hts _ tw_315) (fun _ h9 => h9) dX1_giveBack_49 ?_
    subst hQ
    exact W.iret (v := v_10) hx hb hr (fun t ht hW => ⟨⟨v_10, ws, rfl, ⟨⟨r_v_10.to (by decide), (fun h0 => trivial), (fun h0 => trivial), ⟨x_HE_gdq_gdg_gdo_gdA_gdB_false_gdt, trivial⟩, (fun _ => trivial), (fun _ => trivial)⟩, hw.1, hw.2.2.2.2.1⟩, by rw [ht]; exact hw.2.1, va_K.moved hW.alike hK, hw.2.2.1⟩, hw.2.2.2.1.F ht⟩) hw.2.2.2.1.2.2 dX1_giveBack_52
  · have r_vu_1 : RI vu_1 0 0 := rc_eq1 r_vu_1 rl_0 (ti_eq c_4) (by decide)
    have x_HE_gdq_gdg_gdo_gdA_gdB_false_gdt : HE Ps w0 gdq gdg gdo gdA gdB false gdt := HE.weak (fun e9 => by cases e9) (fun e9 => e9) x_HE_gdq_gdg_gdo_gdA_gdB_gdp_gdt
    refine lv_iconst (v := (-1)) hx hb dX1_giveBack_7 (by decide) ?_
    subst hQ
    exact W.iret (v := (-1)) hx hb hr (fun t ht hW => ⟨⟨(-1), w0, rfl, ⟨⟨rl_m1.to (by decide), (fun _ => trivial), (fun h0 => trivial), ⟨x_HE_gdq_gdg_gdo_gdA_gdB_false_gdt, trivial⟩, (fun _ => trivial), (fun _ => trivial)⟩, hw.1, hw.2.2.2.2.1⟩, by rw [ht]; exact hw.2.1, va_K.moved hW.alike hK, hw.2.2.1⟩, hw.2.2.2.1.F ht⟩) hw.2.2.2.1.2.2 dX1_giveBack_8
abbrev wr_X9_undo__1 : List (Nat × Nat) := [(1, 1), (1, 2), (8, 0), (8, 1)]
abbrev wa_X9_undo__1 : List Nat := [8, 9, 10, 11, 12, 13]
set_option maxHeartbeats 4000000 in
set_option maxRecDepth 100000 in
theorem c_X9_undo__1 (l : Launch) (D : va_G) (cy : Nat → ClassId) (z : Nat → Nat) (sz : Nat) (Ps : PSI) (w0 : va_W) (hT : HT cy GG Ps w0) (p0 : Nat) (gdq : Nat → Nat) (gdg : Nat → Nat) (gdo : OS) (gdA : OS) (gdB : OS) (h_p0 : (p0, 33) ∈ Ps) (x_GWX_p0_gdq : GWX w0 p0 gdq) (x_GQ_gdq_gdg : GQ Ps w0 gdq gdg) (x_HE_gdq_gdg_gdo_gdA_gdB_false_false : HE Ps w0 gdq gdg gdo gdA gdB false false) : Met l yX9_undo (Cond.code yX9_undo cX9_undo 1 (some .int) :: gT) ({ frames := 4, cells := 0, slots := 0, locals := 800 } : Room) (va_Pc [.ref p0] (PRE D cy z w0 sz)) (va_Qi (fun (r : Int32) (u : va_W) => (RI r (-2147483648) 2147483647 ∧ (r = 0 → True) ∧ (¬ r = 0 → True) ∧ (HE Ps u gdq gdg gdo gdA gdB false false ∧ True) ∧ (r.toInt < 0 → True) ∧ (0 ≤ r.toInt → True)) ∧ HT cy GG Ps u ∧ FR wr_X9_undo__1 wa_X9_undo__1 Ps w0 u) (BB D cy (va_A w0 sz) (fun (u : va_W) => u)) (va_A w0 sz)) 0 0 (va_A w0 sz) := by
  refine Met.ofW (cc := cX9_undo) (maxL := 1) (ret := (some .int)) (by decide) rfl ?_
  intro p e s m args below meth c s₁ B hml hv
  obtain ⟨rfl, hsz, hP, hK, hD0, hSD⟩ := hv
  have hx := B.exec
  have hb := B.bytes
  have hr := B.returns
  have hlocks := B.notSynchronized
  have hts : ∀ w ∈ gT, w.before _ s = true := fun w h => atoms_spec (ws := Cond.code yX9_undo cX9_undo 1 (some .int) :: gT) B.pre w (List.mem_cons_of_mem _ h)
  have hown : s.vm.findClass RX9 = some m.cls := findClass_of_methodNamed B.named
  subst hsz
  have hD := hD0.self (sz := s.heap.size)
  generalize hAe : va_A w0 s.heap.size = A at hD hSD ⊢
  have hA : ∀ q : Nat, s.heap.size ≤ q → A q := fun q h => by rw [← hAe]; exact Or.inr h
  have hl := lv_entry ([.ref p0]) (n := 1) (Nat.le_of_ble_eq_true rfl)
  rw [lg_entry_eq]
  generalize (lg_sl ([.ref p0]) ++ List.replicate (1 - (lg_sl ([.ref p0])).length) Slot.unset).toArray = ls at hl ⊢
  have hl : lv_has ls 1 [(0, .ref p0)] := hl
  refine nameQ (fun Q hQ => ?_)
  have hw : WD D cy GG A s wr_X9_undo__1 wa_X9_undo__1 Ps w0 Ps w0 s.heap [] := ⟨hT, hP, hD, va_S.rf, FR.rf, hT.1, [], (List.append_nil _).symm⟩
  refine lv_aload_n hx hb dX9_undo_0 rfl (lv_at hl 0 rfl) ?_
  refine tg_get (ci := 9) (ts := ty_WP) (C := RX9) (T := TX9) (N := 15) hx hb hts inX9 hown hK hw h_p0 rfl rfl 3 (by decide) (hts _ tw_349) (fun _ h9 => h9) (ft := vR 27) rfl dX9_undo_1 (fun u_1 hv_u_1 m_u_1 => ?_)
  obtain ⟨vu_1, rfl, h_vu_1⟩ := hv_u_1
  refine lv_aload_n hx hb dX9_undo_4 rfl (lv_at hl 0 rfl) ?_
  refine tg_get (ci := 9) (ts := ty_WP) (C := RX9) (T := TX9) (N := 15) hx hb hts inX9 hown hK hw h_p0 rfl rfl 1 (by decide) (hts _ tw_347) (fun _ h9 => h9) (ft := vR 24) rfl dX9_undo_5 (fun u_2 hv_u_2 m_u_2 => ?_)
  obtain ⟨vu_2, rfl, h_vu_2⟩ := hv_u_2
  have x_AT_vu_1_gdq_2 : (vu_1 = gdq 2) := GWX.hi hw.2.2.1 x_GWX_p0_gdq m_u_1
  have x_AT_vu_2_gdq_0 : (vu_2 = gdq 0) := GWX.wo hw.2.2.1 x_GWX_p0_gdq m_u_2
  refine tk_i (va_runV (As := [.ref vu_2]) (rest := []) ⟨hx, hb, hml, hown, hts⟩ (c_X1_giveBack__1 l D cy z s.heap.size Ps w0 hw.1 vu_1 vu_2 (gdq) (gdg) (gdo) (gdA) (gdB) (false) (false) h_vu_1 h_vu_2 x_AT_vu_1_gdq_2 x_AT_vu_2_gdq_0 x_GQ_gdq_gdg x_HE_gdq_gdg_gdo_gdA_gdB_false_false) (cwV 1 hts (gV tw_717 tw_718 tw_719 tw_13 tw_720) rfl rfl rfl (by decide +kernel) ⟨Nat.le_of_ble_eq_true rfl, Nat.le_of_ble_eq_true rfl⟩) (tg_preV hw hK hSD hA (ci := 1) (q := (RX1, TX1, 3)) rfl h_vu_1 rfl) rfl rfl hl.1 rfl (lv_room (Nat.le_of_ble_eq_true rfl)) dX9_undo_8 ⟨Nat.le_of_ble_eq_true rfl, Nat.le_of_ble_eq_true rfl⟩) hw hA ⟨by decide, by decide⟩ (fun v_3 ws H locs hp_v_3 hw hF9 => ?_)
  have m_u_1 := FLD.over hF9 m_u_1 (by decide)
  have m_u_2 := FLD.over hF9 m_u_2 (by decide)
  have x_GWX_p0_gdq := GWX.over hF9 x_GWX_p0_gdq (by decide)
  have x_GQ_gdq_gdg := GQ.over hF9 x_GQ_gdq_gdg (by decide)
  have r_v_3 : RI v_3 (-2147483648) 2147483647 := hp_v_3.1
  have x_HE_gdq_gdg_gdo_gdA_gdB_false_false := hp_v_3.2.2.2.1.1
  subst hQ
  exact W.iret (v := v_3) hx hb hr (fun t ht hW => ⟨⟨v_3, ws, rfl, ⟨⟨r_v_3.to (by decide), (fun h0 => trivial), (fun h0 => trivial), ⟨x_HE_gdq_gdg_gdo_gdA_gdB_false_false, trivial⟩, (fun _ => trivial), (fun _ => trivial)⟩, hw.1, hw.2.2.2.2.1⟩, by rw [ht]; exact hw.2.1, va_K.moved hW.alike hK, hw.2.2.1⟩, hw.2.2.2.1.F ht⟩) hw.2.2.2.1.2.2 dX9_undo_11
abbrev wr_X9_wish__1 : List (Nat × Nat) := [(1, 1), (1, 2), (8, 0), (8, 1)]
abbrev wa_X9_wish__1 : List Nat := [8, 9, 10, 11, 12, 13]
set_option maxHeartbeats 4000000 in
set_option maxRecDepth 100000 in
theorem c_X9_wish__1 (l : Launch) (D : va_G) (cy : Nat → ClassId) (z : Nat → Nat) (sz : Nat) (Ps : PSI) (w0 : va_W) (hT : HT cy GG Ps w0) (p0 : Nat) (p1 : Int32) (p2 : Int32) (gdq : Nat → Nat) (gdg : Nat → Nat) (gdo : OS) (gdA : OS) (gdB : OS) (h_p0 : (p0, 33) ∈ Ps) (r_p1 : RI p1 (-2147483648) 2147483647) (r_p2 : RI p2 (-2147483648) 2147483647) (x_GWX_p0_gdq : GWX w0 p0 gdq) (x_GQ_gdq_gdg : GQ Ps w0 gdq gdg) (x_HE_gdq_gdg_gdo_gdA_gdB_false_false : HE Ps w0 gdq gdg gdo gdA gdB false false) : Met l yX9_wish (Cond.code yX9_wish cX9_wish 3 (some .int) :: gT) ({ frames := 4, cells := 0, slots := 0, locals := 800 } : Room) (va_Pc [.ref p0, .int p1, .int p2] (PRE D cy z w0 sz)) (va_Qi (fun (r : Int32) (u : va_W) => (RI r (-2147483648) 2147483647 ∧ (r = 0 → True) ∧ (¬ r = 0 → True) ∧ (HE Ps u gdq gdg gdo gdA gdB false false ∧ True) ∧ (r.toInt < 0 → True) ∧ (0 ≤ r.toInt → True)) ∧ HT cy GG Ps u ∧ FR wr_X9_wish__1 wa_X9_wish__1 Ps w0 u) (BB D cy (va_A w0 sz) (fun (u : va_W) => u)) (va_A w0 sz)) 0 0 (va_A w0 sz) := by
  refine Met.ofW (cc := cX9_wish) (maxL := 3) (ret := (some .int)) (by decide) rfl ?_
  intro p e s m args below meth c s₁ B hml hv
  obtain ⟨rfl, hsz, hP, hK, hD0, hSD⟩ := hv
  have hx := B.exec
  have hb := B.bytes
  have hr := B.returns
  have hlocks := B.notSynchronized
  have hts : ∀ w ∈ gT, w.before _ s = true := fun w h => atoms_spec (ws := Cond.code yX9_wish cX9_wish 3 (some .int) :: gT) B.pre w (List.mem_cons_of_mem _ h)
  have hown : s.vm.findClass RX9 = some m.cls := findClass_of_methodNamed B.named
  subst hsz
  have hD := hD0.self (sz := s.heap.size)
  generalize hAe : va_A w0 s.heap.size = A at hD hSD ⊢
  have hA : ∀ q : Nat, s.heap.size ≤ q → A q := fun q h => by rw [← hAe]; exact Or.inr h
  have hl := lv_entry ([.ref p0, .int p1, .int p2]) (n := 3) (Nat.le_of_ble_eq_true rfl)
  rw [lg_entry_eq]
  generalize (lg_sl ([.ref p0, .int p1, .int p2]) ++ List.replicate (3 - (lg_sl ([.ref p0, .int p1, .int p2])).length) Slot.unset).toArray = ls at hl ⊢
  have hl : lv_has ls 3 [(0, .ref p0), (1, .int p1), (2, .int p2)] := hl
  refine nameQ (fun Q hQ => ?_)
  have hw : WD D cy GG A s wr_X9_wish__1 wa_X9_wish__1 Ps w0 Ps w0 s.heap [] := ⟨hT, hP, hD, va_S.rf, FR.rf, hT.1, [], (List.append_nil _).symm⟩
  refine lv_aload_n hx hb dX9_wish_0 rfl (lv_at hl 0 rfl) ?_
  refine lv_iconst (v := 3) hx hb dX9_wish_1 (by decide) ?_
  refine lv_iload_n hx hb dX9_wish_2 rfl (lv_at hl 1 rfl) ?_
  refine tk_ir (va_runV (As := [.int 3, .int p1]) (rest := []) ⟨hx, hb, hml, hown, hts⟩ (c_X9_isOf__2 l D cy z s.heap.size Ps w0 hw.1 p0 3 p1 h_p0 rl_3 r_p1) (cwV 2 hts (gV tw_540 tw_542 ts_10 tw_1 tw_543) rfl rfl rfl (by decide +kernel) ⟨Nat.le_of_ble_eq_true rfl, Nat.le_of_ble_eq_true rfl⟩) (tg_preV hw hK hSD hA (ci := 9) (q := (RX9, TX9, 15)) rfl h_p0 rfl) rfl rfl hl.1 rfl (lv_room (Nat.le_of_ble_eq_true rfl)) dX9_wish_3 ⟨Nat.le_of_ble_eq_true rfl, Nat.le_of_ble_eq_true rfl⟩) hw hA (fun v_1  H locs hp_v_1 hw => ?_)
  have r_v_1 : RI v_1 0 1 := hp_v_1.1
  refine lv_if_eq (tgt := 18) hx hb dX9_wish_6 (by decide) (fun c_6 => ?_) (fun c_6 => ?_)
  · have r_v_1 : RI v_1 0 0 := rc_eq1 r_v_1 rl_0 (ti_eq c_6) (by decide)
    refine lv_iconst (v := (-1)) hx hb dX9_wish_18 (by decide) ?_
    subst hQ
    exact W.iret (v := (-1)) hx hb hr (fun t ht hW => ⟨⟨(-1), w0, rfl, ⟨⟨rl_m1.to (by decide), (fun _ => trivial), (fun h0 => trivial), ⟨x_HE_gdq_gdg_gdo_gdA_gdB_false_false, trivial⟩, (fun _ => trivial), (fun _ => trivial)⟩, hw.1, hw.2.2.2.2.1⟩, by rw [ht]; exact hw.2.1, va_K.moved hW.alike hK, hw.2.2.1⟩, hw.2.2.2.1.F ht⟩) hw.2.2.2.1.2.2 dX9_wish_19
  · have r_v_1 : RI v_1 1 1 := rc_neL r_v_1 rl_0 (ti_ne c_6) (by decide)
    have r_p1 : RI p1 0 7 := ((hp_v_1.2.2 c_6).1)
    refine lv_aload_n hx hb dX9_wish_9 rfl (lv_at hl 0 rfl) ?_
    refine lv_iconst (v := 0) hx hb dX9_wish_10 (by decide) ?_
    refine lv_iload_n hx hb dX9_wish_11 rfl (lv_at hl 2 rfl) ?_
    refine tk_ir (va_runV (As := [.int 0, .int p2]) (rest := []) ⟨hx, hb, hml, hown, hts⟩ (c_X9_isOf__3 l D cy z H.size Ps w0 hw.1 p0 0 p2 h_p0 rl_0 r_p2) (cwV 2 hts (gV tw_540 tw_542 ts_10 tw_1 tw_543) rfl rfl rfl (by decide +kernel) ⟨Nat.le_of_ble_eq_true rfl, Nat.le_of_ble_eq_true rfl⟩) (tg_preV hw hK hSD hA (ci := 9) (q := (RX9, TX9, 15)) rfl h_p0 rfl) rfl rfl hl.1 rfl (lv_room (Nat.le_of_ble_eq_true rfl)) dX9_wish_12 ⟨Nat.le_of_ble_eq_true rfl, Nat.le_of_ble_eq_true rfl⟩) hw hA (fun v_2  H locs hp_v_2 hw => ?_)
    have r_v_2 : RI v_2 0 1 := hp_v_2.1
    refine lv_if_ne (tgt := 20) hx hb dX9_wish_15 (by decide) (fun c_15 => ?_) (fun c_15 => ?_)
    · have r_v_2 : RI v_2 1 1 := rc_neL r_v_2 rl_0 (ti_ne c_15) (by decide)
      have r_p2 : RI p2 0 5 := ((hp_v_2.2.2 c_15).1)
      refine lv_aload_n hx hb dX9_wish_20 rfl (lv_at hl 0 rfl) ?_
      refine tg_get (ci := 9) (ts := ty_WP) (C := RX9) (T := TX9) (N := 15) hx hb hts inX9 hown hK hw h_p0 rfl rfl 3 (by decide) (hts _ tw_349) (fun _ h9 => h9) (ft := vR 27) rfl dX9_wish_21 (fun u_3 hv_u_3 m_u_3 => ?_)
      obtain ⟨vu_3, rfl, h_vu_3⟩ := hv_u_3
      refine lv_aload_n hx hb dX9_wish_24 rfl (lv_at hl 0 rfl) ?_
      refine tg_get (ci := 9) (ts := ty_WP) (C := RX9) (T := TX9) (N := 15) hx hb hts inX9 hown hK hw h_p0 rfl rfl 1 (by decide) (hts _ tw_347) (fun _ h9 => h9) (ft := vR 24) rfl dX9_wish_25 (fun u_4 hv_u_4 m_u_4 => ?_)
      obtain ⟨vu_4, rfl, h_vu_4⟩ := hv_u_4
      have x_AT_vu_3_gdq_2 : (vu_3 = gdq 2) := GWX.hi hw.2.2.1 x_GWX_p0_gdq m_u_3
      have x_AT_vu_4_gdq_0 : (vu_4 = gdq 0) := GWX.wo hw.2.2.1 x_GWX_p0_gdq m_u_4
      refine tk_v (va_runV (As := [.ref vu_4]) (rest := []) ⟨hx, hb, hml, hown, hts⟩ (c_X1_prepare__1 l D cy z H.size Ps w0 hw.1 vu_3 vu_4 (gdq) (gdg) (gdo) (gdA) (gdB) (false) (false) h_vu_3 h_vu_4 x_AT_vu_3_gdq_2 x_AT_vu_4_gdq_0 x_GQ_gdq_gdg x_HE_gdq_gdg_gdo_gdA_gdB_false_false) (cwV 1 hts (gV tw_606 tw_607 tw_608 tw_13 tw_609) rfl rfl rfl (by decide +kernel) ⟨Nat.le_of_ble_eq_true rfl, Nat.le_of_ble_eq_true rfl⟩) (tg_preV hw hK hSD hA (ci := 1) (q := (RX1, TX1, 3)) rfl h_vu_3 rfl) rfl rfl hl.1 rfl (lv_room (Nat.le_of_ble_eq_true rfl)) dX9_wish_28 ⟨Nat.le_of_ble_eq_true rfl, Nat.le_of_ble_eq_true rfl⟩) hw hA ⟨by decide, by decide⟩ (fun ws H locs hp_v_5 hw hF9 => ?_)
      have m_u_3 := FLD.over hF9 m_u_3 (by decide)
      have m_u_4 := FLD.over hF9 m_u_4 (by decide)
      have x_GWX_p0_gdq := GWX.over hF9 x_GWX_p0_gdq (by decide)
      have x_GQ_gdq_gdg := GQ.over hF9 x_GQ_gdq_gdg (by decide)
      have x_HE_gdq_gdg_gdo_gdA_gdB_true_false := (hp_v_5.1)
      refine lv_aload_n hx hb dX9_wish_31 rfl (lv_at hl 0 rfl) ?_
      refine lv_aload_n hx hb dX9_wish_32 rfl (lv_at hl 0 rfl) ?_
      refine tg_mem (ci := 9) (C := RX9) (T := TX9) (N := 15) hx hb hts inX9 hown hK hw 1 m_u_4 rfl (by decide) (hts _ tw_347) (fun _ h9 => h9) dX9_wish_33 ?_
      refine lv_iload_n hx hb dX9_wish_36 rfl (lv_at hl 1 rfl) ?_
      refine lv_iload_n hx hb dX9_wish_37 rfl (lv_at hl 2 rfl) ?_
      refine tk_i (va_runV (As := [.int p1, .int p2]) (rest := [.ref p0]) ⟨hx, hb, hml, hown, hts⟩ (c_X8_wishFor l D cy z H.size Ps ws hw.1 vu_4 p1 p2 h_vu_4 r_p1 r_p2) (cwV 2 hts (gV tw_636 tw_637 tw_638 tw_12 tw_639) rfl rfl rfl (by decide +kernel) ⟨Nat.le_of_ble_eq_true rfl, Nat.le_of_ble_eq_true rfl⟩) (tg_preV hw hK hSD hA (ci := 8) (q := (RX8, TX8, 13)) rfl h_vu_4 rfl) rfl rfl hl.1 rfl (lv_room (Nat.le_of_ble_eq_true rfl)) dX9_wish_38 ⟨Nat.le_of_ble_eq_true rfl, Nat.le_of_ble_eq_true rfl⟩) hw hA ⟨by decide, by decide⟩ (fun v_6 ws H locs hp_v_6 hw hF9 => ?_)
      have m_u_3 := FLD.over hF9 m_u_3 (by decide)
      have m_u_4 := FLD.over hF9 m_u_4 (by decide)
      have x_GWX_p0_gdq := GWX.over hF9 x_GWX_p0_gdq (by decide)
      have x_GQ_gdq_gdg := GQ.over hF9 x_GQ_gdq_gdg (by decide)
      have x_HE_gdq_gdg_gdo_gdA_gdB_true_false := HE.over hF9 x_HE_gdq_gdg_gdo_gdA_gdB_true_false (by decide)
      have r_v_6 : RI v_6 0 1 := hp_v_6.1
      refine tk_i (va_runV (As := [.int v_6]) (rest := []) ⟨hx, hb, hml, hown, hts⟩ (c_X9_keptIfDone__1 l D cy z H.size Ps ws hw.1 p0 v_6 (gdq) (gdg) (gdo) (gdA) (gdB) (false) h_p0 (r_v_6.to (by decide)) x_GWX_p0_gdq x_GQ_gdq_gdg x_HE_gdq_gdg_gdo_gdA_gdB_true_false) (cwV 1 hts (gV tw_615 tw_617 ts_12 tw_1 tw_618) rfl rfl rfl (by decide +kernel) ⟨Nat.le_of_ble_eq_true rfl, Nat.le_of_ble_eq_true rfl⟩) (tg_preV hw hK hSD hA (ci := 9) (q := (RX9, TX9, 15)) rfl h_p0 rfl) rfl rfl hl.1 rfl (lv_room (Nat.le_of_ble_eq_true rfl)) dX9_wish_41 ⟨Nat.le_of_ble_eq_true rfl, Nat.le_of_ble_eq_true rfl⟩) hw hA ⟨by decide, by decide⟩ (fun v_7 ws H locs hp_v_7 hw hF9 => ?_)
      have m_u_3 := FLD.over hF9 m_u_3 (by decide)
      have m_u_4 := FLD.over hF9 m_u_4 (by decide)
      have x_GWX_p0_gdq := GWX.over hF9 x_GWX_p0_gdq (by decide)
      have x_GQ_gdq_gdg := GQ.over hF9 x_GQ_gdq_gdg (by decide)
      have r_v_7 : RI v_7 (-2147483648) 2147483647 := hp_v_7.1
      have x_HE_gdq_gdg_gdo_gdA_gdB_false_false := hp_v_7.2.2.2.1.1
      subst hQ
      exact W.iret (v := v_7) hx hb hr (fun t ht hW => ⟨⟨v_7, ws, rfl, ⟨⟨r_v_7.to (by decide), (fun h0 => trivial), (fun h0 => trivial), ⟨x_HE_gdq_gdg_gdo_gdA_gdB_false_false, trivial⟩, (fun _ => trivial), (fun _ => trivial)⟩, hw.1, hw.2.2.2.2.1⟩, by rw [ht]; exact hw.2.1, va_K.moved hW.alike hK, hw.2.2.1⟩, hw.2.2.2.1.F ht⟩) hw.2.2.2.1.2.2 dX9_wish_44
    · have r_v_2 : RI v_2 0 0 := rc_eq1 r_v_2 rl_0 (ti_eq c_15) (by decide)
      refine lv_iconst (v := (-1)) hx hb dX9_wish_18 (by decide) ?_
      subst hQ
      exact W.iret (v := (-1)) hx hb hr (fun t ht hW => ⟨⟨(-1), w0, rfl, ⟨⟨rl_m1.to (by decide), (fun _ => trivial), (fun h0 => trivial), ⟨x_HE_gdq_gdg_gdo_gdA_gdB_false_false, trivial⟩, (fun _ => trivial), (fun _ => trivial)⟩, hw.1, hw.2.2.2.2.1⟩, by rw [ht]; exact hw.2.1, va_K.moved hW.alike hK, hw.2.2.1⟩, hw.2.2.2.1.F ht⟩) hw.2.2.2.1.2.2 dX9_wish_19
