/-! p4: post of class and reference by the spec -/
def isI : Option VT → Bool
  | some (.inl _) => true
  | _ => false
def isJ : Option VT → Bool
  | some (.inr (.inl _)) => true
  | _ => false
def isR : Option VT → Nat → Bool
  | some (.inr (.inr (.inl t))), u => t == u
  | _, _ => false
def isA : CTy → Bool
  | .inr (.inl _) => true
  | _ => false
def isB : CTy → Bool
  | .inr (.inr (.inl _)) => true
  | _ => false
theorem isI_ex : ∀ {c : Option VT}, isI c = true → ∃ q, c = some (.inl q)
  | some (.inl q), _ => ⟨q, rfl⟩
  | some (.inr _), h => by cases h
  | none, h => by cases h
theorem isJ_ex : ∀ {c : Option VT}, isJ c = true → ∃ q, c = some (.inr (.inl q))
  | some (.inr (.inl q)), _ => ⟨q, rfl⟩
  | some (.inr (.inr _)), h => by cases h
  | some (.inl _), h => by cases h
  | none, h => by cases h
theorem isR_ex : ∀ {c : Option VT} {u : Nat}, isR c u = true → c = some (vR u)
  | some (.inr (.inr (.inl t))), u, h => by
    have e : t = u := eq_of_beq h
    rw [e]
  | some (.inr (.inr (.inr _))), _, h => by cases h
  | some (.inr (.inl _)), _, h => by cases h
  | some (.inl _), _, h => by cases h
  | none, _, h => by cases h
theorem isA_ex : ∀ {c : CTy}, isA c = true → ∃ z, c = .inr (.inl z)
  | .inr (.inl z), _ => ⟨z, rfl⟩
  | .inr (.inr _), h => by cases h
  | .inl _, h => by cases h
theorem isB_ex : ∀ {c : CTy}, isB c = true → ∃ z, c = .inr (.inr (.inl z))
  | .inr (.inr (.inl z)), _ => ⟨z, rfl⟩
  | .inr (.inr (.inr _)), h => by cases h
  | .inr (.inl _), h => by cases h
  | .inl _, h => by cases h
section FACTS45
variable {s : State} {H : Heap} {locs : List Loc} {D : va_G} {cy : Nat → ClassId} {A : Nat → Prop} {ws ws' w0 wx : va_W} {Ps X : PSI} {wr : List (Nat × Nat)} {wa : List Nat} {x y t : Nat} {T : Nat → Nat} {g : Int}
/-- an object of a type has a view -/
theorem OV.ex {V : VW} {ts : List VT} (hT : HT cy GG Ps ws) {u t : Nat} (ha : (u, t) ∈ Ps) (hG : GG u t = .inl (V.1, ts)) (h1 : ∀ k ∈ V.2.1, isI ts[k]? = true) (h2 : ∀ k ∈ V.2.2.1, isJ ts[k]? = true) (h3 : ∀ q ∈ V.2.2.2.1, isR ts[q.1]? q.2 = true ∧ isA (GG 0 q.2) = true) (h4 : ∀ q ∈ V.2.2.2.2, isR ts[q.1]? q.2 = true ∧ isB (GG 0 q.2) = true) (h5 : ∀ q ∈ V.2.2.2.1, ∀ q' ∈ V.2.2.2.1, q.1 = q'.1 → q.2 = q'.2) (h6 : ∀ q ∈ V.2.2.2.2, ∀ q' ∈ V.2.2.2.2, q.1 = q'.1 → q.2 = q'.2) : ∃ o, OV V Ps ws u o := by
  obtain ⟨i, e1, -, a2, a3⟩ := hT.find ha
  rw [hG] at a3
  obtain ⟨fs, rfl, a4⟩ := a3
  have fi : ∀ k, ∃ v : Int32, k ∈ V.2.1 → FLD ws u V.1 k (.int v) := fun k => by
    by_cases m : k ∈ V.2.1
    · obtain ⟨q, hq⟩ := isI_ex (h1 k m)
      obtain ⟨v, b1, v2, rfl, -⟩ := a4 k _ hq
      exact ⟨v2, fun _ => ⟨i, fs, a2, b1⟩⟩
    · exact ⟨0, fun z => absurd z m⟩
  have fl : ∀ k, ∃ v : Int64, k ∈ V.2.2.1 → FLD ws u V.1 k (.long v) := fun k => by
    by_cases m : k ∈ V.2.2.1
    · obtain ⟨q, hq⟩ := isJ_ex (h2 k m)
      obtain ⟨v, b1, v2, rfl, -⟩ := a4 k _ hq
      exact ⟨v2, fun _ => ⟨i, fs, a2, b1⟩⟩
    · exact ⟨0, fun z => absurd z m⟩
  have fa : ∀ k, ∃ f : Nat → Int32, ∀ t, (k, t) ∈ V.2.2.2.1 → ∃ r, FLD ws u V.1 k (.ref r) ∧ ARR Ps ws r t f := fun k => by
    by_cases m : ∃ t, (k, t) ∈ V.2.2.2.1
    · obtain ⟨t1, m⟩ := m
      obtain ⟨b0, hz⟩ := h3 _ m
      obtain ⟨z, hz⟩ := isA_ex hz
      obtain ⟨v, b1, r, rfl, b2⟩ := a4 k _ (isR_ex b0)
      obtain ⟨j, e, c1, c2, c3⟩ := hT.find b2
      rw [show GG r t1 = .inr (.inl z) from hz] at c3
      obtain ⟨f, rfl, -⟩ := c3
      refine ⟨f, fun t2 m2 => ?_⟩
      have e2 : t2 = t1 := h5 _ m2 _ m rfl
      subst e2
      exact ⟨r, ⟨i, fs, a2, b1⟩, ⟨j, _, _, c1, c2⟩⟩
    · exact ⟨fun _ => 0, fun t z => absurd ⟨t, z⟩ m⟩
  have fb : ∀ k, ∃ f : Nat → Int64, ∀ t, (k, t) ∈ V.2.2.2.2 → ∃ r, FLD ws u V.1 k (.ref r) ∧ ARL Ps ws r t f := fun k => by
    by_cases m : ∃ t, (k, t) ∈ V.2.2.2.2
    · obtain ⟨t1, m⟩ := m
      obtain ⟨b0, hz⟩ := h4 _ m
      obtain ⟨z, hz⟩ := isB_ex hz
      obtain ⟨v, b1, r, rfl, b2⟩ := a4 k _ (isR_ex b0)
      obtain ⟨j, e, c1, c2, c3⟩ := hT.find b2
      rw [show GG r t1 = .inr (.inr (.inl z)) from hz] at c3
      obtain ⟨f, rfl, -⟩ := c3
      refine ⟨f, fun t2 m2 => ?_⟩
      have e2 : t2 = t1 := h6 _ m2 _ m rfl
      subst e2
      exact ⟨r, ⟨i, fs, a2, b1⟩, ⟨j, _, _, c1, c2⟩⟩
    · exact ⟨fun _ => 0, fun t z => absurd ⟨t, z⟩ m⟩
  obtain ⟨o1, p1⟩ := Classical.axiomOfChoice fi
  obtain ⟨o2, p2⟩ := Classical.axiomOfChoice fl
  obtain ⟨o3, p3⟩ := Classical.axiomOfChoice fa
  obtain ⟨o4, p4⟩ := Classical.axiomOfChoice fb
  exact ⟨(o1, o2, o3, o4), p1, p2, fun q hq => p3 q.1 q.2 hq, fun q hq => p4 q.1 q.2 hq⟩
theorem ARL.inj {b u : Nat} {f f2 : Nat → Int64} (hD : va_D A ws) (h : ARL Ps ws b u f) (h2 : ARL Ps ws b u f2) : f = f2 := by
  obtain ⟨q, cA, n, -, a2⟩ := h
  obtain ⟨q', cB, n', -, b2⟩ := h2
  have e := hD.1 q q' _ _ a2 b2 rfl
  subst e
  cases a2.symm.trans b2
  rfl
theorem tp_full (hT : HT cy GG Ps ws) (hD : va_D A ws) (h1 : TLX ws x g) (h2 : BYX Ps ws x T) (h3 : WKX Ps ws x) (ht : FLD ws x 9 0 (.ref t)) (hp : (t, 26) ∈ Ps) : ∃ o, OV vw_TAPE Ps ws t o ∧ CXT o T g.toNat := by
  obtain ⟨o1, a1, a2, a3⟩ := cx_get hT hD h1 h2 h3 ht hp
  obtain ⟨o, b⟩ := OV.ex (V := vw_TAPE) (ts := ty_TAPE) hT hp rfl (by decide) (by decide) (by decide) (by decide) (by decide) (by decide)
  refine ⟨o, b, a2.1, ?_, fun k hk => ?_, a2.2.2.2.1, fun k hk => ?_⟩
  · exact (OV.eqI hD b (a1.1 2 (by decide)) (by decide)).trans a2.2.1
  · obtain ⟨r, c1, c2⟩ := a1.2.2.1 (0, 2) (by decide)
    have e := ARR.inj hD (OV.arrA (V := vw_TAPE) (t := 2) hD b c1 (by decide)) c2
    exact (congrFun e k).trans (a2.2.2.1 k)
  · obtain ⟨r, c1, c2⟩ := a1.2.2.2 (1, 0) (by decide)
    have e := ARL.inj hD (OV.arrB (V := vw_TAPE) (t := 0) hD b c1 (by decide)) c2
    exact (congrFun e k).trans (a2.2.2.2.2 k hk)
theorem md_full (hT : HT cy GG Ps ws) (hD : va_D A ws) (h1 : TLM ws y g) (h2 : BYM Ps ws y T) (hp : (y, 55) ∈ Ps) : ∃ o, OV vw_MODEL Ps ws y o ∧ RXT o T g.toNat := by
  obtain ⟨o1, a1, a2, a3⟩ := mx_get hT hD h1 h2 hp
  obtain ⟨o, b⟩ := OV.ex (V := vw_MODEL) (ts := ty_MODEL) hT hp rfl (by decide) (by decide) (by decide) (by decide) (by decide) (by decide)
  refine ⟨o, b, a2.1, ?_, fun k hk => ?_, a2.2.2.2⟩
  · exact (OV.eqI hD b (a1.1 2 (by decide)) (by decide)).trans a2.2.1
  · obtain ⟨r, c1, c2⟩ := a1.2.2.1 (1, 40) (by decide)
    have e := ARR.inj hD (OV.arrA (V := vw_MODEL) (t := 40) hD b c1 (by decide)) c2
    exact (congrFun e k).trans (a2.2.2.1 k)
theorem wd_full (hT : HT cy GG Ps ws) (hp : (t, 24) ∈ Ps) : ∃ o, OV vw_WORLD Ps ws t o := OV.ex (V := vw_WORLD) (ts := ty_WORLD) hT hp rfl (by decide) (by decide) (by decide) (by decide) (by decide) (by decide)
theorem gmid {α : Type} {l m : List α} {v : α} (k : Nat) (h : m[k]? = some v) : (l ++ m)[l.length + k]? = some v := by
  rw [List.getElem?_append_right (Nat.le_add_right _ _), Nat.add_sub_cancel_left]
  exact h
theorem ARR.mid {a u n : Nat} (k : Nat) {cA : ClassId} {f : Nat → Int32} (hl : Ps.length = ws.length) (h1 : X[k]? = some (a, u)) (h2 : wx[k]? = some (a, .inl (cA, n, .inl f))) : ARR (Ps ++ X) (ws ++ wx) a u f :=
  ⟨ws.length + k, cA, n, by rw [← hl]; exact gmid k h1, gmid k h2⟩
theorem ARL.mid {a u n : Nat} (k : Nat) {cA : ClassId} {f : Nat → Int64} (hl : Ps.length = ws.length) (h1 : X[k]? = some (a, u)) (h2 : wx[k]? = some (a, .inl (cA, n, .inr (.inl f)))) : ARL (Ps ++ X) (ws ++ wx) a u f :=
  ⟨ws.length + k, cA, n, by rw [← hl]; exact gmid k h1, gmid k h2⟩
/-- a new post, as an object -/
def OP0 : OS := (fun k => if k = 6 then 5 else 0, fun _ => 0, fun _ _ => 0, fun _ _ => 0)
theorem P0_OP0 : P0 OP0 := ⟨fun _ _ => rfl, fun _ _ => rfl, fun _ _ => rfl, fun _ _ => rfl, rfl, rfl, rfl, rfl⟩
theorem post_new {q u0 u1 u2 u3 u4 : Nat} (hl : Ps.length = ws.length) : OV vw_POST (Ps ++ [(q, 25), (u0, 1), (u1, 4), (u2, 5), (u3, 6), (u4, 7)]) (ws ++ [(q, .inr (3, [.ref u0, .ref u1, .ref u2, .ref u3, .ref u4, .int 0, .int 5, .int 0, .int 0])), (u0, .inl (cy 2, 32, .inr (.inl (fun _ => 0)))), (u1, .inl (cy 1, 4, .inl (fun _ => 0))), (u2, .inl (cy 1, 6, .inl (fun _ => 0))), (u3, .inl (cy 1, 6, .inl (fun _ => 0))), (u4, .inl (cy 1, 8, .inl (fun _ => 0)))]) q OP0 := by
  refine ⟨fun k hk => ?_, fun k hk => absurd hk List.not_mem_nil, fun z hz => ?_, fun z hz => ?_⟩
  · have hk : k ∈ ([5, 6, 7, 8] : List Nat) := hk
    simp only [List.mem_cons, List.not_mem_nil, or_false] at hk
    rcases hk with rfl | rfl | rfl | rfl
    · exact FLD.mid rfl
    · exact FLD.mid rfl
    · exact FLD.mid rfl
    · exact FLD.mid rfl
  · have hz : z ∈ ([(1, 4), (2, 5), (3, 6), (4, 7)] : List (Nat × Nat)) := hz
    simp only [List.mem_cons, List.not_mem_nil, or_false] at hz
    rcases hz with rfl | rfl | rfl | rfl
    · exact ⟨u1, FLD.mid rfl, ARR.mid 2 hl rfl rfl⟩
    · exact ⟨u2, FLD.mid rfl, ARR.mid 3 hl rfl rfl⟩
    · exact ⟨u3, FLD.mid rfl, ARR.mid 4 hl rfl rfl⟩
    · exact ⟨u4, FLD.mid rfl, ARR.mid 5 hl rfl rfl⟩
  · have hz : z ∈ ([(0, 1)] : List (Nat × Nat)) := hz
    cases List.mem_singleton.mp hz
    exact ⟨u0, FLD.mid rfl, ARL.mid 1 hl rfl rfl⟩
/-- what post answers -/
def PAN (T : Nat → Nat) (g : Int) : Int32 := sAns (sPost T g.toNat 900 4294967298 R0 N0 0 0)
theorem PA_ {r : OS × OS × OS × Int32} {S : (Nat × Nat) ⊕ (Nat × (Nat → Int32) × (Nat → Nat))} (h : RO r S) : (r.2.1.1 10 = 0 → r.2.2.2 = sAns S) ∧ (¬ r.2.1.1 10 = 0 → -1 - r.2.1.1 11 = sAns S) := by
  cases S with
  | inl e =>
    obtain ⟨a, b, c, d⟩ := h.1 e rfl
    refine ⟨fun z => ?_, fun _ => ?_⟩
    · rw [a] at z
      exact absurd z (nI_ne0 c (by omega))
    · rw [b]; rfl
  | inr w =>
    obtain ⟨l, R, N⟩ := w
    obtain ⟨a, b, -⟩ := h.2 l R N rfl
    exact ⟨fun _ => b, fun z => absurd a z⟩
theorem EQF.lf {v : Int32} (hD : va_D A ws) (h : EQF ws x) (ht : FLD ws x 9 0 (.ref t)) (hv : FLD ws t 7 10 (.int v)) : FLD ws x 9 11 (.int v) := by
  obtain ⟨t1, v1, h1, h2, h3⟩ := h
  cases FLD.inj hD h1 ht
  cases FLD.inj hD h3 hv
  exact h2
end FACTS45
abbrev wr_X9_post__2 : List (Nat × Nat) := [(1, 2), (3, 5), (3, 6), (3, 7), (3, 8), (7, 2), (7, 3), (7, 4), (7, 5), (7, 6), (7, 7), (7, 8), (7, 9), (7, 10), (7, 11), (8, 0), (8, 1), (9, 5), (9, 11)]
abbrev wa_X9_post__2 : List Nat := [1, 4, 5, 6, 7, 8, 9, 10, 11, 12, 13]
set_option maxHeartbeats 4000000 in
set_option maxRecDepth 100000 in
theorem c_X9_post__2 (l : Launch) (D : va_G) (cy : Nat → ClassId) (z : Nat → Nat) (sz : Nat) (Ps : PSI) (w0 : va_W) (hT : HT cy GG Ps w0) (p0 : Nat) (gh : Int) (gdT : Nat → Nat) (h_p0 : (p0, 33) ∈ Ps) (x_TLX_p0_gh : TLX w0 p0 (gh)) (x_BYX_p0_gdT : BYX Ps w0 p0 gdT) (x_WKX_p0 : WKX Ps w0 p0) : Met l yX9_post (Cond.code yX9_post cX9_post 3 (some .int) :: gT) ({ frames := 6, cells := 6, slots := 65, locals := 1200 } : Room) (va_Pc [.ref p0] (PRE D cy z w0 sz)) (va_Qi (fun (r : Int32) (u : PSI × va_W) => (RI r (-2147483648) 2147483647 ∧ (r = 0 → True) ∧ (¬ r = 0 → True) ∧ (TLX u.2 p0 (0) ∧ (r = PAN gdT gh) ∧ True) ∧ (r.toInt < 0 → True) ∧ (0 ≤ r.toInt → True)) ∧ (∃ X, u.1 = Ps ++ X) ∧ HT cy GG u.1 u.2 ∧ FR wr_X9_post__2 wa_X9_post__2 Ps w0 u.2) (BB D cy (va_A w0 sz) (fun (u : PSI × va_W) => u.2)) (va_A w0 sz)) 6 65 (va_A w0 sz) := by
  refine Met.ofW (cc := cX9_post) (maxL := 3) (ret := (some .int)) (by decide) rfl ?_
  intro p e s m args below meth c s₁ B hml hv
  obtain ⟨rfl, hsz, hP, hK, hD0, hSD⟩ := hv
  have hx := B.exec
  have hb := B.bytes
  have hr := B.returns
  have hlocks := B.notSynchronized
  have hts : ∀ w ∈ gT, w.before _ s = true := fun w h => atoms_spec (ws := Cond.code yX9_post cX9_post 3 (some .int) :: gT) B.pre w (List.mem_cons_of_mem _ h)
  have hown : s.vm.findClass RX9 = some m.cls := findClass_of_methodNamed B.named
  subst hsz
  have hD := hD0.self (sz := s.heap.size)
  generalize hAe : va_A w0 s.heap.size = A at hD hSD ⊢
  have hA : ∀ q : Nat, s.heap.size ≤ q → A q := fun q h => by rw [← hAe]; exact Or.inr h
  have hl := lv_entry ([.ref p0]) (n := 3) (Nat.le_of_ble_eq_true rfl)
  rw [lg_entry_eq]
  generalize (lg_sl ([.ref p0]) ++ List.replicate (3 - (lg_sl ([.ref p0])).length) Slot.unset).toArray = ls at hl ⊢
  have hl : lv_has ls 3 [(0, .ref p0)] := hl
  refine nameQ (fun Q hQ => ?_)
  have hw : WD D cy GG A s wr_X9_post__2 wa_X9_post__2 Ps w0 Ps w0 s.heap [] := ⟨hT, hP, hD, va_S.rf, FR.rf, hT.1, [], (List.append_nil _).symm⟩
  refine va_new (ci := 3) (fs := [.null, .null, .null, .null, .null, .int 0, .int 0, .int 0, .int 0]) (C := RX3) (T := TX3) (N := 9) hx hb hts inX3 tyX3 tyX3_ok hown (hts _ tw_192) (hts _ tw_193) (hts _ tw_11) hK hw.2.1 hw.2.2.1 hw.2.2.2.1 hA rfl (dfX3) (Nat.le_of_ble_eq_true rfl) (Nat.le_of_ble_eq_true rfl) dX9_post_0 (fun q_1 H hP9 hD9 hS9 => ?_)
  refine lv_dup hx hb dX9_post_3 rfl ?_
  refine tkN (va_runIN (As := []) (rest := [.ref q_1]) ⟨hx, hb, hml, hown, hts⟩ (c_Post_init l D cy z H.size q_1) ⟨va_cnB 0 hts (gC tw_196) rfl rfl rfl (va_Nw.of rfl (hSD.nest (args := #[]) tn_194)) (hts _ tw_11) (by decide +kernel) ⟨Nat.le_of_ble_eq_true rfl, Nat.le_of_ble_eq_true rfl⟩, rfl, hts _ tw_195⟩ (preS hP9 hD9 hK hSD hS9 hA [w0.length] last1 rfl) rfl rfl hl.1 rfl (lv_room (Nat.le_of_ble_eq_true rfl)) dX9_post_4 ⟨Nat.le_of_ble_eq_true rfl, Nat.le_of_ble_eq_true rfl⟩) hP9 hD9 hS9 hA (fun u9 H locs hp9 hP9 hD9 hS9 => ?_)
  obtain ⟨u0_1, u1_1, u2_1, u3_1, u4_1⟩ := u9
  have hw := WD.app (X := [(q_1, 25), (u0_1, 1), (u1_1, 4), (u2_1, 5), (u3_1, 6), (u4_1, 7)]) (wx := [(q_1, .inr (3, [.ref u0_1, .ref u1_1, .ref u2_1, .ref u3_1, .ref u4_1, .int 0, .int 5, .int 0, .int 0])), (u0_1, .inl (cy 2, 32, .inr (.inl (fun _ => 0)))), (u1_1, .inl (cy 1, 4, .inl (fun _ => 0))), (u2_1, .inl (cy 1, 6, .inl (fun _ => 0))), (u3_1, .inl (cy 1, 6, .inl (fun _ => 0))), (u4_1, .inl (cy 1, 8, .inl (fun _ => 0)))]) hw ⟨⟨rfl, ok_POST (List.mem_append_right _ (by simp)) (List.mem_append_right _ (by simp)) (List.mem_append_right _ (by simp)) (List.mem_append_right _ (by simp)) (List.mem_append_right _ (by simp)) (rl_0.to (by decide)) (rl_5.to (by decide)) (rl_0.to (by decide)) (rl_0.to (by decide))⟩, ⟨rfl, z_lon (fun _ => 0)⟩, ⟨rfl, z_arr (fun _ => 0) (by decide +kernel) trivial⟩, ⟨rfl, z_arr (fun _ => 0) (fun j9 _ => (by show ((-2147483648) : Int) ≤ (0 : Int32).toInt ∧ (0 : Int32).toInt ≤ 2147483647; decide)) trivial⟩, ⟨rfl, z_arr (fun _ => 0) (fun j9 _ => (by show ((-2147483648) : Int) ≤ (0 : Int32).toInt ∧ (0 : Int32).toInt ≤ 2147483647; decide)) trivial⟩, ⟨rfl, z_arr (fun _ => 0) (fun j9 _ => (by show ((-2147483648) : Int) ≤ (0 : Int32).toInt ∧ (0 : Int32).toInt ≤ 2147483647; decide)) trivial⟩, trivial⟩ hP9 hD9 hS9
  obtain ⟨Pn, hPn⟩ : ∃ q9 : PSI, q9 = Ps ++ [(q_1, 25), (u0_1, 1), (u1_1, 4), (u2_1, 5), (u3_1, 6), (u4_1, 7)] := ⟨_, rfl⟩
  have hup : ∀ x9 ∈ Ps, x9 ∈ Pn := fun x9 h9 => by rw [hPn]; exact List.mem_append_left _ h9
  obtain ⟨ws, hws⟩ : ∃ q9 : va_W, q9 = w0 ++ [(q_1, .inr (3, [.ref u0_1, .ref u1_1, .ref u2_1, .ref u3_1, .ref u4_1, .int 0, .int 5, .int 0, .int 0])), (u0_1, .inl (cy 2, 32, .inr (.inl (fun _ => 0)))), (u1_1, .inl (cy 1, 4, .inl (fun _ => 0))), (u2_1, .inl (cy 1, 6, .inl (fun _ => 0))), (u3_1, .inl (cy 1, 6, .inl (fun _ => 0))), (u4_1, .inl (cy 1, 8, .inl (fun _ => 0)))] := ⟨_, rfl⟩
  rw [← hPn, ← hws] at hw
  have h_p0 := hup _ h_p0
  have h_q_1 : (q_1, 25) ∈ Pn := by rw [hPn]; exact List.mem_append_right _ (by simp)
  have h_u0_1 : (u0_1, 1) ∈ Pn := by rw [hPn]; exact List.mem_append_right _ (by simp)
  have h_u1_1 : (u1_1, 4) ∈ Pn := by rw [hPn]; exact List.mem_append_right _ (by simp)
  have h_u2_1 : (u2_1, 5) ∈ Pn := by rw [hPn]; exact List.mem_append_right _ (by simp)
  have h_u3_1 : (u3_1, 6) ∈ Pn := by rw [hPn]; exact List.mem_append_right _ (by simp)
  have h_u4_1 : (u4_1, 7) ∈ Pn := by rw [hPn]; exact List.mem_append_right _ (by simp)
  refine W.widen (k := 6) (n := 65) (Nat.le_of_ble_eq_true rfl) (Nat.le_of_ble_eq_true rfl) ?_
  have x_TLX_p0_gh : TLX ws p0 (gh) := by rw [hws]; exact TLX.app x_TLX_p0_gh
  have x_BYX_p0_gdT : BYX Pn ws p0 gdT := by rw [hPn, hws]; exact BYX.app x_BYX_p0_gdT
  have x_WKX_p0 : WKX Pn ws p0 := by rw [hPn, hws]; exact WKX.app x_WKX_p0
  have o_n : OV vw_POST Pn ws q_1 OP0 := by rw [hPn, hws]; exact post_new hT.1
  refine lv_astore_n (lv' := [(1, .ref q_1), (0, .ref p0)]) hx hb dX9_post_7 rfl hl (by decide) rfl (fun ls hl => ?_)
  refine lv_aload_n hx hb dX9_post_8 rfl (lv_at hl 0 rfl) ?_
  refine lv_aload_n hx hb dX9_post_9 rfl (lv_at hl 1 rfl) ?_
  refine tg_get (ci := 9) (ts := ty_WP) (C := RX9) (T := TX9) (N := 15) hx hb hts inX9 hown hK hw h_p0 rfl rfl 0 (by decide) (hts _ tw_346) (fun _ h9 => h9) (ft := vR 26) rfl dX9_post_10 (fun u_2 hv_u_2 m_u_2 => ?_)
  obtain ⟨vu_2, rfl, h_vu_2⟩ := hv_u_2
  refine lv_aload_n hx hb dX9_post_13 rfl (lv_at hl 1 rfl) ?_
  refine tg_get (ci := 9) (ts := ty_WP) (C := RX9) (T := TX9) (N := 15) hx hb hts inX9 hown hK hw h_p0 rfl rfl 2 (by decide) (hts _ tw_348) (fun _ h9 => h9) (ft := vR 24) rfl dX9_post_14 (fun u_3 hv_u_3 m_u_3 => ?_)
  obtain ⟨vu_3, rfl, h_vu_3⟩ := hv_u_3
  obtain ⟨so, o_t, hCX⟩ := tp_full hw.1 hw.2.2.1 x_TLX_p0_gh x_BYX_p0_gdT x_WKX_p0 m_u_2 h_vu_2
  obtain ⟨sw, o_w⟩ := wd_full hw.1 h_vu_3
  refine tk_i (va_runV (As := [.ref vu_2, .ref vu_3]) (rest := []) ⟨hx, hb, hml, hown, hts⟩ (c_X3_read__1 l D cy z H.size Pn ws hw.1 q_1 vu_2 vu_3 OP0 so sw h_q_1 h_vu_2 h_vu_3 o_n o_t o_w) (cwV 2 hts (gV tw_412 tw_413 tw_414 tw_11 tw_415) rfl rfl rfl (by decide +kernel) ⟨Nat.le_of_ble_eq_true rfl, Nat.le_of_ble_eq_true rfl⟩) (tg_preV hw hK hSD hA (ci := 3) (q := (RX3, TX3, 9)) rfl h_q_1 rfl) rfl rfl hl.1 rfl (lv_room (Nat.le_of_ble_eq_true rfl)) dX9_post_17 ⟨Nat.le_of_ble_eq_true rfl, Nat.le_of_ble_eq_true rfl⟩) hw hA ⟨by decide, by decide⟩ (fun v_4 ws H locs hp_v_4 hw hF9 => ?_)
  have m_u_2 := FLD.over hF9 m_u_2 (by decide)
  have m_u_3 := FLD.over hF9 m_u_3 (by decide)
  have x_TLX_p0_gh := TLX.over hF9 x_TLX_p0_gh (by decide)
  have x_BYX_p0_gdT := BYX.over hF9 x_BYX_p0_gdT (by decide)
  have x_WKX_p0 := WKX.over hF9 x_WKX_p0 (by decide)
  obtain ⟨hfn, hp_v_4⟩ := hp_v_4
  have o_n : OV vw_POST Pn ws q_1 ((f_X3_read__1 OP0 so sw).1) := hfn.1
  have o_t : OV vw_TAPE Pn ws vu_2 ((f_X3_read__1 OP0 so sw).2.1) := hfn.2.1
  have o_w : OV vw_WORLD Pn ws vu_3 ((f_X3_read__1 OP0 so sw).2.2.1) := hfn.2.2.1
  have hfr_v_4 : (f_X3_read__1 OP0 so sw).2.2.2 = v_4 := hfn.2.2.2.1
  have r_v_4 : RI v_4 (-1) 900 := hp_v_4.1
  obtain ⟨fv, e_fv⟩ : ∃ q9 : Int32, (((f_X3_read__1 OP0 so sw).2.1)).1 10 = q9 := ⟨_, rfl⟩
  have m_fv : FLD ws vu_2 7 10 (.int fv) := by rw [← e_fv]; exact o_t.1 10 (by decide)
  obtain ⟨pv, e_pv⟩ : ∃ q9 : Int32, (((f_X3_read__1 OP0 so sw).2.1)).1 11 = q9 := ⟨_, rfl⟩
  have m_pv : FLD ws vu_2 7 11 (.int pv) := by rw [← e_pv]; exact o_t.1 11 (by decide)
  have hPA : (fv = 0 → v_4 = PAN gdT gh) ∧ (¬ fv = 0 → -1 - pv = PAN gdT gh) := by
    have h9 := PA_ (read_ (s2 := sw) hCX P0_OP0)
    rw [e_fv, e_pv, hfr_v_4] at h9
    exact h9
  have r_fv : RI fv 0 4 := by
    obtain ⟨v9, a9, b9⟩ := ht_fld (k := 10) (ci := 7) (ts := ty_TAPE) (lo := 0) (hi := 4) hw.1 h_vu_2 rfl rfl
    cases FLD.inj hw.2.2.1 a9 m_fv
    exact b9
  have r_pv := ri_any pv
  refine lv_istore_n (lv' := [(2, .int v_4), (1, .ref q_1), (0, .ref p0)]) hx hb dX9_post_20 rfl hl (by decide) rfl (fun ls hl => ?_)
  refine lv_aload_n hx hb dX9_post_21 rfl (lv_at hl 2 rfl) ?_
  refine tk_v (va_runV (As := []) (rest := []) ⟨hx, hb, hml, hown, hts⟩ (c_X9_noteFault__2 l D cy z H.size Pn ws hw.1 p0 h_p0) (cwV 0 hts (gV tw_517 tw_519 ts_9 tw_1 tw_520) rfl rfl rfl (by decide +kernel) ⟨Nat.le_of_ble_eq_true rfl, Nat.le_of_ble_eq_true rfl⟩) (tg_preV hw hK hSD hA (ci := 9) (q := (RX9, TX9, 15)) rfl h_p0 rfl) rfl rfl hl.1 rfl (lv_room (Nat.le_of_ble_eq_true rfl)) dX9_post_22 ⟨Nat.le_of_ble_eq_true rfl, Nat.le_of_ble_eq_true rfl⟩) hw hA ⟨by decide, by decide⟩ (fun ws H locs hp_v_5 hw hF9 => ?_)
  have m_u_2 := FLD.over hF9 m_u_2 (by decide)
  have m_u_3 := FLD.over hF9 m_u_3 (by decide)
  have m_fv := FLD.over hF9 m_fv (by decide)
  have m_pv := FLD.over hF9 m_pv (by decide)
  have x_BYX_p0_gdT := BYX.over hF9 x_BYX_p0_gdT (by decide)
  have x_WKX_p0 := WKX.over hF9 x_WKX_p0 (by decide)
  have x_EQF_p0 := (hp_v_5.1)
  have x_TLX_p0_0 := (hp_v_5.2.1)
  have m_lf : FLD ws p0 9 11 (.int fv) := EQF.lf hw.2.2.1 x_EQF_p0 m_u_2 m_fv
  refine lv_aload_n hx hb dX9_post_25 rfl (lv_at hl 2 rfl) ?_
  refine tg_mem (ci := 9) (C := RX9) (T := TX9) (N := 15) hx hb hts inX9 hown hK hw 11 m_lf rfl (by decide) (hts _ tw_357) (fun _ h9 => h9) dX9_post_26 ?_
  refine lv_if_eq (tgt := 42) hx hb dX9_post_29 (by decide) (fun c_29 => ?_) (fun c_29 => ?_)
  · have r_fv : RI fv 0 0 := rc_eq1 r_fv rl_0 (ti_eq c_29) (by decide)
    refine lv_aload_n hx hb dX9_post_42 rfl (lv_at hl 2 rfl) ?_
    refine tg_get (ci := 9) (ts := ty_WP) (C := RX9) (T := TX9) (N := 15) hx hb hts inX9 hown hK hw h_p0 rfl rfl 1 (by decide) (hts _ tw_347) (fun _ h9 => h9) (ft := vR 24) rfl dX9_post_43 (fun u_6 hv_u_6 m_u_6 => ?_)
    obtain ⟨vu_6, rfl, h_vu_6⟩ := hv_u_6
    refine lv_aload_n hx hb dX9_post_46 rfl (lv_at hl 2 rfl) ?_
    refine tg_mem (ci := 9) (C := RX9) (T := TX9) (N := 15) hx hb hts inX9 hown hK hw 2 m_u_3 rfl (by decide) (hts _ tw_348) (fun _ h9 => h9) dX9_post_47 ?_
    refine tk_v (va_runV (As := [.ref vu_3]) (rest := []) ⟨hx, hb, hml, hown, hts⟩ (c_X8_takeFrom l D cy z H.size Pn ws hw.1 vu_6 vu_3 h_vu_6 h_vu_3) (cwV 1 hts (gV tw_521 tw_522 tw_523 tw_12 tw_524) rfl rfl rfl (by decide +kernel) ⟨Nat.le_of_ble_eq_true rfl, Nat.le_of_ble_eq_true rfl⟩) (tg_preV hw hK hSD hA (ci := 8) (q := (RX8, TX8, 13)) rfl h_vu_6 rfl) rfl rfl hl.1 rfl (lv_room (Nat.le_of_ble_eq_true rfl)) dX9_post_50 ⟨Nat.le_of_ble_eq_true rfl, Nat.le_of_ble_eq_true rfl⟩) hw hA ⟨by decide, by decide⟩ (fun ws H locs hp_v_7 hw hF9 => ?_)
    have m_u_2 := FLD.over hF9 m_u_2 (by decide)
    have m_u_3 := FLD.over hF9 m_u_3 (by decide)
    have m_fv := FLD.over hF9 m_fv (by decide)
    have m_pv := FLD.over hF9 m_pv (by decide)
    have m_lf := FLD.over hF9 m_lf (by decide)
    have m_u_6 := FLD.over hF9 m_u_6 (by decide)
    have x_BYX_p0_gdT := BYX.over hF9 x_BYX_p0_gdT (by decide)
    have x_WKX_p0 := WKX.over hF9 x_WKX_p0 (by decide)
    have x_EQF_p0 := EQF.over hF9 x_EQF_p0 (by decide)
    have x_TLX_p0_0 := TLX.over hF9 x_TLX_p0_0 (by decide)
    refine lv_aload_n hx hb dX9_post_53 rfl (lv_at hl 2 rfl) ?_
    refine lv_null hx hb dX9_post_54 ?_
    refine tg_put (ci := 9) (ts := ty_WP) (v := .null) (ty := .object "WonderParcels$Sentence") (C := RX9) (T := TX9) (N := 15) hx hb hts inX9 tyX9 tyX9_ok nmX9 hown hK hw h_p0 rfl rfl 5 (by decide) (hts _ tw_351) (fun _ h9 => h9) rfl (by decide +kernel) rfl rfl (ft := vN 32) rfl (Or.inl rfl) (by decide) dX9_post_55 (fun ws H locs hw n_k_8 hF9 => ?_)
    have m_u_2 := FLD.over hF9 m_u_2 (by decide)
    have m_u_3 := FLD.over hF9 m_u_3 (by decide)
    have m_fv := FLD.over hF9 m_fv (by decide)
    have m_pv := FLD.over hF9 m_pv (by decide)
    have m_lf := FLD.over hF9 m_lf (by decide)
    have m_u_6 := FLD.over hF9 m_u_6 (by decide)
    have x_BYX_p0_gdT := BYX.over hF9 x_BYX_p0_gdT (by decide)
    have x_WKX_p0 := WKX.over hF9 x_WKX_p0 (by decide)
    have x_EQF_p0 := EQF.over hF9 x_EQF_p0 (by decide)
    have x_TLX_p0_0 := TLX.over hF9 x_TLX_p0_0 (by decide)
    refine lv_aload_n hx hb dX9_post_58 rfl (lv_at hl 2 rfl) ?_
    refine tg_get (ci := 9) (ts := ty_WP) (C := RX9) (T := TX9) (N := 15) hx hb hts inX9 hown hK hw h_p0 rfl rfl 3 (by decide) (hts _ tw_349) (fun _ h9 => h9) (ft := vR 27) rfl dX9_post_59 (fun u_9 hv_u_9 m_u_9 => ?_)
    obtain ⟨vu_9, rfl, h_vu_9⟩ := hv_u_9
    refine tk_v (va_runV (As := []) (rest := []) ⟨hx, hb, hml, hown, hts⟩ (c_X1_forget l D cy z H.size Pn ws hw.1 vu_9 h_vu_9) (cwV 0 hts (gV tw_528 tw_529 tw_530 tw_13 tw_531) rfl rfl rfl (by decide +kernel) ⟨Nat.le_of_ble_eq_true rfl, Nat.le_of_ble_eq_true rfl⟩) (tg_preV hw hK hSD hA (ci := 1) (q := (RX1, TX1, 3)) rfl h_vu_9 rfl) rfl rfl hl.1 rfl (lv_room (Nat.le_of_ble_eq_true rfl)) dX9_post_62 ⟨Nat.le_of_ble_eq_true rfl, Nat.le_of_ble_eq_true rfl⟩) hw hA ⟨by decide, by decide⟩ (fun ws H locs hp_v_10 hw hF9 => ?_)
    have m_u_2 := FLD.over hF9 m_u_2 (by decide)
    have m_u_3 := FLD.over hF9 m_u_3 (by decide)
    have m_fv := FLD.over hF9 m_fv (by decide)
    have m_pv := FLD.over hF9 m_pv (by decide)
    have m_lf := FLD.over hF9 m_lf (by decide)
    have m_u_6 := FLD.over hF9 m_u_6 (by decide)
    have m_u_9 := FLD.over hF9 m_u_9 (by decide)
    have x_BYX_p0_gdT := BYX.over hF9 x_BYX_p0_gdT (by decide)
    have x_WKX_p0 := WKX.over hF9 x_WKX_p0 (by decide)
    have x_EQF_p0 := EQF.over hF9 x_EQF_p0 (by decide)
    have x_TLX_p0_0 := TLX.over hF9 x_TLX_p0_0 (by decide)
    refine lv_iload_n hx hb dX9_post_65 rfl (lv_at hl 0 rfl) ?_
    subst hQ
    exact W.iret (v := v_4) hx hb hr (fun t ht hW => ⟨⟨v_4, (Pn, ws), rfl, ⟨⟨r_v_4.to (by decide), (fun h0 => trivial), (fun h0 => trivial), ⟨x_TLX_p0_0, (hPA.1 c_29), trivial⟩, (fun _ => trivial), (fun _ => trivial)⟩, hw.2.2.2.2.2.2, hw.1, hw.2.2.2.2.1⟩, by rw [ht]; exact hw.2.1, va_K.moved hW.alike hK, hw.2.2.1⟩, hw.2.2.2.1.F ht⟩) hw.2.2.2.1.2.2 dX9_post_66
  · have r_fv : RI fv 1 4 := rc_neL r_fv rl_0 (ti_ne c_29) (by decide)
    refine lv_iconst (v := (-1)) hx hb dX9_post_32 (by decide) ?_
    refine lv_aload_n hx hb dX9_post_33 rfl (lv_at hl 2 rfl) ?_
    refine tg_mem (ci := 9) (C := RX9) (T := TX9) (N := 15) hx hb hts inX9 hown hK hw 0 m_u_2 rfl (by decide) (hts _ tw_346) (fun _ h9 => h9) dX9_post_34 ?_
    refine tg_memN (ci := 7) (C := RX7) (T := TX7) (N := 12) hx hb hts inX7 hown hK hw 11 m_pv rfl (by decide) (hSD.nest tn_107) (fun _ h9 => h9) dX9_post_37 ?_
    refine lv_isub hx hb dX9_post_40 (lv_topi (fun v_11 e_v_11 => ?_))
    obtain ⟨t_v_11, r_v_11⟩ := tq_sub (lo := (-2147483648)) (hi := 2147483647) rl_m1 r_pv (by decide +kernel) e_v_11
    have t_v_11 : v_11.toInt = (-1) - pv.toInt := t_v_11
    subst hQ
    exact W.iret (v := v_11) hx hb hr (fun t ht hW => ⟨⟨v_11, (Pn, ws), rfl, ⟨⟨r_v_11.to (by decide), (fun h0 => trivial), (fun h0 => trivial), ⟨x_TLX_p0_0, (e_v_11.trans (hPA.2 c_29)), trivial⟩, (fun _ => trivial), (fun _ => trivial)⟩, hw.2.2.2.2.2.2, hw.1, hw.2.2.2.2.1⟩, by rw [ht]; exact hw.2.1, va_K.moved hW.alike hK, hw.2.2.1⟩, hw.2.2.2.1.F ht⟩) hw.2.2.2.1.2.2 dX9_post_41
set_option maxHeartbeats 4000000 in
set_option maxRecDepth 100000 in
theorem c_X10_post__2_an (l : Launch) (D : va_G) (cy : Nat → ClassId) (z : Nat → Nat) (sz : Nat) (Ps : PSI) (w0 : va_W) (hT : HT cy GG Ps w0) (p0 : Nat) (gh : Int) (gdT : Nat → Nat) (h_p0 : (p0, 55) ∈ Ps) (x_TLM_p0_gh : TLM w0 p0 (gh)) (x_BYM_p0_gdT : BYM Ps w0 p0 gdT) : Met l yX10_post (Cond.code yX10_post cX10_post 3 (some .int) :: gT) ({ frames := 9, cells := 0, slots := 0, locals := 1800 } : Room) (va_Pc [.ref p0] (PRE D cy z w0 sz)) (va_Qi (fun (r : Int32) (u : va_W) => (RI r (-2147483648) 2147483647 ∧ (r = 0 → True) ∧ (¬ r = 0 → True) ∧ (TLM u p0 (0) ∧ (r = PAN gdT gh) ∧ True) ∧ (r.toInt < 0 → True) ∧ (0 ≤ r.toInt → True)) ∧ HT cy GG Ps u ∧ FR wr_X10_post__2 wa_X10_post__2 Ps w0 u) (BB D cy (va_A w0 sz) (fun (u : va_W) => u)) (va_A w0 sz)) 0 0 (va_A w0 sz) := by
  refine Met.ofP (φ := ∃ o, OV vw_MODEL Ps w0 p0 o ∧ RXT o gdT gh.toNat) (fun a st hv => ?_) (fun hφ => ?_)
  · obtain ⟨-, -, -, -, hD0, -⟩ := hv
    exact md_full hT hD0 x_TLM_p0_gh x_BYM_p0_gdT h_p0
  · obtain ⟨s0, o_p0, hφ⟩ := hφ
    refine Met.monoQ (c_X10_post__2 l D cy z sz Ps w0 hT p0 s0 h_p0 o_p0) (fun a st oc t hq => ?_)
    obtain ⟨⟨r, u, e1, ⟨⟨hfn, hp⟩, hT1, hF1⟩, hB⟩, hF⟩ := hq
    exact ⟨⟨r, u, e1, ⟨⟨hp.1, fun _ => trivial, fun _ => trivial, ⟨hp.2.2.2.1.1, hfn.2.1.symm.trans (post_ hφ), trivial⟩, fun _ => trivial, fun _ => trivial⟩, hT1, hF1⟩, hB⟩, hF⟩
